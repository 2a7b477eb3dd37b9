-- ===== PART A: goes FIRST, ahead of the names: the tables' words, and 'selects' of the private methods out of them =====
/-- a private method of a class that the tables say can be made, by its rows of tables_1 -/
def lw_okq (q : MethodName × Nat) : Prop := (q.1.cls ≠ "java/lang/invoke/MethodHandle" ∧ q.1.cls ≠ "java/lang/invoke/VarHandle") ∧ Cond.instantiable q.1.cls q.2 ∈ tables_1 ∧ Cond.privateMethod q.1 ∈ tables_1 ∧ Cond.instanceMethod q.1 ∈ tables_1
theorem lw_p0 : lw_okq (⟨"HistogramPlans", "refuse", "(I)I"⟩, 12) := ⟨⟨by decide +kernel, by decide +kernel⟩, List.mem_of_getElem? (i := 19) (by decide +kernel), List.mem_of_getElem? (i := 389) (by decide +kernel), List.mem_of_getElem? (i := 390) (by decide +kernel)⟩
theorem lw_p1 : lw_okq (⟨"HistogramPlans", "whyNoRow", "(I)I"⟩, 12) := ⟨⟨by decide +kernel, by decide +kernel⟩, List.mem_of_getElem? (i := 19) (by decide +kernel), List.mem_of_getElem? (i := 404) (by decide +kernel), List.mem_of_getElem? (i := 405) (by decide +kernel)⟩
theorem lw_p2 : lw_okq (⟨"HistogramPlans", "isNode", "(I)Z"⟩, 12) := ⟨⟨by decide +kernel, by decide +kernel⟩, List.mem_of_getElem? (i := 19) (by decide +kernel), List.mem_of_getElem? (i := 433) (by decide +kernel), List.mem_of_getElem? (i := 434) (by decide +kernel)⟩
theorem lw_p3 : lw_okq (⟨"HistogramPlans$TextReader", "takes", "(I)Z"⟩, 7) := ⟨⟨by decide +kernel, by decide +kernel⟩, List.mem_of_getElem? (i := 241) (by decide +kernel), List.mem_of_getElem? (i := 491) (by decide +kernel), List.mem_of_getElem? (i := 492) (by decide +kernel)⟩
theorem lw_p4 : lw_okq (⟨"HistogramPlans$TextReader", "moves", "(ZI)Z"⟩, 7) := ⟨⟨by decide +kernel, by decide +kernel⟩, List.mem_of_getElem? (i := 241) (by decide +kernel), List.mem_of_getElem? (i := 495) (by decide +kernel), List.mem_of_getElem? (i := 496) (by decide +kernel)⟩
theorem lw_p5 : lw_okq (⟨"HistogramPlans$TextReader", "takesTable", "(I)Z"⟩, 7) := ⟨⟨by decide +kernel, by decide +kernel⟩, List.mem_of_getElem? (i := 241) (by decide +kernel), List.mem_of_getElem? (i := 499) (by decide +kernel), List.mem_of_getElem? (i := 500) (by decide +kernel)⟩
theorem lw_p6 : lw_okq (⟨"HistogramPlans$TextReader", "takesFirstDigit", "(I)Z"⟩, 7) := ⟨⟨by decide +kernel, by decide +kernel⟩, List.mem_of_getElem? (i := 241) (by decide +kernel), List.mem_of_getElem? (i := 503) (by decide +kernel), List.mem_of_getElem? (i := 504) (by decide +kernel)⟩
theorem lw_p7 : lw_okq (⟨"HistogramPlans$TextReader", "takesSecondDigit", "(I)Z"⟩, 7) := ⟨⟨by decide +kernel, by decide +kernel⟩, List.mem_of_getElem? (i := 241) (by decide +kernel), List.mem_of_getElem? (i := 510) (by decide +kernel), List.mem_of_getElem? (i := 511) (by decide +kernel)⟩
theorem lw_p8 : lw_okq (⟨"HistogramPlans$TextReader", "takesMark", "(I)Z"⟩, 7) := ⟨⟨by decide +kernel, by decide +kernel⟩, List.mem_of_getElem? (i := 241) (by decide +kernel), List.mem_of_getElem? (i := 514) (by decide +kernel), List.mem_of_getElem? (i := 515) (by decide +kernel)⟩
theorem lw_p9 : lw_okq (⟨"HistogramPlans$TextReader", "endsValue", "()Z"⟩, 7) := ⟨⟨by decide +kernel, by decide +kernel⟩, List.mem_of_getElem? (i := 241) (by decide +kernel), List.mem_of_getElem? (i := 518) (by decide +kernel), List.mem_of_getElem? (i := 519) (by decide +kernel)⟩
theorem lw_p10 : lw_okq (⟨"HistogramPlans$TextReader", "keepNumber", "()V"⟩, 7) := ⟨⟨by decide +kernel, by decide +kernel⟩, List.mem_of_getElem? (i := 241) (by decide +kernel), List.mem_of_getElem? (i := 522) (by decide +kernel), List.mem_of_getElem? (i := 523) (by decide +kernel)⟩
theorem lw_p11 : lw_okq (⟨"HistogramPlans$TextReader", "endLine", "()V"⟩, 7) := ⟨⟨by decide +kernel, by decide +kernel⟩, List.mem_of_getElem? (i := 241) (by decide +kernel), List.mem_of_getElem? (i := 526) (by decide +kernel), List.mem_of_getElem? (i := 527) (by decide +kernel)⟩
theorem lw_p12 : lw_okq (⟨"HistogramPlans$TextReader", "endItem", "()V"⟩, 7) := ⟨⟨by decide +kernel, by decide +kernel⟩, List.mem_of_getElem? (i := 241) (by decide +kernel), List.mem_of_getElem? (i := 530) (by decide +kernel), List.mem_of_getElem? (i := 531) (by decide +kernel)⟩
theorem lw_p13 : lw_okq (⟨"HistogramPlans$TextReader", "isBehindLine", "()Z"⟩, 7) := ⟨⟨by decide +kernel, by decide +kernel⟩, List.mem_of_getElem? (i := 241) (by decide +kernel), List.mem_of_getElem? (i := 534) (by decide +kernel), List.mem_of_getElem? (i := 535) (by decide +kernel)⟩
theorem lw_p14 : lw_okq (⟨"HistogramPlans", "refuseTenLower", "(I)I"⟩, 12) := ⟨⟨by decide +kernel, by decide +kernel⟩, List.mem_of_getElem? (i := 19) (by decide +kernel), List.mem_of_getElem? (i := 557) (by decide +kernel), List.mem_of_getElem? (i := 558) (by decide +kernel)⟩
theorem lw_p15 : lw_okq (⟨"HistogramPlans$Histogram", "insert", "(II)V"⟩, 7) := ⟨⟨by decide +kernel, by decide +kernel⟩, List.mem_of_getElem? (i := 130) (by decide +kernel), List.mem_of_getElem? (i := 586) (by decide +kernel), List.mem_of_getElem? (i := 587) (by decide +kernel)⟩
def lw_privs_1 : List (MethodName × Nat) := [(⟨"HistogramPlans", "refuse", "(I)I"⟩, 12), (⟨"HistogramPlans", "whyNoRow", "(I)I"⟩, 12), (⟨"HistogramPlans", "isNode", "(I)Z"⟩, 12), (⟨"HistogramPlans$TextReader", "takes", "(I)Z"⟩, 7), (⟨"HistogramPlans$TextReader", "moves", "(ZI)Z"⟩, 7), (⟨"HistogramPlans$TextReader", "takesTable", "(I)Z"⟩, 7), (⟨"HistogramPlans$TextReader", "takesFirstDigit", "(I)Z"⟩, 7), (⟨"HistogramPlans$TextReader", "takesSecondDigit", "(I)Z"⟩, 7), (⟨"HistogramPlans$TextReader", "takesMark", "(I)Z"⟩, 7), (⟨"HistogramPlans$TextReader", "endsValue", "()Z"⟩, 7), (⟨"HistogramPlans$TextReader", "keepNumber", "()V"⟩, 7), (⟨"HistogramPlans$TextReader", "endLine", "()V"⟩, 7), (⟨"HistogramPlans$TextReader", "endItem", "()V"⟩, 7), (⟨"HistogramPlans$TextReader", "isBehindLine", "()Z"⟩, 7), (⟨"HistogramPlans", "refuseTenLower", "(I)I"⟩, 12), (⟨"HistogramPlans$Histogram", "insert", "(II)V"⟩, 7)]
theorem lw_r1 : ∀ q ∈ lw_privs_1, lw_okq q := List.forall_mem_cons.mpr ⟨lw_p0, List.forall_mem_cons.mpr ⟨lw_p1, List.forall_mem_cons.mpr ⟨lw_p2, List.forall_mem_cons.mpr ⟨lw_p3, List.forall_mem_cons.mpr ⟨lw_p4, List.forall_mem_cons.mpr ⟨lw_p5, List.forall_mem_cons.mpr ⟨lw_p6, List.forall_mem_cons.mpr ⟨lw_p7, List.forall_mem_cons.mpr ⟨lw_p8, List.forall_mem_cons.mpr ⟨lw_p9, List.forall_mem_cons.mpr ⟨lw_p10, List.forall_mem_cons.mpr ⟨lw_p11, List.forall_mem_cons.mpr ⟨lw_p12, List.forall_mem_cons.mpr ⟨lw_p13, List.forall_mem_cons.mpr ⟨lw_p14, List.forall_mem_cons.mpr ⟨lw_p15, fun _ h => absurd h List.not_mem_nil⟩⟩⟩⟩⟩⟩⟩⟩⟩⟩⟩⟩⟩⟩⟩⟩
theorem lw_p16 : lw_okq (⟨"HistogramPlans$Histogram", "addBucket", "(II)V"⟩, 7) := ⟨⟨by decide +kernel, by decide +kernel⟩, List.mem_of_getElem? (i := 130) (by decide +kernel), List.mem_of_getElem? (i := 590) (by decide +kernel), List.mem_of_getElem? (i := 591) (by decide +kernel)⟩
theorem lw_p17 : lw_okq (⟨"HistogramPlans$Histogram", "differentIn", "(II)I"⟩, 7) := ⟨⟨by decide +kernel, by decide +kernel⟩, List.mem_of_getElem? (i := 130) (by decide +kernel), List.mem_of_getElem? (i := 594) (by decide +kernel), List.mem_of_getElem? (i := 595) (by decide +kernel)⟩
theorem lw_p18 : lw_okq (⟨"HistogramPlans$Histogram", "shareLess", "(I)F"⟩, 7) := ⟨⟨by decide +kernel, by decide +kernel⟩, List.mem_of_getElem? (i := 130) (by decide +kernel), List.mem_of_getElem? (i := 614) (by decide +kernel), List.mem_of_getElem? (i := 615) (by decide +kernel)⟩
theorem lw_p19 : lw_okq (⟨"HistogramPlans$Histogram", "shareEqual", "(I)F"⟩, 7) := ⟨⟨by decide +kernel, by decide +kernel⟩, List.mem_of_getElem? (i := 130) (by decide +kernel), List.mem_of_getElem? (i := 618) (by decide +kernel), List.mem_of_getElem? (i := 619) (by decide +kernel)⟩
theorem lw_p20 : lw_okq (⟨"HistogramPlans$Thoughts", "thoughtOfTable", "(I)F"⟩, 4) := ⟨⟨by decide +kernel, by decide +kernel⟩, List.mem_of_getElem? (i := 124) (by decide +kernel), List.mem_of_getElem? (i := 683) (by decide +kernel), List.mem_of_getElem? (i := 684) (by decide +kernel)⟩
theorem lw_p21 : lw_okq (⟨"HistogramPlans$Planner", "searchSet", "(I)V"⟩, 10) := ⟨⟨by decide +kernel, by decide +kernel⟩, List.mem_of_getElem? (i := 177) (by decide +kernel), List.mem_of_getElem? (i := 718) (by decide +kernel), List.mem_of_getElem? (i := 719) (by decide +kernel)⟩
theorem lw_p22 : lw_okq (⟨"HistogramPlans$Planner", "offerRead", "(I)V"⟩, 10) := ⟨⟨by decide +kernel, by decide +kernel⟩, List.mem_of_getElem? (i := 177) (by decide +kernel), List.mem_of_getElem? (i := 726) (by decide +kernel), List.mem_of_getElem? (i := 727) (by decide +kernel)⟩
theorem lw_p23 : lw_okq (⟨"HistogramPlans$Planner", "offer", "(IIFIII)V"⟩, 10) := ⟨⟨by decide +kernel, by decide +kernel⟩, List.mem_of_getElem? (i := 177) (by decide +kernel), List.mem_of_getElem? (i := 731) (by decide +kernel), List.mem_of_getElem? (i := 732) (by decide +kernel)⟩
theorem lw_p24 : lw_okq (⟨"HistogramPlans$Planner", "sizeOf", "(I)I"⟩, 10) := ⟨⟨by decide +kernel, by decide +kernel⟩, List.mem_of_getElem? (i := 177) (by decide +kernel), List.mem_of_getElem? (i := 735) (by decide +kernel), List.mem_of_getElem? (i := 736) (by decide +kernel)⟩
theorem lw_p25 : lw_okq (⟨"HistogramPlans$Planner", "offerPairs", "(I)V"⟩, 10) := ⟨⟨by decide +kernel, by decide +kernel⟩, List.mem_of_getElem? (i := 177) (by decide +kernel), List.mem_of_getElem? (i := 739) (by decide +kernel), List.mem_of_getElem? (i := 740) (by decide +kernel)⟩
theorem lw_p26 : lw_okq (⟨"HistogramPlans$Planner", "firstJoinBetween", "(II)I"⟩, 10) := ⟨⟨by decide +kernel, by decide +kernel⟩, List.mem_of_getElem? (i := 177) (by decide +kernel), List.mem_of_getElem? (i := 743) (by decide +kernel), List.mem_of_getElem? (i := 744) (by decide +kernel)⟩
theorem lw_p27 : lw_okq (⟨"HistogramPlans$Planner", "offerPair", "(III)V"⟩, 10) := ⟨⟨by decide +kernel, by decide +kernel⟩, List.mem_of_getElem? (i := 177) (by decide +kernel), List.mem_of_getElem? (i := 748) (by decide +kernel), List.mem_of_getElem? (i := 749) (by decide +kernel)⟩
theorem lw_p28 : lw_okq (⟨"HistogramPlans$Planner", "offerSorts", "(I)V"⟩, 10) := ⟨⟨by decide +kernel, by decide +kernel⟩, List.mem_of_getElem? (i := 177) (by decide +kernel), List.mem_of_getElem? (i := 756) (by decide +kernel), List.mem_of_getElem? (i := 757) (by decide +kernel)⟩
theorem lw_p29 : lw_okq (⟨"HistogramPlans$Planner", "lay", "(II)V"⟩, 10) := ⟨⟨by decide +kernel, by decide +kernel⟩, List.mem_of_getElem? (i := 177) (by decide +kernel), List.mem_of_getElem? (i := 771) (by decide +kernel), List.mem_of_getElem? (i := 772) (by decide +kernel)⟩
theorem lw_p30 : lw_okq (⟨"HistogramPlans$Planner", "describe", "(ILHistogramPlans$Node;)V"⟩, 10) := ⟨⟨by decide +kernel, by decide +kernel⟩, List.mem_of_getElem? (i := 177) (by decide +kernel), List.mem_of_getElem? (i := 775) (by decide +kernel), List.mem_of_getElem? (i := 776) (by decide +kernel)⟩
theorem lw_p31 : lw_okq (⟨"HistogramPlans$Matches", "chooseMembers", "(II)V"⟩, 6) := ⟨⟨by decide +kernel, by decide +kernel⟩, List.mem_of_getElem? (i := 216) (by decide +kernel), List.mem_of_getElem? (i := 793) (by decide +kernel), List.mem_of_getElem? (i := 794) (by decide +kernel)⟩
def lw_privs_2 : List (MethodName × Nat) := [(⟨"HistogramPlans$Histogram", "addBucket", "(II)V"⟩, 7), (⟨"HistogramPlans$Histogram", "differentIn", "(II)I"⟩, 7), (⟨"HistogramPlans$Histogram", "shareLess", "(I)F"⟩, 7), (⟨"HistogramPlans$Histogram", "shareEqual", "(I)F"⟩, 7), (⟨"HistogramPlans$Thoughts", "thoughtOfTable", "(I)F"⟩, 4), (⟨"HistogramPlans$Planner", "searchSet", "(I)V"⟩, 10), (⟨"HistogramPlans$Planner", "offerRead", "(I)V"⟩, 10), (⟨"HistogramPlans$Planner", "offer", "(IIFIII)V"⟩, 10), (⟨"HistogramPlans$Planner", "sizeOf", "(I)I"⟩, 10), (⟨"HistogramPlans$Planner", "offerPairs", "(I)V"⟩, 10), (⟨"HistogramPlans$Planner", "firstJoinBetween", "(II)I"⟩, 10), (⟨"HistogramPlans$Planner", "offerPair", "(III)V"⟩, 10), (⟨"HistogramPlans$Planner", "offerSorts", "(I)V"⟩, 10), (⟨"HistogramPlans$Planner", "lay", "(II)V"⟩, 10), (⟨"HistogramPlans$Planner", "describe", "(ILHistogramPlans$Node;)V"⟩, 10), (⟨"HistogramPlans$Matches", "chooseMembers", "(II)V"⟩, 6)]
theorem lw_r2 : ∀ q ∈ lw_privs_2, lw_okq q := List.forall_mem_cons.mpr ⟨lw_p16, List.forall_mem_cons.mpr ⟨lw_p17, List.forall_mem_cons.mpr ⟨lw_p18, List.forall_mem_cons.mpr ⟨lw_p19, List.forall_mem_cons.mpr ⟨lw_p20, List.forall_mem_cons.mpr ⟨lw_p21, List.forall_mem_cons.mpr ⟨lw_p22, List.forall_mem_cons.mpr ⟨lw_p23, List.forall_mem_cons.mpr ⟨lw_p24, List.forall_mem_cons.mpr ⟨lw_p25, List.forall_mem_cons.mpr ⟨lw_p26, List.forall_mem_cons.mpr ⟨lw_p27, List.forall_mem_cons.mpr ⟨lw_p28, List.forall_mem_cons.mpr ⟨lw_p29, List.forall_mem_cons.mpr ⟨lw_p30, List.forall_mem_cons.mpr ⟨lw_p31, fun _ h => absurd h List.not_mem_nil⟩⟩⟩⟩⟩⟩⟩⟩⟩⟩⟩⟩⟩⟩⟩⟩
theorem lw_p32 : lw_okq (⟨"HistogramPlans$Matches", "passFilters", "()V"⟩, 6) := ⟨⟨by decide +kernel, by decide +kernel⟩, List.mem_of_getElem? (i := 216) (by decide +kernel), List.mem_of_getElem? (i := 797) (by decide +kernel), List.mem_of_getElem? (i := 798) (by decide +kernel)⟩
theorem lw_p33 : lw_okq (⟨"HistogramPlans$Matches", "passes", "(II)Z"⟩, 6) := ⟨⟨by decide +kernel, by decide +kernel⟩, List.mem_of_getElem? (i := 216) (by decide +kernel), List.mem_of_getElem? (i := 802) (by decide +kernel), List.mem_of_getElem? (i := 803) (by decide +kernel)⟩
theorem lw_p34 : lw_okq (⟨"HistogramPlans$Matches", "pairLines", "(I)V"⟩, 6) := ⟨⟨by decide +kernel, by decide +kernel⟩, List.mem_of_getElem? (i := 216) (by decide +kernel), List.mem_of_getElem? (i := 806) (by decide +kernel), List.mem_of_getElem? (i := 807) (by decide +kernel)⟩
theorem lw_p35 : lw_okq (⟨"HistogramPlans$Matches", "pairLinesBy", "(II)V"⟩, 6) := ⟨⟨by decide +kernel, by decide +kernel⟩, List.mem_of_getElem? (i := 216) (by decide +kernel), List.mem_of_getElem? (i := 813) (by decide +kernel), List.mem_of_getElem? (i := 814) (by decide +kernel)⟩
theorem lw_p36 : lw_okq (⟨"HistogramPlans$Matches", "narrow", "(II)Z"⟩, 6) := ⟨⟨by decide +kernel, by decide +kernel⟩, List.mem_of_getElem? (i := 216) (by decide +kernel), List.mem_of_getElem? (i := 821) (by decide +kernel), List.mem_of_getElem? (i := 822) (by decide +kernel)⟩
theorem lw_p37 : lw_okq (⟨"HistogramPlans$World", "drawBelow", "(I)I"⟩, 9) := ⟨⟨by decide +kernel, by decide +kernel⟩, List.mem_of_getElem? (i := 27) (by decide +kernel), List.mem_of_getElem? (i := 864) (by decide +kernel), List.mem_of_getElem? (i := 865) (by decide +kernel)⟩
theorem lw_p38 : lw_okq (⟨"HistogramPlansModel", "no", "(I)I"⟩, 59) := ⟨⟨by decide +kernel, by decide +kernel⟩, List.mem_of_getElem? (i := 900) (by decide +kernel), List.mem_of_getElem? (i := 1097) (by decide +kernel), List.mem_of_getElem? (i := 1098) (by decide +kernel)⟩
theorem lw_p39 : lw_okq (⟨"HistogramPlansModel", "findBest", "()V"⟩, 59) := ⟨⟨by decide +kernel, by decide +kernel⟩, List.mem_of_getElem? (i := 900) (by decide +kernel), List.mem_of_getElem? (i := 1101) (by decide +kernel), List.mem_of_getElem? (i := 1102) (by decide +kernel)⟩
theorem lw_p40 : lw_okq (⟨"HistogramPlansModel", "thoughtOf", "(I)F"⟩, 59) := ⟨⟨by decide +kernel, by decide +kernel⟩, List.mem_of_getElem? (i := 900) (by decide +kernel), List.mem_of_getElem? (i := 1105) (by decide +kernel), List.mem_of_getElem? (i := 1106) (by decide +kernel)⟩
theorem lw_p41 : lw_okq (⟨"HistogramPlansModel", "thoughtOfTable", "(I)F"⟩, 59) := ⟨⟨by decide +kernel, by decide +kernel⟩, List.mem_of_getElem? (i := 900) (by decide +kernel), List.mem_of_getElem? (i := 1112) (by decide +kernel), List.mem_of_getElem? (i := 1113) (by decide +kernel)⟩
theorem lw_p42 : lw_okq (⟨"HistogramPlansModel", "shareOf", "(III)F"⟩, 59) := ⟨⟨by decide +kernel, by decide +kernel⟩, List.mem_of_getElem? (i := 900) (by decide +kernel), List.mem_of_getElem? (i := 1116) (by decide +kernel), List.mem_of_getElem? (i := 1117) (by decide +kernel)⟩
theorem lw_p43 : lw_okq (⟨"HistogramPlansModel", "findBuckets", "(I)V"⟩, 59) := ⟨⟨by decide +kernel, by decide +kernel⟩, List.mem_of_getElem? (i := 900) (by decide +kernel), List.mem_of_getElem? (i := 1120) (by decide +kernel), List.mem_of_getElem? (i := 1121) (by decide +kernel)⟩
theorem lw_p44 : lw_okq (⟨"HistogramPlansModel", "sorts", "(I)I"⟩, 59) := ⟨⟨by decide +kernel, by decide +kernel⟩, List.mem_of_getElem? (i := 900) (by decide +kernel), List.mem_of_getElem? (i := 1124) (by decide +kernel), List.mem_of_getElem? (i := 1125) (by decide +kernel)⟩
theorem lw_p45 : lw_okq (⟨"HistogramPlansModel", "valueAt", "(II)I"⟩, 59) := ⟨⟨by decide +kernel, by decide +kernel⟩, List.mem_of_getElem? (i := 900) (by decide +kernel), List.mem_of_getElem? (i := 1128) (by decide +kernel), List.mem_of_getElem? (i := 1129) (by decide +kernel)⟩
theorem lw_p46 : lw_okq (⟨"HistogramPlansModel", "differentFrom", "(II)I"⟩, 59) := ⟨⟨by decide +kernel, by decide +kernel⟩, List.mem_of_getElem? (i := 900) (by decide +kernel), List.mem_of_getElem? (i := 1132) (by decide +kernel), List.mem_of_getElem? (i := 1133) (by decide +kernel)⟩
theorem lw_p47 : lw_okq (⟨"HistogramPlansModel", "less", "(II)F"⟩, 59) := ⟨⟨by decide +kernel, by decide +kernel⟩, List.mem_of_getElem? (i := 900) (by decide +kernel), List.mem_of_getElem? (i := 1136) (by decide +kernel), List.mem_of_getElem? (i := 1137) (by decide +kernel)⟩
def lw_privs_3 : List (MethodName × Nat) := [(⟨"HistogramPlans$Matches", "passFilters", "()V"⟩, 6), (⟨"HistogramPlans$Matches", "passes", "(II)Z"⟩, 6), (⟨"HistogramPlans$Matches", "pairLines", "(I)V"⟩, 6), (⟨"HistogramPlans$Matches", "pairLinesBy", "(II)V"⟩, 6), (⟨"HistogramPlans$Matches", "narrow", "(II)Z"⟩, 6), (⟨"HistogramPlans$World", "drawBelow", "(I)I"⟩, 9), (⟨"HistogramPlansModel", "no", "(I)I"⟩, 59), (⟨"HistogramPlansModel", "findBest", "()V"⟩, 59), (⟨"HistogramPlansModel", "thoughtOf", "(I)F"⟩, 59), (⟨"HistogramPlansModel", "thoughtOfTable", "(I)F"⟩, 59), (⟨"HistogramPlansModel", "shareOf", "(III)F"⟩, 59), (⟨"HistogramPlansModel", "findBuckets", "(I)V"⟩, 59), (⟨"HistogramPlansModel", "sorts", "(I)I"⟩, 59), (⟨"HistogramPlansModel", "valueAt", "(II)I"⟩, 59), (⟨"HistogramPlansModel", "differentFrom", "(II)I"⟩, 59), (⟨"HistogramPlansModel", "less", "(II)F"⟩, 59)]
theorem lw_r3 : ∀ q ∈ lw_privs_3, lw_okq q := List.forall_mem_cons.mpr ⟨lw_p32, List.forall_mem_cons.mpr ⟨lw_p33, List.forall_mem_cons.mpr ⟨lw_p34, List.forall_mem_cons.mpr ⟨lw_p35, List.forall_mem_cons.mpr ⟨lw_p36, List.forall_mem_cons.mpr ⟨lw_p37, List.forall_mem_cons.mpr ⟨lw_p38, List.forall_mem_cons.mpr ⟨lw_p39, List.forall_mem_cons.mpr ⟨lw_p40, List.forall_mem_cons.mpr ⟨lw_p41, List.forall_mem_cons.mpr ⟨lw_p42, List.forall_mem_cons.mpr ⟨lw_p43, List.forall_mem_cons.mpr ⟨lw_p44, List.forall_mem_cons.mpr ⟨lw_p45, List.forall_mem_cons.mpr ⟨lw_p46, List.forall_mem_cons.mpr ⟨lw_p47, fun _ h => absurd h List.not_mem_nil⟩⟩⟩⟩⟩⟩⟩⟩⟩⟩⟩⟩⟩⟩⟩⟩
theorem lw_p48 : lw_okq (⟨"HistogramPlansModel", "equal", "(II)F"⟩, 59) := ⟨⟨by decide +kernel, by decide +kernel⟩, List.mem_of_getElem? (i := 900) (by decide +kernel), List.mem_of_getElem? (i := 1140) (by decide +kernel), List.mem_of_getElem? (i := 1141) (by decide +kernel)⟩
theorem lw_p49 : lw_okq (⟨"HistogramPlansModel", "isWithin", "(II)Z"⟩, 59) := ⟨⟨by decide +kernel, by decide +kernel⟩, List.mem_of_getElem? (i := 900) (by decide +kernel), List.mem_of_getElem? (i := 1144) (by decide +kernel), List.mem_of_getElem? (i := 1145) (by decide +kernel)⟩
theorem lw_p50 : lw_okq (⟨"HistogramPlansModel", "shareOfJoin", "(I)F"⟩, 59) := ⟨⟨by decide +kernel, by decide +kernel⟩, List.mem_of_getElem? (i := 900) (by decide +kernel), List.mem_of_getElem? (i := 1148) (by decide +kernel), List.mem_of_getElem? (i := 1149) (by decide +kernel)⟩
theorem lw_p51 : lw_okq (⟨"HistogramPlansModel", "differentOf", "(I)I"⟩, 59) := ⟨⟨by decide +kernel, by decide +kernel⟩, List.mem_of_getElem? (i := 900) (by decide +kernel), List.mem_of_getElem? (i := 1152) (by decide +kernel), List.mem_of_getElem? (i := 1153) (by decide +kernel)⟩
theorem lw_p52 : lw_okq (⟨"HistogramPlansModel", "offersAll", "()V"⟩, 59) := ⟨⟨by decide +kernel, by decide +kernel⟩, List.mem_of_getElem? (i := 900) (by decide +kernel), List.mem_of_getElem? (i := 1156) (by decide +kernel), List.mem_of_getElem? (i := 1157) (by decide +kernel)⟩
theorem lw_p53 : lw_okq (⟨"HistogramPlansModel", "offers", "(IFII)V"⟩, 59) := ⟨⟨by decide +kernel, by decide +kernel⟩, List.mem_of_getElem? (i := 900) (by decide +kernel), List.mem_of_getElem? (i := 1163) (by decide +kernel), List.mem_of_getElem? (i := 1164) (by decide +kernel)⟩
theorem lw_p54 : lw_okq (⟨"HistogramPlansModel", "offersSplit", "(I)V"⟩, 59) := ⟨⟨by decide +kernel, by decide +kernel⟩, List.mem_of_getElem? (i := 900) (by decide +kernel), List.mem_of_getElem? (i := 1167) (by decide +kernel), List.mem_of_getElem? (i := 1168) (by decide +kernel)⟩
theorem lw_p55 : lw_okq (⟨"HistogramPlansModel", "joinBetween", "(II)I"⟩, 59) := ⟨⟨by decide +kernel, by decide +kernel⟩, List.mem_of_getElem? (i := 900) (by decide +kernel), List.mem_of_getElem? (i := 1171) (by decide +kernel), List.mem_of_getElem? (i := 1172) (by decide +kernel)⟩
theorem lw_p56 : lw_okq (⟨"HistogramPlansModel", "isBest", "(II)Z"⟩, 59) := ⟨⟨by decide +kernel, by decide +kernel⟩, List.mem_of_getElem? (i := 900) (by decide +kernel), List.mem_of_getElem? (i := 1175) (by decide +kernel), List.mem_of_getElem? (i := 1176) (by decide +kernel)⟩
theorem lw_p57 : lw_okq (⟨"HistogramPlansModel", "best", "(II)F"⟩, 59) := ⟨⟨by decide +kernel, by decide +kernel⟩, List.mem_of_getElem? (i := 900) (by decide +kernel), List.mem_of_getElem? (i := 1179) (by decide +kernel), List.mem_of_getElem? (i := 1180) (by decide +kernel)⟩
theorem lw_p58 : lw_okq (⟨"HistogramPlansModel", "offersLoop", "(III)V"⟩, 59) := ⟨⟨by decide +kernel, by decide +kernel⟩, List.mem_of_getElem? (i := 900) (by decide +kernel), List.mem_of_getElem? (i := 1183) (by decide +kernel), List.mem_of_getElem? (i := 1184) (by decide +kernel)⟩
theorem lw_p59 : lw_okq (⟨"HistogramPlansModel", "isPlaceIn", "(II)Z"⟩, 59) := ⟨⟨by decide +kernel, by decide +kernel⟩, List.mem_of_getElem? (i := 900) (by decide +kernel), List.mem_of_getElem? (i := 1187) (by decide +kernel), List.mem_of_getElem? (i := 1188) (by decide +kernel)⟩
theorem lw_p60 : lw_okq (⟨"HistogramPlansModel", "offersMerge", "(III)V"⟩, 59) := ⟨⟨by decide +kernel, by decide +kernel⟩, List.mem_of_getElem? (i := 900) (by decide +kernel), List.mem_of_getElem? (i := 1191) (by decide +kernel), List.mem_of_getElem? (i := 1192) (by decide +kernel)⟩
theorem lw_p61 : lw_okq (⟨"HistogramPlansModel", "placeIn", "(II)I"⟩, 59) := ⟨⟨by decide +kernel, by decide +kernel⟩, List.mem_of_getElem? (i := 900) (by decide +kernel), List.mem_of_getElem? (i := 1195) (by decide +kernel), List.mem_of_getElem? (i := 1196) (by decide +kernel)⟩
theorem lw_p62 : lw_okq (⟨"HistogramPlansModel", "sortingOf", "(I)F"⟩, 59) := ⟨⟨by decide +kernel, by decide +kernel⟩, List.mem_of_getElem? (i := 900) (by decide +kernel), List.mem_of_getElem? (i := 1199) (by decide +kernel), List.mem_of_getElem? (i := 1200) (by decide +kernel)⟩
theorem lw_p63 : lw_okq (⟨"HistogramPlansModel", "opens", "(II)V"⟩, 59) := ⟨⟨by decide +kernel, by decide +kernel⟩, List.mem_of_getElem? (i := 900) (by decide +kernel), List.mem_of_getElem? (i := 1203) (by decide +kernel), List.mem_of_getElem? (i := 1204) (by decide +kernel)⟩
def lw_privs_4 : List (MethodName × Nat) := [(⟨"HistogramPlansModel", "equal", "(II)F"⟩, 59), (⟨"HistogramPlansModel", "isWithin", "(II)Z"⟩, 59), (⟨"HistogramPlansModel", "shareOfJoin", "(I)F"⟩, 59), (⟨"HistogramPlansModel", "differentOf", "(I)I"⟩, 59), (⟨"HistogramPlansModel", "offersAll", "()V"⟩, 59), (⟨"HistogramPlansModel", "offers", "(IFII)V"⟩, 59), (⟨"HistogramPlansModel", "offersSplit", "(I)V"⟩, 59), (⟨"HistogramPlansModel", "joinBetween", "(II)I"⟩, 59), (⟨"HistogramPlansModel", "isBest", "(II)Z"⟩, 59), (⟨"HistogramPlansModel", "best", "(II)F"⟩, 59), (⟨"HistogramPlansModel", "offersLoop", "(III)V"⟩, 59), (⟨"HistogramPlansModel", "isPlaceIn", "(II)Z"⟩, 59), (⟨"HistogramPlansModel", "offersMerge", "(III)V"⟩, 59), (⟨"HistogramPlansModel", "placeIn", "(II)I"⟩, 59), (⟨"HistogramPlansModel", "sortingOf", "(I)F"⟩, 59), (⟨"HistogramPlansModel", "opens", "(II)V"⟩, 59)]
theorem lw_r4 : ∀ q ∈ lw_privs_4, lw_okq q := List.forall_mem_cons.mpr ⟨lw_p48, List.forall_mem_cons.mpr ⟨lw_p49, List.forall_mem_cons.mpr ⟨lw_p50, List.forall_mem_cons.mpr ⟨lw_p51, List.forall_mem_cons.mpr ⟨lw_p52, List.forall_mem_cons.mpr ⟨lw_p53, List.forall_mem_cons.mpr ⟨lw_p54, List.forall_mem_cons.mpr ⟨lw_p55, List.forall_mem_cons.mpr ⟨lw_p56, List.forall_mem_cons.mpr ⟨lw_p57, List.forall_mem_cons.mpr ⟨lw_p58, List.forall_mem_cons.mpr ⟨lw_p59, List.forall_mem_cons.mpr ⟨lw_p60, List.forall_mem_cons.mpr ⟨lw_p61, List.forall_mem_cons.mpr ⟨lw_p62, List.forall_mem_cons.mpr ⟨lw_p63, fun _ h => absurd h List.not_mem_nil⟩⟩⟩⟩⟩⟩⟩⟩⟩⟩⟩⟩⟩⟩⟩⟩
theorem lw_p64 : lw_okq (⟨"HistogramPlansModel", "putsNode", "(I)V"⟩, 59) := ⟨⟨by decide +kernel, by decide +kernel⟩, List.mem_of_getElem? (i := 900) (by decide +kernel), List.mem_of_getElem? (i := 1207) (by decide +kernel), List.mem_of_getElem? (i := 1208) (by decide +kernel)⟩
theorem lw_p65 : lw_okq (⟨"HistogramPlansModel", "aboutOf", "(I)I"⟩, 59) := ⟨⟨by decide +kernel, by decide +kernel⟩, List.mem_of_getElem? (i := 900) (by decide +kernel), List.mem_of_getElem? (i := 1221) (by decide +kernel), List.mem_of_getElem? (i := 1222) (by decide +kernel)⟩
theorem lw_p66 : lw_okq (⟨"HistogramPlansModel", "opensBelow", "(I)V"⟩, 59) := ⟨⟨by decide +kernel, by decide +kernel⟩, List.mem_of_getElem? (i := 900) (by decide +kernel), List.mem_of_getElem? (i := 1225) (by decide +kernel), List.mem_of_getElem? (i := 1226) (by decide +kernel)⟩
theorem lw_p67 : lw_okq (⟨"HistogramPlansModel", "findSizes", "()V"⟩, 59) := ⟨⟨by decide +kernel, by decide +kernel⟩, List.mem_of_getElem? (i := 900) (by decide +kernel), List.mem_of_getElem? (i := 1229) (by decide +kernel), List.mem_of_getElem? (i := 1230) (by decide +kernel)⟩
theorem lw_p68 : lw_okq (⟨"HistogramPlansModel", "findReally", "(II)V"⟩, 59) := ⟨⟨by decide +kernel, by decide +kernel⟩, List.mem_of_getElem? (i := 900) (by decide +kernel), List.mem_of_getElem? (i := 1245) (by decide +kernel), List.mem_of_getElem? (i := 1246) (by decide +kernel)⟩
theorem lw_p69 : lw_okq (⟨"HistogramPlansModel", "passesFilters", "(I)Z"⟩, 59) := ⟨⟨by decide +kernel, by decide +kernel⟩, List.mem_of_getElem? (i := 900) (by decide +kernel), List.mem_of_getElem? (i := 1256) (by decide +kernel), List.mem_of_getElem? (i := 1257) (by decide +kernel)⟩
theorem lw_p70 : lw_okq (⟨"HistogramPlansModel", "passesJoins", "(II)Z"⟩, 59) := ⟨⟨by decide +kernel, by decide +kernel⟩, List.mem_of_getElem? (i := 900) (by decide +kernel), List.mem_of_getElem? (i := 1260) (by decide +kernel), List.mem_of_getElem? (i := 1261) (by decide +kernel)⟩
theorem lw_p71 : lw_okq (⟨"HistogramPlansModel", "notRow", "(I)I"⟩, 59) := ⟨⟨by decide +kernel, by decide +kernel⟩, List.mem_of_getElem? (i := 900) (by decide +kernel), List.mem_of_getElem? (i := 1286) (by decide +kernel), List.mem_of_getElem? (i := 1287) (by decide +kernel)⟩
theorem lw_p72 : lw_okq (⟨"HistogramPlansModel", "notCopied", "(IIIII)I"⟩, 59) := ⟨⟨by decide +kernel, by decide +kernel⟩, List.mem_of_getElem? (i := 900) (by decide +kernel), List.mem_of_getElem? (i := 1297) (by decide +kernel), List.mem_of_getElem? (i := 1298) (by decide +kernel)⟩
theorem lw_p73 : lw_okq (⟨"HistogramPlansModel", "isRow", "(I)Z"⟩, 59) := ⟨⟨by decide +kernel, by decide +kernel⟩, List.mem_of_getElem? (i := 900) (by decide +kernel), List.mem_of_getElem? (i := 1305) (by decide +kernel), List.mem_of_getElem? (i := 1306) (by decide +kernel)⟩
theorem lw_p74 : lw_okq (⟨"HistogramPlansModel", "readsAll", "()I"⟩, 59) := ⟨⟨by decide +kernel, by decide +kernel⟩, List.mem_of_getElem? (i := 900) (by decide +kernel), List.mem_of_getElem? (i := 1328) (by decide +kernel), List.mem_of_getElem? (i := 1329) (by decide +kernel)⟩
theorem lw_p75 : lw_okq (⟨"HistogramPlansModel", "readsItem", "()Z"⟩, 59) := ⟨⟨by decide +kernel, by decide +kernel⟩, List.mem_of_getElem? (i := 900) (by decide +kernel), List.mem_of_getElem? (i := 1332) (by decide +kernel), List.mem_of_getElem? (i := 1333) (by decide +kernel)⟩
theorem lw_p76 : lw_okq (⟨"HistogramPlansModel", "reads", "(I)Z"⟩, 59) := ⟨⟨by decide +kernel, by decide +kernel⟩, List.mem_of_getElem? (i := 900) (by decide +kernel), List.mem_of_getElem? (i := 1336) (by decide +kernel), List.mem_of_getElem? (i := 1337) (by decide +kernel)⟩
theorem lw_p77 : lw_okq (⟨"HistogramPlansModel", "isAt", "(I)Z"⟩, 59) := ⟨⟨by decide +kernel, by decide +kernel⟩, List.mem_of_getElem? (i := 900) (by decide +kernel), List.mem_of_getElem? (i := 1340) (by decide +kernel), List.mem_of_getElem? (i := 1341) (by decide +kernel)⟩
theorem lw_p78 : lw_okq (⟨"HistogramPlansModel", "sign", "()I"⟩, 59) := ⟨⟨by decide +kernel, by decide +kernel⟩, List.mem_of_getElem? (i := 900) (by decide +kernel), List.mem_of_getElem? (i := 1344) (by decide +kernel), List.mem_of_getElem? (i := 1345) (by decide +kernel)⟩
theorem lw_p79 : lw_okq (⟨"HistogramPlansModel", "readsLine", "(I)Z"⟩, 59) := ⟨⟨by decide +kernel, by decide +kernel⟩, List.mem_of_getElem? (i := 900) (by decide +kernel), List.mem_of_getElem? (i := 1348) (by decide +kernel), List.mem_of_getElem? (i := 1349) (by decide +kernel)⟩
def lw_privs_5 : List (MethodName × Nat) := [(⟨"HistogramPlansModel", "putsNode", "(I)V"⟩, 59), (⟨"HistogramPlansModel", "aboutOf", "(I)I"⟩, 59), (⟨"HistogramPlansModel", "opensBelow", "(I)V"⟩, 59), (⟨"HistogramPlansModel", "findSizes", "()V"⟩, 59), (⟨"HistogramPlansModel", "findReally", "(II)V"⟩, 59), (⟨"HistogramPlansModel", "passesFilters", "(I)Z"⟩, 59), (⟨"HistogramPlansModel", "passesJoins", "(II)Z"⟩, 59), (⟨"HistogramPlansModel", "notRow", "(I)I"⟩, 59), (⟨"HistogramPlansModel", "notCopied", "(IIIII)I"⟩, 59), (⟨"HistogramPlansModel", "isRow", "(I)Z"⟩, 59), (⟨"HistogramPlansModel", "readsAll", "()I"⟩, 59), (⟨"HistogramPlansModel", "readsItem", "()Z"⟩, 59), (⟨"HistogramPlansModel", "reads", "(I)Z"⟩, 59), (⟨"HistogramPlansModel", "isAt", "(I)Z"⟩, 59), (⟨"HistogramPlansModel", "sign", "()I"⟩, 59), (⟨"HistogramPlansModel", "readsLine", "(I)Z"⟩, 59)]
theorem lw_r5 : ∀ q ∈ lw_privs_5, lw_okq q := List.forall_mem_cons.mpr ⟨lw_p64, List.forall_mem_cons.mpr ⟨lw_p65, List.forall_mem_cons.mpr ⟨lw_p66, List.forall_mem_cons.mpr ⟨lw_p67, List.forall_mem_cons.mpr ⟨lw_p68, List.forall_mem_cons.mpr ⟨lw_p69, List.forall_mem_cons.mpr ⟨lw_p70, List.forall_mem_cons.mpr ⟨lw_p71, List.forall_mem_cons.mpr ⟨lw_p72, List.forall_mem_cons.mpr ⟨lw_p73, List.forall_mem_cons.mpr ⟨lw_p74, List.forall_mem_cons.mpr ⟨lw_p75, List.forall_mem_cons.mpr ⟨lw_p76, List.forall_mem_cons.mpr ⟨lw_p77, List.forall_mem_cons.mpr ⟨lw_p78, List.forall_mem_cons.mpr ⟨lw_p79, fun _ h => absurd h List.not_mem_nil⟩⟩⟩⟩⟩⟩⟩⟩⟩⟩⟩⟩⟩⟩⟩⟩
theorem lw_p80 : lw_okq (⟨"HistogramPlansModel", "readsValue", "()I"⟩, 59) := ⟨⟨by decide +kernel, by decide +kernel⟩, List.mem_of_getElem? (i := 900) (by decide +kernel), List.mem_of_getElem? (i := 1352) (by decide +kernel), List.mem_of_getElem? (i := 1353) (by decide +kernel)⟩
theorem lw_p81 : lw_okq (⟨"HistogramPlansModel", "putsLine", "(IIII)V"⟩, 59) := ⟨⟨by decide +kernel, by decide +kernel⟩, List.mem_of_getElem? (i := 900) (by decide +kernel), List.mem_of_getElem? (i := 1356) (by decide +kernel), List.mem_of_getElem? (i := 1357) (by decide +kernel)⟩
theorem lw_p82 : lw_okq (⟨"HistogramPlansModel", "drawsLine", "()I"⟩, 59) := ⟨⟨by decide +kernel, by decide +kernel⟩, List.mem_of_getElem? (i := 900) (by decide +kernel), List.mem_of_getElem? (i := 1442) (by decide +kernel), List.mem_of_getElem? (i := 1443) (by decide +kernel)⟩
theorem lw_p83 : lw_okq (⟨"HistogramPlansModel", "draw", "(I)I"⟩, 59) := ⟨⟨by decide +kernel, by decide +kernel⟩, List.mem_of_getElem? (i := 900) (by decide +kernel), List.mem_of_getElem? (i := 1446) (by decide +kernel), List.mem_of_getElem? (i := 1447) (by decide +kernel)⟩
theorem lw_p84 : lw_okq (⟨"HistogramPlansModel", "passesAll", "(Z)V"⟩, 59) := ⟨⟨by decide +kernel, by decide +kernel⟩, List.mem_of_getElem? (i := 900) (by decide +kernel), List.mem_of_getElem? (i := 1459) (by decide +kernel), List.mem_of_getElem? (i := 1460) (by decide +kernel)⟩
theorem lw_p85 : lw_okq (⟨"HistogramPlansModel", "passes", "([I)V"⟩, 59) := ⟨⟨by decide +kernel, by decide +kernel⟩, List.mem_of_getElem? (i := 900) (by decide +kernel), List.mem_of_getElem? (i := 1463) (by decide +kernel), List.mem_of_getElem? (i := 1464) (by decide +kernel)⟩
theorem lw_p86 : lw_okq (⟨"HistogramPlansModel", "passOne", "(I)I"⟩, 59) := ⟨⟨by decide +kernel, by decide +kernel⟩, List.mem_of_getElem? (i := 900) (by decide +kernel), List.mem_of_getElem? (i := 1467) (by decide +kernel), List.mem_of_getElem? (i := 1468) (by decide +kernel)⟩
theorem lw_p87 : lw_okq (⟨"HistogramPlansModel", "allLines", "()I"⟩, 59) := ⟨⟨by decide +kernel, by decide +kernel⟩, List.mem_of_getElem? (i := 900) (by decide +kernel), List.mem_of_getElem? (i := 1471) (by decide +kernel), List.mem_of_getElem? (i := 1472) (by decide +kernel)⟩
def lw_privs_6 : List (MethodName × Nat) := [(⟨"HistogramPlansModel", "readsValue", "()I"⟩, 59), (⟨"HistogramPlansModel", "putsLine", "(IIII)V"⟩, 59), (⟨"HistogramPlansModel", "drawsLine", "()I"⟩, 59), (⟨"HistogramPlansModel", "draw", "(I)I"⟩, 59), (⟨"HistogramPlansModel", "passesAll", "(Z)V"⟩, 59), (⟨"HistogramPlansModel", "passes", "([I)V"⟩, 59), (⟨"HistogramPlansModel", "passOne", "(I)I"⟩, 59), (⟨"HistogramPlansModel", "allLines", "()I"⟩, 59)]
theorem lw_r6 : ∀ q ∈ lw_privs_6, lw_okq q := List.forall_mem_cons.mpr ⟨lw_p80, List.forall_mem_cons.mpr ⟨lw_p81, List.forall_mem_cons.mpr ⟨lw_p82, List.forall_mem_cons.mpr ⟨lw_p83, List.forall_mem_cons.mpr ⟨lw_p84, List.forall_mem_cons.mpr ⟨lw_p85, List.forall_mem_cons.mpr ⟨lw_p86, List.forall_mem_cons.mpr ⟨lw_p87, fun _ h => absurd h List.not_mem_nil⟩⟩⟩⟩⟩⟩⟩⟩
def lw_privs : List (MethodName × Nat) := lw_privs_1 ++ (lw_privs_2 ++ (lw_privs_3 ++ (lw_privs_4 ++ (lw_privs_5 ++ (lw_privs_6)))))
def lw_tbl : List Cond := k2_sels lw_privs ++ tables_1
theorem lw_privs_ok : ∀ q ∈ lw_privs, lw_okq q := by
  show ∀ q ∈ lw_privs_1 ++ (lw_privs_2 ++ (lw_privs_3 ++ (lw_privs_4 ++ (lw_privs_5 ++ (lw_privs_6))))), lw_okq q
  exact List.forall_mem_append.mpr ⟨lw_r1, List.forall_mem_append.mpr ⟨lw_r2, List.forall_mem_append.mpr ⟨lw_r3, List.forall_mem_append.mpr ⟨lw_r4, List.forall_mem_append.mpr ⟨lw_r5, lw_r6⟩⟩⟩⟩⟩
/-- the streams that the claim lets the run draw from -/
abbrev lw_cs : List Choice := [Jvm.Choice.named "NaN.bits"]
theorem lw_bits : nanBits ∈ lw_cs := by first | decide | exact List.mem_cons_self | simp [lw_cs, nanBits]
def RX0 : String := "HistogramPlans$Histogram"
def TX0 : u_T := fun k => match k with
  | 0 => ("HistogramPlans$Histogram", "sorted", "[I", true)
  | 1 => ("HistogramPlans$Histogram", "n", "I", false)
  | 2 => ("HistogramPlans$Histogram", "low", "[I", true)
  | 3 => ("HistogramPlans$Histogram", "high", "[I", true)
  | 4 => ("HistogramPlans$Histogram", "size", "[I", true)
  | 5 => ("HistogramPlans$Histogram", "distinct", "[I", true)
  | _ => ("HistogramPlans$Histogram", "buckets", "I", false)
def tyX0 : Nat → FieldType := fun k => match k with
  | 0 => .array .int
  | 1 => .int
  | 2 => .array .int
  | 3 => .array .int
  | 4 => .array .int
  | 5 => .array .int
  | _ => .int
abbrev wsX00 : List Cond := u_ws RX0 TX0 7
theorem nmX0 : ∀ a, a < 7 → ∀ b, b < 7 → a ≠ b → (TX0 a).2.1 ≠ (TX0 b).2.1 := by decide +kernel
theorem tyX0_ok : ∀ k, k < 7 → parseFieldDescriptor (TX0 k).2.2.1 = some (tyX0 k) := by decide +kernel
abbrev cX0_init : ByteArray := prog_2_method_1_code
def yX0_init : MethodName := ⟨RX0, "<init>", "()V"⟩
abbrev cX0_fill : ByteArray := prog_2_method_2_code
def yX0_fill : MethodName := ⟨RX0, "fill", "(LHistogramPlans$Table;I)V"⟩
abbrev cX0_insert : ByteArray := prog_2_method_3_code
def yX0_insert : MethodName := ⟨RX0, "insert", "(II)V"⟩
abbrev cX0_addBucket : ByteArray := prog_2_method_4_code
def yX0_addBucket : MethodName := ⟨RX0, "addBucket", "(II)V"⟩
abbrev cX0_differentIn : ByteArray := prog_2_method_5_code
def yX0_differentIn : MethodName := ⟨RX0, "differentIn", "(II)I"⟩
abbrev cX0_differentValues : ByteArray := prog_2_method_6_code
def yX0_differentValues : MethodName := ⟨RX0, "differentValues", "()I"⟩
abbrev cX0_shareOf : ByteArray := prog_2_method_7_code
def yX0_shareOf : MethodName := ⟨RX0, "shareOf", "(II)F"⟩
abbrev cX0_shareLess : ByteArray := prog_2_method_8_code
def yX0_shareLess : MethodName := ⟨RX0, "shareLess", "(I)F"⟩
abbrev cX0_shareEqual : ByteArray := prog_2_method_9_code
def yX0_shareEqual : MethodName := ⟨RX0, "shareEqual", "(I)F"⟩
def RX1 : String := "HistogramPlans$Matches"
def TX1 : u_T := fun k => match k with
  | 0 => ("HistogramPlans$Matches", "world", "LHistogramPlans$World;", true)
  | 1 => ("HistogramPlans$Matches", "members", "[I", true)
  | 2 => ("HistogramPlans$Matches", "count", "I", false)
  | 3 => ("HistogramPlans$Matches", "fits", "[I", true)
  | 4 => ("HistogramPlans$Matches", "partners", "[I", true)
  | _ => ("HistogramPlans$Matches", "rowsBy", "[I", true)
def tyX1 : Nat → FieldType := fun k => match k with
  | 0 => .object "HistogramPlans$World"
  | 1 => .array .int
  | 2 => .int
  | 3 => .array .int
  | 4 => .array .int
  | _ => .array .int
abbrev wsX10 : List Cond := u_ws RX1 TX1 6
theorem nmX1 : ∀ a, a < 6 → ∀ b, b < 6 → a ≠ b → (TX1 a).2.1 ≠ (TX1 b).2.1 := by decide +kernel
theorem tyX1_ok : ∀ k, k < 6 → parseFieldDescriptor (TX1 k).2.2.1 = some (tyX1 k) := by decide +kernel
abbrev cX1_init : ByteArray := prog_3_method_1_code
def yX1_init : MethodName := ⟨RX1, "<init>", "(LHistogramPlans$World;)V"⟩
abbrev cX1_rowsOf : ByteArray := prog_3_method_2_code
def yX1_rowsOf : MethodName := ⟨RX1, "rowsOf", "(II)I"⟩
abbrev cX1_sumOf : ByteArray := prog_3_method_3_code
def yX1_sumOf : MethodName := ⟨RX1, "sumOf", "(I)J"⟩
abbrev cX1_chooseMembers : ByteArray := prog_3_method_4_code
def yX1_chooseMembers : MethodName := ⟨RX1, "chooseMembers", "(II)V"⟩
abbrev cX1_passFilters : ByteArray := prog_3_method_5_code
def yX1_passFilters : MethodName := ⟨RX1, "passFilters", "()V"⟩
abbrev cX1_passes : ByteArray := prog_3_method_6_code
def yX1_passes : MethodName := ⟨RX1, "passes", "(II)Z"⟩
abbrev cX1_pairLines : ByteArray := prog_3_method_7_code
def yX1_pairLines : MethodName := ⟨RX1, "pairLines", "(I)V"⟩
abbrev cX1_pairLinesBy : ByteArray := prog_3_method_8_code
def yX1_pairLinesBy : MethodName := ⟨RX1, "pairLinesBy", "(II)V"⟩
abbrev cX1_partnersAt : ByteArray := prog_3_method_9_code
def yX1_partnersAt : MethodName := ⟨RX1, "partnersAt", "(III)I"⟩
abbrev cX1_narrow : ByteArray := prog_3_method_10_code
def yX1_narrow : MethodName := ⟨RX1, "narrow", "(II)Z"⟩
abbrev cX1_rowsFrom : ByteArray := prog_3_method_11_code
def yX1_rowsFrom : MethodName := ⟨RX1, "rowsFrom", "(LHistogramPlans$Matches;I)I"⟩
def RX2 : String := "HistogramPlans$Node"
def TX2 : u_T := fun k => match k with
  | 0 => ("HistogramPlans$Node", "way", "I", false)
  | 1 => ("HistogramPlans$Node", "tables", "I", false)
  | 2 => ("HistogramPlans$Node", "order", "I", false)
  | 3 => ("HistogramPlans$Node", "costBits", "I", false)
  | 4 => ("HistogramPlans$Node", "pairing", "I", false)
  | 5 => ("HistogramPlans$Node", "placeInB", "I", false)
  | _ => ("HistogramPlans$Node", "size", "I", false)
def tyX2 : Nat → FieldType := fun k => match k with
  | 0 => .int
  | 1 => .int
  | 2 => .int
  | 3 => .int
  | 4 => .int
  | 5 => .int
  | _ => .int
abbrev wsX20 : List Cond := u_ws RX2 TX2 7
theorem nmX2 : ∀ a, a < 7 → ∀ b, b < 7 → a ≠ b → (TX2 a).2.1 ≠ (TX2 b).2.1 := by decide +kernel
theorem tyX2_ok : ∀ k, k < 7 → parseFieldDescriptor (TX2 k).2.2.1 = some (tyX2 k) := by decide +kernel
abbrev cX2_init : ByteArray := prog_4_method_1_code
def yX2_init : MethodName := ⟨RX2, "<init>", "()V"⟩
abbrev cX2_speaks : ByteArray := prog_4_method_2_code
def yX2_speaks : MethodName := ⟨RX2, "speaks", "(I)Z"⟩
abbrev cX2_speech : ByteArray := prog_4_method_3_code
def yX2_speech : MethodName := ⟨RX2, "speech", "(I)I"⟩
abbrev cX2_become : ByteArray := prog_4_method_4_code
def yX2_become : MethodName := ⟨RX2, "become", "(LHistogramPlans$Node;)V"⟩
def RX3 : String := "HistogramPlans$Planner"
def TX3 : u_T := fun k => match k with
  | 0 => ("HistogramPlans$Planner", "world", "LHistogramPlans$World;", true)
  | 1 => ("HistogramPlans$Planner", "thoughts", "LHistogramPlans$Thoughts;", true)
  | 2 => ("HistogramPlans$Planner", "thought", "[F", true)
  | 3 => ("HistogramPlans$Planner", "way", "[I", true)
  | 4 => ("HistogramPlans$Planner", "best", "[F", true)
  | 5 => ("HistogramPlans$Planner", "leftCell", "[I", true)
  | 6 => ("HistogramPlans$Planner", "rightCell", "[I", true)
  | 7 => ("HistogramPlans$Planner", "pairing", "[I", true)
  | 8 => ("HistogramPlans$Planner", "size", "[I", true)
  | _ => ("HistogramPlans$Planner", "laid", "[I", true)
def tyX3 : Nat → FieldType := fun k => match k with
  | 0 => .object "HistogramPlans$World"
  | 1 => .object "HistogramPlans$Thoughts"
  | 2 => .array .float
  | 3 => .array .int
  | 4 => .array .float
  | 5 => .array .int
  | 6 => .array .int
  | 7 => .array .int
  | 8 => .array .int
  | _ => .array .int
abbrev wsX30 : List Cond := u_ws RX3 TX3 10
theorem nmX3 : ∀ a, a < 10 → ∀ b, b < 10 → a ≠ b → (TX3 a).2.1 ≠ (TX3 b).2.1 := by decide +kernel
theorem tyX3_ok : ∀ k, k < 10 → parseFieldDescriptor (TX3 k).2.2.1 = some (tyX3 k) := by decide +kernel
abbrev cX3_init : ByteArray := prog_5_method_1_code
def yX3_init : MethodName := ⟨RX3, "<init>", "(LHistogramPlans$World;LHistogramPlans$Thoughts;)V"⟩
abbrev cX3_search : ByteArray := prog_5_method_2_code
def yX3_search : MethodName := ⟨RX3, "search", "(I)V"⟩
abbrev cX3_searchSet : ByteArray := prog_5_method_3_code
def yX3_searchSet : MethodName := ⟨RX3, "searchSet", "(I)V"⟩
abbrev cX3_offerRead : ByteArray := prog_5_method_4_code
def yX3_offerRead : MethodName := ⟨RX3, "offerRead", "(I)V"⟩
abbrev cX3_offerPairs : ByteArray := prog_5_method_5_code
def yX3_offerPairs : MethodName := ⟨RX3, "offerPairs", "(I)V"⟩
abbrev cX3_firstJoinBetween : ByteArray := prog_5_method_6_code
def yX3_firstJoinBetween : MethodName := ⟨RX3, "firstJoinBetween", "(II)I"⟩
abbrev cX3_offerPair : ByteArray := prog_5_method_7_code
def yX3_offerPair : MethodName := ⟨RX3, "offerPair", "(III)V"⟩
abbrev cX3_offerSorts : ByteArray := prog_5_method_8_code
def yX3_offerSorts : MethodName := ⟨RX3, "offerSorts", "(I)V"⟩
abbrev cX3_offer : ByteArray := prog_5_method_9_code
def yX3_offer : MethodName := ⟨RX3, "offer", "(IIFIII)V"⟩
abbrev cX3_sizeOf : ByteArray := prog_5_method_10_code
def yX3_sizeOf : MethodName := ⟨RX3, "sizeOf", "(I)I"⟩
abbrev cX3_layOut : ByteArray := prog_5_method_11_code
def yX3_layOut : MethodName := ⟨RX3, "layOut", "(I[LHistogramPlans$Node;)I"⟩
abbrev cX3_lay : ByteArray := prog_5_method_12_code
def yX3_lay : MethodName := ⟨RX3, "lay", "(II)V"⟩
abbrev cX3_describe : ByteArray := prog_5_method_13_code
def yX3_describe : MethodName := ⟨RX3, "describe", "(ILHistogramPlans$Node;)V"⟩
def RX4 : String := "HistogramPlans$Shelf"
def TX4 : u_T := fun k => match k with
  | 0 => ("HistogramPlans$Shelf", "kind", "I", false)
  | 1 => ("HistogramPlans$Shelf", "sort", "I", false)
  | 2 => ("HistogramPlans$Shelf", "length", "I", false)
  | 3 => ("HistogramPlans$Shelf", "elements", "[J", true)
  | _ => ("HistogramPlans$Shelf", "node", "LHistogramPlans$Node;", true)
def tyX4 : Nat → FieldType := fun k => match k with
  | 0 => .int
  | 1 => .int
  | 2 => .int
  | 3 => .array .long
  | _ => .object "HistogramPlans$Node"
abbrev wsX40 : List Cond := u_ws RX4 TX4 5
theorem nmX4 : ∀ a, a < 5 → ∀ b, b < 5 → a ≠ b → (TX4 a).2.1 ≠ (TX4 b).2.1 := by decide +kernel
theorem tyX4_ok : ∀ k, k < 5 → parseFieldDescriptor (TX4 k).2.2.1 = some (tyX4 k) := by decide +kernel
abbrev cX4_init : ByteArray := prog_6_method_1_code
def yX4_init : MethodName := ⟨RX4, "<init>", "()V"⟩
abbrev cX4_becomeRow : ByteArray := prog_6_method_2_code
def yX4_becomeRow : MethodName := ⟨RX4, "becomeRow", "(II)V"⟩
abbrev cX4_becomeNode : ByteArray := prog_6_method_3_code
def yX4_becomeNode : MethodName := ⟨RX4, "becomeNode", "(LHistogramPlans$Node;)V"⟩
abbrev cX4_told : ByteArray := prog_6_method_4_code
def yX4_told : MethodName := ⟨RX4, "told", "()I"⟩
abbrev cX4_keep : ByteArray := prog_6_method_5_code
def yX4_keep : MethodName := ⟨RX4, "keep", "(IJ)V"⟩
abbrev cX4_intAt : ByteArray := prog_6_method_6_code
def yX4_intAt : MethodName := ⟨RX4, "intAt", "(I)I"⟩
def RX5 : String := "HistogramPlans$Table"
def TX5 : u_T := fun k => match k with
  | 0 => ("HistogramPlans$Table", "values", "[I", true)
  | 1 => ("HistogramPlans$Table", "lines", "I", false)
  | 2 => ("HistogramPlans$Table", "buckets", "I", false)
  | _ => ("HistogramPlans$Table", "stored", "I", false)
def tyX5 : Nat → FieldType := fun k => match k with
  | 0 => .array .int
  | 1 => .int
  | 2 => .int
  | _ => .int
abbrev wsX50 : List Cond := u_ws RX5 TX5 4
theorem nmX5 : ∀ a, a < 4 → ∀ b, b < 4 → a ≠ b → (TX5 a).2.1 ≠ (TX5 b).2.1 := by decide +kernel
theorem tyX5_ok : ∀ k, k < 4 → parseFieldDescriptor (TX5 k).2.2.1 = some (tyX5 k) := by decide +kernel
abbrev cX5_init : ByteArray := prog_7_method_1_code
def yX5_init : MethodName := ⟨RX5, "<init>", "()V"⟩
abbrev cX5_valueAt : ByteArray := prog_7_method_2_code
def yX5_valueAt : MethodName := ⟨RX5, "valueAt", "(II)I"⟩
abbrev cX5_add : ByteArray := prog_7_method_3_code
def yX5_add : MethodName := ⟨RX5, "add", "(III)V"⟩
abbrev cX5_become : ByteArray := prog_7_method_4_code
def yX5_become : MethodName := ⟨RX5, "become", "(LHistogramPlans$Table;)V"⟩
def RX6 : String := "HistogramPlans$TextReader"
def TX6 : u_T := fun k => match k with
  | 0 => ("HistogramPlans$TextReader", "world", "LHistogramPlans$World;", true)
  | 1 => ("HistogramPlans$TextReader", "pending", "[I", true)
  | 2 => ("HistogramPlans$TextReader", "state", "I", false)
  | 3 => ("HistogramPlans$TextReader", "table", "I", false)
  | 4 => ("HistogramPlans$TextReader", "column", "I", false)
  | 5 => ("HistogramPlans$TextReader", "number", "I", false)
  | _ => ("HistogramPlans$TextReader", "items", "I", false)
def tyX6 : Nat → FieldType := fun k => match k with
  | 0 => .object "HistogramPlans$World"
  | 1 => .array .int
  | 2 => .int
  | 3 => .int
  | 4 => .int
  | 5 => .int
  | _ => .int
abbrev wsX60 : List Cond := u_ws RX6 TX6 7
theorem nmX6 : ∀ a, a < 7 → ∀ b, b < 7 → a ≠ b → (TX6 a).2.1 ≠ (TX6 b).2.1 := by decide +kernel
theorem tyX6_ok : ∀ k, k < 7 → parseFieldDescriptor (TX6 k).2.2.1 = some (tyX6 k) := by decide +kernel
abbrev cX6_init : ByteArray := prog_8_method_1_code
def yX6_init : MethodName := ⟨RX6, "<init>", "(LHistogramPlans$World;)V"⟩
abbrev cX6_faultIn : ByteArray := prog_8_method_2_code
def yX6_faultIn : MethodName := ⟨RX6, "faultIn", "(LHistogramPlans$Shelf;)I"⟩
abbrev cX6_bringLines : ByteArray := prog_8_method_3_code
def yX6_bringLines : MethodName := ⟨RX6, "bringLines", "()V"⟩
abbrev cX6_takes : ByteArray := prog_8_method_4_code
def yX6_takes : MethodName := ⟨RX6, "takes", "(I)Z"⟩
abbrev cX6_moves : ByteArray := prog_8_method_5_code
def yX6_moves : MethodName := ⟨RX6, "moves", "(ZI)Z"⟩
abbrev cX6_takesTable : ByteArray := prog_8_method_6_code
def yX6_takesTable : MethodName := ⟨RX6, "takesTable", "(I)Z"⟩
abbrev cX6_takesFirstDigit : ByteArray := prog_8_method_7_code
def yX6_takesFirstDigit : MethodName := ⟨RX6, "takesFirstDigit", "(I)Z"⟩
abbrev cX6_takesSecondDigit : ByteArray := prog_8_method_8_code
def yX6_takesSecondDigit : MethodName := ⟨RX6, "takesSecondDigit", "(I)Z"⟩
abbrev cX6_takesMark : ByteArray := prog_8_method_9_code
def yX6_takesMark : MethodName := ⟨RX6, "takesMark", "(I)Z"⟩
abbrev cX6_isDigit : ByteArray := prog_8_method_10_code
def yX6_isDigit : MethodName := ⟨RX6, "isDigit", "(I)Z"⟩
abbrev cX6_isBehindLine : ByteArray := prog_8_method_11_code
def yX6_isBehindLine : MethodName := ⟨RX6, "isBehindLine", "()Z"⟩
abbrev cX6_endsValue : ByteArray := prog_8_method_12_code
def yX6_endsValue : MethodName := ⟨RX6, "endsValue", "()Z"⟩
abbrev cX6_keepNumber : ByteArray := prog_8_method_13_code
def yX6_keepNumber : MethodName := ⟨RX6, "keepNumber", "()V"⟩
abbrev cX6_endLine : ByteArray := prog_8_method_14_code
def yX6_endLine : MethodName := ⟨RX6, "endLine", "()V"⟩
abbrev cX6_endItem : ByteArray := prog_8_method_15_code
def yX6_endItem : MethodName := ⟨RX6, "endItem", "()V"⟩
def RX7 : String := "HistogramPlans$Thoughts"
def TX7 : u_T := fun k => match k with
  | 0 => ("HistogramPlans$Thoughts", "world", "LHistogramPlans$World;", true)
  | 1 => ("HistogramPlans$Thoughts", "histogram", "LHistogramPlans$Histogram;", true)
  | 2 => ("HistogramPlans$Thoughts", "ofTable", "[F", true)
  | _ => ("HistogramPlans$Thoughts", "ofJoin", "[F", true)
def tyX7 : Nat → FieldType := fun k => match k with
  | 0 => .object "HistogramPlans$World"
  | 1 => .object "HistogramPlans$Histogram"
  | 2 => .array .float
  | _ => .array .float
abbrev wsX70 : List Cond := u_ws RX7 TX7 4
theorem nmX7 : ∀ a, a < 4 → ∀ b, b < 4 → a ≠ b → (TX7 a).2.1 ≠ (TX7 b).2.1 := by decide +kernel
theorem tyX7_ok : ∀ k, k < 4 → parseFieldDescriptor (TX7 k).2.2.1 = some (tyX7 k) := by decide +kernel
abbrev cX7_init : ByteArray := prog_9_method_1_code
def yX7_init : MethodName := ⟨RX7, "<init>", "(LHistogramPlans$World;)V"⟩
abbrev cX7_histogramOf : ByteArray := prog_9_method_2_code
def yX7_histogramOf : MethodName := ⟨RX7, "histogramOf", "(I)LHistogramPlans$Histogram;"⟩
abbrev cX7_shareOfJoin : ByteArray := prog_9_method_3_code
def yX7_shareOfJoin : MethodName := ⟨RX7, "shareOfJoin", "(I)F"⟩
abbrev cX7_think : ByteArray := prog_9_method_4_code
def yX7_think : MethodName := ⟨RX7, "think", "()V"⟩
abbrev cX7_thoughtOfTable : ByteArray := prog_9_method_5_code
def yX7_thoughtOfTable : MethodName := ⟨RX7, "thoughtOfTable", "(I)F"⟩
abbrev cX7_thoughtOf : ByteArray := prog_9_method_6_code
def yX7_thoughtOf : MethodName := ⟨RX7, "thoughtOf", "(I)F"⟩
def RX8 : String := "HistogramPlans$World"
def TX8 : u_T := fun k => match k with
  | 0 => ("HistogramPlans$World", "tables", "[LHistogramPlans$Table;", true)
  | 1 => ("HistogramPlans$World", "filterPlace", "[I", true)
  | 2 => ("HistogramPlans$World", "filterSign", "[I", true)
  | 3 => ("HistogramPlans$World", "filterValue", "[I", true)
  | 4 => ("HistogramPlans$World", "filters", "I", false)
  | 5 => ("HistogramPlans$World", "joinFirst", "[I", true)
  | 6 => ("HistogramPlans$World", "joinSecond", "[I", true)
  | 7 => ("HistogramPlans$World", "joins", "I", false)
  | _ => ("HistogramPlans$World", "drawSeed", "I", false)
def tyX8 : Nat → FieldType := fun k => match k with
  | 0 => .array (.object "HistogramPlans$Table")
  | 1 => .array .int
  | 2 => .array .int
  | 3 => .array .int
  | 4 => .int
  | 5 => .array .int
  | 6 => .array .int
  | 7 => .int
  | _ => .int
abbrev wsX80 : List Cond := u_ws RX8 TX8 9
theorem nmX8 : ∀ a, a < 9 → ∀ b, b < 9 → a ≠ b → (TX8 a).2.1 ≠ (TX8 b).2.1 := by decide +kernel
theorem tyX8_ok : ∀ k, k < 9 → parseFieldDescriptor (TX8 k).2.2.1 = some (tyX8 k) := by decide +kernel
abbrev cX8_init : ByteArray := prog_10_method_1_code
def yX8_init : MethodName := ⟨RX8, "<init>", "()V"⟩
abbrev cX8_addFilter : ByteArray := prog_10_method_2_code
def yX8_addFilter : MethodName := ⟨RX8, "addFilter", "(III)V"⟩
abbrev cX8_addJoin : ByteArray := prog_10_method_3_code
def yX8_addJoin : MethodName := ⟨RX8, "addJoin", "(II)V"⟩
abbrev cX8_hasWithin : ByteArray := prog_10_method_4_code
def yX8_hasWithin : MethodName := ⟨RX8, "hasWithin", "(II)Z"⟩
abbrev cX8_placeIn : ByteArray := prog_10_method_5_code
def yX8_placeIn : MethodName := ⟨RX8, "placeIn", "(II)I"⟩
abbrev cX8_allLines : ByteArray := prog_10_method_6_code
def yX8_allLines : MethodName := ⟨RX8, "allLines", "()I"⟩
abbrev cX8_drawBelow : ByteArray := prog_10_method_7_code
def yX8_drawBelow : MethodName := ⟨RX8, "drawBelow", "(I)I"⟩
abbrev cX8_drawLine : ByteArray := prog_10_method_8_code
def yX8_drawLine : MethodName := ⟨RX8, "drawLine", "()Z"⟩
abbrev cX8_become : ByteArray := prog_10_method_9_code
def yX8_become : MethodName := ⟨RX8, "become", "(LHistogramPlans$World;)V"⟩
def RX9 : String := "HistogramPlans"
def TX9 : u_T := fun k => match k with
  | 0 => ("HistogramPlans", "world", "LHistogramPlans$World;", true)
  | 1 => ("HistogramPlans", "imaged", "LHistogramPlans$World;", true)
  | 2 => ("HistogramPlans", "hasImage", "Z", false)
  | 3 => ("HistogramPlans", "thoughts", "LHistogramPlans$Thoughts;", true)
  | 4 => ("HistogramPlans", "planner", "LHistogramPlans$Planner;", true)
  | 5 => ("HistogramPlans", "matches", "LHistogramPlans$Matches;", true)
  | 6 => ("HistogramPlans", "reader", "LHistogramPlans$TextReader;", true)
  | 7 => ("HistogramPlans", "shelves", "[LHistogramPlans$Shelf;", true)
  | 8 => ("HistogramPlans", "nodes", "[LHistogramPlans$Node;", true)
  | 9 => ("HistogramPlans", "planned", "I", false)
  | 10 => ("HistogramPlans", "latestFault", "I", false)
  | _ => ("HistogramPlans", "refusals", "[I", true)
def tyX9 : Nat → FieldType := fun k => match k with
  | 0 => .object "HistogramPlans$World"
  | 1 => .object "HistogramPlans$World"
  | 2 => .boolean
  | 3 => .object "HistogramPlans$Thoughts"
  | 4 => .object "HistogramPlans$Planner"
  | 5 => .object "HistogramPlans$Matches"
  | 6 => .object "HistogramPlans$TextReader"
  | 7 => .array (.object "HistogramPlans$Shelf")
  | 8 => .array (.object "HistogramPlans$Node")
  | 9 => .int
  | 10 => .int
  | _ => .array .int
abbrev wsX90 : List Cond := u_ws RX9 TX9 12
theorem nmX9 : ∀ a, a < 12 → ∀ b, b < 12 → a ≠ b → (TX9 a).2.1 ≠ (TX9 b).2.1 := by decide +kernel
theorem tyX9_ok : ∀ k, k < 12 → parseFieldDescriptor (TX9 k).2.2.1 = some (tyX9 k) := by decide +kernel
abbrev cX9_init : ByteArray := prog_1_method_1_code
def yX9_init : MethodName := ⟨RX9, "<init>", "()V"⟩
abbrev cX9_row : ByteArray := prog_1_method_2_code
def yX9_row : MethodName := ⟨RX9, "row", "(III)I"⟩
abbrev cX9_set : ByteArray := prog_1_method_3_code
def yX9_set : MethodName := ⟨RX9, "set", "(IIJ)I"⟩
abbrev cX9_copy : ByteArray := prog_1_method_4_code
def yX9_copy : MethodName := ⟨RX9, "copy", "(IIIII)I"⟩
abbrev cX9_element : ByteArray := prog_1_method_5_code
def yX9_element : MethodName := ⟨RX9, "element", "(II)J"⟩
abbrev cX9_show : ByteArray := prog_1_method_6_code
def yX9_show : MethodName := ⟨RX9, "show", "(II)I"⟩
abbrev cX9_holds : ByteArray := prog_1_method_7_code
def yX9_holds : MethodName := ⟨RX9, "holds", "(I)I"⟩
abbrev cX9_says : ByteArray := prog_1_method_8_code
def yX9_says : MethodName := ⟨RX9, "says", "(II)I"⟩
abbrev cX9_line : ByteArray := prog_1_method_9_code
def yX9_line : MethodName := ⟨RX9, "line", "(IIII)I"⟩
abbrev cX9_read : ByteArray := prog_1_method_10_code
def yX9_read : MethodName := ⟨RX9, "read", "(I)I"⟩
abbrev cX9_fault : ByteArray := prog_1_method_11_code
def yX9_fault : MethodName := ⟨RX9, "fault", "()I"⟩
abbrev cX9_empty : ByteArray := prog_1_method_12_code
def yX9_empty : MethodName := ⟨RX9, "empty", "(I)I"⟩
abbrev cX9_put : ByteArray := prog_1_method_13_code
def yX9_put : MethodName := ⟨RX9, "put", "(III)I"⟩
abbrev cX9_tableOf : ByteArray := prog_1_method_14_code
def yX9_tableOf : MethodName := ⟨RX9, "tableOf", "(II)I"⟩
abbrev cX9_lineOf : ByteArray := prog_1_method_15_code
def yX9_lineOf : MethodName := ⟨RX9, "lineOf", "(III)I"⟩
abbrev cX9_bucket : ByteArray := prog_1_method_16_code
def yX9_bucket : MethodName := ⟨RX9, "bucket", "(III)I"⟩
abbrev cX9_different : ByteArray := prog_1_method_17_code
def yX9_different : MethodName := ⟨RX9, "different", "(I)I"⟩
abbrev cX9_share : ByteArray := prog_1_method_18_code
def yX9_share : MethodName := ⟨RX9, "share", "(III)I"⟩
abbrev cX9_filter : ByteArray := prog_1_method_19_code
def yX9_filter : MethodName := ⟨RX9, "filter", "(III)I"⟩
abbrev cX9_join : ByteArray := prog_1_method_20_code
def yX9_join : MethodName := ⟨RX9, "join", "(II)I"⟩
abbrev cX9_clear : ByteArray := prog_1_method_21_code
def yX9_clear : MethodName := ⟨RX9, "clear", "()I"⟩
abbrev cX9_filterOf : ByteArray := prog_1_method_22_code
def yX9_filterOf : MethodName := ⟨RX9, "filterOf", "(II)I"⟩
abbrev cX9_joinOf : ByteArray := prog_1_method_23_code
def yX9_joinOf : MethodName := ⟨RX9, "joinOf", "(II)I"⟩
abbrev cX9_joinShare : ByteArray := prog_1_method_24_code
def yX9_joinShare : MethodName := ⟨RX9, "joinShare", "(I)I"⟩
abbrev cX9_thought : ByteArray := prog_1_method_25_code
def yX9_thought : MethodName := ⟨RX9, "thought", "(I)I"⟩
abbrev cX9_sorting : ByteArray := prog_1_method_26_code
def yX9_sorting : MethodName := ⟨RX9, "sorting", "(I)I"⟩
abbrev cX9_cost : ByteArray := prog_1_method_27_code
def yX9_cost : MethodName := ⟨RX9, "cost", "(II)I"⟩
abbrev cX9_plan : ByteArray := prog_1_method_28_code
def yX9_plan : MethodName := ⟨RX9, "plan", "(II)I"⟩
abbrev cX9_nodeOf : ByteArray := prog_1_method_29_code
def yX9_nodeOf : MethodName := ⟨RX9, "nodeOf", "(II)I"⟩
abbrev cX9_really : ByteArray := prog_1_method_30_code
def yX9_really : MethodName := ⟨RX9, "really", "(I)I"⟩
abbrev cX9_sum : ByteArray := prog_1_method_31_code
def yX9_sum : MethodName := ⟨RX9, "sum", "(II)J"⟩
abbrev cX9_wrongBy : ByteArray := prog_1_method_32_code
def yX9_wrongBy : MethodName := ⟨RX9, "wrongBy", "(I)I"⟩
abbrev cX9_judge : ByteArray := prog_1_method_33_code
def yX9_judge : MethodName := ⟨RX9, "judge", "(II)I"⟩
abbrev cX9_drawn : ByteArray := prog_1_method_34_code
def yX9_drawn : MethodName := ⟨RX9, "drawn", "(I)I"⟩
abbrev cX9_seed : ByteArray := prog_1_method_35_code
def yX9_seed : MethodName := ⟨RX9, "seed", "(I)I"⟩
abbrev cX9_image : ByteArray := prog_1_method_36_code
def yX9_image : MethodName := ⟨RX9, "image", "()I"⟩
abbrev cX9_restore : ByteArray := prog_1_method_37_code
def yX9_restore : MethodName := ⟨RX9, "restore", "()I"⟩
abbrev cX9_status : ByteArray := prog_1_method_38_code
def yX9_status : MethodName := ⟨RX9, "status", "(I)I"⟩
abbrev cX9_refuse : ByteArray := prog_1_method_39_code
def yX9_refuse : MethodName := ⟨RX9, "refuse", "(I)I"⟩
abbrev cX9_refuseTenLower : ByteArray := prog_1_method_40_code
def yX9_refuseTenLower : MethodName := ⟨RX9, "refuseTenLower", "(I)I"⟩
abbrev cX9_whyNoRow : ByteArray := prog_1_method_41_code
def yX9_whyNoRow : MethodName := ⟨RX9, "whyNoRow", "(I)I"⟩
abbrev cX9_isNode : ByteArray := prog_1_method_42_code
def yX9_isNode : MethodName := ⟨RX9, "isNode", "(I)Z"⟩
abbrev cX9_areRowsOfTwoSorts : ByteArray := prog_1_method_43_code
def yX9_areRowsOfTwoSorts : MethodName := ⟨RX9, "areRowsOfTwoSorts", "(LHistogramPlans$Shelf;LHistogramPlans$Shelf;)Z"⟩
abbrev cX9_hasElements : ByteArray := prog_1_method_44_code
def yX9_hasElements : MethodName := ⟨RX9, "hasElements", "(LHistogramPlans$Shelf;II)Z"⟩
abbrev cX9_isBelow : ByteArray := prog_1_method_45_code
def yX9_isBelow : MethodName := ⟨RX9, "isBelow", "(II)Z"⟩
abbrev cX9_isSet : ByteArray := prog_1_method_46_code
def yX9_isSet : MethodName := ⟨RX9, "isSet", "(I)Z"⟩
abbrev cX9_isOrder : ByteArray := prog_1_method_47_code
def yX9_isOrder : MethodName := ⟨RX9, "isOrder", "(I)Z"⟩
abbrev cX9_isWithin : ByteArray := prog_1_method_48_code
def yX9_isWithin : MethodName := ⟨RX9, "isWithin", "(II)Z"⟩
abbrev cX9_leastOf : ByteArray := prog_1_method_49_code
def yX9_leastOf : MethodName := ⟨RX9, "leastOf", "(I)I"⟩
abbrev cX9_cellOf : ByteArray := prog_1_method_50_code
def yX9_cellOf : MethodName := ⟨RX9, "cellOf", "(II)I"⟩
abbrev cX9_costOfSorting : ByteArray := prog_1_method_51_code
def yX9_costOfSorting : MethodName := ⟨RX9, "costOfSorting", "(F)F"⟩
abbrev cX9_errorOf : ByteArray := prog_1_method_52_code
def yX9_errorOf : MethodName := ⟨RX9, "errorOf", "(FF)F"⟩
abbrev cX9_bitsOf : ByteArray := prog_1_method_53_code
def yX9_bitsOf : MethodName := ⟨RX9, "bitsOf", "(F)I"⟩
def RX10 : String := "HistogramPlansModel"
def TX10 : u_T := fun k => match k with
  | 0 => ("HistogramPlansModel", "refused", "[I", true)
  | 1 => ("HistogramPlansModel", "lineMany", "[I", true)
  | 2 => ("HistogramPlansModel", "value", "[I", true)
  | 3 => ("HistogramPlansModel", "buckets", "[I", true)
  | 4 => ("HistogramPlansModel", "stored", "[I", true)
  | 5 => ("HistogramPlansModel", "filterPlace", "[I", true)
  | 6 => ("HistogramPlansModel", "filterSign", "[I", true)
  | 7 => ("HistogramPlansModel", "filterValue", "[I", true)
  | 8 => ("HistogramPlansModel", "joinOne", "[I", true)
  | 9 => ("HistogramPlansModel", "joinOther", "[I", true)
  | 10 => ("HistogramPlansModel", "filters", "I", false)
  | 11 => ("HistogramPlansModel", "joins", "I", false)
  | 12 => ("HistogramPlansModel", "seed", "I", false)
  | 13 => ("HistogramPlansModel", "sorted", "[I", true)
  | 14 => ("HistogramPlansModel", "low", "[I", true)
  | 15 => ("HistogramPlansModel", "high", "[I", true)
  | 16 => ("HistogramPlansModel", "holds", "[I", true)
  | 17 => ("HistogramPlansModel", "distinct", "[I", true)
  | 18 => ("HistogramPlansModel", "bucketMany", "I", false)
  | 19 => ("HistogramPlansModel", "thoughts", "[F", true)
  | 20 => ("HistogramPlansModel", "bestCost", "[F", true)
  | 21 => ("HistogramPlansModel", "bestWay", "[I", true)
  | 22 => ("HistogramPlansModel", "bestA", "[I", true)
  | 23 => ("HistogramPlansModel", "bestJoin", "[I", true)
  | 24 => ("HistogramPlansModel", "setNow", "I", false)
  | 25 => ("HistogramPlansModel", "orderNow", "I", false)
  | 26 => ("HistogramPlansModel", "nodeWay", "[I", true)
  | 27 => ("HistogramPlansModel", "nodeSet", "[I", true)
  | 28 => ("HistogramPlansModel", "nodeOrder", "[I", true)
  | 29 => ("HistogramPlansModel", "nodeCost", "[I", true)
  | 30 => ("HistogramPlansModel", "nodeJoin", "[I", true)
  | 31 => ("HistogramPlansModel", "nodeSize", "[I", true)
  | 32 => ("HistogramPlansModel", "nodeAbout", "[I", true)
  | 33 => ("HistogramPlansModel", "openSet", "[I", true)
  | 34 => ("HistogramPlansModel", "openOrder", "[I", true)
  | 35 => ("HistogramPlansModel", "nodes", "I", false)
  | 36 => ("HistogramPlansModel", "open", "I", false)
  | 37 => ("HistogramPlansModel", "line", "[I", true)
  | 38 => ("HistogramPlansModel", "reallyMany", "I", false)
  | 39 => ("HistogramPlansModel", "reallySum", "J", false)
  | 40 => ("HistogramPlansModel", "held", "[I", true)
  | 41 => ("HistogramPlansModel", "size", "[I", true)
  | 42 => ("HistogramPlansModel", "shownCost", "[I", true)
  | 43 => ("HistogramPlansModel", "shownJoin", "[I", true)
  | 44 => ("HistogramPlansModel", "shownAbout", "[I", true)
  | 45 => ("HistogramPlansModel", "elements", "[J", true)
  | 46 => ("HistogramPlansModel", "toldTable", "[I", true)
  | 47 => ("HistogramPlansModel", "toldOne", "[I", true)
  | 48 => ("HistogramPlansModel", "toldTwo", "[I", true)
  | 49 => ("HistogramPlansModel", "toldThree", "[I", true)
  | 50 => ("HistogramPlansModel", "toldMany", "[I", true)
  | 51 => ("HistogramPlansModel", "reading", "I", false)
  | 52 => ("HistogramPlansModel", "faultAt", "I", false)
  | 53 => ("HistogramPlansModel", "told", "I", false)
  | 54 => ("HistogramPlansModel", "shelfRead", "I", false)
  | 55 => ("HistogramPlansModel", "kept", "[I", true)
  | 56 => ("HistogramPlansModel", "hasImage", "Z", false)
  | 57 => ("HistogramPlansModel", "isKeeping", "Z", false)
  | _ => ("HistogramPlansModel", "cursor", "I", false)
def tyX10 : Nat → FieldType := fun k => match k with
  | 0 => .array .int
  | 1 => .array .int
  | 2 => .array .int
  | 3 => .array .int
  | 4 => .array .int
  | 5 => .array .int
  | 6 => .array .int
  | 7 => .array .int
  | 8 => .array .int
  | 9 => .array .int
  | 10 => .int
  | 11 => .int
  | 12 => .int
  | 13 => .array .int
  | 14 => .array .int
  | 15 => .array .int
  | 16 => .array .int
  | 17 => .array .int
  | 18 => .int
  | 19 => .array .float
  | 20 => .array .float
  | 21 => .array .int
  | 22 => .array .int
  | 23 => .array .int
  | 24 => .int
  | 25 => .int
  | 26 => .array .int
  | 27 => .array .int
  | 28 => .array .int
  | 29 => .array .int
  | 30 => .array .int
  | 31 => .array .int
  | 32 => .array .int
  | 33 => .array .int
  | 34 => .array .int
  | 35 => .int
  | 36 => .int
  | 37 => .array .int
  | 38 => .int
  | 39 => .long
  | 40 => .array .int
  | 41 => .array .int
  | 42 => .array .int
  | 43 => .array .int
  | 44 => .array .int
  | 45 => .array .long
  | 46 => .array .int
  | 47 => .array .int
  | 48 => .array .int
  | 49 => .array .int
  | 50 => .array .int
  | 51 => .int
  | 52 => .int
  | 53 => .int
  | 54 => .int
  | 55 => .array .int
  | 56 => .boolean
  | 57 => .boolean
  | _ => .int
abbrev wsX100 : List Cond := u_ws RX10 TX10 59
theorem nmX10 : ∀ a, a < 59 → ∀ b, b < 59 → a ≠ b → (TX10 a).2.1 ≠ (TX10 b).2.1 := by decide +kernel
theorem tyX10_ok : ∀ k, k < 59 → parseFieldDescriptor (TX10 k).2.2.1 = some (tyX10 k) := by decide +kernel
abbrev cX10_init : ByteArray := prog_12_method_1_code
def yX10_init : MethodName := ⟨RX10, "<init>", "()V"⟩
abbrev cX10_no : ByteArray := prog_12_method_2_code
def yX10_no : MethodName := ⟨RX10, "no", "(I)I"⟩
abbrev cX10_isIn : ByteArray := prog_12_method_3_code
def yX10_isIn : MethodName := ⟨RX10, "isIn", "(III)Z"⟩
abbrev cX10_has : ByteArray := prog_12_method_4_code
def yX10_has : MethodName := ⟨RX10, "has", "(II)Z"⟩
abbrev cX10_isTable : ByteArray := prog_12_method_5_code
def yX10_isTable : MethodName := ⟨RX10, "isTable", "(I)Z"⟩
abbrev cX10_isPlace : ByteArray := prog_12_method_6_code
def yX10_isPlace : MethodName := ⟨RX10, "isPlace", "(I)Z"⟩
abbrev cX10_isSet : ByteArray := prog_12_method_7_code
def yX10_isSet : MethodName := ⟨RX10, "isSet", "(I)Z"⟩
abbrev cX10_isOrder : ByteArray := prog_12_method_8_code
def yX10_isOrder : MethodName := ⟨RX10, "isOrder", "(I)Z"⟩
abbrev cX10_valueAt : ByteArray := prog_12_method_9_code
def yX10_valueAt : MethodName := ⟨RX10, "valueAt", "(II)I"⟩
abbrev cX10_putsLine : ByteArray := prog_12_method_10_code
def yX10_putsLine : MethodName := ⟨RX10, "putsLine", "(IIII)V"⟩
abbrev cX10_allLines : ByteArray := prog_12_method_11_code
def yX10_allLines : MethodName := ⟨RX10, "allLines", "()I"⟩
abbrev cX10_sorts : ByteArray := prog_12_method_12_code
def yX10_sorts : MethodName := ⟨RX10, "sorts", "(I)I"⟩
abbrev cX10_differentFrom : ByteArray := prog_12_method_13_code
def yX10_differentFrom : MethodName := ⟨RX10, "differentFrom", "(II)I"⟩
abbrev cX10_findBuckets : ByteArray := prog_12_method_14_code
def yX10_findBuckets : MethodName := ⟨RX10, "findBuckets", "(I)V"⟩
abbrev cX10_differentOf : ByteArray := prog_12_method_15_code
def yX10_differentOf : MethodName := ⟨RX10, "differentOf", "(I)I"⟩
abbrev cX10_less : ByteArray := prog_12_method_16_code
def yX10_less : MethodName := ⟨RX10, "less", "(II)F"⟩
abbrev cX10_equal : ByteArray := prog_12_method_17_code
def yX10_equal : MethodName := ⟨RX10, "equal", "(II)F"⟩
abbrev cX10_shareOf : ByteArray := prog_12_method_18_code
def yX10_shareOf : MethodName := ⟨RX10, "shareOf", "(III)F"⟩
abbrev cX10_thoughtOfTable : ByteArray := prog_12_method_19_code
def yX10_thoughtOfTable : MethodName := ⟨RX10, "thoughtOfTable", "(I)F"⟩
abbrev cX10_shareOfJoin : ByteArray := prog_12_method_20_code
def yX10_shareOfJoin : MethodName := ⟨RX10, "shareOfJoin", "(I)F"⟩
abbrev cX10_isWithin : ByteArray := prog_12_method_21_code
def yX10_isWithin : MethodName := ⟨RX10, "isWithin", "(II)Z"⟩
abbrev cX10_thoughtOf : ByteArray := prog_12_method_22_code
def yX10_thoughtOf : MethodName := ⟨RX10, "thoughtOf", "(I)F"⟩
abbrev cX10_sortingOf : ByteArray := prog_12_method_23_code
def yX10_sortingOf : MethodName := ⟨RX10, "sortingOf", "(I)F"⟩
abbrev cX10_offers : ByteArray := prog_12_method_24_code
def yX10_offers : MethodName := ⟨RX10, "offers", "(IFII)V"⟩
abbrev cX10_isBest : ByteArray := prog_12_method_25_code
def yX10_isBest : MethodName := ⟨RX10, "isBest", "(II)Z"⟩
abbrev cX10_best : ByteArray := prog_12_method_26_code
def yX10_best : MethodName := ⟨RX10, "best", "(II)F"⟩
abbrev cX10_joinBetween : ByteArray := prog_12_method_27_code
def yX10_joinBetween : MethodName := ⟨RX10, "joinBetween", "(II)I"⟩
abbrev cX10_placeIn : ByteArray := prog_12_method_28_code
def yX10_placeIn : MethodName := ⟨RX10, "placeIn", "(II)I"⟩
abbrev cX10_isPlaceIn : ByteArray := prog_12_method_29_code
def yX10_isPlaceIn : MethodName := ⟨RX10, "isPlaceIn", "(II)Z"⟩
abbrev cX10_offersLoop : ByteArray := prog_12_method_30_code
def yX10_offersLoop : MethodName := ⟨RX10, "offersLoop", "(III)V"⟩
abbrev cX10_offersMerge : ByteArray := prog_12_method_31_code
def yX10_offersMerge : MethodName := ⟨RX10, "offersMerge", "(III)V"⟩
abbrev cX10_offersSplit : ByteArray := prog_12_method_32_code
def yX10_offersSplit : MethodName := ⟨RX10, "offersSplit", "(I)V"⟩
abbrev cX10_onlyOf : ByteArray := prog_12_method_33_code
def yX10_onlyOf : MethodName := ⟨RX10, "onlyOf", "(I)I"⟩
abbrev cX10_offersAll : ByteArray := prog_12_method_34_code
def yX10_offersAll : MethodName := ⟨RX10, "offersAll", "()V"⟩
abbrev cX10_findBest : ByteArray := prog_12_method_35_code
def yX10_findBest : MethodName := ⟨RX10, "findBest", "()V"⟩
abbrev cX10_opens : ByteArray := prog_12_method_36_code
def yX10_opens : MethodName := ⟨RX10, "opens", "(II)V"⟩
abbrev cX10_opensBelow : ByteArray := prog_12_method_37_code
def yX10_opensBelow : MethodName := ⟨RX10, "opensBelow", "(I)V"⟩
abbrev cX10_aboutOf : ByteArray := prog_12_method_38_code
def yX10_aboutOf : MethodName := ⟨RX10, "aboutOf", "(I)I"⟩
abbrev cX10_putsNode : ByteArray := prog_12_method_39_code
def yX10_putsNode : MethodName := ⟨RX10, "putsNode", "(I)V"⟩
abbrev cX10_findSizes : ByteArray := prog_12_method_40_code
def yX10_findSizes : MethodName := ⟨RX10, "findSizes", "()V"⟩
abbrev cX10_plan : ByteArray := prog_12_method_41_code
def yX10_plan : MethodName := ⟨RX10, "plan", "(II)I"⟩
abbrev cX10_cost : ByteArray := prog_12_method_42_code
def yX10_cost : MethodName := ⟨RX10, "cost", "(II)I"⟩
abbrev cX10_nodeOf : ByteArray := prog_12_method_43_code
def yX10_nodeOf : MethodName := ⟨RX10, "nodeOf", "(II)I"⟩
abbrev cX10_passesFilters : ByteArray := prog_12_method_44_code
def yX10_passesFilters : MethodName := ⟨RX10, "passesFilters", "(I)Z"⟩
abbrev cX10_passesJoins : ByteArray := prog_12_method_45_code
def yX10_passesJoins : MethodName := ⟨RX10, "passesJoins", "(II)Z"⟩
abbrev cX10_nextOf : ByteArray := prog_12_method_46_code
def yX10_nextOf : MethodName := ⟨RX10, "nextOf", "(II)I"⟩
abbrev cX10_aheadOf : ByteArray := prog_12_method_47_code
def yX10_aheadOf : MethodName := ⟨RX10, "aheadOf", "(II)I"⟩
abbrev cX10_findReally : ByteArray := prog_12_method_48_code
def yX10_findReally : MethodName := ⟨RX10, "findReally", "(II)V"⟩
abbrev cX10_really : ByteArray := prog_12_method_49_code
def yX10_really : MethodName := ⟨RX10, "really", "(I)I"⟩
abbrev cX10_sum : ByteArray := prog_12_method_50_code
def yX10_sum : MethodName := ⟨RX10, "sum", "(II)J"⟩
abbrev cX10_wrongBy : ByteArray := prog_12_method_51_code
def yX10_wrongBy : MethodName := ⟨RX10, "wrongBy", "(I)I"⟩
abbrev cX10_isShelf : ByteArray := prog_12_method_52_code
def yX10_isShelf : MethodName := ⟨RX10, "isShelf", "(I)Z"⟩
abbrev cX10_isRow : ByteArray := prog_12_method_53_code
def yX10_isRow : MethodName := ⟨RX10, "isRow", "(I)Z"⟩
abbrev cX10_lowest : ByteArray := prog_12_method_54_code
def yX10_lowest : MethodName := ⟨RX10, "lowest", "(IJ)J"⟩
abbrev cX10_notRow : ByteArray := prog_12_method_55_code
def yX10_notRow : MethodName := ⟨RX10, "notRow", "(I)I"⟩
abbrev cX10_row : ByteArray := prog_12_method_56_code
def yX10_row : MethodName := ⟨RX10, "row", "(III)I"⟩
abbrev cX10_set : ByteArray := prog_12_method_57_code
def yX10_set : MethodName := ⟨RX10, "set", "(IIJ)I"⟩
abbrev cX10_notCopied : ByteArray := prog_12_method_58_code
def yX10_notCopied : MethodName := ⟨RX10, "notCopied", "(IIIII)I"⟩
abbrev cX10_copy : ByteArray := prog_12_method_59_code
def yX10_copy : MethodName := ⟨RX10, "copy", "(IIIII)I"⟩
abbrev cX10_element : ByteArray := prog_12_method_60_code
def yX10_element : MethodName := ⟨RX10, "element", "(II)J"⟩
abbrev cX10_show : ByteArray := prog_12_method_61_code
def yX10_show : MethodName := ⟨RX10, "show", "(II)I"⟩
abbrev cX10_holds : ByteArray := prog_12_method_62_code
def yX10_holds : MethodName := ⟨RX10, "holds", "(I)I"⟩
abbrev cX10_isSuch : ByteArray := prog_12_method_63_code
def yX10_isSuch : MethodName := ⟨RX10, "isSuch", "(II)Z"⟩
abbrev cX10_says : ByteArray := prog_12_method_64_code
def yX10_says : MethodName := ⟨RX10, "says", "(II)I"⟩
abbrev cX10_sign : ByteArray := prog_12_method_65_code
def yX10_sign : MethodName := ⟨RX10, "sign", "()I"⟩
abbrev cX10_isAt : ByteArray := prog_12_method_66_code
def yX10_isAt : MethodName := ⟨RX10, "isAt", "(I)Z"⟩
abbrev cX10_reads : ByteArray := prog_12_method_67_code
def yX10_reads : MethodName := ⟨RX10, "reads", "(I)Z"⟩
abbrev cX10_readsValue : ByteArray := prog_12_method_68_code
def yX10_readsValue : MethodName := ⟨RX10, "readsValue", "()I"⟩
abbrev cX10_readsLine : ByteArray := prog_12_method_69_code
def yX10_readsLine : MethodName := ⟨RX10, "readsLine", "(I)Z"⟩
abbrev cX10_readsItem : ByteArray := prog_12_method_70_code
def yX10_readsItem : MethodName := ⟨RX10, "readsItem", "()Z"⟩
abbrev cX10_readsAll : ByteArray := prog_12_method_71_code
def yX10_readsAll : MethodName := ⟨RX10, "readsAll", "()I"⟩
abbrev cX10_read : ByteArray := prog_12_method_72_code
def yX10_read : MethodName := ⟨RX10, "read", "(I)I"⟩
abbrev cX10_fault : ByteArray := prog_12_method_73_code
def yX10_fault : MethodName := ⟨RX10, "fault", "()I"⟩
abbrev cX10_line : ByteArray := prog_12_method_74_code
def yX10_line : MethodName := ⟨RX10, "line", "(IIII)I"⟩
abbrev cX10_empty : ByteArray := prog_12_method_75_code
def yX10_empty : MethodName := ⟨RX10, "empty", "(I)I"⟩
abbrev cX10_put : ByteArray := prog_12_method_76_code
def yX10_put : MethodName := ⟨RX10, "put", "(III)I"⟩
abbrev cX10_tableOf : ByteArray := prog_12_method_77_code
def yX10_tableOf : MethodName := ⟨RX10, "tableOf", "(II)I"⟩
abbrev cX10_lineOf : ByteArray := prog_12_method_78_code
def yX10_lineOf : MethodName := ⟨RX10, "lineOf", "(III)I"⟩
abbrev cX10_bucket : ByteArray := prog_12_method_79_code
def yX10_bucket : MethodName := ⟨RX10, "bucket", "(III)I"⟩
abbrev cX10_different : ByteArray := prog_12_method_80_code
def yX10_different : MethodName := ⟨RX10, "different", "(I)I"⟩
abbrev cX10_isAsked : ByteArray := prog_12_method_81_code
def yX10_isAsked : MethodName := ⟨RX10, "isAsked", "(II)Z"⟩
abbrev cX10_share : ByteArray := prog_12_method_82_code
def yX10_share : MethodName := ⟨RX10, "share", "(III)I"⟩
abbrev cX10_filter : ByteArray := prog_12_method_83_code
def yX10_filter : MethodName := ⟨RX10, "filter", "(III)I"⟩
abbrev cX10_join : ByteArray := prog_12_method_84_code
def yX10_join : MethodName := ⟨RX10, "join", "(II)I"⟩
abbrev cX10_clear : ByteArray := prog_12_method_85_code
def yX10_clear : MethodName := ⟨RX10, "clear", "()I"⟩
abbrev cX10_filterOf : ByteArray := prog_12_method_86_code
def yX10_filterOf : MethodName := ⟨RX10, "filterOf", "(II)I"⟩
abbrev cX10_joinOf : ByteArray := prog_12_method_87_code
def yX10_joinOf : MethodName := ⟨RX10, "joinOf", "(II)I"⟩
abbrev cX10_joinShare : ByteArray := prog_12_method_88_code
def yX10_joinShare : MethodName := ⟨RX10, "joinShare", "(I)I"⟩
abbrev cX10_thought : ByteArray := prog_12_method_89_code
def yX10_thought : MethodName := ⟨RX10, "thought", "(I)I"⟩
abbrev cX10_sorting : ByteArray := prog_12_method_90_code
def yX10_sorting : MethodName := ⟨RX10, "sorting", "(I)I"⟩
abbrev cX10_judge : ByteArray := prog_12_method_91_code
def yX10_judge : MethodName := ⟨RX10, "judge", "(II)I"⟩
abbrev cX10_draw : ByteArray := prog_12_method_92_code
def yX10_draw : MethodName := ⟨RX10, "draw", "(I)I"⟩
abbrev cX10_drawsLine : ByteArray := prog_12_method_93_code
def yX10_drawsLine : MethodName := ⟨RX10, "drawsLine", "()I"⟩
abbrev cX10_drawn : ByteArray := prog_12_method_94_code
def yX10_drawn : MethodName := ⟨RX10, "drawn", "(I)I"⟩
abbrev cX10_seed : ByteArray := prog_12_method_95_code
def yX10_seed : MethodName := ⟨RX10, "seed", "(I)I"⟩
abbrev cX10_passes : ByteArray := prog_12_method_96_code
def yX10_passes : MethodName := ⟨RX10, "passes", "([I)V"⟩
abbrev cX10_passOne : ByteArray := prog_12_method_97_code
def yX10_passOne : MethodName := ⟨RX10, "passOne", "(I)I"⟩
abbrev cX10_passesAll : ByteArray := prog_12_method_98_code
def yX10_passesAll : MethodName := ⟨RX10, "passesAll", "(Z)V"⟩
abbrev cX10_image : ByteArray := prog_12_method_99_code
def yX10_image : MethodName := ⟨RX10, "image", "()I"⟩
abbrev cX10_restore : ByteArray := prog_12_method_100_code
def yX10_restore : MethodName := ⟨RX10, "restore", "()I"⟩
abbrev cX10_status : ByteArray := prog_12_method_101_code
def yX10_status : MethodName := ⟨RX10, "status", "(I)I"⟩
def RJx145de : String := "java/io/Serializable"
def RJxb160c : String := "java/lang/Comparable"
def RJxf58ca : String := "java/lang/Float"
abbrev cJxf58ca_isNaN_12338 : ByteArray := prog_13_method_6_code
def yJxf58ca_isNaN_12338 : MethodName := ⟨RJxf58ca, "isNaN", "(F)Z"⟩
abbrev cJxf58ca_floatToIntBits_5c35a : ByteArray := prog_13_method_24_code
def yJxf58ca_floatToIntBits_5c35a : MethodName := ⟨RJxf58ca, "floatToIntBits", "(F)I"⟩
def RJ6 : String := "java/lang/Integer"
abbrev cJ6_bitCount_0f7a4 : ByteArray := prog_14_method_49_code
def yJ6_bitCount_0f7a4 : MethodName := ⟨RJ6, "bitCount", "(I)I"⟩
def RJ9 : String := "java/lang/Math"
abbrev cJ9_max_7cf53 : ByteArray := prog_15_method_65_code
def yJ9_max_7cf53 : MethodName := ⟨RJ9, "max", "(II)I"⟩
abbrev cJ9_min_7cf53 : ByteArray := prog_15_method_69_code
def yJ9_min_7cf53 : MethodName := ⟨RJ9, "min", "(II)I"⟩
def RJxd2413 : String := "java/lang/Number"
def RJ10 : String := "java/lang/System"
def RJxfd54e : String := "java/lang/constant/Constable"
def RJx3cf43 : String := "java/lang/constant/ConstantDesc"
def RJ7 : String := "java/util/Arrays"
abbrev cJ7_fill_d0a16 : ByteArray := prog_18_method_101_code
def yJ7_fill_d0a16 : MethodName := ⟨RJ7, "fill", "([JJ)V"⟩
abbrev cJ7_fill_53178 : ByteArray := prog_18_method_103_code
def yJ7_fill_53178 : MethodName := ⟨RJ7, "fill", "([II)V"⟩
def RL : String := "HistogramPlansLaw"
abbrev cL_law : ByteArray := code
def yL_law : MethodName := ⟨RL, "law", "([I)Z"⟩
abbrev vwCl : List vw_C := [(RX0, TX0, 7), (RX1, TX1, 6), (RX2, TX2, 7), (RX3, TX3, 10), (RX4, TX4, 5), (RX5, TX5, 4), (RX6, TX6, 7), (RX7, TX7, 4), (RX8, TX8, 9), (RX9, TX9, 12), (RX10, TX10, 59)]

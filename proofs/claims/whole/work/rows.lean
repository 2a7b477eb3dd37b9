section
-- ===== PART A: goes FIRST, ahead of the names: the tables' words, and 'selects' of the private methods out of them =====
/-- a private method of a class that the tables say can be made, by its rows of tables_1 -/
def lw_okq (q : MethodName × Nat) : Prop := (q.1.cls ≠ "java/lang/invoke/MethodHandle" ∧ q.1.cls ≠ "java/lang/invoke/VarHandle") ∧ Cond.instantiable q.1.cls q.2 ∈ tables_1 ∧ Cond.privateMethod q.1 ∈ tables_1 ∧ Cond.instanceMethod q.1 ∈ tables_1
theorem lw_p0 : lw_okq (⟨"HistogramPlans", "refuse", "(I)I"⟩, 12) := ⟨⟨by decide +kernel, by decide +kernel⟩, List.mem_of_getElem? (i := 19) (by decide +kernel), List.mem_of_getElem? (i := 389) (by decide +kernel), List.mem_of_getElem? (i := 390) (by decide +kernel)⟩
theorem lw_p1 : lw_okq (⟨"HistogramPlans", "whyNoRow", "(I)I"⟩, 12) := ⟨⟨by decide +kernel, by decide +kernel⟩, List.mem_of_getElem? (i := 19) (by decide +kernel), List.mem_of_getElem? (i := 404) (by decide +kernel), List.mem_of_getElem? (i := 405) (by decide +kernel)⟩
theorem lw_p2 : lw_okq (⟨"HistogramPlans", "isNode", "(I)Z"⟩, 12) := ⟨⟨by decide +kernel, by decide +kernel⟩, List.mem_of_getElem? (i := 19) (by decide +kernel), List.mem_of_getElem? (i := 433) (by decide +kernel), List.mem_of_getElem? (i := 434) (by decide +kernel)⟩
theorem lw_p3 : lw_okq (⟨"HistogramPlans$TextReader", "takes", "(I)Z"⟩, 7) := ⟨⟨by decide +kernel, by decide +kernel⟩, List.mem_of_getElem? (i := 241) (by decide +kernel), List.mem_of_getElem? (i := 491) (by decide +kernel), List.mem_of_getElem? (i := 492) (by decide +kernel)⟩
theorem lw_p4 : lw_okq (⟨"HistogramPlans$TextReader", "moves", "(ZI)Z"⟩, 7) := ⟨⟨by decide +kernel, by decide +kernel⟩, List.mem_of_getElem? (i := 241) (by decide +kernel), List.mem_of_getElem? (i := 495) (by decide +kernel), List.mem_of_getElem? (i := 496) (by decide +kernel)⟩
theorem lw_p5 : lw_okq (⟨"HistogramPlans$TextReader", "takesTable", "(I)Z"⟩, 7) := ⟨⟨by decide +kernel, by decide +kernel⟩, List.mem_of_getElem? (i := 241) (by decide +kernel), List.mem_of_getElem? (i := 499) (by decide +kernel), List.mem_of_getElem? (i := 500) (by decide +kernel)⟩
theorem lw_p6 : lw_okq (⟨"HistogramPlans$TextReader", "takesFirstDigit", "(I)Z"⟩, 7) := ⟨⟨by decide +kernel, by decide +kernel⟩, List.mem_of_getElem? (i := 241) (by decide +kernel), List.mem_of_getElem? (i := 503) (by decide +kernel), List.mem_of_getElem? (i := 504) (by decide +kernel)⟩
theorem lw_p7 : lw_okq (⟨"HistogramPlans$TextReader", "takesSecondDigit", "(I)Z"⟩, 7) := ⟨⟨by decide +kernel, by decide +kernel⟩, List.mem_of_getElem? (i := 241) (by decide +kernel), List.mem_of_getElem? (i := 510) (by decide +kernel), List.mem_of_getElem? (i := 511) (by decide +kernel)⟩
theorem lw_p8 : lw_okq (⟨"HistogramPlans$TextReader", "takesMark", "(I)Z"⟩, 7) := ⟨⟨by decide +kernel, by decide +kernel⟩, List.mem_of_getElem? (i := 241) (by decide +kernel), List.mem_of_getElem? (i := 514) (by decide +kernel), List.mem_of_getElem? (i := 515) (by decide +kernel)⟩
theorem lw_p9 : lw_okq (⟨"HistogramPlans$TextReader", "endsValue", "()Z"⟩, 7) := ⟨⟨by decide +kernel, by decide +kernel⟩, List.mem_of_getElem? (i := 241) (by decide +kernel), List.mem_of_getElem? (i := 518) (by decide +kernel), List.mem_of_getElem? (i := 519) (by decide +kernel)⟩
theorem lw_p10 : lw_okq (⟨"HistogramPlans$TextReader", "keepNumber", "()V"⟩, 7) := ⟨⟨by decide +kernel, by decide +kernel⟩, List.mem_of_getElem? (i := 241) (by decide +kernel), List.mem_of_getElem? (i := 522) (by decide +kernel), List.mem_of_getElem? (i := 523) (by decide +kernel)⟩
theorem lw_p11 : lw_okq (⟨"HistogramPlans$TextReader", "endLine", "()V"⟩, 7) := ⟨⟨by decide +kernel, by decide +kernel⟩, List.mem_of_getElem? (i := 241) (by decide +kernel), List.mem_of_getElem? (i := 526) (by decide +kernel), List.mem_of_getElem? (i := 527) (by decide +kernel)⟩
theorem lw_p12 : lw_okq (⟨"HistogramPlans$TextReader", "endItem", "()V"⟩, 7) := ⟨⟨by decide +kernel, by decide +kernel⟩, List.mem_of_getElem? (i := 241) (by decide +kernel), List.mem_of_getElem? (i := 530) (by decide +kernel), List.mem_of_getElem? (i := 531) (by decide +kernel)⟩
theorem lw_p13 : lw_okq (⟨"HistogramPlans$TextReader", "isBehindLine", "()Z"⟩, 7) := ⟨⟨by decide +kernel, by decide +kernel⟩, List.mem_of_getElem? (i := 241) (by decide +kernel), List.mem_of_getElem? (i := 534) (by decide +kernel), List.mem_of_getElem? (i := 535) (by decide +kernel)⟩
theorem lw_p14 : lw_okq (⟨"HistogramPlans", "refuseTenLower", "(I)I"⟩, 12) := ⟨⟨by decide +kernel, by decide +kernel⟩, List.mem_of_getElem? (i := 19) (by decide +kernel), List.mem_of_getElem? (i := 557) (by decide +kernel), List.mem_of_getElem? (i := 558) (by decide +kernel)⟩
theorem lw_p15 : lw_okq (⟨"HistogramPlans$Histogram", "insert", "(II)V"⟩, 7) := ⟨⟨by decide +kernel, by decide +kernel⟩, List.mem_of_getElem? (i := 130) (by decide +kernel), List.mem_of_getElem? (i := 586) (by decide +kernel), List.mem_of_getElem? (i := 587) (by decide +kernel)⟩
def lw_privs_1 : List (MethodName × Nat) := [(⟨"HistogramPlans", "refuse", "(I)I"⟩, 12), (⟨"HistogramPlans", "whyNoRow", "(I)I"⟩, 12), (⟨"HistogramPlans", "isNode", "(I)Z"⟩, 12), (⟨"HistogramPlans$TextReader", "takes", "(I)Z"⟩, 7), (⟨"HistogramPlans$TextReader", "moves", "(ZI)Z"⟩, 7), (⟨"HistogramPlans$TextReader", "takesTable", "(I)Z"⟩, 7), (⟨"HistogramPlans$TextReader", "takesFirstDigit", "(I)Z"⟩, 7), (⟨"HistogramPlans$TextReader", "takesSecondDigit", "(I)Z"⟩, 7), (⟨"HistogramPlans$TextReader", "takesMark", "(I)Z"⟩, 7), (⟨"HistogramPlans$TextReader", "endsValue", "()Z"⟩, 7), (⟨"HistogramPlans$TextReader", "keepNumber", "()V"⟩, 7), (⟨"HistogramPlans$TextReader", "endLine", "()V"⟩, 7), (⟨"HistogramPlans$TextReader", "endItem", "()V"⟩, 7), (⟨"HistogramPlans$TextReader", "isBehindLine", "()Z"⟩, 7), (⟨"HistogramPlans", "refuseTenLower", "(I)I"⟩, 12), (⟨"HistogramPlans$Histogram", "insert", "(II)V"⟩, 7)]
theorem lw_r1 : ∀ q ∈ lw_privs_1, lw_okq q := List.forall_mem_cons.mpr ⟨lw_p0, List.forall_mem_cons.mpr ⟨lw_p1, List.forall_mem_cons.mpr ⟨lw_p2, List.forall_mem_cons.mpr ⟨lw_p3, List.forall_mem_cons.mpr ⟨lw_p4, List.forall_mem_cons.mpr ⟨lw_p5, List.forall_mem_cons.mpr ⟨lw_p6, List.forall_mem_cons.mpr ⟨lw_p7, List.forall_mem_cons.mpr ⟨lw_p8, List.forall_mem_cons.mpr ⟨lw_p9, List.forall_mem_cons.mpr ⟨lw_p10, List.forall_mem_cons.mpr ⟨lw_p11, List.forall_mem_cons.mpr ⟨lw_p12, List.forall_mem_cons.mpr ⟨lw_p13, List.forall_mem_cons.mpr ⟨lw_p14, List.forall_mem_cons.mpr ⟨lw_p15, fun _ h => absurd h List.not_mem_nil⟩⟩⟩⟩⟩⟩⟩⟩⟩⟩⟩⟩⟩⟩⟩⟩
theorem lw_p16 : lw_okq (⟨"HistogramPlans$Histogram", "addBucket", "(II)V"⟩, 7) := ⟨⟨by decide +kernel, by decide +kernel⟩, List.mem_of_getElem? (i := 130) (by decide +kernel), List.mem_of_getElem? (i := 590) (by decide +kernel), List.mem_of_getElem? (i := 591) (by decide +kernel)⟩
theorem lw_p17 : lw_okq (⟨"HistogramPlans$Histogram", "differentIn", "(II)I"⟩, 7) := ⟨⟨by decide +kernel, by decide +kernel⟩, List.mem_of_getElem? (i := 130) (by decide +kernel), List.mem_of_getElem? (i := 594) (by decide +kernel), List.mem_of_getElem? (i := 595) (by decide +kernel)⟩
theorem lw_p18 : lw_okq (⟨"HistogramPlans$Histogram", "shareLess", "(I)F"⟩, 7) := ⟨⟨by decide +kernel, by decide +kernel⟩, List.mem_of_getElem? (i := 130) (by decide +kernel), List.mem_of_getElem? (i := 614) (by decide +kernel), List.mem_of_getElem? (i := 615) (by decide +kernel)⟩
theorem lw_p19 : lw_okq (⟨"HistogramPlans$Histogram", "shareEqual", "(I)F"⟩, 7) := ⟨⟨by decide +kernel, by decide +kernel⟩, List.mem_of_getElem? (i := 130) (by decide +kernel), List.mem_of_getElem? (i := 618) (by decide +kernel), List.mem_of_getElem? (i := 619) (by decide +kernel)⟩
theorem lw_p20 : lw_okq (⟨"HistogramPlans$Thoughts", "thoughtOfTable", "(I)F"⟩, 4) := ⟨⟨by decide +kernel, by decide +kernel⟩, List.mem_of_getElem? (i := 124) (by decide +kernel), List.mem_of_getElem? (i := 683) (by decide +kernel), List.mem_of_getElem? (i := 684) (by decide +kernel)⟩
theorem lw_p21 : lw_okq (⟨"HistogramPlans$Planner", "searchSet", "(I)V"⟩, 10) := ⟨⟨by decide +kernel, by decide +kernel⟩, List.mem_of_getElem? (i := 177) (by decide +kernel), List.mem_of_getElem? (i := 718) (by decide +kernel), List.mem_of_getElem? (i := 719) (by decide +kernel)⟩
theorem lw_p22 : lw_okq (⟨"HistogramPlans$Planner", "offerRead", "(I)V"⟩, 10) := ⟨⟨by decide +kernel, by decide +kernel⟩, List.mem_of_getElem? (i := 177) (by decide +kernel), List.mem_of_getElem? (i := 726) (by decide +kernel), List.mem_of_getElem? (i := 727) (by decide +kernel)⟩
theorem lw_p23 : lw_okq (⟨"HistogramPlans$Planner", "offer", "(IIFIII)V"⟩, 10) := ⟨⟨by decide +kernel, by decide +kernel⟩, List.mem_of_getElem? (i := 177) (by decide +kernel), List.mem_of_getElem? (i := 731) (by decide +kernel), List.mem_of_getElem? (i := 732) (by decide +kernel)⟩
theorem lw_p24 : lw_okq (⟨"HistogramPlans$Planner", "sizeOf", "(I)I"⟩, 10) := ⟨⟨by decide +kernel, by decide +kernel⟩, List.mem_of_getElem? (i := 177) (by decide +kernel), List.mem_of_getElem? (i := 735) (by decide +kernel), List.mem_of_getElem? (i := 736) (by decide +kernel)⟩
theorem lw_p25 : lw_okq (⟨"HistogramPlans$Planner", "offerPairs", "(I)V"⟩, 10) := ⟨⟨by decide +kernel, by decide +kernel⟩, List.mem_of_getElem? (i := 177) (by decide +kernel), List.mem_of_getElem? (i := 739) (by decide +kernel), List.mem_of_getElem? (i := 740) (by decide +kernel)⟩
theorem lw_p26 : lw_okq (⟨"HistogramPlans$Planner", "firstJoinBetween", "(II)I"⟩, 10) := ⟨⟨by decide +kernel, by decide +kernel⟩, List.mem_of_getElem? (i := 177) (by decide +kernel), List.mem_of_getElem? (i := 743) (by decide +kernel), List.mem_of_getElem? (i := 744) (by decide +kernel)⟩
theorem lw_p27 : lw_okq (⟨"HistogramPlans$Planner", "offerPair", "(III)V"⟩, 10) := ⟨⟨by decide +kernel, by decide +kernel⟩, List.mem_of_getElem? (i := 177) (by decide +kernel), List.mem_of_getElem? (i := 748) (by decide +kernel), List.mem_of_getElem? (i := 749) (by decide +kernel)⟩
theorem lw_p28 : lw_okq (⟨"HistogramPlans$Planner", "offerSorts", "(I)V"⟩, 10) := ⟨⟨by decide +kernel, by decide +kernel⟩, List.mem_of_getElem? (i := 177) (by decide +kernel), List.mem_of_getElem? (i := 756) (by decide +kernel), List.mem_of_getElem? (i := 757) (by decide +kernel)⟩
theorem lw_p29 : lw_okq (⟨"HistogramPlans$Planner", "lay", "(II)V"⟩, 10) := ⟨⟨by decide +kernel, by decide +kernel⟩, List.mem_of_getElem? (i := 177) (by decide +kernel), List.mem_of_getElem? (i := 771) (by decide +kernel), List.mem_of_getElem? (i := 772) (by decide +kernel)⟩
theorem lw_p30 : lw_okq (⟨"HistogramPlans$Planner", "describe", "(ILHistogramPlans$Node;)V"⟩, 10) := ⟨⟨by decide +kernel, by decide +kernel⟩, List.mem_of_getElem? (i := 177) (by decide +kernel), List.mem_of_getElem? (i := 775) (by decide +kernel), List.mem_of_getElem? (i := 776) (by decide +kernel)⟩
theorem lw_p31 : lw_okq (⟨"HistogramPlans$Matches", "chooseMembers", "(II)V"⟩, 6) := ⟨⟨by decide +kernel, by decide +kernel⟩, List.mem_of_getElem? (i := 216) (by decide +kernel), List.mem_of_getElem? (i := 793) (by decide +kernel), List.mem_of_getElem? (i := 794) (by decide +kernel)⟩
def lw_privs_2 : List (MethodName × Nat) := [(⟨"HistogramPlans$Histogram", "addBucket", "(II)V"⟩, 7), (⟨"HistogramPlans$Histogram", "differentIn", "(II)I"⟩, 7), (⟨"HistogramPlans$Histogram", "shareLess", "(I)F"⟩, 7), (⟨"HistogramPlans$Histogram", "shareEqual", "(I)F"⟩, 7), (⟨"HistogramPlans$Thoughts", "thoughtOfTable", "(I)F"⟩, 4), (⟨"HistogramPlans$Planner", "searchSet", "(I)V"⟩, 10), (⟨"HistogramPlans$Planner", "offerRead", "(I)V"⟩, 10), (⟨"HistogramPlans$Planner", "offer", "(IIFIII)V"⟩, 10), (⟨"HistogramPlans$Planner", "sizeOf", "(I)I"⟩, 10), (⟨"HistogramPlans$Planner", "offerPairs", "(I)V"⟩, 10), (⟨"HistogramPlans$Planner", "firstJoinBetween", "(II)I"⟩, 10), (⟨"HistogramPlans$Planner", "offerPair", "(III)V"⟩, 10), (⟨"HistogramPlans$Planner", "offerSorts", "(I)V"⟩, 10), (⟨"HistogramPlans$Planner", "lay", "(II)V"⟩, 10), (⟨"HistogramPlans$Planner", "describe", "(ILHistogramPlans$Node;)V"⟩, 10), (⟨"HistogramPlans$Matches", "chooseMembers", "(II)V"⟩, 6)]
theorem lw_r2 : ∀ q ∈ lw_privs_2, lw_okq q := List.forall_mem_cons.mpr ⟨lw_p16, List.forall_mem_cons.mpr ⟨lw_p17, List.forall_mem_cons.mpr ⟨lw_p18, List.forall_mem_cons.mpr ⟨lw_p19, List.forall_mem_cons.mpr ⟨lw_p20, List.forall_mem_cons.mpr ⟨lw_p21, List.forall_mem_cons.mpr ⟨lw_p22, List.forall_mem_cons.mpr ⟨lw_p23, List.forall_mem_cons.mpr ⟨lw_p24, List.forall_mem_cons.mpr ⟨lw_p25, List.forall_mem_cons.mpr ⟨lw_p26, List.forall_mem_cons.mpr ⟨lw_p27, List.forall_mem_cons.mpr ⟨lw_p28, List.forall_mem_cons.mpr ⟨lw_p29, List.forall_mem_cons.mpr ⟨lw_p30, List.forall_mem_cons.mpr ⟨lw_p31, fun _ h => absurd h List.not_mem_nil⟩⟩⟩⟩⟩⟩⟩⟩⟩⟩⟩⟩⟩⟩⟩⟩
theorem lw_p32 : lw_okq (⟨"HistogramPlans$Matches", "passFilters", "()V"⟩, 6) := ⟨⟨by decide +kernel, by decide +kernel⟩, List.mem_of_getElem? (i := 216) (by decide +kernel), List.mem_of_getElem? (i := 797) (by decide +kernel), List.mem_of_getElem? (i := 798) (by decide +kernel)⟩
theorem lw_p33 : lw_okq (⟨"HistogramPlans$Matches", "passes", "(II)Z"⟩, 6) := ⟨⟨by decide +kernel, by decide +kernel⟩, List.mem_of_getElem? (i := 216) (by decide +kernel), List.mem_of_getElem? (i := 802) (by decide +kernel), List.mem_of_getElem? (i := 803) (by decide +kernel)⟩
theorem lw_p34 : lw_okq (⟨"HistogramPlans$Matches", "pairLines", "(I)V"⟩, 6) := ⟨⟨by decide +kernel, by decide +kernel⟩, List.mem_of_getElem? (i := 216) (by decide +kernel), List.mem_of_getElem? (i := 806) (by decide +kernel), List.mem_of_getElem? (i := 807) (by decide +kernel)⟩
theorem lw_p35 : lw_okq (⟨"HistogramPlans$Matches", "pairLinesBy", "(II)V"⟩, 6) := ⟨⟨by decide +kernel, by decide +kernel⟩, List.mem_of_getElem? (i := 216) (by decide +kernel), List.mem_of_getElem? (i := 813) (by decide +kernel), List.mem_of_getElem? (i := 814) (by decide +kernel)⟩
theorem lw_p36 : lw_okq (⟨"HistogramPlans$Matches", "narrow", "(II)Z"⟩, 6) := ⟨⟨by decide +kernel, by decide +kernel⟩, List.mem_of_getElem? (i := 216) (by decide +kernel), List.mem_of_getElem? (i := 821) (by decide +kernel), List.mem_of_getElem? (i := 822) (by decide +kernel)⟩
theorem lw_p37 : lw_okq (⟨"HistogramPlans$World", "drawBelow", "(I)I"⟩, 9) := ⟨⟨by decide +kernel, by decide +kernel⟩, List.mem_of_getElem? (i := 27) (by decide +kernel), List.mem_of_getElem? (i := 864) (by decide +kernel), List.mem_of_getElem? (i := 865) (by decide +kernel)⟩
theorem lw_p38 : lw_okq (⟨"HistogramPlansModel", "no", "(I)I"⟩, 59) := ⟨⟨by decide +kernel, by decide +kernel⟩, List.mem_of_getElem? (i := 900) (by decide +kernel), List.mem_of_getElem? (i := 1097) (by decide +kernel), List.mem_of_getElem? (i := 1098) (by decide +kernel)⟩
theorem lw_p39 : lw_okq (⟨"HistogramPlansModel", "findBest", "()V"⟩, 59) := ⟨⟨by decide +kernel, by decide +kernel⟩, List.mem_of_getElem? (i := 900) (by decide +kernel), List.mem_of_getElem? (i := 1101) (by decide +kernel), List.mem_of_getElem? (i := 1102) (by decide +kernel)⟩
theorem lw_p40 : lw_okq (⟨"HistogramPlansModel", "thoughtOf", "(I)F"⟩, 59) := ⟨⟨by decide +kernel, by decide +kernel⟩, List.mem_of_getElem? (i := 900) (by decide +kernel), List.mem_of_getElem? (i := 1105) (by decide +kernel), List.mem_of_getElem? (i := 1106) (by decide +kernel)⟩
theorem lw_p41 : lw_okq (⟨"HistogramPlansModel", "thoughtOfTable", "(I)F"⟩, 59) := ⟨⟨by decide +kernel, by decide +kernel⟩, List.mem_of_getElem? (i := 900) (by decide +kernel), List.mem_of_getElem? (i := 1112) (by decide +kernel), List.mem_of_getElem? (i := 1113) (by decide +kernel)⟩
theorem lw_p42 : lw_okq (⟨"HistogramPlansModel", "shareOf", "(III)F"⟩, 59) := ⟨⟨by decide +kernel, by decide +kernel⟩, List.mem_of_getElem? (i := 900) (by decide +kernel), List.mem_of_getElem? (i := 1116) (by decide +kernel), List.mem_of_getElem? (i := 1117) (by decide +kernel)⟩
theorem lw_p43 : lw_okq (⟨"HistogramPlansModel", "findBuckets", "(I)V"⟩, 59) := ⟨⟨by decide +kernel, by decide +kernel⟩, List.mem_of_getElem? (i := 900) (by decide +kernel), List.mem_of_getElem? (i := 1120) (by decide +kernel), List.mem_of_getElem? (i := 1121) (by decide +kernel)⟩
theorem lw_p44 : lw_okq (⟨"HistogramPlansModel", "sorts", "(I)I"⟩, 59) := ⟨⟨by decide +kernel, by decide +kernel⟩, List.mem_of_getElem? (i := 900) (by decide +kernel), List.mem_of_getElem? (i := 1124) (by decide +kernel), List.mem_of_getElem? (i := 1125) (by decide +kernel)⟩
theorem lw_p45 : lw_okq (⟨"HistogramPlansModel", "valueAt", "(II)I"⟩, 59) := ⟨⟨by decide +kernel, by decide +kernel⟩, List.mem_of_getElem? (i := 900) (by decide +kernel), List.mem_of_getElem? (i := 1128) (by decide +kernel), List.mem_of_getElem? (i := 1129) (by decide +kernel)⟩
theorem lw_p46 : lw_okq (⟨"HistogramPlansModel", "differentFrom", "(II)I"⟩, 59) := ⟨⟨by decide +kernel, by decide +kernel⟩, List.mem_of_getElem? (i := 900) (by decide +kernel), List.mem_of_getElem? (i := 1132) (by decide +kernel), List.mem_of_getElem? (i := 1133) (by decide +kernel)⟩
theorem lw_p47 : lw_okq (⟨"HistogramPlansModel", "less", "(II)F"⟩, 59) := ⟨⟨by decide +kernel, by decide +kernel⟩, List.mem_of_getElem? (i := 900) (by decide +kernel), List.mem_of_getElem? (i := 1136) (by decide +kernel), List.mem_of_getElem? (i := 1137) (by decide +kernel)⟩
def lw_privs_3 : List (MethodName × Nat) := [(⟨"HistogramPlans$Matches", "passFilters", "()V"⟩, 6), (⟨"HistogramPlans$Matches", "passes", "(II)Z"⟩, 6), (⟨"HistogramPlans$Matches", "pairLines", "(I)V"⟩, 6), (⟨"HistogramPlans$Matches", "pairLinesBy", "(II)V"⟩, 6), (⟨"HistogramPlans$Matches", "narrow", "(II)Z"⟩, 6), (⟨"HistogramPlans$World", "drawBelow", "(I)I"⟩, 9), (⟨"HistogramPlansModel", "no", "(I)I"⟩, 59), (⟨"HistogramPlansModel", "findBest", "()V"⟩, 59), (⟨"HistogramPlansModel", "thoughtOf", "(I)F"⟩, 59), (⟨"HistogramPlansModel", "thoughtOfTable", "(I)F"⟩, 59), (⟨"HistogramPlansModel", "shareOf", "(III)F"⟩, 59), (⟨"HistogramPlansModel", "findBuckets", "(I)V"⟩, 59), (⟨"HistogramPlansModel", "sorts", "(I)I"⟩, 59), (⟨"HistogramPlansModel", "valueAt", "(II)I"⟩, 59), (⟨"HistogramPlansModel", "differentFrom", "(II)I"⟩, 59), (⟨"HistogramPlansModel", "less", "(II)F"⟩, 59)]
theorem lw_r3 : ∀ q ∈ lw_privs_3, lw_okq q := List.forall_mem_cons.mpr ⟨lw_p32, List.forall_mem_cons.mpr ⟨lw_p33, List.forall_mem_cons.mpr ⟨lw_p34, List.forall_mem_cons.mpr ⟨lw_p35, List.forall_mem_cons.mpr ⟨lw_p36, List.forall_mem_cons.mpr ⟨lw_p37, List.forall_mem_cons.mpr ⟨lw_p38, List.forall_mem_cons.mpr ⟨lw_p39, List.forall_mem_cons.mpr ⟨lw_p40, List.forall_mem_cons.mpr ⟨lw_p41, List.forall_mem_cons.mpr ⟨lw_p42, List.forall_mem_cons.mpr ⟨lw_p43, List.forall_mem_cons.mpr ⟨lw_p44, List.forall_mem_cons.mpr ⟨lw_p45, List.forall_mem_cons.mpr ⟨lw_p46, List.forall_mem_cons.mpr ⟨lw_p47, fun _ h => absurd h List.not_mem_nil⟩⟩⟩⟩⟩⟩⟩⟩⟩⟩⟩⟩⟩⟩⟩⟩
theorem lw_p48 : lw_okq (⟨"HistogramPlansModel", "equal", "(II)F"⟩, 59) := ⟨⟨by decide +kernel, by decide +kernel⟩, List.mem_of_getElem? (i := 900) (by decide +kernel), List.mem_of_getElem? (i := 1140) (by decide +kernel), List.mem_of_getElem? (i := 1141) (by decide +kernel)⟩
theorem lw_p49 : lw_okq (⟨"HistogramPlansModel", "isWithin", "(II)Z"⟩, 59) := ⟨⟨by decide +kernel, by decide +kernel⟩, List.mem_of_getElem? (i := 900) (by decide +kernel), List.mem_of_getElem? (i := 1144) (by decide +kernel), List.mem_of_getElem? (i := 1145) (by decide +kernel)⟩
theorem lw_p50 : lw_okq (⟨"HistogramPlansModel", "shareOfJoin", "(I)F"⟩, 59) := ⟨⟨by decide +kernel, by decide +kernel⟩, List.mem_of_getElem? (i := 900) (by decide +kernel), List.mem_of_getElem? (i := 1148) (by decide +kernel), List.mem_of_getElem? (i := 1149) (by decide +kernel)⟩
theorem lw_p51 : lw_okq (⟨"HistogramPlansModel", "differentOf", "(I)I"⟩, 59) := ⟨⟨by decide +kernel, by decide +kernel⟩, List.mem_of_getElem? (i := 900) (by decide +kernel), List.mem_of_getElem? (i := 1152) (by decide +kernel), List.mem_of_getElem? (i := 1153) (by decide +kernel)⟩
theorem lw_p52 : lw_okq (⟨"HistogramPlansModel", "offersAll", "()V"⟩, 59) := ⟨⟨by decide +kernel, by decide +kernel⟩, List.mem_of_getElem? (i := 900) (by decide +kernel), List.mem_of_getElem? (i := 1156) (by decide +kernel), List.mem_of_getElem? (i := 1157) (by decide +kernel)⟩
theorem lw_p53 : lw_okq (⟨"HistogramPlansModel", "offers", "(IFII)V"⟩, 59) := ⟨⟨by decide +kernel, by decide +kernel⟩, List.mem_of_getElem? (i := 900) (by decide +kernel), List.mem_of_getElem? (i := 1163) (by decide +kernel), List.mem_of_getElem? (i := 1164) (by decide +kernel)⟩
theorem lw_p54 : lw_okq (⟨"HistogramPlansModel", "offersSplit", "(I)V"⟩, 59) := ⟨⟨by decide +kernel, by decide +kernel⟩, List.mem_of_getElem? (i := 900) (by decide +kernel), List.mem_of_getElem? (i := 1167) (by decide +kernel), List.mem_of_getElem? (i := 1168) (by decide +kernel)⟩
theorem lw_p55 : lw_okq (⟨"HistogramPlansModel", "joinBetween", "(II)I"⟩, 59) := ⟨⟨by decide +kernel, by decide +kernel⟩, List.mem_of_getElem? (i := 900) (by decide +kernel), List.mem_of_getElem? (i := 1171) (by decide +kernel), List.mem_of_getElem? (i := 1172) (by decide +kernel)⟩
theorem lw_p56 : lw_okq (⟨"HistogramPlansModel", "isBest", "(II)Z"⟩, 59) := ⟨⟨by decide +kernel, by decide +kernel⟩, List.mem_of_getElem? (i := 900) (by decide +kernel), List.mem_of_getElem? (i := 1175) (by decide +kernel), List.mem_of_getElem? (i := 1176) (by decide +kernel)⟩
theorem lw_p57 : lw_okq (⟨"HistogramPlansModel", "best", "(II)F"⟩, 59) := ⟨⟨by decide +kernel, by decide +kernel⟩, List.mem_of_getElem? (i := 900) (by decide +kernel), List.mem_of_getElem? (i := 1179) (by decide +kernel), List.mem_of_getElem? (i := 1180) (by decide +kernel)⟩
theorem lw_p58 : lw_okq (⟨"HistogramPlansModel", "offersLoop", "(III)V"⟩, 59) := ⟨⟨by decide +kernel, by decide +kernel⟩, List.mem_of_getElem? (i := 900) (by decide +kernel), List.mem_of_getElem? (i := 1183) (by decide +kernel), List.mem_of_getElem? (i := 1184) (by decide +kernel)⟩
theorem lw_p59 : lw_okq (⟨"HistogramPlansModel", "isPlaceIn", "(II)Z"⟩, 59) := ⟨⟨by decide +kernel, by decide +kernel⟩, List.mem_of_getElem? (i := 900) (by decide +kernel), List.mem_of_getElem? (i := 1187) (by decide +kernel), List.mem_of_getElem? (i := 1188) (by decide +kernel)⟩
theorem lw_p60 : lw_okq (⟨"HistogramPlansModel", "offersMerge", "(III)V"⟩, 59) := ⟨⟨by decide +kernel, by decide +kernel⟩, List.mem_of_getElem? (i := 900) (by decide +kernel), List.mem_of_getElem? (i := 1191) (by decide +kernel), List.mem_of_getElem? (i := 1192) (by decide +kernel)⟩
theorem lw_p61 : lw_okq (⟨"HistogramPlansModel", "placeIn", "(II)I"⟩, 59) := ⟨⟨by decide +kernel, by decide +kernel⟩, List.mem_of_getElem? (i := 900) (by decide +kernel), List.mem_of_getElem? (i := 1195) (by decide +kernel), List.mem_of_getElem? (i := 1196) (by decide +kernel)⟩
theorem lw_p62 : lw_okq (⟨"HistogramPlansModel", "sortingOf", "(I)F"⟩, 59) := ⟨⟨by decide +kernel, by decide +kernel⟩, List.mem_of_getElem? (i := 900) (by decide +kernel), List.mem_of_getElem? (i := 1199) (by decide +kernel), List.mem_of_getElem? (i := 1200) (by decide +kernel)⟩
theorem lw_p63 : lw_okq (⟨"HistogramPlansModel", "opens", "(II)V"⟩, 59) := ⟨⟨by decide +kernel, by decide +kernel⟩, List.mem_of_getElem? (i := 900) (by decide +kernel), List.mem_of_getElem? (i := 1203) (by decide +kernel), List.mem_of_getElem? (i := 1204) (by decide +kernel)⟩
def lw_privs_4 : List (MethodName × Nat) := [(⟨"HistogramPlansModel", "equal", "(II)F"⟩, 59), (⟨"HistogramPlansModel", "isWithin", "(II)Z"⟩, 59), (⟨"HistogramPlansModel", "shareOfJoin", "(I)F"⟩, 59), (⟨"HistogramPlansModel", "differentOf", "(I)I"⟩, 59), (⟨"HistogramPlansModel", "offersAll", "()V"⟩, 59), (⟨"HistogramPlansModel", "offers", "(IFII)V"⟩, 59), (⟨"HistogramPlansModel", "offersSplit", "(I)V"⟩, 59), (⟨"HistogramPlansModel", "joinBetween", "(II)I"⟩, 59), (⟨"HistogramPlansModel", "isBest", "(II)Z"⟩, 59), (⟨"HistogramPlansModel", "best", "(II)F"⟩, 59), (⟨"HistogramPlansModel", "offersLoop", "(III)V"⟩, 59), (⟨"HistogramPlansModel", "isPlaceIn", "(II)Z"⟩, 59), (⟨"HistogramPlansModel", "offersMerge", "(III)V"⟩, 59), (⟨"HistogramPlansModel", "placeIn", "(II)I"⟩, 59), (⟨"HistogramPlansModel", "sortingOf", "(I)F"⟩, 59), (⟨"HistogramPlansModel", "opens", "(II)V"⟩, 59)]
theorem lw_r4 : ∀ q ∈ lw_privs_4, lw_okq q := List.forall_mem_cons.mpr ⟨lw_p48, List.forall_mem_cons.mpr ⟨lw_p49, List.forall_mem_cons.mpr ⟨lw_p50, List.forall_mem_cons.mpr ⟨lw_p51, List.forall_mem_cons.mpr ⟨lw_p52, List.forall_mem_cons.mpr ⟨lw_p53, List.forall_mem_cons.mpr ⟨lw_p54, List.forall_mem_cons.mpr ⟨lw_p55, List.forall_mem_cons.mpr ⟨lw_p56, List.forall_mem_cons.mpr ⟨lw_p57, List.forall_mem_cons.mpr ⟨lw_p58, List.forall_mem_cons.mpr ⟨lw_p59, List.forall_mem_cons.mpr ⟨lw_p60, List.forall_mem_cons.mpr ⟨lw_p61, List.forall_mem_cons.mpr ⟨lw_p62, List.forall_mem_cons.mpr ⟨lw_p63, fun _ h => absurd h List.not_mem_nil⟩⟩⟩⟩⟩⟩⟩⟩⟩⟩⟩⟩⟩⟩⟩⟩
theorem lw_p64 : lw_okq (⟨"HistogramPlansModel", "putsNode", "(I)V"⟩, 59) := ⟨⟨by decide +kernel, by decide +kernel⟩, List.mem_of_getElem? (i := 900) (by decide +kernel), List.mem_of_getElem? (i := 1207) (by decide +kernel), List.mem_of_getElem? (i := 1208) (by decide +kernel)⟩
theorem lw_p65 : lw_okq (⟨"HistogramPlansModel", "aboutOf", "(I)I"⟩, 59) := ⟨⟨by decide +kernel, by decide +kernel⟩, List.mem_of_getElem? (i := 900) (by decide +kernel), List.mem_of_getElem? (i := 1221) (by decide +kernel), List.mem_of_getElem? (i := 1222) (by decide +kernel)⟩
theorem lw_p66 : lw_okq (⟨"HistogramPlansModel", "opensBelow", "(I)V"⟩, 59) := ⟨⟨by decide +kernel, by decide +kernel⟩, List.mem_of_getElem? (i := 900) (by decide +kernel), List.mem_of_getElem? (i := 1225) (by decide +kernel), List.mem_of_getElem? (i := 1226) (by decide +kernel)⟩
theorem lw_p67 : lw_okq (⟨"HistogramPlansModel", "findSizes", "()V"⟩, 59) := ⟨⟨by decide +kernel, by decide +kernel⟩, List.mem_of_getElem? (i := 900) (by decide +kernel), List.mem_of_getElem? (i := 1229) (by decide +kernel), List.mem_of_getElem? (i := 1230) (by decide +kernel)⟩
theorem lw_p68 : lw_okq (⟨"HistogramPlansModel", "findReally", "(II)V"⟩, 59) := ⟨⟨by decide +kernel, by decide +kernel⟩, List.mem_of_getElem? (i := 900) (by decide +kernel), List.mem_of_getElem? (i := 1245) (by decide +kernel), List.mem_of_getElem? (i := 1246) (by decide +kernel)⟩
theorem lw_p69 : lw_okq (⟨"HistogramPlansModel", "passesFilters", "(I)Z"⟩, 59) := ⟨⟨by decide +kernel, by decide +kernel⟩, List.mem_of_getElem? (i := 900) (by decide +kernel), List.mem_of_getElem? (i := 1256) (by decide +kernel), List.mem_of_getElem? (i := 1257) (by decide +kernel)⟩
theorem lw_p70 : lw_okq (⟨"HistogramPlansModel", "passesJoins", "(II)Z"⟩, 59) := ⟨⟨by decide +kernel, by decide +kernel⟩, List.mem_of_getElem? (i := 900) (by decide +kernel), List.mem_of_getElem? (i := 1260) (by decide +kernel), List.mem_of_getElem? (i := 1261) (by decide +kernel)⟩
theorem lw_p71 : lw_okq (⟨"HistogramPlansModel", "notRow", "(I)I"⟩, 59) := ⟨⟨by decide +kernel, by decide +kernel⟩, List.mem_of_getElem? (i := 900) (by decide +kernel), List.mem_of_getElem? (i := 1286) (by decide +kernel), List.mem_of_getElem? (i := 1287) (by decide +kernel)⟩
theorem lw_p72 : lw_okq (⟨"HistogramPlansModel", "notCopied", "(IIIII)I"⟩, 59) := ⟨⟨by decide +kernel, by decide +kernel⟩, List.mem_of_getElem? (i := 900) (by decide +kernel), List.mem_of_getElem? (i := 1297) (by decide +kernel), List.mem_of_getElem? (i := 1298) (by decide +kernel)⟩
theorem lw_p73 : lw_okq (⟨"HistogramPlansModel", "isRow", "(I)Z"⟩, 59) := ⟨⟨by decide +kernel, by decide +kernel⟩, List.mem_of_getElem? (i := 900) (by decide +kernel), List.mem_of_getElem? (i := 1305) (by decide +kernel), List.mem_of_getElem? (i := 1306) (by decide +kernel)⟩
theorem lw_p74 : lw_okq (⟨"HistogramPlansModel", "readsAll", "()I"⟩, 59) := ⟨⟨by decide +kernel, by decide +kernel⟩, List.mem_of_getElem? (i := 900) (by decide +kernel), List.mem_of_getElem? (i := 1328) (by decide +kernel), List.mem_of_getElem? (i := 1329) (by decide +kernel)⟩
theorem lw_p75 : lw_okq (⟨"HistogramPlansModel", "readsItem", "()Z"⟩, 59) := ⟨⟨by decide +kernel, by decide +kernel⟩, List.mem_of_getElem? (i := 900) (by decide +kernel), List.mem_of_getElem? (i := 1332) (by decide +kernel), List.mem_of_getElem? (i := 1333) (by decide +kernel)⟩
theorem lw_p76 : lw_okq (⟨"HistogramPlansModel", "reads", "(I)Z"⟩, 59) := ⟨⟨by decide +kernel, by decide +kernel⟩, List.mem_of_getElem? (i := 900) (by decide +kernel), List.mem_of_getElem? (i := 1336) (by decide +kernel), List.mem_of_getElem? (i := 1337) (by decide +kernel)⟩
theorem lw_p77 : lw_okq (⟨"HistogramPlansModel", "isAt", "(I)Z"⟩, 59) := ⟨⟨by decide +kernel, by decide +kernel⟩, List.mem_of_getElem? (i := 900) (by decide +kernel), List.mem_of_getElem? (i := 1340) (by decide +kernel), List.mem_of_getElem? (i := 1341) (by decide +kernel)⟩
theorem lw_p78 : lw_okq (⟨"HistogramPlansModel", "sign", "()I"⟩, 59) := ⟨⟨by decide +kernel, by decide +kernel⟩, List.mem_of_getElem? (i := 900) (by decide +kernel), List.mem_of_getElem? (i := 1344) (by decide +kernel), List.mem_of_getElem? (i := 1345) (by decide +kernel)⟩
theorem lw_p79 : lw_okq (⟨"HistogramPlansModel", "readsLine", "(I)Z"⟩, 59) := ⟨⟨by decide +kernel, by decide +kernel⟩, List.mem_of_getElem? (i := 900) (by decide +kernel), List.mem_of_getElem? (i := 1348) (by decide +kernel), List.mem_of_getElem? (i := 1349) (by decide +kernel)⟩
def lw_privs_5 : List (MethodName × Nat) := [(⟨"HistogramPlansModel", "putsNode", "(I)V"⟩, 59), (⟨"HistogramPlansModel", "aboutOf", "(I)I"⟩, 59), (⟨"HistogramPlansModel", "opensBelow", "(I)V"⟩, 59), (⟨"HistogramPlansModel", "findSizes", "()V"⟩, 59), (⟨"HistogramPlansModel", "findReally", "(II)V"⟩, 59), (⟨"HistogramPlansModel", "passesFilters", "(I)Z"⟩, 59), (⟨"HistogramPlansModel", "passesJoins", "(II)Z"⟩, 59), (⟨"HistogramPlansModel", "notRow", "(I)I"⟩, 59), (⟨"HistogramPlansModel", "notCopied", "(IIIII)I"⟩, 59), (⟨"HistogramPlansModel", "isRow", "(I)Z"⟩, 59), (⟨"HistogramPlansModel", "readsAll", "()I"⟩, 59), (⟨"HistogramPlansModel", "readsItem", "()Z"⟩, 59), (⟨"HistogramPlansModel", "reads", "(I)Z"⟩, 59), (⟨"HistogramPlansModel", "isAt", "(I)Z"⟩, 59), (⟨"HistogramPlansModel", "sign", "()I"⟩, 59), (⟨"HistogramPlansModel", "readsLine", "(I)Z"⟩, 59)]
theorem lw_r5 : ∀ q ∈ lw_privs_5, lw_okq q := List.forall_mem_cons.mpr ⟨lw_p64, List.forall_mem_cons.mpr ⟨lw_p65, List.forall_mem_cons.mpr ⟨lw_p66, List.forall_mem_cons.mpr ⟨lw_p67, List.forall_mem_cons.mpr ⟨lw_p68, List.forall_mem_cons.mpr ⟨lw_p69, List.forall_mem_cons.mpr ⟨lw_p70, List.forall_mem_cons.mpr ⟨lw_p71, List.forall_mem_cons.mpr ⟨lw_p72, List.forall_mem_cons.mpr ⟨lw_p73, List.forall_mem_cons.mpr ⟨lw_p74, List.forall_mem_cons.mpr ⟨lw_p75, List.forall_mem_cons.mpr ⟨lw_p76, List.forall_mem_cons.mpr ⟨lw_p77, List.forall_mem_cons.mpr ⟨lw_p78, List.forall_mem_cons.mpr ⟨lw_p79, fun _ h => absurd h List.not_mem_nil⟩⟩⟩⟩⟩⟩⟩⟩⟩⟩⟩⟩⟩⟩⟩⟩
theorem lw_p80 : lw_okq (⟨"HistogramPlansModel", "readsValue", "()I"⟩, 59) := ⟨⟨by decide +kernel, by decide +kernel⟩, List.mem_of_getElem? (i := 900) (by decide +kernel), List.mem_of_getElem? (i := 1352) (by decide +kernel), List.mem_of_getElem? (i := 1353) (by decide +kernel)⟩
theorem lw_p81 : lw_okq (⟨"HistogramPlansModel", "putsLine", "(IIII)V"⟩, 59) := ⟨⟨by decide +kernel, by decide +kernel⟩, List.mem_of_getElem? (i := 900) (by decide +kernel), List.mem_of_getElem? (i := 1356) (by decide +kernel), List.mem_of_getElem? (i := 1357) (by decide +kernel)⟩
theorem lw_p82 : lw_okq (⟨"HistogramPlansModel", "drawsLine", "()I"⟩, 59) := ⟨⟨by decide +kernel, by decide +kernel⟩, List.mem_of_getElem? (i := 900) (by decide +kernel), List.mem_of_getElem? (i := 1442) (by decide +kernel), List.mem_of_getElem? (i := 1443) (by decide +kernel)⟩
theorem lw_p83 : lw_okq (⟨"HistogramPlansModel", "draw", "(I)I"⟩, 59) := ⟨⟨by decide +kernel, by decide +kernel⟩, List.mem_of_getElem? (i := 900) (by decide +kernel), List.mem_of_getElem? (i := 1446) (by decide +kernel), List.mem_of_getElem? (i := 1447) (by decide +kernel)⟩
theorem lw_p84 : lw_okq (⟨"HistogramPlansModel", "passesAll", "(Z)V"⟩, 59) := ⟨⟨by decide +kernel, by decide +kernel⟩, List.mem_of_getElem? (i := 900) (by decide +kernel), List.mem_of_getElem? (i := 1459) (by decide +kernel), List.mem_of_getElem? (i := 1460) (by decide +kernel)⟩
theorem lw_p85 : lw_okq (⟨"HistogramPlansModel", "passes", "([I)V"⟩, 59) := ⟨⟨by decide +kernel, by decide +kernel⟩, List.mem_of_getElem? (i := 900) (by decide +kernel), List.mem_of_getElem? (i := 1463) (by decide +kernel), List.mem_of_getElem? (i := 1464) (by decide +kernel)⟩
theorem lw_p86 : lw_okq (⟨"HistogramPlansModel", "passOne", "(I)I"⟩, 59) := ⟨⟨by decide +kernel, by decide +kernel⟩, List.mem_of_getElem? (i := 900) (by decide +kernel), List.mem_of_getElem? (i := 1467) (by decide +kernel), List.mem_of_getElem? (i := 1468) (by decide +kernel)⟩
theorem lw_p87 : lw_okq (⟨"HistogramPlansModel", "allLines", "()I"⟩, 59) := ⟨⟨by decide +kernel, by decide +kernel⟩, List.mem_of_getElem? (i := 900) (by decide +kernel), List.mem_of_getElem? (i := 1471) (by decide +kernel), List.mem_of_getElem? (i := 1472) (by decide +kernel)⟩
def lw_privs_6 : List (MethodName × Nat) := [(⟨"HistogramPlansModel", "readsValue", "()I"⟩, 59), (⟨"HistogramPlansModel", "putsLine", "(IIII)V"⟩, 59), (⟨"HistogramPlansModel", "drawsLine", "()I"⟩, 59), (⟨"HistogramPlansModel", "draw", "(I)I"⟩, 59), (⟨"HistogramPlansModel", "passesAll", "(Z)V"⟩, 59), (⟨"HistogramPlansModel", "passes", "([I)V"⟩, 59), (⟨"HistogramPlansModel", "passOne", "(I)I"⟩, 59), (⟨"HistogramPlansModel", "allLines", "()I"⟩, 59)]
theorem lw_r6 : ∀ q ∈ lw_privs_6, lw_okq q := List.forall_mem_cons.mpr ⟨lw_p80, List.forall_mem_cons.mpr ⟨lw_p81, List.forall_mem_cons.mpr ⟨lw_p82, List.forall_mem_cons.mpr ⟨lw_p83, List.forall_mem_cons.mpr ⟨lw_p84, List.forall_mem_cons.mpr ⟨lw_p85, List.forall_mem_cons.mpr ⟨lw_p86, List.forall_mem_cons.mpr ⟨lw_p87, fun _ h => absurd h List.not_mem_nil⟩⟩⟩⟩⟩⟩⟩⟩
def lw_privs : List (MethodName × Nat) := lw_privs_1 ++ (lw_privs_2 ++ (lw_privs_3 ++ (lw_privs_4 ++ (lw_privs_5 ++ (lw_privs_6)))))
def lw_tbl : List Cond := k2_sels lw_privs ++ tables_1
theorem lw_privs_ok : ∀ q ∈ lw_privs, lw_okq q := by
  show ∀ q ∈ lw_privs_1 ++ (lw_privs_2 ++ (lw_privs_3 ++ (lw_privs_4 ++ (lw_privs_5 ++ (lw_privs_6))))), lw_okq q
  exact List.forall_mem_append.mpr ⟨lw_r1, List.forall_mem_append.mpr ⟨lw_r2, List.forall_mem_append.mpr ⟨lw_r3, List.forall_mem_append.mpr ⟨lw_r4, List.forall_mem_append.mpr ⟨lw_r5, lw_r6⟩⟩⟩⟩⟩
/-- the streams that the claim lets the run draw from -/
abbrev lw_cs : List Choice := [Jvm.Choice.named "NaN.bits"]
theorem lw_bits : nanBits ∈ lw_cs := by first | decide | exact List.mem_cons_self | simp [lw_cs, nanBits]
def RX0 : String := "HistogramPlans$Histogram"
def TX0 : u_T := fun k => match k with
  | 0 => ("HistogramPlans$Histogram", "sorted", "[I", true)
  | 1 => ("HistogramPlans$Histogram", "n", "I", false)
  | 2 => ("HistogramPlans$Histogram", "low", "[I", true)
  | 3 => ("HistogramPlans$Histogram", "high", "[I", true)
  | 4 => ("HistogramPlans$Histogram", "size", "[I", true)
  | 5 => ("HistogramPlans$Histogram", "distinct", "[I", true)
  | _ => ("HistogramPlans$Histogram", "buckets", "I", false)
def tyX0 : Nat → FieldType := fun k => match k with
  | 0 => .array .int
  | 1 => .int
  | 2 => .array .int
  | 3 => .array .int
  | 4 => .array .int
  | 5 => .array .int
  | _ => .int
abbrev wsX00 : List Cond := u_ws RX0 TX0 7
theorem nmX0 : ∀ a, a < 7 → ∀ b, b < 7 → a ≠ b → (TX0 a).2.1 ≠ (TX0 b).2.1 := by decide +kernel
theorem tyX0_ok : ∀ k, k < 7 → parseFieldDescriptor (TX0 k).2.2.1 = some (tyX0 k) := by decide +kernel
abbrev cX0_init : ByteArray := prog_2_method_1_code
def yX0_init : MethodName := ⟨RX0, "<init>", "()V"⟩
abbrev cX0_fill : ByteArray := prog_2_method_2_code
def yX0_fill : MethodName := ⟨RX0, "fill", "(LHistogramPlans$Table;I)V"⟩
abbrev cX0_insert : ByteArray := prog_2_method_3_code
def yX0_insert : MethodName := ⟨RX0, "insert", "(II)V"⟩
abbrev cX0_addBucket : ByteArray := prog_2_method_4_code
def yX0_addBucket : MethodName := ⟨RX0, "addBucket", "(II)V"⟩
abbrev cX0_differentIn : ByteArray := prog_2_method_5_code
def yX0_differentIn : MethodName := ⟨RX0, "differentIn", "(II)I"⟩
abbrev cX0_differentValues : ByteArray := prog_2_method_6_code
def yX0_differentValues : MethodName := ⟨RX0, "differentValues", "()I"⟩
abbrev cX0_shareOf : ByteArray := prog_2_method_7_code
def yX0_shareOf : MethodName := ⟨RX0, "shareOf", "(II)F"⟩
abbrev cX0_shareLess : ByteArray := prog_2_method_8_code
def yX0_shareLess : MethodName := ⟨RX0, "shareLess", "(I)F"⟩
abbrev cX0_shareEqual : ByteArray := prog_2_method_9_code
def yX0_shareEqual : MethodName := ⟨RX0, "shareEqual", "(I)F"⟩
def RX1 : String := "HistogramPlans$Matches"
def TX1 : u_T := fun k => match k with
  | 0 => ("HistogramPlans$Matches", "world", "LHistogramPlans$World;", true)
  | 1 => ("HistogramPlans$Matches", "members", "[I", true)
  | 2 => ("HistogramPlans$Matches", "count", "I", false)
  | 3 => ("HistogramPlans$Matches", "fits", "[I", true)
  | 4 => ("HistogramPlans$Matches", "partners", "[I", true)
  | _ => ("HistogramPlans$Matches", "rowsBy", "[I", true)
def tyX1 : Nat → FieldType := fun k => match k with
  | 0 => .object "HistogramPlans$World"
  | 1 => .array .int
  | 2 => .int
  | 3 => .array .int
  | 4 => .array .int
  | _ => .array .int
abbrev wsX10 : List Cond := u_ws RX1 TX1 6
theorem nmX1 : ∀ a, a < 6 → ∀ b, b < 6 → a ≠ b → (TX1 a).2.1 ≠ (TX1 b).2.1 := by decide +kernel
theorem tyX1_ok : ∀ k, k < 6 → parseFieldDescriptor (TX1 k).2.2.1 = some (tyX1 k) := by decide +kernel
abbrev cX1_init : ByteArray := prog_3_method_1_code
def yX1_init : MethodName := ⟨RX1, "<init>", "(LHistogramPlans$World;)V"⟩
abbrev cX1_rowsOf : ByteArray := prog_3_method_2_code
def yX1_rowsOf : MethodName := ⟨RX1, "rowsOf", "(II)I"⟩
abbrev cX1_sumOf : ByteArray := prog_3_method_3_code
def yX1_sumOf : MethodName := ⟨RX1, "sumOf", "(I)J"⟩
abbrev cX1_chooseMembers : ByteArray := prog_3_method_4_code
def yX1_chooseMembers : MethodName := ⟨RX1, "chooseMembers", "(II)V"⟩
abbrev cX1_passFilters : ByteArray := prog_3_method_5_code
def yX1_passFilters : MethodName := ⟨RX1, "passFilters", "()V"⟩
abbrev cX1_passes : ByteArray := prog_3_method_6_code
def yX1_passes : MethodName := ⟨RX1, "passes", "(II)Z"⟩
abbrev cX1_pairLines : ByteArray := prog_3_method_7_code
def yX1_pairLines : MethodName := ⟨RX1, "pairLines", "(I)V"⟩
abbrev cX1_pairLinesBy : ByteArray := prog_3_method_8_code
def yX1_pairLinesBy : MethodName := ⟨RX1, "pairLinesBy", "(II)V"⟩
abbrev cX1_partnersAt : ByteArray := prog_3_method_9_code
def yX1_partnersAt : MethodName := ⟨RX1, "partnersAt", "(III)I"⟩
abbrev cX1_narrow : ByteArray := prog_3_method_10_code
def yX1_narrow : MethodName := ⟨RX1, "narrow", "(II)Z"⟩
abbrev cX1_rowsFrom : ByteArray := prog_3_method_11_code
def yX1_rowsFrom : MethodName := ⟨RX1, "rowsFrom", "(LHistogramPlans$Matches;I)I"⟩
def RX2 : String := "HistogramPlans$Node"
def TX2 : u_T := fun k => match k with
  | 0 => ("HistogramPlans$Node", "way", "I", false)
  | 1 => ("HistogramPlans$Node", "tables", "I", false)
  | 2 => ("HistogramPlans$Node", "order", "I", false)
  | 3 => ("HistogramPlans$Node", "costBits", "I", false)
  | 4 => ("HistogramPlans$Node", "pairing", "I", false)
  | 5 => ("HistogramPlans$Node", "placeInB", "I", false)
  | _ => ("HistogramPlans$Node", "size", "I", false)
def tyX2 : Nat → FieldType := fun k => match k with
  | 0 => .int
  | 1 => .int
  | 2 => .int
  | 3 => .int
  | 4 => .int
  | 5 => .int
  | _ => .int
abbrev wsX20 : List Cond := u_ws RX2 TX2 7
theorem nmX2 : ∀ a, a < 7 → ∀ b, b < 7 → a ≠ b → (TX2 a).2.1 ≠ (TX2 b).2.1 := by decide +kernel
theorem tyX2_ok : ∀ k, k < 7 → parseFieldDescriptor (TX2 k).2.2.1 = some (tyX2 k) := by decide +kernel
abbrev cX2_init : ByteArray := prog_4_method_1_code
def yX2_init : MethodName := ⟨RX2, "<init>", "()V"⟩
abbrev cX2_speaks : ByteArray := prog_4_method_2_code
def yX2_speaks : MethodName := ⟨RX2, "speaks", "(I)Z"⟩
abbrev cX2_speech : ByteArray := prog_4_method_3_code
def yX2_speech : MethodName := ⟨RX2, "speech", "(I)I"⟩
abbrev cX2_become : ByteArray := prog_4_method_4_code
def yX2_become : MethodName := ⟨RX2, "become", "(LHistogramPlans$Node;)V"⟩
def RX3 : String := "HistogramPlans$Planner"
def TX3 : u_T := fun k => match k with
  | 0 => ("HistogramPlans$Planner", "world", "LHistogramPlans$World;", true)
  | 1 => ("HistogramPlans$Planner", "thoughts", "LHistogramPlans$Thoughts;", true)
  | 2 => ("HistogramPlans$Planner", "thought", "[F", true)
  | 3 => ("HistogramPlans$Planner", "way", "[I", true)
  | 4 => ("HistogramPlans$Planner", "best", "[F", true)
  | 5 => ("HistogramPlans$Planner", "leftCell", "[I", true)
  | 6 => ("HistogramPlans$Planner", "rightCell", "[I", true)
  | 7 => ("HistogramPlans$Planner", "pairing", "[I", true)
  | 8 => ("HistogramPlans$Planner", "size", "[I", true)
  | _ => ("HistogramPlans$Planner", "laid", "[I", true)
def tyX3 : Nat → FieldType := fun k => match k with
  | 0 => .object "HistogramPlans$World"
  | 1 => .object "HistogramPlans$Thoughts"
  | 2 => .array .float
  | 3 => .array .int
  | 4 => .array .float
  | 5 => .array .int
  | 6 => .array .int
  | 7 => .array .int
  | 8 => .array .int
  | _ => .array .int
abbrev wsX30 : List Cond := u_ws RX3 TX3 10
theorem nmX3 : ∀ a, a < 10 → ∀ b, b < 10 → a ≠ b → (TX3 a).2.1 ≠ (TX3 b).2.1 := by decide +kernel
theorem tyX3_ok : ∀ k, k < 10 → parseFieldDescriptor (TX3 k).2.2.1 = some (tyX3 k) := by decide +kernel
abbrev cX3_init : ByteArray := prog_5_method_1_code
def yX3_init : MethodName := ⟨RX3, "<init>", "(LHistogramPlans$World;LHistogramPlans$Thoughts;)V"⟩
abbrev cX3_search : ByteArray := prog_5_method_2_code
def yX3_search : MethodName := ⟨RX3, "search", "(I)V"⟩
abbrev cX3_searchSet : ByteArray := prog_5_method_3_code
def yX3_searchSet : MethodName := ⟨RX3, "searchSet", "(I)V"⟩
abbrev cX3_offerRead : ByteArray := prog_5_method_4_code
def yX3_offerRead : MethodName := ⟨RX3, "offerRead", "(I)V"⟩
abbrev cX3_offerPairs : ByteArray := prog_5_method_5_code
def yX3_offerPairs : MethodName := ⟨RX3, "offerPairs", "(I)V"⟩
abbrev cX3_firstJoinBetween : ByteArray := prog_5_method_6_code
def yX3_firstJoinBetween : MethodName := ⟨RX3, "firstJoinBetween", "(II)I"⟩
abbrev cX3_offerPair : ByteArray := prog_5_method_7_code
def yX3_offerPair : MethodName := ⟨RX3, "offerPair", "(III)V"⟩
abbrev cX3_offerSorts : ByteArray := prog_5_method_8_code
def yX3_offerSorts : MethodName := ⟨RX3, "offerSorts", "(I)V"⟩
abbrev cX3_offer : ByteArray := prog_5_method_9_code
def yX3_offer : MethodName := ⟨RX3, "offer", "(IIFIII)V"⟩
abbrev cX3_sizeOf : ByteArray := prog_5_method_10_code
def yX3_sizeOf : MethodName := ⟨RX3, "sizeOf", "(I)I"⟩
abbrev cX3_layOut : ByteArray := prog_5_method_11_code
def yX3_layOut : MethodName := ⟨RX3, "layOut", "(I[LHistogramPlans$Node;)I"⟩
abbrev cX3_lay : ByteArray := prog_5_method_12_code
def yX3_lay : MethodName := ⟨RX3, "lay", "(II)V"⟩
abbrev cX3_describe : ByteArray := prog_5_method_13_code
def yX3_describe : MethodName := ⟨RX3, "describe", "(ILHistogramPlans$Node;)V"⟩
def RX4 : String := "HistogramPlans$Shelf"
def TX4 : u_T := fun k => match k with
  | 0 => ("HistogramPlans$Shelf", "kind", "I", false)
  | 1 => ("HistogramPlans$Shelf", "sort", "I", false)
  | 2 => ("HistogramPlans$Shelf", "length", "I", false)
  | 3 => ("HistogramPlans$Shelf", "elements", "[J", true)
  | _ => ("HistogramPlans$Shelf", "node", "LHistogramPlans$Node;", true)
def tyX4 : Nat → FieldType := fun k => match k with
  | 0 => .int
  | 1 => .int
  | 2 => .int
  | 3 => .array .long
  | _ => .object "HistogramPlans$Node"
abbrev wsX40 : List Cond := u_ws RX4 TX4 5
theorem nmX4 : ∀ a, a < 5 → ∀ b, b < 5 → a ≠ b → (TX4 a).2.1 ≠ (TX4 b).2.1 := by decide +kernel
theorem tyX4_ok : ∀ k, k < 5 → parseFieldDescriptor (TX4 k).2.2.1 = some (tyX4 k) := by decide +kernel
abbrev cX4_init : ByteArray := prog_6_method_1_code
def yX4_init : MethodName := ⟨RX4, "<init>", "()V"⟩
abbrev cX4_becomeRow : ByteArray := prog_6_method_2_code
def yX4_becomeRow : MethodName := ⟨RX4, "becomeRow", "(II)V"⟩
abbrev cX4_becomeNode : ByteArray := prog_6_method_3_code
def yX4_becomeNode : MethodName := ⟨RX4, "becomeNode", "(LHistogramPlans$Node;)V"⟩
abbrev cX4_told : ByteArray := prog_6_method_4_code
def yX4_told : MethodName := ⟨RX4, "told", "()I"⟩
abbrev cX4_keep : ByteArray := prog_6_method_5_code
def yX4_keep : MethodName := ⟨RX4, "keep", "(IJ)V"⟩
abbrev cX4_intAt : ByteArray := prog_6_method_6_code
def yX4_intAt : MethodName := ⟨RX4, "intAt", "(I)I"⟩
def RX5 : String := "HistogramPlans$Table"
def TX5 : u_T := fun k => match k with
  | 0 => ("HistogramPlans$Table", "values", "[I", true)
  | 1 => ("HistogramPlans$Table", "lines", "I", false)
  | 2 => ("HistogramPlans$Table", "buckets", "I", false)
  | _ => ("HistogramPlans$Table", "stored", "I", false)
def tyX5 : Nat → FieldType := fun k => match k with
  | 0 => .array .int
  | 1 => .int
  | 2 => .int
  | _ => .int
abbrev wsX50 : List Cond := u_ws RX5 TX5 4
theorem nmX5 : ∀ a, a < 4 → ∀ b, b < 4 → a ≠ b → (TX5 a).2.1 ≠ (TX5 b).2.1 := by decide +kernel
theorem tyX5_ok : ∀ k, k < 4 → parseFieldDescriptor (TX5 k).2.2.1 = some (tyX5 k) := by decide +kernel
abbrev cX5_init : ByteArray := prog_7_method_1_code
def yX5_init : MethodName := ⟨RX5, "<init>", "()V"⟩
abbrev cX5_valueAt : ByteArray := prog_7_method_2_code
def yX5_valueAt : MethodName := ⟨RX5, "valueAt", "(II)I"⟩
abbrev cX5_add : ByteArray := prog_7_method_3_code
def yX5_add : MethodName := ⟨RX5, "add", "(III)V"⟩
abbrev cX5_become : ByteArray := prog_7_method_4_code
def yX5_become : MethodName := ⟨RX5, "become", "(LHistogramPlans$Table;)V"⟩
def RX6 : String := "HistogramPlans$TextReader"
def TX6 : u_T := fun k => match k with
  | 0 => ("HistogramPlans$TextReader", "world", "LHistogramPlans$World;", true)
  | 1 => ("HistogramPlans$TextReader", "pending", "[I", true)
  | 2 => ("HistogramPlans$TextReader", "state", "I", false)
  | 3 => ("HistogramPlans$TextReader", "table", "I", false)
  | 4 => ("HistogramPlans$TextReader", "column", "I", false)
  | 5 => ("HistogramPlans$TextReader", "number", "I", false)
  | _ => ("HistogramPlans$TextReader", "items", "I", false)
def tyX6 : Nat → FieldType := fun k => match k with
  | 0 => .object "HistogramPlans$World"
  | 1 => .array .int
  | 2 => .int
  | 3 => .int
  | 4 => .int
  | 5 => .int
  | _ => .int
abbrev wsX60 : List Cond := u_ws RX6 TX6 7
theorem nmX6 : ∀ a, a < 7 → ∀ b, b < 7 → a ≠ b → (TX6 a).2.1 ≠ (TX6 b).2.1 := by decide +kernel
theorem tyX6_ok : ∀ k, k < 7 → parseFieldDescriptor (TX6 k).2.2.1 = some (tyX6 k) := by decide +kernel
abbrev cX6_init : ByteArray := prog_8_method_1_code
def yX6_init : MethodName := ⟨RX6, "<init>", "(LHistogramPlans$World;)V"⟩
abbrev cX6_faultIn : ByteArray := prog_8_method_2_code
def yX6_faultIn : MethodName := ⟨RX6, "faultIn", "(LHistogramPlans$Shelf;)I"⟩
abbrev cX6_bringLines : ByteArray := prog_8_method_3_code
def yX6_bringLines : MethodName := ⟨RX6, "bringLines", "()V"⟩
abbrev cX6_takes : ByteArray := prog_8_method_4_code
def yX6_takes : MethodName := ⟨RX6, "takes", "(I)Z"⟩
abbrev cX6_moves : ByteArray := prog_8_method_5_code
def yX6_moves : MethodName := ⟨RX6, "moves", "(ZI)Z"⟩
abbrev cX6_takesTable : ByteArray := prog_8_method_6_code
def yX6_takesTable : MethodName := ⟨RX6, "takesTable", "(I)Z"⟩
abbrev cX6_takesFirstDigit : ByteArray := prog_8_method_7_code
def yX6_takesFirstDigit : MethodName := ⟨RX6, "takesFirstDigit", "(I)Z"⟩
abbrev cX6_takesSecondDigit : ByteArray := prog_8_method_8_code
def yX6_takesSecondDigit : MethodName := ⟨RX6, "takesSecondDigit", "(I)Z"⟩
abbrev cX6_takesMark : ByteArray := prog_8_method_9_code
def yX6_takesMark : MethodName := ⟨RX6, "takesMark", "(I)Z"⟩
abbrev cX6_isDigit : ByteArray := prog_8_method_10_code
def yX6_isDigit : MethodName := ⟨RX6, "isDigit", "(I)Z"⟩
abbrev cX6_isBehindLine : ByteArray := prog_8_method_11_code
def yX6_isBehindLine : MethodName := ⟨RX6, "isBehindLine", "()Z"⟩
abbrev cX6_endsValue : ByteArray := prog_8_method_12_code
def yX6_endsValue : MethodName := ⟨RX6, "endsValue", "()Z"⟩
abbrev cX6_keepNumber : ByteArray := prog_8_method_13_code
def yX6_keepNumber : MethodName := ⟨RX6, "keepNumber", "()V"⟩
abbrev cX6_endLine : ByteArray := prog_8_method_14_code
def yX6_endLine : MethodName := ⟨RX6, "endLine", "()V"⟩
abbrev cX6_endItem : ByteArray := prog_8_method_15_code
def yX6_endItem : MethodName := ⟨RX6, "endItem", "()V"⟩
def RX7 : String := "HistogramPlans$Thoughts"
def TX7 : u_T := fun k => match k with
  | 0 => ("HistogramPlans$Thoughts", "world", "LHistogramPlans$World;", true)
  | 1 => ("HistogramPlans$Thoughts", "histogram", "LHistogramPlans$Histogram;", true)
  | 2 => ("HistogramPlans$Thoughts", "ofTable", "[F", true)
  | _ => ("HistogramPlans$Thoughts", "ofJoin", "[F", true)
def tyX7 : Nat → FieldType := fun k => match k with
  | 0 => .object "HistogramPlans$World"
  | 1 => .object "HistogramPlans$Histogram"
  | 2 => .array .float
  | _ => .array .float
abbrev wsX70 : List Cond := u_ws RX7 TX7 4
theorem nmX7 : ∀ a, a < 4 → ∀ b, b < 4 → a ≠ b → (TX7 a).2.1 ≠ (TX7 b).2.1 := by decide +kernel
theorem tyX7_ok : ∀ k, k < 4 → parseFieldDescriptor (TX7 k).2.2.1 = some (tyX7 k) := by decide +kernel
abbrev cX7_init : ByteArray := prog_9_method_1_code
def yX7_init : MethodName := ⟨RX7, "<init>", "(LHistogramPlans$World;)V"⟩
abbrev cX7_histogramOf : ByteArray := prog_9_method_2_code
def yX7_histogramOf : MethodName := ⟨RX7, "histogramOf", "(I)LHistogramPlans$Histogram;"⟩
abbrev cX7_shareOfJoin : ByteArray := prog_9_method_3_code
def yX7_shareOfJoin : MethodName := ⟨RX7, "shareOfJoin", "(I)F"⟩
abbrev cX7_think : ByteArray := prog_9_method_4_code
def yX7_think : MethodName := ⟨RX7, "think", "()V"⟩
abbrev cX7_thoughtOfTable : ByteArray := prog_9_method_5_code
def yX7_thoughtOfTable : MethodName := ⟨RX7, "thoughtOfTable", "(I)F"⟩
abbrev cX7_thoughtOf : ByteArray := prog_9_method_6_code
def yX7_thoughtOf : MethodName := ⟨RX7, "thoughtOf", "(I)F"⟩
def RX8 : String := "HistogramPlans$World"
def TX8 : u_T := fun k => match k with
  | 0 => ("HistogramPlans$World", "tables", "[LHistogramPlans$Table;", true)
  | 1 => ("HistogramPlans$World", "filterPlace", "[I", true)
  | 2 => ("HistogramPlans$World", "filterSign", "[I", true)
  | 3 => ("HistogramPlans$World", "filterValue", "[I", true)
  | 4 => ("HistogramPlans$World", "filters", "I", false)
  | 5 => ("HistogramPlans$World", "joinFirst", "[I", true)
  | 6 => ("HistogramPlans$World", "joinSecond", "[I", true)
  | 7 => ("HistogramPlans$World", "joins", "I", false)
  | _ => ("HistogramPlans$World", "drawSeed", "I", false)
def tyX8 : Nat → FieldType := fun k => match k with
  | 0 => .array (.object "HistogramPlans$Table")
  | 1 => .array .int
  | 2 => .array .int
  | 3 => .array .int
  | 4 => .int
  | 5 => .array .int
  | 6 => .array .int
  | 7 => .int
  | _ => .int
abbrev wsX80 : List Cond := u_ws RX8 TX8 9
theorem nmX8 : ∀ a, a < 9 → ∀ b, b < 9 → a ≠ b → (TX8 a).2.1 ≠ (TX8 b).2.1 := by decide +kernel
theorem tyX8_ok : ∀ k, k < 9 → parseFieldDescriptor (TX8 k).2.2.1 = some (tyX8 k) := by decide +kernel
abbrev cX8_init : ByteArray := prog_10_method_1_code
def yX8_init : MethodName := ⟨RX8, "<init>", "()V"⟩
abbrev cX8_addFilter : ByteArray := prog_10_method_2_code
def yX8_addFilter : MethodName := ⟨RX8, "addFilter", "(III)V"⟩
abbrev cX8_addJoin : ByteArray := prog_10_method_3_code
def yX8_addJoin : MethodName := ⟨RX8, "addJoin", "(II)V"⟩
abbrev cX8_hasWithin : ByteArray := prog_10_method_4_code
def yX8_hasWithin : MethodName := ⟨RX8, "hasWithin", "(II)Z"⟩
abbrev cX8_placeIn : ByteArray := prog_10_method_5_code
def yX8_placeIn : MethodName := ⟨RX8, "placeIn", "(II)I"⟩
abbrev cX8_allLines : ByteArray := prog_10_method_6_code
def yX8_allLines : MethodName := ⟨RX8, "allLines", "()I"⟩
abbrev cX8_drawBelow : ByteArray := prog_10_method_7_code
def yX8_drawBelow : MethodName := ⟨RX8, "drawBelow", "(I)I"⟩
abbrev cX8_drawLine : ByteArray := prog_10_method_8_code
def yX8_drawLine : MethodName := ⟨RX8, "drawLine", "()Z"⟩
abbrev cX8_become : ByteArray := prog_10_method_9_code
def yX8_become : MethodName := ⟨RX8, "become", "(LHistogramPlans$World;)V"⟩
def RX9 : String := "HistogramPlans"
def TX9 : u_T := fun k => match k with
  | 0 => ("HistogramPlans", "world", "LHistogramPlans$World;", true)
  | 1 => ("HistogramPlans", "imaged", "LHistogramPlans$World;", true)
  | 2 => ("HistogramPlans", "hasImage", "Z", false)
  | 3 => ("HistogramPlans", "thoughts", "LHistogramPlans$Thoughts;", true)
  | 4 => ("HistogramPlans", "planner", "LHistogramPlans$Planner;", true)
  | 5 => ("HistogramPlans", "matches", "LHistogramPlans$Matches;", true)
  | 6 => ("HistogramPlans", "reader", "LHistogramPlans$TextReader;", true)
  | 7 => ("HistogramPlans", "shelves", "[LHistogramPlans$Shelf;", true)
  | 8 => ("HistogramPlans", "nodes", "[LHistogramPlans$Node;", true)
  | 9 => ("HistogramPlans", "planned", "I", false)
  | 10 => ("HistogramPlans", "latestFault", "I", false)
  | _ => ("HistogramPlans", "refusals", "[I", true)
def tyX9 : Nat → FieldType := fun k => match k with
  | 0 => .object "HistogramPlans$World"
  | 1 => .object "HistogramPlans$World"
  | 2 => .boolean
  | 3 => .object "HistogramPlans$Thoughts"
  | 4 => .object "HistogramPlans$Planner"
  | 5 => .object "HistogramPlans$Matches"
  | 6 => .object "HistogramPlans$TextReader"
  | 7 => .array (.object "HistogramPlans$Shelf")
  | 8 => .array (.object "HistogramPlans$Node")
  | 9 => .int
  | 10 => .int
  | _ => .array .int
abbrev wsX90 : List Cond := u_ws RX9 TX9 12
theorem nmX9 : ∀ a, a < 12 → ∀ b, b < 12 → a ≠ b → (TX9 a).2.1 ≠ (TX9 b).2.1 := by decide +kernel
theorem tyX9_ok : ∀ k, k < 12 → parseFieldDescriptor (TX9 k).2.2.1 = some (tyX9 k) := by decide +kernel
abbrev cX9_init : ByteArray := prog_1_method_1_code
def yX9_init : MethodName := ⟨RX9, "<init>", "()V"⟩
abbrev cX9_row : ByteArray := prog_1_method_2_code
def yX9_row : MethodName := ⟨RX9, "row", "(III)I"⟩
abbrev cX9_set : ByteArray := prog_1_method_3_code
def yX9_set : MethodName := ⟨RX9, "set", "(IIJ)I"⟩
abbrev cX9_copy : ByteArray := prog_1_method_4_code
def yX9_copy : MethodName := ⟨RX9, "copy", "(IIIII)I"⟩
abbrev cX9_element : ByteArray := prog_1_method_5_code
def yX9_element : MethodName := ⟨RX9, "element", "(II)J"⟩
abbrev cX9_show : ByteArray := prog_1_method_6_code
def yX9_show : MethodName := ⟨RX9, "show", "(II)I"⟩
abbrev cX9_holds : ByteArray := prog_1_method_7_code
def yX9_holds : MethodName := ⟨RX9, "holds", "(I)I"⟩
abbrev cX9_says : ByteArray := prog_1_method_8_code
def yX9_says : MethodName := ⟨RX9, "says", "(II)I"⟩
abbrev cX9_line : ByteArray := prog_1_method_9_code
def yX9_line : MethodName := ⟨RX9, "line", "(IIII)I"⟩
abbrev cX9_read : ByteArray := prog_1_method_10_code
def yX9_read : MethodName := ⟨RX9, "read", "(I)I"⟩
abbrev cX9_fault : ByteArray := prog_1_method_11_code
def yX9_fault : MethodName := ⟨RX9, "fault", "()I"⟩
abbrev cX9_empty : ByteArray := prog_1_method_12_code
def yX9_empty : MethodName := ⟨RX9, "empty", "(I)I"⟩
abbrev cX9_put : ByteArray := prog_1_method_13_code
def yX9_put : MethodName := ⟨RX9, "put", "(III)I"⟩
abbrev cX9_tableOf : ByteArray := prog_1_method_14_code
def yX9_tableOf : MethodName := ⟨RX9, "tableOf", "(II)I"⟩
abbrev cX9_lineOf : ByteArray := prog_1_method_15_code
def yX9_lineOf : MethodName := ⟨RX9, "lineOf", "(III)I"⟩
abbrev cX9_bucket : ByteArray := prog_1_method_16_code
def yX9_bucket : MethodName := ⟨RX9, "bucket", "(III)I"⟩
abbrev cX9_different : ByteArray := prog_1_method_17_code
def yX9_different : MethodName := ⟨RX9, "different", "(I)I"⟩
abbrev cX9_share : ByteArray := prog_1_method_18_code
def yX9_share : MethodName := ⟨RX9, "share", "(III)I"⟩
abbrev cX9_filter : ByteArray := prog_1_method_19_code
def yX9_filter : MethodName := ⟨RX9, "filter", "(III)I"⟩
abbrev cX9_join : ByteArray := prog_1_method_20_code
def yX9_join : MethodName := ⟨RX9, "join", "(II)I"⟩
abbrev cX9_clear : ByteArray := prog_1_method_21_code
def yX9_clear : MethodName := ⟨RX9, "clear", "()I"⟩
abbrev cX9_filterOf : ByteArray := prog_1_method_22_code
def yX9_filterOf : MethodName := ⟨RX9, "filterOf", "(II)I"⟩
abbrev cX9_joinOf : ByteArray := prog_1_method_23_code
def yX9_joinOf : MethodName := ⟨RX9, "joinOf", "(II)I"⟩
abbrev cX9_joinShare : ByteArray := prog_1_method_24_code
def yX9_joinShare : MethodName := ⟨RX9, "joinShare", "(I)I"⟩
abbrev cX9_thought : ByteArray := prog_1_method_25_code
def yX9_thought : MethodName := ⟨RX9, "thought", "(I)I"⟩
abbrev cX9_sorting : ByteArray := prog_1_method_26_code
def yX9_sorting : MethodName := ⟨RX9, "sorting", "(I)I"⟩
abbrev cX9_cost : ByteArray := prog_1_method_27_code
def yX9_cost : MethodName := ⟨RX9, "cost", "(II)I"⟩
abbrev cX9_plan : ByteArray := prog_1_method_28_code
def yX9_plan : MethodName := ⟨RX9, "plan", "(II)I"⟩
abbrev cX9_nodeOf : ByteArray := prog_1_method_29_code
def yX9_nodeOf : MethodName := ⟨RX9, "nodeOf", "(II)I"⟩
abbrev cX9_really : ByteArray := prog_1_method_30_code
def yX9_really : MethodName := ⟨RX9, "really", "(I)I"⟩
abbrev cX9_sum : ByteArray := prog_1_method_31_code
def yX9_sum : MethodName := ⟨RX9, "sum", "(II)J"⟩
abbrev cX9_wrongBy : ByteArray := prog_1_method_32_code
def yX9_wrongBy : MethodName := ⟨RX9, "wrongBy", "(I)I"⟩
abbrev cX9_judge : ByteArray := prog_1_method_33_code
def yX9_judge : MethodName := ⟨RX9, "judge", "(II)I"⟩
abbrev cX9_drawn : ByteArray := prog_1_method_34_code
def yX9_drawn : MethodName := ⟨RX9, "drawn", "(I)I"⟩
abbrev cX9_seed : ByteArray := prog_1_method_35_code
def yX9_seed : MethodName := ⟨RX9, "seed", "(I)I"⟩
abbrev cX9_image : ByteArray := prog_1_method_36_code
def yX9_image : MethodName := ⟨RX9, "image", "()I"⟩
abbrev cX9_restore : ByteArray := prog_1_method_37_code
def yX9_restore : MethodName := ⟨RX9, "restore", "()I"⟩
abbrev cX9_status : ByteArray := prog_1_method_38_code
def yX9_status : MethodName := ⟨RX9, "status", "(I)I"⟩
abbrev cX9_refuse : ByteArray := prog_1_method_39_code
def yX9_refuse : MethodName := ⟨RX9, "refuse", "(I)I"⟩
abbrev cX9_refuseTenLower : ByteArray := prog_1_method_40_code
def yX9_refuseTenLower : MethodName := ⟨RX9, "refuseTenLower", "(I)I"⟩
abbrev cX9_whyNoRow : ByteArray := prog_1_method_41_code
def yX9_whyNoRow : MethodName := ⟨RX9, "whyNoRow", "(I)I"⟩
abbrev cX9_isNode : ByteArray := prog_1_method_42_code
def yX9_isNode : MethodName := ⟨RX9, "isNode", "(I)Z"⟩
abbrev cX9_areRowsOfTwoSorts : ByteArray := prog_1_method_43_code
def yX9_areRowsOfTwoSorts : MethodName := ⟨RX9, "areRowsOfTwoSorts", "(LHistogramPlans$Shelf;LHistogramPlans$Shelf;)Z"⟩
abbrev cX9_hasElements : ByteArray := prog_1_method_44_code
def yX9_hasElements : MethodName := ⟨RX9, "hasElements", "(LHistogramPlans$Shelf;II)Z"⟩
abbrev cX9_isBelow : ByteArray := prog_1_method_45_code
def yX9_isBelow : MethodName := ⟨RX9, "isBelow", "(II)Z"⟩
abbrev cX9_isSet : ByteArray := prog_1_method_46_code
def yX9_isSet : MethodName := ⟨RX9, "isSet", "(I)Z"⟩
abbrev cX9_isOrder : ByteArray := prog_1_method_47_code
def yX9_isOrder : MethodName := ⟨RX9, "isOrder", "(I)Z"⟩
abbrev cX9_isWithin : ByteArray := prog_1_method_48_code
def yX9_isWithin : MethodName := ⟨RX9, "isWithin", "(II)Z"⟩
abbrev cX9_leastOf : ByteArray := prog_1_method_49_code
def yX9_leastOf : MethodName := ⟨RX9, "leastOf", "(I)I"⟩
abbrev cX9_cellOf : ByteArray := prog_1_method_50_code
def yX9_cellOf : MethodName := ⟨RX9, "cellOf", "(II)I"⟩
abbrev cX9_costOfSorting : ByteArray := prog_1_method_51_code
def yX9_costOfSorting : MethodName := ⟨RX9, "costOfSorting", "(F)F"⟩
abbrev cX9_errorOf : ByteArray := prog_1_method_52_code
def yX9_errorOf : MethodName := ⟨RX9, "errorOf", "(FF)F"⟩
abbrev cX9_bitsOf : ByteArray := prog_1_method_53_code
def yX9_bitsOf : MethodName := ⟨RX9, "bitsOf", "(F)I"⟩
def RX10 : String := "HistogramPlansModel"
def TX10 : u_T := fun k => match k with
  | 0 => ("HistogramPlansModel", "refused", "[I", true)
  | 1 => ("HistogramPlansModel", "lineMany", "[I", true)
  | 2 => ("HistogramPlansModel", "value", "[I", true)
  | 3 => ("HistogramPlansModel", "buckets", "[I", true)
  | 4 => ("HistogramPlansModel", "stored", "[I", true)
  | 5 => ("HistogramPlansModel", "filterPlace", "[I", true)
  | 6 => ("HistogramPlansModel", "filterSign", "[I", true)
  | 7 => ("HistogramPlansModel", "filterValue", "[I", true)
  | 8 => ("HistogramPlansModel", "joinOne", "[I", true)
  | 9 => ("HistogramPlansModel", "joinOther", "[I", true)
  | 10 => ("HistogramPlansModel", "filters", "I", false)
  | 11 => ("HistogramPlansModel", "joins", "I", false)
  | 12 => ("HistogramPlansModel", "seed", "I", false)
  | 13 => ("HistogramPlansModel", "sorted", "[I", true)
  | 14 => ("HistogramPlansModel", "low", "[I", true)
  | 15 => ("HistogramPlansModel", "high", "[I", true)
  | 16 => ("HistogramPlansModel", "holds", "[I", true)
  | 17 => ("HistogramPlansModel", "distinct", "[I", true)
  | 18 => ("HistogramPlansModel", "bucketMany", "I", false)
  | 19 => ("HistogramPlansModel", "thoughts", "[F", true)
  | 20 => ("HistogramPlansModel", "bestCost", "[F", true)
  | 21 => ("HistogramPlansModel", "bestWay", "[I", true)
  | 22 => ("HistogramPlansModel", "bestA", "[I", true)
  | 23 => ("HistogramPlansModel", "bestJoin", "[I", true)
  | 24 => ("HistogramPlansModel", "setNow", "I", false)
  | 25 => ("HistogramPlansModel", "orderNow", "I", false)
  | 26 => ("HistogramPlansModel", "nodeWay", "[I", true)
  | 27 => ("HistogramPlansModel", "nodeSet", "[I", true)
  | 28 => ("HistogramPlansModel", "nodeOrder", "[I", true)
  | 29 => ("HistogramPlansModel", "nodeCost", "[I", true)
  | 30 => ("HistogramPlansModel", "nodeJoin", "[I", true)
  | 31 => ("HistogramPlansModel", "nodeSize", "[I", true)
  | 32 => ("HistogramPlansModel", "nodeAbout", "[I", true)
  | 33 => ("HistogramPlansModel", "openSet", "[I", true)
  | 34 => ("HistogramPlansModel", "openOrder", "[I", true)
  | 35 => ("HistogramPlansModel", "nodes", "I", false)
  | 36 => ("HistogramPlansModel", "open", "I", false)
  | 37 => ("HistogramPlansModel", "line", "[I", true)
  | 38 => ("HistogramPlansModel", "reallyMany", "I", false)
  | 39 => ("HistogramPlansModel", "reallySum", "J", false)
  | 40 => ("HistogramPlansModel", "held", "[I", true)
  | 41 => ("HistogramPlansModel", "size", "[I", true)
  | 42 => ("HistogramPlansModel", "shownCost", "[I", true)
  | 43 => ("HistogramPlansModel", "shownJoin", "[I", true)
  | 44 => ("HistogramPlansModel", "shownAbout", "[I", true)
  | 45 => ("HistogramPlansModel", "elements", "[J", true)
  | 46 => ("HistogramPlansModel", "toldTable", "[I", true)
  | 47 => ("HistogramPlansModel", "toldOne", "[I", true)
  | 48 => ("HistogramPlansModel", "toldTwo", "[I", true)
  | 49 => ("HistogramPlansModel", "toldThree", "[I", true)
  | 50 => ("HistogramPlansModel", "toldMany", "[I", true)
  | 51 => ("HistogramPlansModel", "reading", "I", false)
  | 52 => ("HistogramPlansModel", "faultAt", "I", false)
  | 53 => ("HistogramPlansModel", "told", "I", false)
  | 54 => ("HistogramPlansModel", "shelfRead", "I", false)
  | 55 => ("HistogramPlansModel", "kept", "[I", true)
  | 56 => ("HistogramPlansModel", "hasImage", "Z", false)
  | 57 => ("HistogramPlansModel", "isKeeping", "Z", false)
  | _ => ("HistogramPlansModel", "cursor", "I", false)
def tyX10 : Nat → FieldType := fun k => match k with
  | 0 => .array .int
  | 1 => .array .int
  | 2 => .array .int
  | 3 => .array .int
  | 4 => .array .int
  | 5 => .array .int
  | 6 => .array .int
  | 7 => .array .int
  | 8 => .array .int
  | 9 => .array .int
  | 10 => .int
  | 11 => .int
  | 12 => .int
  | 13 => .array .int
  | 14 => .array .int
  | 15 => .array .int
  | 16 => .array .int
  | 17 => .array .int
  | 18 => .int
  | 19 => .array .float
  | 20 => .array .float
  | 21 => .array .int
  | 22 => .array .int
  | 23 => .array .int
  | 24 => .int
  | 25 => .int
  | 26 => .array .int
  | 27 => .array .int
  | 28 => .array .int
  | 29 => .array .int
  | 30 => .array .int
  | 31 => .array .int
  | 32 => .array .int
  | 33 => .array .int
  | 34 => .array .int
  | 35 => .int
  | 36 => .int
  | 37 => .array .int
  | 38 => .int
  | 39 => .long
  | 40 => .array .int
  | 41 => .array .int
  | 42 => .array .int
  | 43 => .array .int
  | 44 => .array .int
  | 45 => .array .long
  | 46 => .array .int
  | 47 => .array .int
  | 48 => .array .int
  | 49 => .array .int
  | 50 => .array .int
  | 51 => .int
  | 52 => .int
  | 53 => .int
  | 54 => .int
  | 55 => .array .int
  | 56 => .boolean
  | 57 => .boolean
  | _ => .int
abbrev wsX100 : List Cond := u_ws RX10 TX10 59
theorem nmX10 : ∀ a, a < 59 → ∀ b, b < 59 → a ≠ b → (TX10 a).2.1 ≠ (TX10 b).2.1 := by decide +kernel
theorem tyX10_ok : ∀ k, k < 59 → parseFieldDescriptor (TX10 k).2.2.1 = some (tyX10 k) := by decide +kernel
abbrev cX10_init : ByteArray := prog_12_method_1_code
def yX10_init : MethodName := ⟨RX10, "<init>", "()V"⟩
abbrev cX10_no : ByteArray := prog_12_method_2_code
def yX10_no : MethodName := ⟨RX10, "no", "(I)I"⟩
abbrev cX10_isIn : ByteArray := prog_12_method_3_code
def yX10_isIn : MethodName := ⟨RX10, "isIn", "(III)Z"⟩
abbrev cX10_has : ByteArray := prog_12_method_4_code
def yX10_has : MethodName := ⟨RX10, "has", "(II)Z"⟩
abbrev cX10_isTable : ByteArray := prog_12_method_5_code
def yX10_isTable : MethodName := ⟨RX10, "isTable", "(I)Z"⟩
abbrev cX10_isPlace : ByteArray := prog_12_method_6_code
def yX10_isPlace : MethodName := ⟨RX10, "isPlace", "(I)Z"⟩
abbrev cX10_isSet : ByteArray := prog_12_method_7_code
def yX10_isSet : MethodName := ⟨RX10, "isSet", "(I)Z"⟩
abbrev cX10_isOrder : ByteArray := prog_12_method_8_code
def yX10_isOrder : MethodName := ⟨RX10, "isOrder", "(I)Z"⟩
abbrev cX10_valueAt : ByteArray := prog_12_method_9_code
def yX10_valueAt : MethodName := ⟨RX10, "valueAt", "(II)I"⟩
abbrev cX10_putsLine : ByteArray := prog_12_method_10_code
def yX10_putsLine : MethodName := ⟨RX10, "putsLine", "(IIII)V"⟩
abbrev cX10_allLines : ByteArray := prog_12_method_11_code
def yX10_allLines : MethodName := ⟨RX10, "allLines", "()I"⟩
abbrev cX10_sorts : ByteArray := prog_12_method_12_code
def yX10_sorts : MethodName := ⟨RX10, "sorts", "(I)I"⟩
abbrev cX10_differentFrom : ByteArray := prog_12_method_13_code
def yX10_differentFrom : MethodName := ⟨RX10, "differentFrom", "(II)I"⟩
abbrev cX10_findBuckets : ByteArray := prog_12_method_14_code
def yX10_findBuckets : MethodName := ⟨RX10, "findBuckets", "(I)V"⟩
abbrev cX10_differentOf : ByteArray := prog_12_method_15_code
def yX10_differentOf : MethodName := ⟨RX10, "differentOf", "(I)I"⟩
abbrev cX10_less : ByteArray := prog_12_method_16_code
def yX10_less : MethodName := ⟨RX10, "less", "(II)F"⟩
abbrev cX10_equal : ByteArray := prog_12_method_17_code
def yX10_equal : MethodName := ⟨RX10, "equal", "(II)F"⟩
abbrev cX10_shareOf : ByteArray := prog_12_method_18_code
def yX10_shareOf : MethodName := ⟨RX10, "shareOf", "(III)F"⟩
abbrev cX10_thoughtOfTable : ByteArray := prog_12_method_19_code
def yX10_thoughtOfTable : MethodName := ⟨RX10, "thoughtOfTable", "(I)F"⟩
abbrev cX10_shareOfJoin : ByteArray := prog_12_method_20_code
def yX10_shareOfJoin : MethodName := ⟨RX10, "shareOfJoin", "(I)F"⟩
abbrev cX10_isWithin : ByteArray := prog_12_method_21_code
def yX10_isWithin : MethodName := ⟨RX10, "isWithin", "(II)Z"⟩
abbrev cX10_thoughtOf : ByteArray := prog_12_method_22_code
def yX10_thoughtOf : MethodName := ⟨RX10, "thoughtOf", "(I)F"⟩
abbrev cX10_sortingOf : ByteArray := prog_12_method_23_code
def yX10_sortingOf : MethodName := ⟨RX10, "sortingOf", "(I)F"⟩
abbrev cX10_offers : ByteArray := prog_12_method_24_code
def yX10_offers : MethodName := ⟨RX10, "offers", "(IFII)V"⟩
abbrev cX10_isBest : ByteArray := prog_12_method_25_code
def yX10_isBest : MethodName := ⟨RX10, "isBest", "(II)Z"⟩
abbrev cX10_best : ByteArray := prog_12_method_26_code
def yX10_best : MethodName := ⟨RX10, "best", "(II)F"⟩
abbrev cX10_joinBetween : ByteArray := prog_12_method_27_code
def yX10_joinBetween : MethodName := ⟨RX10, "joinBetween", "(II)I"⟩
abbrev cX10_placeIn : ByteArray := prog_12_method_28_code
def yX10_placeIn : MethodName := ⟨RX10, "placeIn", "(II)I"⟩
abbrev cX10_isPlaceIn : ByteArray := prog_12_method_29_code
def yX10_isPlaceIn : MethodName := ⟨RX10, "isPlaceIn", "(II)Z"⟩
abbrev cX10_offersLoop : ByteArray := prog_12_method_30_code
def yX10_offersLoop : MethodName := ⟨RX10, "offersLoop", "(III)V"⟩
abbrev cX10_offersMerge : ByteArray := prog_12_method_31_code
def yX10_offersMerge : MethodName := ⟨RX10, "offersMerge", "(III)V"⟩
abbrev cX10_offersSplit : ByteArray := prog_12_method_32_code
def yX10_offersSplit : MethodName := ⟨RX10, "offersSplit", "(I)V"⟩
abbrev cX10_onlyOf : ByteArray := prog_12_method_33_code
def yX10_onlyOf : MethodName := ⟨RX10, "onlyOf", "(I)I"⟩
abbrev cX10_offersAll : ByteArray := prog_12_method_34_code
def yX10_offersAll : MethodName := ⟨RX10, "offersAll", "()V"⟩
abbrev cX10_findBest : ByteArray := prog_12_method_35_code
def yX10_findBest : MethodName := ⟨RX10, "findBest", "()V"⟩
abbrev cX10_opens : ByteArray := prog_12_method_36_code
def yX10_opens : MethodName := ⟨RX10, "opens", "(II)V"⟩
abbrev cX10_opensBelow : ByteArray := prog_12_method_37_code
def yX10_opensBelow : MethodName := ⟨RX10, "opensBelow", "(I)V"⟩
abbrev cX10_aboutOf : ByteArray := prog_12_method_38_code
def yX10_aboutOf : MethodName := ⟨RX10, "aboutOf", "(I)I"⟩
abbrev cX10_putsNode : ByteArray := prog_12_method_39_code
def yX10_putsNode : MethodName := ⟨RX10, "putsNode", "(I)V"⟩
abbrev cX10_findSizes : ByteArray := prog_12_method_40_code
def yX10_findSizes : MethodName := ⟨RX10, "findSizes", "()V"⟩
abbrev cX10_plan : ByteArray := prog_12_method_41_code
def yX10_plan : MethodName := ⟨RX10, "plan", "(II)I"⟩
abbrev cX10_cost : ByteArray := prog_12_method_42_code
def yX10_cost : MethodName := ⟨RX10, "cost", "(II)I"⟩
abbrev cX10_nodeOf : ByteArray := prog_12_method_43_code
def yX10_nodeOf : MethodName := ⟨RX10, "nodeOf", "(II)I"⟩
abbrev cX10_passesFilters : ByteArray := prog_12_method_44_code
def yX10_passesFilters : MethodName := ⟨RX10, "passesFilters", "(I)Z"⟩
abbrev cX10_passesJoins : ByteArray := prog_12_method_45_code
def yX10_passesJoins : MethodName := ⟨RX10, "passesJoins", "(II)Z"⟩
abbrev cX10_nextOf : ByteArray := prog_12_method_46_code
def yX10_nextOf : MethodName := ⟨RX10, "nextOf", "(II)I"⟩
abbrev cX10_aheadOf : ByteArray := prog_12_method_47_code
def yX10_aheadOf : MethodName := ⟨RX10, "aheadOf", "(II)I"⟩
abbrev cX10_findReally : ByteArray := prog_12_method_48_code
def yX10_findReally : MethodName := ⟨RX10, "findReally", "(II)V"⟩
abbrev cX10_really : ByteArray := prog_12_method_49_code
def yX10_really : MethodName := ⟨RX10, "really", "(I)I"⟩
abbrev cX10_sum : ByteArray := prog_12_method_50_code
def yX10_sum : MethodName := ⟨RX10, "sum", "(II)J"⟩
abbrev cX10_wrongBy : ByteArray := prog_12_method_51_code
def yX10_wrongBy : MethodName := ⟨RX10, "wrongBy", "(I)I"⟩
abbrev cX10_isShelf : ByteArray := prog_12_method_52_code
def yX10_isShelf : MethodName := ⟨RX10, "isShelf", "(I)Z"⟩
abbrev cX10_isRow : ByteArray := prog_12_method_53_code
def yX10_isRow : MethodName := ⟨RX10, "isRow", "(I)Z"⟩
abbrev cX10_lowest : ByteArray := prog_12_method_54_code
def yX10_lowest : MethodName := ⟨RX10, "lowest", "(IJ)J"⟩
abbrev cX10_notRow : ByteArray := prog_12_method_55_code
def yX10_notRow : MethodName := ⟨RX10, "notRow", "(I)I"⟩
abbrev cX10_row : ByteArray := prog_12_method_56_code
def yX10_row : MethodName := ⟨RX10, "row", "(III)I"⟩
abbrev cX10_set : ByteArray := prog_12_method_57_code
def yX10_set : MethodName := ⟨RX10, "set", "(IIJ)I"⟩
abbrev cX10_notCopied : ByteArray := prog_12_method_58_code
def yX10_notCopied : MethodName := ⟨RX10, "notCopied", "(IIIII)I"⟩
abbrev cX10_copy : ByteArray := prog_12_method_59_code
def yX10_copy : MethodName := ⟨RX10, "copy", "(IIIII)I"⟩
abbrev cX10_element : ByteArray := prog_12_method_60_code
def yX10_element : MethodName := ⟨RX10, "element", "(II)J"⟩
abbrev cX10_show : ByteArray := prog_12_method_61_code
def yX10_show : MethodName := ⟨RX10, "show", "(II)I"⟩
abbrev cX10_holds : ByteArray := prog_12_method_62_code
def yX10_holds : MethodName := ⟨RX10, "holds", "(I)I"⟩
abbrev cX10_isSuch : ByteArray := prog_12_method_63_code
def yX10_isSuch : MethodName := ⟨RX10, "isSuch", "(II)Z"⟩
abbrev cX10_says : ByteArray := prog_12_method_64_code
def yX10_says : MethodName := ⟨RX10, "says", "(II)I"⟩
abbrev cX10_sign : ByteArray := prog_12_method_65_code
def yX10_sign : MethodName := ⟨RX10, "sign", "()I"⟩
abbrev cX10_isAt : ByteArray := prog_12_method_66_code
def yX10_isAt : MethodName := ⟨RX10, "isAt", "(I)Z"⟩
abbrev cX10_reads : ByteArray := prog_12_method_67_code
def yX10_reads : MethodName := ⟨RX10, "reads", "(I)Z"⟩
abbrev cX10_readsValue : ByteArray := prog_12_method_68_code
def yX10_readsValue : MethodName := ⟨RX10, "readsValue", "()I"⟩
abbrev cX10_readsLine : ByteArray := prog_12_method_69_code
def yX10_readsLine : MethodName := ⟨RX10, "readsLine", "(I)Z"⟩
abbrev cX10_readsItem : ByteArray := prog_12_method_70_code
def yX10_readsItem : MethodName := ⟨RX10, "readsItem", "()Z"⟩
abbrev cX10_readsAll : ByteArray := prog_12_method_71_code
def yX10_readsAll : MethodName := ⟨RX10, "readsAll", "()I"⟩
abbrev cX10_read : ByteArray := prog_12_method_72_code
def yX10_read : MethodName := ⟨RX10, "read", "(I)I"⟩
abbrev cX10_fault : ByteArray := prog_12_method_73_code
def yX10_fault : MethodName := ⟨RX10, "fault", "()I"⟩
abbrev cX10_line : ByteArray := prog_12_method_74_code
def yX10_line : MethodName := ⟨RX10, "line", "(IIII)I"⟩
abbrev cX10_empty : ByteArray := prog_12_method_75_code
def yX10_empty : MethodName := ⟨RX10, "empty", "(I)I"⟩
abbrev cX10_put : ByteArray := prog_12_method_76_code
def yX10_put : MethodName := ⟨RX10, "put", "(III)I"⟩
abbrev cX10_tableOf : ByteArray := prog_12_method_77_code
def yX10_tableOf : MethodName := ⟨RX10, "tableOf", "(II)I"⟩
abbrev cX10_lineOf : ByteArray := prog_12_method_78_code
def yX10_lineOf : MethodName := ⟨RX10, "lineOf", "(III)I"⟩
abbrev cX10_bucket : ByteArray := prog_12_method_79_code
def yX10_bucket : MethodName := ⟨RX10, "bucket", "(III)I"⟩
abbrev cX10_different : ByteArray := prog_12_method_80_code
def yX10_different : MethodName := ⟨RX10, "different", "(I)I"⟩
abbrev cX10_isAsked : ByteArray := prog_12_method_81_code
def yX10_isAsked : MethodName := ⟨RX10, "isAsked", "(II)Z"⟩
abbrev cX10_share : ByteArray := prog_12_method_82_code
def yX10_share : MethodName := ⟨RX10, "share", "(III)I"⟩
abbrev cX10_filter : ByteArray := prog_12_method_83_code
def yX10_filter : MethodName := ⟨RX10, "filter", "(III)I"⟩
abbrev cX10_join : ByteArray := prog_12_method_84_code
def yX10_join : MethodName := ⟨RX10, "join", "(II)I"⟩
abbrev cX10_clear : ByteArray := prog_12_method_85_code
def yX10_clear : MethodName := ⟨RX10, "clear", "()I"⟩
abbrev cX10_filterOf : ByteArray := prog_12_method_86_code
def yX10_filterOf : MethodName := ⟨RX10, "filterOf", "(II)I"⟩
abbrev cX10_joinOf : ByteArray := prog_12_method_87_code
def yX10_joinOf : MethodName := ⟨RX10, "joinOf", "(II)I"⟩
abbrev cX10_joinShare : ByteArray := prog_12_method_88_code
def yX10_joinShare : MethodName := ⟨RX10, "joinShare", "(I)I"⟩
abbrev cX10_thought : ByteArray := prog_12_method_89_code
def yX10_thought : MethodName := ⟨RX10, "thought", "(I)I"⟩
abbrev cX10_sorting : ByteArray := prog_12_method_90_code
def yX10_sorting : MethodName := ⟨RX10, "sorting", "(I)I"⟩
abbrev cX10_judge : ByteArray := prog_12_method_91_code
def yX10_judge : MethodName := ⟨RX10, "judge", "(II)I"⟩
abbrev cX10_draw : ByteArray := prog_12_method_92_code
def yX10_draw : MethodName := ⟨RX10, "draw", "(I)I"⟩
abbrev cX10_drawsLine : ByteArray := prog_12_method_93_code
def yX10_drawsLine : MethodName := ⟨RX10, "drawsLine", "()I"⟩
abbrev cX10_drawn : ByteArray := prog_12_method_94_code
def yX10_drawn : MethodName := ⟨RX10, "drawn", "(I)I"⟩
abbrev cX10_seed : ByteArray := prog_12_method_95_code
def yX10_seed : MethodName := ⟨RX10, "seed", "(I)I"⟩
abbrev cX10_passes : ByteArray := prog_12_method_96_code
def yX10_passes : MethodName := ⟨RX10, "passes", "([I)V"⟩
abbrev cX10_passOne : ByteArray := prog_12_method_97_code
def yX10_passOne : MethodName := ⟨RX10, "passOne", "(I)I"⟩
abbrev cX10_passesAll : ByteArray := prog_12_method_98_code
def yX10_passesAll : MethodName := ⟨RX10, "passesAll", "(Z)V"⟩
abbrev cX10_image : ByteArray := prog_12_method_99_code
def yX10_image : MethodName := ⟨RX10, "image", "()I"⟩
abbrev cX10_restore : ByteArray := prog_12_method_100_code
def yX10_restore : MethodName := ⟨RX10, "restore", "()I"⟩
abbrev cX10_status : ByteArray := prog_12_method_101_code
def yX10_status : MethodName := ⟨RX10, "status", "(I)I"⟩
def RJx145de : String := "java/io/Serializable"
def RJxb160c : String := "java/lang/Comparable"
def RJxf58ca : String := "java/lang/Float"
abbrev cJxf58ca_isNaN_12338 : ByteArray := prog_13_method_6_code
def yJxf58ca_isNaN_12338 : MethodName := ⟨RJxf58ca, "isNaN", "(F)Z"⟩
abbrev cJxf58ca_floatToIntBits_5c35a : ByteArray := prog_13_method_24_code
def yJxf58ca_floatToIntBits_5c35a : MethodName := ⟨RJxf58ca, "floatToIntBits", "(F)I"⟩
def RJ6 : String := "java/lang/Integer"
abbrev cJ6_bitCount_0f7a4 : ByteArray := prog_14_method_49_code
def yJ6_bitCount_0f7a4 : MethodName := ⟨RJ6, "bitCount", "(I)I"⟩
def RJ9 : String := "java/lang/Math"
abbrev cJ9_max_7cf53 : ByteArray := prog_15_method_65_code
def yJ9_max_7cf53 : MethodName := ⟨RJ9, "max", "(II)I"⟩
abbrev cJ9_min_7cf53 : ByteArray := prog_15_method_69_code
def yJ9_min_7cf53 : MethodName := ⟨RJ9, "min", "(II)I"⟩
def RJxd2413 : String := "java/lang/Number"
def RJ10 : String := "java/lang/System"
def RJxfd54e : String := "java/lang/constant/Constable"
def RJx3cf43 : String := "java/lang/constant/ConstantDesc"
def RJ7 : String := "java/util/Arrays"
abbrev cJ7_fill_d0a16 : ByteArray := prog_18_method_101_code
def yJ7_fill_d0a16 : MethodName := ⟨RJ7, "fill", "([JJ)V"⟩
abbrev cJ7_fill_53178 : ByteArray := prog_18_method_103_code
def yJ7_fill_53178 : MethodName := ⟨RJ7, "fill", "([II)V"⟩
def RL : String := "HistogramPlansLaw"
abbrev cL_law : ByteArray := code
def yL_law : MethodName := ⟨RL, "law", "([I)Z"⟩
abbrev vwCl : List vw_C := [(RX0, TX0, 7), (RX1, TX1, 6), (RX2, TX2, 7), (RX3, TX3, 10), (RX4, TX4, 5), (RX5, TX5, 4), (RX6, TX6, 7), (RX7, TX7, 4), (RX8, TX8, 9), (RX9, TX9, 12), (RX10, TX10, 59)]
end
section
theorem dX0_init_0 : decode cX0_init 0 = .ok (.aload_n 0, 1) := by decide +kernel
theorem dX0_init_1 : decode cX0_init 1 = .ok (.invokespecial 3, 3) := by decide +kernel
theorem dX0_init_4 : decode cX0_init 4 = .ok (.aload_n 0, 1) := by decide +kernel
theorem dX0_init_5 : decode cX0_init 5 = .ok (.bipush 16, 2) := by decide +kernel
theorem dX0_init_7 : decode cX0_init 7 = .ok (.newarray .int, 2) := by decide +kernel
theorem dX0_init_9 : decode cX0_init 9 = .ok (.putfield 9, 3) := by decide +kernel
theorem dX0_init_12 : decode cX0_init 12 = .ok (.aload_n 0, 1) := by decide +kernel
theorem dX0_init_13 : decode cX0_init 13 = .ok (.iconst 0, 1) := by decide +kernel
theorem dX0_init_14 : decode cX0_init 14 = .ok (.putfield 15, 3) := by decide +kernel
theorem dX0_init_17 : decode cX0_init 17 = .ok (.aload_n 0, 1) := by decide +kernel
theorem dX0_init_18 : decode cX0_init 18 = .ok (.bipush 8, 2) := by decide +kernel
theorem dX0_init_20 : decode cX0_init 20 = .ok (.newarray .int, 2) := by decide +kernel
theorem dX0_init_22 : decode cX0_init 22 = .ok (.putfield 19, 3) := by decide +kernel
theorem dX0_init_25 : decode cX0_init 25 = .ok (.aload_n 0, 1) := by decide +kernel
theorem dX0_init_26 : decode cX0_init 26 = .ok (.bipush 8, 2) := by decide +kernel
theorem dX0_init_28 : decode cX0_init 28 = .ok (.newarray .int, 2) := by decide +kernel
theorem dX0_init_30 : decode cX0_init 30 = .ok (.putfield 22, 3) := by decide +kernel
theorem dX0_init_33 : decode cX0_init 33 = .ok (.aload_n 0, 1) := by decide +kernel
theorem dX0_init_34 : decode cX0_init 34 = .ok (.bipush 8, 2) := by decide +kernel
theorem dX0_init_36 : decode cX0_init 36 = .ok (.newarray .int, 2) := by decide +kernel
theorem dX0_init_38 : decode cX0_init 38 = .ok (.putfield 25, 3) := by decide +kernel
theorem dX0_init_41 : decode cX0_init 41 = .ok (.aload_n 0, 1) := by decide +kernel
theorem dX0_init_42 : decode cX0_init 42 = .ok (.bipush 8, 2) := by decide +kernel
theorem dX0_init_44 : decode cX0_init 44 = .ok (.newarray .int, 2) := by decide +kernel
theorem dX0_init_46 : decode cX0_init 46 = .ok (.putfield 28, 3) := by decide +kernel
theorem dX0_init_49 : decode cX0_init 49 = .ok (.aload_n 0, 1) := by decide +kernel
theorem dX0_init_50 : decode cX0_init 50 = .ok (.iconst 0, 1) := by decide +kernel
theorem dX0_init_51 : decode cX0_init 51 = .ok (.putfield 31, 3) := by decide +kernel
theorem dX0_init_54 : decode cX0_init 54 = .ok (.return_, 1) := by decide +kernel
theorem dX0_fill_0 : decode cX0_fill 0 = .ok (.aload_n 0, 1) := by decide +kernel
theorem dX0_fill_1 : decode cX0_fill 1 = .ok (.aload_n 1, 1) := by decide +kernel
theorem dX0_fill_2 : decode cX0_fill 2 = .ok (.getfield 34, 3) := by decide +kernel
theorem dX0_fill_5 : decode cX0_fill 5 = .ok (.putfield 15, 3) := by decide +kernel
theorem dX0_fill_8 : decode cX0_fill 8 = .ok (.iconst 0, 1) := by decide +kernel
theorem dX0_fill_9 : decode cX0_fill 9 = .ok (.istore_n 3, 1) := by decide +kernel
theorem dX0_fill_10 : decode cX0_fill 10 = .ok (.iload_n 3, 1) := by decide +kernel
theorem dX0_fill_11 : decode cX0_fill 11 = .ok (.aload_n 0, 1) := by decide +kernel
theorem dX0_fill_12 : decode cX0_fill 12 = .ok (.getfield 15, 3) := by decide +kernel
theorem dX0_fill_15 : decode cX0_fill 15 = .ok (.if_icmp .ge 20, 3) := by decide +kernel
theorem dX0_fill_18 : decode cX0_fill 18 = .ok (.aload_n 0, 1) := by decide +kernel
theorem dX0_fill_19 : decode cX0_fill 19 = .ok (.aload_n 1, 1) := by decide +kernel
theorem dX0_fill_20 : decode cX0_fill 20 = .ok (.iload_n 3, 1) := by decide +kernel
theorem dX0_fill_21 : decode cX0_fill 21 = .ok (.iload_n 2, 1) := by decide +kernel
theorem dX0_fill_22 : decode cX0_fill 22 = .ok (.invokevirtual 39, 3) := by decide +kernel
theorem dX0_fill_25 : decode cX0_fill 25 = .ok (.iload_n 3, 1) := by decide +kernel
theorem dX0_fill_26 : decode cX0_fill 26 = .ok (.invokevirtual 43, 3) := by decide +kernel
theorem dX0_fill_29 : decode cX0_fill 29 = .ok (.iinc 3 1, 3) := by decide +kernel
theorem dX0_fill_32 : decode cX0_fill 32 = .ok (.goto (-22), 3) := by decide +kernel
theorem dX0_fill_35 : decode cX0_fill 35 = .ok (.aload_n 0, 1) := by decide +kernel
theorem dX0_fill_36 : decode cX0_fill 36 = .ok (.iconst 0, 1) := by decide +kernel
theorem dX0_fill_37 : decode cX0_fill 37 = .ok (.putfield 31, 3) := by decide +kernel
theorem dX0_fill_40 : decode cX0_fill 40 = .ok (.iconst 0, 1) := by decide +kernel
theorem dX0_fill_41 : decode cX0_fill 41 = .ok (.istore_n 3, 1) := by decide +kernel
theorem dX0_fill_42 : decode cX0_fill 42 = .ok (.iload_n 3, 1) := by decide +kernel
theorem dX0_fill_43 : decode cX0_fill 43 = .ok (.aload_n 1, 1) := by decide +kernel
theorem dX0_fill_44 : decode cX0_fill 44 = .ok (.getfield 47, 3) := by decide +kernel
theorem dX0_fill_47 : decode cX0_fill 47 = .ok (.if_icmp .ge 37, 3) := by decide +kernel
theorem dX0_fill_50 : decode cX0_fill 50 = .ok (.aload_n 0, 1) := by decide +kernel
theorem dX0_fill_51 : decode cX0_fill 51 = .ok (.iload_n 3, 1) := by decide +kernel
theorem dX0_fill_52 : decode cX0_fill 52 = .ok (.aload_n 0, 1) := by decide +kernel
theorem dX0_fill_53 : decode cX0_fill 53 = .ok (.getfield 15, 3) := by decide +kernel
theorem dX0_fill_56 : decode cX0_fill 56 = .ok (.imul, 1) := by decide +kernel
theorem dX0_fill_57 : decode cX0_fill 57 = .ok (.aload_n 1, 1) := by decide +kernel
theorem dX0_fill_58 : decode cX0_fill 58 = .ok (.getfield 47, 3) := by decide +kernel
theorem dX0_fill_61 : decode cX0_fill 61 = .ok (.idiv, 1) := by decide +kernel
theorem dX0_fill_62 : decode cX0_fill 62 = .ok (.iload_n 3, 1) := by decide +kernel
theorem dX0_fill_63 : decode cX0_fill 63 = .ok (.iconst 1, 1) := by decide +kernel
theorem dX0_fill_64 : decode cX0_fill 64 = .ok (.iadd, 1) := by decide +kernel
theorem dX0_fill_65 : decode cX0_fill 65 = .ok (.aload_n 0, 1) := by decide +kernel
theorem dX0_fill_66 : decode cX0_fill 66 = .ok (.getfield 15, 3) := by decide +kernel
theorem dX0_fill_69 : decode cX0_fill 69 = .ok (.imul, 1) := by decide +kernel
theorem dX0_fill_70 : decode cX0_fill 70 = .ok (.aload_n 1, 1) := by decide +kernel
theorem dX0_fill_71 : decode cX0_fill 71 = .ok (.getfield 47, 3) := by decide +kernel
theorem dX0_fill_74 : decode cX0_fill 74 = .ok (.idiv, 1) := by decide +kernel
theorem dX0_fill_75 : decode cX0_fill 75 = .ok (.invokevirtual 48, 3) := by decide +kernel
theorem dX0_fill_78 : decode cX0_fill 78 = .ok (.iinc 3 1, 3) := by decide +kernel
theorem dX0_fill_81 : decode cX0_fill 81 = .ok (.goto (-39), 3) := by decide +kernel
theorem dX0_fill_84 : decode cX0_fill 84 = .ok (.return_, 1) := by decide +kernel
theorem dX0_insert_0 : decode cX0_insert 0 = .ok (.iload_n 2, 1) := by decide +kernel
theorem dX0_insert_1 : decode cX0_insert 1 = .ok (.istore_n 3, 1) := by decide +kernel
theorem dX0_insert_2 : decode cX0_insert 2 = .ok (.iload_n 3, 1) := by decide +kernel
theorem dX0_insert_3 : decode cX0_insert 3 = .ok (.ifCond .le 35, 3) := by decide +kernel
theorem dX0_insert_6 : decode cX0_insert 6 = .ok (.aload_n 0, 1) := by decide +kernel
theorem dX0_insert_7 : decode cX0_insert 7 = .ok (.getfield 9, 3) := by decide +kernel
theorem dX0_insert_10 : decode cX0_insert 10 = .ok (.iload_n 3, 1) := by decide +kernel
theorem dX0_insert_11 : decode cX0_insert 11 = .ok (.iconst 1, 1) := by decide +kernel
theorem dX0_insert_12 : decode cX0_insert 12 = .ok (.isub, 1) := by decide +kernel
theorem dX0_insert_13 : decode cX0_insert 13 = .ok (.iaload, 1) := by decide +kernel
theorem dX0_insert_14 : decode cX0_insert 14 = .ok (.iload_n 1, 1) := by decide +kernel
theorem dX0_insert_15 : decode cX0_insert 15 = .ok (.if_icmp .le 23, 3) := by decide +kernel
theorem dX0_insert_18 : decode cX0_insert 18 = .ok (.aload_n 0, 1) := by decide +kernel
theorem dX0_insert_19 : decode cX0_insert 19 = .ok (.getfield 9, 3) := by decide +kernel
theorem dX0_insert_22 : decode cX0_insert 22 = .ok (.iload_n 3, 1) := by decide +kernel
theorem dX0_insert_23 : decode cX0_insert 23 = .ok (.aload_n 0, 1) := by decide +kernel
theorem dX0_insert_24 : decode cX0_insert 24 = .ok (.getfield 9, 3) := by decide +kernel
theorem dX0_insert_27 : decode cX0_insert 27 = .ok (.iload_n 3, 1) := by decide +kernel
theorem dX0_insert_28 : decode cX0_insert 28 = .ok (.iconst 1, 1) := by decide +kernel
theorem dX0_insert_29 : decode cX0_insert 29 = .ok (.isub, 1) := by decide +kernel
theorem dX0_insert_30 : decode cX0_insert 30 = .ok (.iaload, 1) := by decide +kernel
theorem dX0_insert_31 : decode cX0_insert 31 = .ok (.iastore, 1) := by decide +kernel
theorem dX0_insert_32 : decode cX0_insert 32 = .ok (.iinc 3 (-1), 3) := by decide +kernel
theorem dX0_insert_35 : decode cX0_insert 35 = .ok (.goto (-33), 3) := by decide +kernel
theorem dX0_insert_38 : decode cX0_insert 38 = .ok (.aload_n 0, 1) := by decide +kernel
theorem dX0_insert_39 : decode cX0_insert 39 = .ok (.getfield 9, 3) := by decide +kernel
theorem dX0_insert_42 : decode cX0_insert 42 = .ok (.iload_n 3, 1) := by decide +kernel
theorem dX0_insert_43 : decode cX0_insert 43 = .ok (.iload_n 1, 1) := by decide +kernel
theorem dX0_insert_44 : decode cX0_insert 44 = .ok (.iastore, 1) := by decide +kernel
theorem dX0_insert_45 : decode cX0_insert 45 = .ok (.return_, 1) := by decide +kernel
theorem dX0_addBucket_0 : decode cX0_addBucket 0 = .ok (.iload_n 1, 1) := by decide +kernel
theorem dX0_addBucket_1 : decode cX0_addBucket 1 = .ok (.iload_n 2, 1) := by decide +kernel
theorem dX0_addBucket_2 : decode cX0_addBucket 2 = .ok (.if_icmp .ge 81, 3) := by decide +kernel
theorem dX0_addBucket_5 : decode cX0_addBucket 5 = .ok (.aload_n 0, 1) := by decide +kernel
theorem dX0_addBucket_6 : decode cX0_addBucket 6 = .ok (.getfield 31, 3) := by decide +kernel
theorem dX0_addBucket_9 : decode cX0_addBucket 9 = .ok (.bipush 8, 2) := by decide +kernel
theorem dX0_addBucket_11 : decode cX0_addBucket 11 = .ok (.if_icmp .ge 72, 3) := by decide +kernel
theorem dX0_addBucket_14 : decode cX0_addBucket 14 = .ok (.aload_n 0, 1) := by decide +kernel
theorem dX0_addBucket_15 : decode cX0_addBucket 15 = .ok (.getfield 19, 3) := by decide +kernel
theorem dX0_addBucket_18 : decode cX0_addBucket 18 = .ok (.aload_n 0, 1) := by decide +kernel
theorem dX0_addBucket_19 : decode cX0_addBucket 19 = .ok (.getfield 31, 3) := by decide +kernel
theorem dX0_addBucket_22 : decode cX0_addBucket 22 = .ok (.aload_n 0, 1) := by decide +kernel
theorem dX0_addBucket_23 : decode cX0_addBucket 23 = .ok (.getfield 9, 3) := by decide +kernel
theorem dX0_addBucket_26 : decode cX0_addBucket 26 = .ok (.iload_n 1, 1) := by decide +kernel
theorem dX0_addBucket_27 : decode cX0_addBucket 27 = .ok (.iaload, 1) := by decide +kernel
theorem dX0_addBucket_28 : decode cX0_addBucket 28 = .ok (.iastore, 1) := by decide +kernel
theorem dX0_addBucket_29 : decode cX0_addBucket 29 = .ok (.aload_n 0, 1) := by decide +kernel
theorem dX0_addBucket_30 : decode cX0_addBucket 30 = .ok (.getfield 22, 3) := by decide +kernel
theorem dX0_addBucket_33 : decode cX0_addBucket 33 = .ok (.aload_n 0, 1) := by decide +kernel
theorem dX0_addBucket_34 : decode cX0_addBucket 34 = .ok (.getfield 31, 3) := by decide +kernel
theorem dX0_addBucket_37 : decode cX0_addBucket 37 = .ok (.aload_n 0, 1) := by decide +kernel
theorem dX0_addBucket_38 : decode cX0_addBucket 38 = .ok (.getfield 9, 3) := by decide +kernel
theorem dX0_addBucket_41 : decode cX0_addBucket 41 = .ok (.iload_n 2, 1) := by decide +kernel
theorem dX0_addBucket_42 : decode cX0_addBucket 42 = .ok (.iconst 1, 1) := by decide +kernel
theorem dX0_addBucket_43 : decode cX0_addBucket 43 = .ok (.isub, 1) := by decide +kernel
theorem dX0_addBucket_44 : decode cX0_addBucket 44 = .ok (.iaload, 1) := by decide +kernel
theorem dX0_addBucket_45 : decode cX0_addBucket 45 = .ok (.iastore, 1) := by decide +kernel
theorem dX0_addBucket_46 : decode cX0_addBucket 46 = .ok (.aload_n 0, 1) := by decide +kernel
theorem dX0_addBucket_47 : decode cX0_addBucket 47 = .ok (.getfield 25, 3) := by decide +kernel
theorem dX0_addBucket_50 : decode cX0_addBucket 50 = .ok (.aload_n 0, 1) := by decide +kernel
theorem dX0_addBucket_51 : decode cX0_addBucket 51 = .ok (.getfield 31, 3) := by decide +kernel
theorem dX0_addBucket_54 : decode cX0_addBucket 54 = .ok (.iload_n 2, 1) := by decide +kernel
theorem dX0_addBucket_55 : decode cX0_addBucket 55 = .ok (.iload_n 1, 1) := by decide +kernel
theorem dX0_addBucket_56 : decode cX0_addBucket 56 = .ok (.isub, 1) := by decide +kernel
theorem dX0_addBucket_57 : decode cX0_addBucket 57 = .ok (.iastore, 1) := by decide +kernel
theorem dX0_addBucket_58 : decode cX0_addBucket 58 = .ok (.aload_n 0, 1) := by decide +kernel
theorem dX0_addBucket_59 : decode cX0_addBucket 59 = .ok (.getfield 28, 3) := by decide +kernel
theorem dX0_addBucket_62 : decode cX0_addBucket 62 = .ok (.aload_n 0, 1) := by decide +kernel
theorem dX0_addBucket_63 : decode cX0_addBucket 63 = .ok (.getfield 31, 3) := by decide +kernel
theorem dX0_addBucket_66 : decode cX0_addBucket 66 = .ok (.aload_n 0, 1) := by decide +kernel
theorem dX0_addBucket_67 : decode cX0_addBucket 67 = .ok (.iload_n 1, 1) := by decide +kernel
theorem dX0_addBucket_68 : decode cX0_addBucket 68 = .ok (.iload_n 2, 1) := by decide +kernel
theorem dX0_addBucket_69 : decode cX0_addBucket 69 = .ok (.invokevirtual 51, 3) := by decide +kernel
theorem dX0_addBucket_72 : decode cX0_addBucket 72 = .ok (.iastore, 1) := by decide +kernel
theorem dX0_addBucket_73 : decode cX0_addBucket 73 = .ok (.aload_n 0, 1) := by decide +kernel
theorem dX0_addBucket_74 : decode cX0_addBucket 74 = .ok (.dup, 1) := by decide +kernel
theorem dX0_addBucket_75 : decode cX0_addBucket 75 = .ok (.getfield 31, 3) := by decide +kernel
theorem dX0_addBucket_78 : decode cX0_addBucket 78 = .ok (.iconst 1, 1) := by decide +kernel
theorem dX0_addBucket_79 : decode cX0_addBucket 79 = .ok (.iadd, 1) := by decide +kernel
theorem dX0_addBucket_80 : decode cX0_addBucket 80 = .ok (.putfield 31, 3) := by decide +kernel
theorem dX0_addBucket_83 : decode cX0_addBucket 83 = .ok (.return_, 1) := by decide +kernel
theorem dX0_differentIn_0 : decode cX0_differentIn 0 = .ok (.iconst 0, 1) := by decide +kernel
theorem dX0_differentIn_1 : decode cX0_differentIn 1 = .ok (.istore_n 3, 1) := by decide +kernel
theorem dX0_differentIn_2 : decode cX0_differentIn 2 = .ok (.iload_n 1, 1) := by decide +kernel
theorem dX0_differentIn_3 : decode cX0_differentIn 3 = .ok (.istore 4, 2) := by decide +kernel
theorem dX0_differentIn_5 : decode cX0_differentIn 5 = .ok (.iload 4, 2) := by decide +kernel
theorem dX0_differentIn_7 : decode cX0_differentIn 7 = .ok (.iload_n 2, 1) := by decide +kernel
theorem dX0_differentIn_8 : decode cX0_differentIn 8 = .ok (.if_icmp .ge 37, 3) := by decide +kernel
theorem dX0_differentIn_11 : decode cX0_differentIn 11 = .ok (.iload 4, 2) := by decide +kernel
theorem dX0_differentIn_13 : decode cX0_differentIn 13 = .ok (.iload_n 1, 1) := by decide +kernel
theorem dX0_differentIn_14 : decode cX0_differentIn 14 = .ok (.if_icmp .eq 22, 3) := by decide +kernel
theorem dX0_differentIn_17 : decode cX0_differentIn 17 = .ok (.aload_n 0, 1) := by decide +kernel
theorem dX0_differentIn_18 : decode cX0_differentIn 18 = .ok (.getfield 9, 3) := by decide +kernel
theorem dX0_differentIn_21 : decode cX0_differentIn 21 = .ok (.iload 4, 2) := by decide +kernel
theorem dX0_differentIn_23 : decode cX0_differentIn 23 = .ok (.iaload, 1) := by decide +kernel
theorem dX0_differentIn_24 : decode cX0_differentIn 24 = .ok (.aload_n 0, 1) := by decide +kernel
theorem dX0_differentIn_25 : decode cX0_differentIn 25 = .ok (.getfield 9, 3) := by decide +kernel
theorem dX0_differentIn_28 : decode cX0_differentIn 28 = .ok (.iload 4, 2) := by decide +kernel
theorem dX0_differentIn_30 : decode cX0_differentIn 30 = .ok (.iconst 1, 1) := by decide +kernel
theorem dX0_differentIn_31 : decode cX0_differentIn 31 = .ok (.isub, 1) := by decide +kernel
theorem dX0_differentIn_32 : decode cX0_differentIn 32 = .ok (.iaload, 1) := by decide +kernel
theorem dX0_differentIn_33 : decode cX0_differentIn 33 = .ok (.if_icmp .eq 6, 3) := by decide +kernel
theorem dX0_differentIn_36 : decode cX0_differentIn 36 = .ok (.iinc 3 1, 3) := by decide +kernel
theorem dX0_differentIn_39 : decode cX0_differentIn 39 = .ok (.iinc 4 1, 3) := by decide +kernel
theorem dX0_differentIn_42 : decode cX0_differentIn 42 = .ok (.goto (-37), 3) := by decide +kernel
theorem dX0_differentIn_45 : decode cX0_differentIn 45 = .ok (.iload_n 3, 1) := by decide +kernel
theorem dX0_differentIn_46 : decode cX0_differentIn 46 = .ok (.ireturn, 1) := by decide +kernel
theorem dX0_differentValues_0 : decode cX0_differentValues 0 = .ok (.aload_n 0, 1) := by decide +kernel
theorem dX0_differentValues_1 : decode cX0_differentValues 1 = .ok (.iconst 0, 1) := by decide +kernel
theorem dX0_differentValues_2 : decode cX0_differentValues 2 = .ok (.aload_n 0, 1) := by decide +kernel
theorem dX0_differentValues_3 : decode cX0_differentValues 3 = .ok (.getfield 15, 3) := by decide +kernel
theorem dX0_differentValues_6 : decode cX0_differentValues 6 = .ok (.invokevirtual 51, 3) := by decide +kernel
theorem dX0_differentValues_9 : decode cX0_differentValues 9 = .ok (.ireturn, 1) := by decide +kernel
theorem dX0_shareOf_0 : decode cX0_shareOf 0 = .ok (.aload_n 0, 1) := by decide +kernel
theorem dX0_shareOf_1 : decode cX0_shareOf 1 = .ok (.getfield 15, 3) := by decide +kernel
theorem dX0_shareOf_4 : decode cX0_shareOf 4 = .ok (.ifCond .ne 5, 3) := by decide +kernel
theorem dX0_shareOf_7 : decode cX0_shareOf 7 = .ok (.fconst 0, 1) := by decide +kernel
theorem dX0_shareOf_8 : decode cX0_shareOf 8 = .ok (.freturn, 1) := by decide +kernel
theorem dX0_shareOf_9 : decode cX0_shareOf 9 = .ok (.iload_n 1, 1) := by decide +kernel
theorem dX0_shareOf_10 : decode cX0_shareOf 10 = .ok (.ifCond .ne 9, 3) := by decide +kernel
theorem dX0_shareOf_13 : decode cX0_shareOf 13 = .ok (.aload_n 0, 1) := by decide +kernel
theorem dX0_shareOf_14 : decode cX0_shareOf 14 = .ok (.iload_n 2, 1) := by decide +kernel
theorem dX0_shareOf_15 : decode cX0_shareOf 15 = .ok (.invokevirtual 54, 3) := by decide +kernel
theorem dX0_shareOf_18 : decode cX0_shareOf 18 = .ok (.freturn, 1) := by decide +kernel
theorem dX0_shareOf_19 : decode cX0_shareOf 19 = .ok (.iload_n 1, 1) := by decide +kernel
theorem dX0_shareOf_20 : decode cX0_shareOf 20 = .ok (.iconst 1, 1) := by decide +kernel
theorem dX0_shareOf_21 : decode cX0_shareOf 21 = .ok (.if_icmp .ne 9, 3) := by decide +kernel
theorem dX0_shareOf_24 : decode cX0_shareOf 24 = .ok (.aload_n 0, 1) := by decide +kernel
theorem dX0_shareOf_25 : decode cX0_shareOf 25 = .ok (.iload_n 2, 1) := by decide +kernel
theorem dX0_shareOf_26 : decode cX0_shareOf 26 = .ok (.invokevirtual 58, 3) := by decide +kernel
theorem dX0_shareOf_29 : decode cX0_shareOf 29 = .ok (.freturn, 1) := by decide +kernel
theorem dX0_shareOf_30 : decode cX0_shareOf 30 = .ok (.fconst 1, 1) := by decide +kernel
theorem dX0_shareOf_31 : decode cX0_shareOf 31 = .ok (.aload_n 0, 1) := by decide +kernel
theorem dX0_shareOf_32 : decode cX0_shareOf 32 = .ok (.iload_n 2, 1) := by decide +kernel
theorem dX0_shareOf_33 : decode cX0_shareOf 33 = .ok (.invokevirtual 54, 3) := by decide +kernel
theorem dX0_shareOf_36 : decode cX0_shareOf 36 = .ok (.aload_n 0, 1) := by decide +kernel
theorem dX0_shareOf_37 : decode cX0_shareOf 37 = .ok (.iload_n 2, 1) := by decide +kernel
theorem dX0_shareOf_38 : decode cX0_shareOf 38 = .ok (.invokevirtual 58, 3) := by decide +kernel
theorem dX0_shareOf_41 : decode cX0_shareOf 41 = .ok (.fadd, 1) := by decide +kernel
theorem dX0_shareOf_42 : decode cX0_shareOf 42 = .ok (.fsub, 1) := by decide +kernel
theorem dX0_shareOf_43 : decode cX0_shareOf 43 = .ok (.fstore_n 3, 1) := by decide +kernel
theorem dX0_shareOf_44 : decode cX0_shareOf 44 = .ok (.fload_n 3, 1) := by decide +kernel
theorem dX0_shareOf_45 : decode cX0_shareOf 45 = .ok (.fconst 0, 1) := by decide +kernel
theorem dX0_shareOf_46 : decode cX0_shareOf 46 = .ok (.fcmp .g, 1) := by decide +kernel
theorem dX0_shareOf_47 : decode cX0_shareOf 47 = .ok (.ifCond .ge 7, 3) := by decide +kernel
theorem dX0_shareOf_50 : decode cX0_shareOf 50 = .ok (.fconst 0, 1) := by decide +kernel
theorem dX0_shareOf_51 : decode cX0_shareOf 51 = .ok (.goto 4, 3) := by decide +kernel
theorem dX0_shareOf_54 : decode cX0_shareOf 54 = .ok (.fload_n 3, 1) := by decide +kernel
theorem dX0_shareOf_55 : decode cX0_shareOf 55 = .ok (.freturn, 1) := by decide +kernel
theorem dX0_shareLess_0 : decode cX0_shareLess 0 = .ok (.fconst 0, 1) := by decide +kernel
theorem dX0_shareLess_1 : decode cX0_shareLess 1 = .ok (.fstore_n 2, 1) := by decide +kernel
theorem dX0_shareLess_2 : decode cX0_shareLess 2 = .ok (.iconst 0, 1) := by decide +kernel
theorem dX0_shareLess_3 : decode cX0_shareLess 3 = .ok (.istore_n 3, 1) := by decide +kernel
theorem dX0_shareLess_4 : decode cX0_shareLess 4 = .ok (.iload_n 3, 1) := by decide +kernel
theorem dX0_shareLess_5 : decode cX0_shareLess 5 = .ok (.aload_n 0, 1) := by decide +kernel
theorem dX0_shareLess_6 : decode cX0_shareLess 6 = .ok (.getfield 31, 3) := by decide +kernel
theorem dX0_shareLess_9 : decode cX0_shareLess 9 = .ok (.if_icmp .ge 79, 3) := by decide +kernel
theorem dX0_shareLess_12 : decode cX0_shareLess 12 = .ok (.iload_n 1, 1) := by decide +kernel
theorem dX0_shareLess_13 : decode cX0_shareLess 13 = .ok (.aload_n 0, 1) := by decide +kernel
theorem dX0_shareLess_14 : decode cX0_shareLess 14 = .ok (.getfield 22, 3) := by decide +kernel
theorem dX0_shareLess_17 : decode cX0_shareLess 17 = .ok (.iload_n 3, 1) := by decide +kernel
theorem dX0_shareLess_18 : decode cX0_shareLess 18 = .ok (.iaload, 1) := by decide +kernel
theorem dX0_shareLess_19 : decode cX0_shareLess 19 = .ok (.if_icmp .le 16, 3) := by decide +kernel
theorem dX0_shareLess_22 : decode cX0_shareLess 22 = .ok (.fload_n 2, 1) := by decide +kernel
theorem dX0_shareLess_23 : decode cX0_shareLess 23 = .ok (.aload_n 0, 1) := by decide +kernel
theorem dX0_shareLess_24 : decode cX0_shareLess 24 = .ok (.getfield 25, 3) := by decide +kernel
theorem dX0_shareLess_27 : decode cX0_shareLess 27 = .ok (.iload_n 3, 1) := by decide +kernel
theorem dX0_shareLess_28 : decode cX0_shareLess 28 = .ok (.iaload, 1) := by decide +kernel
theorem dX0_shareLess_29 : decode cX0_shareLess 29 = .ok (.i2f, 1) := by decide +kernel
theorem dX0_shareLess_30 : decode cX0_shareLess 30 = .ok (.fadd, 1) := by decide +kernel
theorem dX0_shareLess_31 : decode cX0_shareLess 31 = .ok (.fstore_n 2, 1) := by decide +kernel
theorem dX0_shareLess_32 : decode cX0_shareLess 32 = .ok (.goto 50, 3) := by decide +kernel
theorem dX0_shareLess_35 : decode cX0_shareLess 35 = .ok (.iload_n 1, 1) := by decide +kernel
theorem dX0_shareLess_36 : decode cX0_shareLess 36 = .ok (.aload_n 0, 1) := by decide +kernel
theorem dX0_shareLess_37 : decode cX0_shareLess 37 = .ok (.getfield 19, 3) := by decide +kernel
theorem dX0_shareLess_40 : decode cX0_shareLess 40 = .ok (.iload_n 3, 1) := by decide +kernel
theorem dX0_shareLess_41 : decode cX0_shareLess 41 = .ok (.iaload, 1) := by decide +kernel
theorem dX0_shareLess_42 : decode cX0_shareLess 42 = .ok (.if_icmp .le 40, 3) := by decide +kernel
theorem dX0_shareLess_45 : decode cX0_shareLess 45 = .ok (.fload_n 2, 1) := by decide +kernel
theorem dX0_shareLess_46 : decode cX0_shareLess 46 = .ok (.aload_n 0, 1) := by decide +kernel
theorem dX0_shareLess_47 : decode cX0_shareLess 47 = .ok (.getfield 25, 3) := by decide +kernel
theorem dX0_shareLess_50 : decode cX0_shareLess 50 = .ok (.iload_n 3, 1) := by decide +kernel
theorem dX0_shareLess_51 : decode cX0_shareLess 51 = .ok (.iaload, 1) := by decide +kernel
theorem dX0_shareLess_52 : decode cX0_shareLess 52 = .ok (.i2f, 1) := by decide +kernel
theorem dX0_shareLess_53 : decode cX0_shareLess 53 = .ok (.iload_n 1, 1) := by decide +kernel
theorem dX0_shareLess_54 : decode cX0_shareLess 54 = .ok (.aload_n 0, 1) := by decide +kernel
theorem dX0_shareLess_55 : decode cX0_shareLess 55 = .ok (.getfield 19, 3) := by decide +kernel
theorem dX0_shareLess_58 : decode cX0_shareLess 58 = .ok (.iload_n 3, 1) := by decide +kernel
theorem dX0_shareLess_59 : decode cX0_shareLess 59 = .ok (.iaload, 1) := by decide +kernel
theorem dX0_shareLess_60 : decode cX0_shareLess 60 = .ok (.isub, 1) := by decide +kernel
theorem dX0_shareLess_61 : decode cX0_shareLess 61 = .ok (.i2f, 1) := by decide +kernel
theorem dX0_shareLess_62 : decode cX0_shareLess 62 = .ok (.aload_n 0, 1) := by decide +kernel
theorem dX0_shareLess_63 : decode cX0_shareLess 63 = .ok (.getfield 22, 3) := by decide +kernel
theorem dX0_shareLess_66 : decode cX0_shareLess 66 = .ok (.iload_n 3, 1) := by decide +kernel
theorem dX0_shareLess_67 : decode cX0_shareLess 67 = .ok (.iaload, 1) := by decide +kernel
theorem dX0_shareLess_68 : decode cX0_shareLess 68 = .ok (.aload_n 0, 1) := by decide +kernel
theorem dX0_shareLess_69 : decode cX0_shareLess 69 = .ok (.getfield 19, 3) := by decide +kernel
theorem dX0_shareLess_72 : decode cX0_shareLess 72 = .ok (.iload_n 3, 1) := by decide +kernel
theorem dX0_shareLess_73 : decode cX0_shareLess 73 = .ok (.iaload, 1) := by decide +kernel
theorem dX0_shareLess_74 : decode cX0_shareLess 74 = .ok (.isub, 1) := by decide +kernel
theorem dX0_shareLess_75 : decode cX0_shareLess 75 = .ok (.iconst 1, 1) := by decide +kernel
theorem dX0_shareLess_76 : decode cX0_shareLess 76 = .ok (.iadd, 1) := by decide +kernel
theorem dX0_shareLess_77 : decode cX0_shareLess 77 = .ok (.i2f, 1) := by decide +kernel
theorem dX0_shareLess_78 : decode cX0_shareLess 78 = .ok (.fdiv, 1) := by decide +kernel
theorem dX0_shareLess_79 : decode cX0_shareLess 79 = .ok (.fmul, 1) := by decide +kernel
theorem dX0_shareLess_80 : decode cX0_shareLess 80 = .ok (.fadd, 1) := by decide +kernel
theorem dX0_shareLess_81 : decode cX0_shareLess 81 = .ok (.fstore_n 2, 1) := by decide +kernel
theorem dX0_shareLess_82 : decode cX0_shareLess 82 = .ok (.iinc 3 1, 3) := by decide +kernel
theorem dX0_shareLess_85 : decode cX0_shareLess 85 = .ok (.goto (-81), 3) := by decide +kernel
theorem dX0_shareLess_88 : decode cX0_shareLess 88 = .ok (.fload_n 2, 1) := by decide +kernel
theorem dX0_shareLess_89 : decode cX0_shareLess 89 = .ok (.aload_n 0, 1) := by decide +kernel
theorem dX0_shareLess_90 : decode cX0_shareLess 90 = .ok (.getfield 15, 3) := by decide +kernel
theorem dX0_shareLess_93 : decode cX0_shareLess 93 = .ok (.i2f, 1) := by decide +kernel
theorem dX0_shareLess_94 : decode cX0_shareLess 94 = .ok (.fdiv, 1) := by decide +kernel
theorem dX0_shareLess_95 : decode cX0_shareLess 95 = .ok (.freturn, 1) := by decide +kernel
theorem dX0_shareEqual_0 : decode cX0_shareEqual 0 = .ok (.fconst 0, 1) := by decide +kernel
theorem dX0_shareEqual_1 : decode cX0_shareEqual 1 = .ok (.fstore_n 2, 1) := by decide +kernel
theorem dX0_shareEqual_2 : decode cX0_shareEqual 2 = .ok (.iconst 0, 1) := by decide +kernel
theorem dX0_shareEqual_3 : decode cX0_shareEqual 3 = .ok (.istore_n 3, 1) := by decide +kernel
theorem dX0_shareEqual_4 : decode cX0_shareEqual 4 = .ok (.iload_n 3, 1) := by decide +kernel
theorem dX0_shareEqual_5 : decode cX0_shareEqual 5 = .ok (.aload_n 0, 1) := by decide +kernel
theorem dX0_shareEqual_6 : decode cX0_shareEqual 6 = .ok (.getfield 31, 3) := by decide +kernel
theorem dX0_shareEqual_9 : decode cX0_shareEqual 9 = .ok (.if_icmp .ge 47, 3) := by decide +kernel
theorem dX0_shareEqual_12 : decode cX0_shareEqual 12 = .ok (.iload_n 1, 1) := by decide +kernel
theorem dX0_shareEqual_13 : decode cX0_shareEqual 13 = .ok (.aload_n 0, 1) := by decide +kernel
theorem dX0_shareEqual_14 : decode cX0_shareEqual 14 = .ok (.getfield 19, 3) := by decide +kernel
theorem dX0_shareEqual_17 : decode cX0_shareEqual 17 = .ok (.iload_n 3, 1) := by decide +kernel
theorem dX0_shareEqual_18 : decode cX0_shareEqual 18 = .ok (.iaload, 1) := by decide +kernel
theorem dX0_shareEqual_19 : decode cX0_shareEqual 19 = .ok (.if_icmp .lt 31, 3) := by decide +kernel
theorem dX0_shareEqual_22 : decode cX0_shareEqual 22 = .ok (.iload_n 1, 1) := by decide +kernel
theorem dX0_shareEqual_23 : decode cX0_shareEqual 23 = .ok (.aload_n 0, 1) := by decide +kernel
theorem dX0_shareEqual_24 : decode cX0_shareEqual 24 = .ok (.getfield 22, 3) := by decide +kernel
theorem dX0_shareEqual_27 : decode cX0_shareEqual 27 = .ok (.iload_n 3, 1) := by decide +kernel
theorem dX0_shareEqual_28 : decode cX0_shareEqual 28 = .ok (.iaload, 1) := by decide +kernel
theorem dX0_shareEqual_29 : decode cX0_shareEqual 29 = .ok (.if_icmp .gt 21, 3) := by decide +kernel
theorem dX0_shareEqual_32 : decode cX0_shareEqual 32 = .ok (.fload_n 2, 1) := by decide +kernel
theorem dX0_shareEqual_33 : decode cX0_shareEqual 33 = .ok (.aload_n 0, 1) := by decide +kernel
theorem dX0_shareEqual_34 : decode cX0_shareEqual 34 = .ok (.getfield 25, 3) := by decide +kernel
theorem dX0_shareEqual_37 : decode cX0_shareEqual 37 = .ok (.iload_n 3, 1) := by decide +kernel
theorem dX0_shareEqual_38 : decode cX0_shareEqual 38 = .ok (.iaload, 1) := by decide +kernel
theorem dX0_shareEqual_39 : decode cX0_shareEqual 39 = .ok (.i2f, 1) := by decide +kernel
theorem dX0_shareEqual_40 : decode cX0_shareEqual 40 = .ok (.aload_n 0, 1) := by decide +kernel
theorem dX0_shareEqual_41 : decode cX0_shareEqual 41 = .ok (.getfield 28, 3) := by decide +kernel
theorem dX0_shareEqual_44 : decode cX0_shareEqual 44 = .ok (.iload_n 3, 1) := by decide +kernel
theorem dX0_shareEqual_45 : decode cX0_shareEqual 45 = .ok (.iaload, 1) := by decide +kernel
theorem dX0_shareEqual_46 : decode cX0_shareEqual 46 = .ok (.i2f, 1) := by decide +kernel
theorem dX0_shareEqual_47 : decode cX0_shareEqual 47 = .ok (.fdiv, 1) := by decide +kernel
theorem dX0_shareEqual_48 : decode cX0_shareEqual 48 = .ok (.fadd, 1) := by decide +kernel
theorem dX0_shareEqual_49 : decode cX0_shareEqual 49 = .ok (.fstore_n 2, 1) := by decide +kernel
theorem dX0_shareEqual_50 : decode cX0_shareEqual 50 = .ok (.iinc 3 1, 3) := by decide +kernel
theorem dX0_shareEqual_53 : decode cX0_shareEqual 53 = .ok (.goto (-49), 3) := by decide +kernel
theorem dX0_shareEqual_56 : decode cX0_shareEqual 56 = .ok (.fload_n 2, 1) := by decide +kernel
theorem dX0_shareEqual_57 : decode cX0_shareEqual 57 = .ok (.aload_n 0, 1) := by decide +kernel
theorem dX0_shareEqual_58 : decode cX0_shareEqual 58 = .ok (.getfield 15, 3) := by decide +kernel
theorem dX0_shareEqual_61 : decode cX0_shareEqual 61 = .ok (.i2f, 1) := by decide +kernel
theorem dX0_shareEqual_62 : decode cX0_shareEqual 62 = .ok (.fdiv, 1) := by decide +kernel
theorem dX0_shareEqual_63 : decode cX0_shareEqual 63 = .ok (.freturn, 1) := by decide +kernel
theorem dX1_init_0 : decode cX1_init 0 = .ok (.aload_n 0, 1) := by decide +kernel
theorem dX1_init_1 : decode cX1_init 1 = .ok (.invokespecial 3, 3) := by decide +kernel
theorem dX1_init_4 : decode cX1_init 4 = .ok (.aload_n 0, 1) := by decide +kernel
theorem dX1_init_5 : decode cX1_init 5 = .ok (.iconst 5, 1) := by decide +kernel
theorem dX1_init_6 : decode cX1_init 6 = .ok (.newarray .int, 2) := by decide +kernel
theorem dX1_init_8 : decode cX1_init 8 = .ok (.putfield 9, 3) := by decide +kernel
theorem dX1_init_11 : decode cX1_init 11 = .ok (.aload_n 0, 1) := by decide +kernel
theorem dX1_init_12 : decode cX1_init 12 = .ok (.iconst 0, 1) := by decide +kernel
theorem dX1_init_13 : decode cX1_init 13 = .ok (.putfield 15, 3) := by decide +kernel
theorem dX1_init_16 : decode cX1_init 16 = .ok (.aload_n 0, 1) := by decide +kernel
theorem dX1_init_17 : decode cX1_init 17 = .ok (.bipush 25, 2) := by decide +kernel
theorem dX1_init_19 : decode cX1_init 19 = .ok (.newarray .int, 2) := by decide +kernel
theorem dX1_init_21 : decode cX1_init 21 = .ok (.putfield 19, 3) := by decide +kernel
theorem dX1_init_24 : decode cX1_init 24 = .ok (.aload_n 0, 1) := by decide +kernel
theorem dX1_init_25 : decode cX1_init 25 = .ok (.sipush 400, 3) := by decide +kernel
theorem dX1_init_28 : decode cX1_init 28 = .ok (.newarray .int, 2) := by decide +kernel
theorem dX1_init_30 : decode cX1_init 30 = .ok (.putfield 22, 3) := by decide +kernel
theorem dX1_init_33 : decode cX1_init 33 = .ok (.aload_n 0, 1) := by decide +kernel
theorem dX1_init_34 : decode cX1_init 34 = .ok (.bipush 16, 2) := by decide +kernel
theorem dX1_init_36 : decode cX1_init 36 = .ok (.newarray .int, 2) := by decide +kernel
theorem dX1_init_38 : decode cX1_init 38 = .ok (.putfield 25, 3) := by decide +kernel
theorem dX1_init_41 : decode cX1_init 41 = .ok (.aload_n 0, 1) := by decide +kernel
theorem dX1_init_42 : decode cX1_init 42 = .ok (.aload_n 1, 1) := by decide +kernel
theorem dX1_init_43 : decode cX1_init 43 = .ok (.putfield 28, 3) := by decide +kernel
theorem dX1_init_46 : decode cX1_init 46 = .ok (.return_, 1) := by decide +kernel
theorem dX1_rowsOf_0 : decode cX1_rowsOf 0 = .ok (.aload_n 0, 1) := by decide +kernel
theorem dX1_rowsOf_1 : decode cX1_rowsOf 1 = .ok (.iload_n 1, 1) := by decide +kernel
theorem dX1_rowsOf_2 : decode cX1_rowsOf 2 = .ok (.iload_n 2, 1) := by decide +kernel
theorem dX1_rowsOf_3 : decode cX1_rowsOf 3 = .ok (.invokevirtual 32, 3) := by decide +kernel
theorem dX1_rowsOf_6 : decode cX1_rowsOf 6 = .ok (.aload_n 0, 1) := by decide +kernel
theorem dX1_rowsOf_7 : decode cX1_rowsOf 7 = .ok (.invokevirtual 36, 3) := by decide +kernel
theorem dX1_rowsOf_10 : decode cX1_rowsOf 10 = .ok (.aload_n 0, 1) := by decide +kernel
theorem dX1_rowsOf_11 : decode cX1_rowsOf 11 = .ok (.iload_n 1, 1) := by decide +kernel
theorem dX1_rowsOf_12 : decode cX1_rowsOf 12 = .ok (.invokevirtual 39, 3) := by decide +kernel
theorem dX1_rowsOf_15 : decode cX1_rowsOf 15 = .ok (.iconst 0, 1) := by decide +kernel
theorem dX1_rowsOf_16 : decode cX1_rowsOf 16 = .ok (.istore_n 3, 1) := by decide +kernel
theorem dX1_rowsOf_17 : decode cX1_rowsOf 17 = .ok (.iconst 0, 1) := by decide +kernel
theorem dX1_rowsOf_18 : decode cX1_rowsOf 18 = .ok (.istore 4, 2) := by decide +kernel
theorem dX1_rowsOf_20 : decode cX1_rowsOf 20 = .ok (.iload 4, 2) := by decide +kernel
theorem dX1_rowsOf_22 : decode cX1_rowsOf 22 = .ok (.bipush 16, 2) := by decide +kernel
theorem dX1_rowsOf_24 : decode cX1_rowsOf 24 = .ok (.if_icmp .ge 78, 3) := by decide +kernel
theorem dX1_rowsOf_27 : decode cX1_rowsOf 27 = .ok (.iload_n 3, 1) := by decide +kernel
theorem dX1_rowsOf_28 : decode cX1_rowsOf 28 = .ok (.ldc 43, 2) := by decide +kernel
theorem dX1_rowsOf_30 : decode cX1_rowsOf 30 = .ok (.if_icmp .gt 72, 3) := by decide +kernel
theorem dX1_rowsOf_33 : decode cX1_rowsOf 33 = .ok (.aload_n 0, 1) := by decide +kernel
theorem dX1_rowsOf_34 : decode cX1_rowsOf 34 = .ok (.getfield 19, 3) := by decide +kernel
theorem dX1_rowsOf_37 : decode cX1_rowsOf 37 = .ok (.iload_n 2, 1) := by decide +kernel
theorem dX1_rowsOf_38 : decode cX1_rowsOf 38 = .ok (.iaload, 1) := by decide +kernel
theorem dX1_rowsOf_39 : decode cX1_rowsOf 39 = .ok (.iload 4, 2) := by decide +kernel
theorem dX1_rowsOf_41 : decode cX1_rowsOf 41 = .ok (.ishr, 1) := by decide +kernel
theorem dX1_rowsOf_42 : decode cX1_rowsOf 42 = .ok (.iconst 1, 1) := by decide +kernel
theorem dX1_rowsOf_43 : decode cX1_rowsOf 43 = .ok (.iand, 1) := by decide +kernel
theorem dX1_rowsOf_44 : decode cX1_rowsOf 44 = .ok (.iconst 1, 1) := by decide +kernel
theorem dX1_rowsOf_45 : decode cX1_rowsOf 45 = .ok (.if_icmp .ne 17, 3) := by decide +kernel
theorem dX1_rowsOf_48 : decode cX1_rowsOf 48 = .ok (.aload_n 0, 1) := by decide +kernel
theorem dX1_rowsOf_49 : decode cX1_rowsOf 49 = .ok (.iconst 0, 1) := by decide +kernel
theorem dX1_rowsOf_50 : decode cX1_rowsOf 50 = .ok (.iload 4, 2) := by decide +kernel
theorem dX1_rowsOf_52 : decode cX1_rowsOf 52 = .ok (.invokevirtual 44, 3) := by decide +kernel
theorem dX1_rowsOf_55 : decode cX1_rowsOf 55 = .ok (.ifCond .eq 7, 3) := by decide +kernel
theorem dX1_rowsOf_58 : decode cX1_rowsOf 58 = .ok (.iconst 1, 1) := by decide +kernel
theorem dX1_rowsOf_59 : decode cX1_rowsOf 59 = .ok (.goto 4, 3) := by decide +kernel
theorem dX1_rowsOf_62 : decode cX1_rowsOf 62 = .ok (.iconst 0, 1) := by decide +kernel
theorem dX1_rowsOf_63 : decode cX1_rowsOf 63 = .ok (.istore 5, 2) := by decide +kernel
theorem dX1_rowsOf_65 : decode cX1_rowsOf 65 = .ok (.aload_n 0, 1) := by decide +kernel
theorem dX1_rowsOf_66 : decode cX1_rowsOf 66 = .ok (.getfield 25, 3) := by decide +kernel
theorem dX1_rowsOf_69 : decode cX1_rowsOf 69 = .ok (.iload 4, 2) := by decide +kernel
theorem dX1_rowsOf_71 : decode cX1_rowsOf 71 = .ok (.iload 5, 2) := by decide +kernel
theorem dX1_rowsOf_73 : decode cX1_rowsOf 73 = .ok (.ifCond .eq 11, 3) := by decide +kernel
theorem dX1_rowsOf_76 : decode cX1_rowsOf 76 = .ok (.aload_n 0, 1) := by decide +kernel
theorem dX1_rowsOf_77 : decode cX1_rowsOf 77 = .ok (.iconst 1, 1) := by decide +kernel
theorem dX1_rowsOf_78 : decode cX1_rowsOf 78 = .ok (.invokestatic 48, 3) := by decide +kernel
theorem dX1_rowsOf_81 : decode cX1_rowsOf 81 = .ok (.goto 4, 3) := by decide +kernel
theorem dX1_rowsOf_84 : decode cX1_rowsOf 84 = .ok (.iconst 0, 1) := by decide +kernel
theorem dX1_rowsOf_85 : decode cX1_rowsOf 85 = .ok (.iastore, 1) := by decide +kernel
theorem dX1_rowsOf_86 : decode cX1_rowsOf 86 = .ok (.iload_n 3, 1) := by decide +kernel
theorem dX1_rowsOf_87 : decode cX1_rowsOf 87 = .ok (.aload_n 0, 1) := by decide +kernel
theorem dX1_rowsOf_88 : decode cX1_rowsOf 88 = .ok (.getfield 25, 3) := by decide +kernel
theorem dX1_rowsOf_91 : decode cX1_rowsOf 91 = .ok (.iload 4, 2) := by decide +kernel
theorem dX1_rowsOf_93 : decode cX1_rowsOf 93 = .ok (.iaload, 1) := by decide +kernel
theorem dX1_rowsOf_94 : decode cX1_rowsOf 94 = .ok (.iadd, 1) := by decide +kernel
theorem dX1_rowsOf_95 : decode cX1_rowsOf 95 = .ok (.istore_n 3, 1) := by decide +kernel
theorem dX1_rowsOf_96 : decode cX1_rowsOf 96 = .ok (.iinc 4 1, 3) := by decide +kernel
theorem dX1_rowsOf_99 : decode cX1_rowsOf 99 = .ok (.goto (-79), 3) := by decide +kernel
theorem dX1_rowsOf_102 : decode cX1_rowsOf 102 = .ok (.iload_n 3, 1) := by decide +kernel
theorem dX1_rowsOf_103 : decode cX1_rowsOf 103 = .ok (.ireturn, 1) := by decide +kernel
theorem dX1_sumOf_0 : decode cX1_sumOf 0 = .ok (.aload_n 0, 1) := by decide +kernel
theorem dX1_sumOf_1 : decode cX1_sumOf 1 = .ok (.getfield 28, 3) := by decide +kernel
theorem dX1_sumOf_4 : decode cX1_sumOf 4 = .ok (.getfield 52, 3) := by decide +kernel
theorem dX1_sumOf_7 : decode cX1_sumOf 7 = .ok (.iload_n 1, 1) := by decide +kernel
theorem dX1_sumOf_8 : decode cX1_sumOf 8 = .ok (.iconst 3, 1) := by decide +kernel
theorem dX1_sumOf_9 : decode cX1_sumOf 9 = .ok (.idiv, 1) := by decide +kernel
theorem dX1_sumOf_10 : decode cX1_sumOf 10 = .ok (.aaload, 1) := by decide +kernel
theorem dX1_sumOf_11 : decode cX1_sumOf 11 = .ok (.astore_n 2, 1) := by decide +kernel
theorem dX1_sumOf_12 : decode cX1_sumOf 12 = .ok (.lconst 0, 1) := by decide +kernel
theorem dX1_sumOf_13 : decode cX1_sumOf 13 = .ok (.lstore_n 3, 1) := by decide +kernel
theorem dX1_sumOf_14 : decode cX1_sumOf 14 = .ok (.iconst 0, 1) := by decide +kernel
theorem dX1_sumOf_15 : decode cX1_sumOf 15 = .ok (.istore 5, 2) := by decide +kernel
theorem dX1_sumOf_17 : decode cX1_sumOf 17 = .ok (.iload 5, 2) := by decide +kernel
theorem dX1_sumOf_19 : decode cX1_sumOf 19 = .ok (.aload_n 2, 1) := by decide +kernel
theorem dX1_sumOf_20 : decode cX1_sumOf 20 = .ok (.getfield 58, 3) := by decide +kernel
theorem dX1_sumOf_23 : decode cX1_sumOf 23 = .ok (.if_icmp .ge 31, 3) := by decide +kernel
theorem dX1_sumOf_26 : decode cX1_sumOf 26 = .ok (.lload_n 3, 1) := by decide +kernel
theorem dX1_sumOf_27 : decode cX1_sumOf 27 = .ok (.aload_n 0, 1) := by decide +kernel
theorem dX1_sumOf_28 : decode cX1_sumOf 28 = .ok (.getfield 25, 3) := by decide +kernel
theorem dX1_sumOf_31 : decode cX1_sumOf 31 = .ok (.iload 5, 2) := by decide +kernel
theorem dX1_sumOf_33 : decode cX1_sumOf 33 = .ok (.iaload, 1) := by decide +kernel
theorem dX1_sumOf_34 : decode cX1_sumOf 34 = .ok (.i2l, 1) := by decide +kernel
theorem dX1_sumOf_35 : decode cX1_sumOf 35 = .ok (.aload_n 2, 1) := by decide +kernel
theorem dX1_sumOf_36 : decode cX1_sumOf 36 = .ok (.iload 5, 2) := by decide +kernel
theorem dX1_sumOf_38 : decode cX1_sumOf 38 = .ok (.iload_n 1, 1) := by decide +kernel
theorem dX1_sumOf_39 : decode cX1_sumOf 39 = .ok (.iconst 3, 1) := by decide +kernel
theorem dX1_sumOf_40 : decode cX1_sumOf 40 = .ok (.irem, 1) := by decide +kernel
theorem dX1_sumOf_41 : decode cX1_sumOf 41 = .ok (.invokevirtual 63, 3) := by decide +kernel
theorem dX1_sumOf_44 : decode cX1_sumOf 44 = .ok (.i2l, 1) := by decide +kernel
theorem dX1_sumOf_45 : decode cX1_sumOf 45 = .ok (.lmul, 1) := by decide +kernel
theorem dX1_sumOf_46 : decode cX1_sumOf 46 = .ok (.ladd, 1) := by decide +kernel
theorem dX1_sumOf_47 : decode cX1_sumOf 47 = .ok (.lstore_n 3, 1) := by decide +kernel
theorem dX1_sumOf_48 : decode cX1_sumOf 48 = .ok (.iinc 5 1, 3) := by decide +kernel
theorem dX1_sumOf_51 : decode cX1_sumOf 51 = .ok (.goto (-34), 3) := by decide +kernel
theorem dX1_sumOf_54 : decode cX1_sumOf 54 = .ok (.lload_n 3, 1) := by decide +kernel
theorem dX1_sumOf_55 : decode cX1_sumOf 55 = .ok (.lreturn, 1) := by decide +kernel
theorem dX1_chooseMembers_0 : decode cX1_chooseMembers 0 = .ok (.aload_n 0, 1) := by decide +kernel
theorem dX1_chooseMembers_1 : decode cX1_chooseMembers 1 = .ok (.getfield 9, 3) := by decide +kernel
theorem dX1_chooseMembers_4 : decode cX1_chooseMembers 4 = .ok (.iconst 0, 1) := by decide +kernel
theorem dX1_chooseMembers_5 : decode cX1_chooseMembers 5 = .ok (.iload_n 2, 1) := by decide +kernel
theorem dX1_chooseMembers_6 : decode cX1_chooseMembers 6 = .ok (.iastore, 1) := by decide +kernel
theorem dX1_chooseMembers_7 : decode cX1_chooseMembers 7 = .ok (.aload_n 0, 1) := by decide +kernel
theorem dX1_chooseMembers_8 : decode cX1_chooseMembers 8 = .ok (.iconst 1, 1) := by decide +kernel
theorem dX1_chooseMembers_9 : decode cX1_chooseMembers 9 = .ok (.putfield 15, 3) := by decide +kernel
theorem dX1_chooseMembers_12 : decode cX1_chooseMembers 12 = .ok (.iconst 0, 1) := by decide +kernel
theorem dX1_chooseMembers_13 : decode cX1_chooseMembers 13 = .ok (.istore_n 3, 1) := by decide +kernel
theorem dX1_chooseMembers_14 : decode cX1_chooseMembers 14 = .ok (.iload_n 3, 1) := by decide +kernel
theorem dX1_chooseMembers_15 : decode cX1_chooseMembers 15 = .ok (.iconst 5, 1) := by decide +kernel
theorem dX1_chooseMembers_16 : decode cX1_chooseMembers 16 = .ok (.if_icmp .ge 51, 3) := by decide +kernel
theorem dX1_chooseMembers_19 : decode cX1_chooseMembers 19 = .ok (.iload_n 3, 1) := by decide +kernel
theorem dX1_chooseMembers_20 : decode cX1_chooseMembers 20 = .ok (.iload_n 2, 1) := by decide +kernel
theorem dX1_chooseMembers_21 : decode cX1_chooseMembers 21 = .ok (.if_icmp .eq 40, 3) := by decide +kernel
theorem dX1_chooseMembers_24 : decode cX1_chooseMembers 24 = .ok (.iload_n 1, 1) := by decide +kernel
theorem dX1_chooseMembers_25 : decode cX1_chooseMembers 25 = .ok (.iload_n 3, 1) := by decide +kernel
theorem dX1_chooseMembers_26 : decode cX1_chooseMembers 26 = .ok (.ishr, 1) := by decide +kernel
theorem dX1_chooseMembers_27 : decode cX1_chooseMembers 27 = .ok (.iconst 1, 1) := by decide +kernel
theorem dX1_chooseMembers_28 : decode cX1_chooseMembers 28 = .ok (.iand, 1) := by decide +kernel
theorem dX1_chooseMembers_29 : decode cX1_chooseMembers 29 = .ok (.iconst 1, 1) := by decide +kernel
theorem dX1_chooseMembers_30 : decode cX1_chooseMembers 30 = .ok (.if_icmp .ne 31, 3) := by decide +kernel
theorem dX1_chooseMembers_33 : decode cX1_chooseMembers 33 = .ok (.aload_n 0, 1) := by decide +kernel
theorem dX1_chooseMembers_34 : decode cX1_chooseMembers 34 = .ok (.getfield 15, 3) := by decide +kernel
theorem dX1_chooseMembers_37 : decode cX1_chooseMembers 37 = .ok (.iconst 5, 1) := by decide +kernel
theorem dX1_chooseMembers_38 : decode cX1_chooseMembers 38 = .ok (.if_icmp .ge 23, 3) := by decide +kernel
theorem dX1_chooseMembers_41 : decode cX1_chooseMembers 41 = .ok (.aload_n 0, 1) := by decide +kernel
theorem dX1_chooseMembers_42 : decode cX1_chooseMembers 42 = .ok (.getfield 9, 3) := by decide +kernel
theorem dX1_chooseMembers_45 : decode cX1_chooseMembers 45 = .ok (.aload_n 0, 1) := by decide +kernel
theorem dX1_chooseMembers_46 : decode cX1_chooseMembers 46 = .ok (.getfield 15, 3) := by decide +kernel
theorem dX1_chooseMembers_49 : decode cX1_chooseMembers 49 = .ok (.iload_n 3, 1) := by decide +kernel
theorem dX1_chooseMembers_50 : decode cX1_chooseMembers 50 = .ok (.iastore, 1) := by decide +kernel
theorem dX1_chooseMembers_51 : decode cX1_chooseMembers 51 = .ok (.aload_n 0, 1) := by decide +kernel
theorem dX1_chooseMembers_52 : decode cX1_chooseMembers 52 = .ok (.dup, 1) := by decide +kernel
theorem dX1_chooseMembers_53 : decode cX1_chooseMembers 53 = .ok (.getfield 15, 3) := by decide +kernel
theorem dX1_chooseMembers_56 : decode cX1_chooseMembers 56 = .ok (.iconst 1, 1) := by decide +kernel
theorem dX1_chooseMembers_57 : decode cX1_chooseMembers 57 = .ok (.iadd, 1) := by decide +kernel
theorem dX1_chooseMembers_58 : decode cX1_chooseMembers 58 = .ok (.putfield 15, 3) := by decide +kernel
theorem dX1_chooseMembers_61 : decode cX1_chooseMembers 61 = .ok (.iinc 3 1, 3) := by decide +kernel
theorem dX1_chooseMembers_64 : decode cX1_chooseMembers 64 = .ok (.goto (-50), 3) := by decide +kernel
theorem dX1_chooseMembers_67 : decode cX1_chooseMembers 67 = .ok (.return_, 1) := by decide +kernel
theorem dX1_passFilters_0 : decode cX1_passFilters 0 = .ok (.iconst 0, 1) := by decide +kernel
theorem dX1_passFilters_1 : decode cX1_passFilters 1 = .ok (.istore_n 1, 1) := by decide +kernel
theorem dX1_passFilters_2 : decode cX1_passFilters 2 = .ok (.iload_n 1, 1) := by decide +kernel
theorem dX1_passFilters_3 : decode cX1_passFilters 3 = .ok (.iconst 5, 1) := by decide +kernel
theorem dX1_passFilters_4 : decode cX1_passFilters 4 = .ok (.if_icmp .ge 31, 3) := by decide +kernel
theorem dX1_passFilters_7 : decode cX1_passFilters 7 = .ok (.aload_n 0, 1) := by decide +kernel
theorem dX1_passFilters_8 : decode cX1_passFilters 8 = .ok (.getfield 19, 3) := by decide +kernel
theorem dX1_passFilters_11 : decode cX1_passFilters 11 = .ok (.iload_n 1, 1) := by decide +kernel
theorem dX1_passFilters_12 : decode cX1_passFilters 12 = .ok (.iconst 1, 1) := by decide +kernel
theorem dX1_passFilters_13 : decode cX1_passFilters 13 = .ok (.aload_n 0, 1) := by decide +kernel
theorem dX1_passFilters_14 : decode cX1_passFilters 14 = .ok (.getfield 28, 3) := by decide +kernel
theorem dX1_passFilters_17 : decode cX1_passFilters 17 = .ok (.getfield 52, 3) := by decide +kernel
theorem dX1_passFilters_20 : decode cX1_passFilters 20 = .ok (.iload_n 1, 1) := by decide +kernel
theorem dX1_passFilters_21 : decode cX1_passFilters 21 = .ok (.aaload, 1) := by decide +kernel
theorem dX1_passFilters_22 : decode cX1_passFilters 22 = .ok (.getfield 58, 3) := by decide +kernel
theorem dX1_passFilters_25 : decode cX1_passFilters 25 = .ok (.ishl, 1) := by decide +kernel
theorem dX1_passFilters_26 : decode cX1_passFilters 26 = .ok (.iconst 1, 1) := by decide +kernel
theorem dX1_passFilters_27 : decode cX1_passFilters 27 = .ok (.isub, 1) := by decide +kernel
theorem dX1_passFilters_28 : decode cX1_passFilters 28 = .ok (.iastore, 1) := by decide +kernel
theorem dX1_passFilters_29 : decode cX1_passFilters 29 = .ok (.iinc 1 1, 3) := by decide +kernel
theorem dX1_passFilters_32 : decode cX1_passFilters 32 = .ok (.goto (-30), 3) := by decide +kernel
theorem dX1_passFilters_35 : decode cX1_passFilters 35 = .ok (.iconst 0, 1) := by decide +kernel
theorem dX1_passFilters_36 : decode cX1_passFilters 36 = .ok (.istore_n 1, 1) := by decide +kernel
theorem dX1_passFilters_37 : decode cX1_passFilters 37 = .ok (.iload_n 1, 1) := by decide +kernel
theorem dX1_passFilters_38 : decode cX1_passFilters 38 = .ok (.aload_n 0, 1) := by decide +kernel
theorem dX1_passFilters_39 : decode cX1_passFilters 39 = .ok (.getfield 28, 3) := by decide +kernel
theorem dX1_passFilters_42 : decode cX1_passFilters 42 = .ok (.getfield 67, 3) := by decide +kernel
theorem dX1_passFilters_45 : decode cX1_passFilters 45 = .ok (.if_icmp .ge 83, 3) := by decide +kernel
theorem dX1_passFilters_48 : decode cX1_passFilters 48 = .ok (.aload_n 0, 1) := by decide +kernel
theorem dX1_passFilters_49 : decode cX1_passFilters 49 = .ok (.getfield 28, 3) := by decide +kernel
theorem dX1_passFilters_52 : decode cX1_passFilters 52 = .ok (.getfield 70, 3) := by decide +kernel
theorem dX1_passFilters_55 : decode cX1_passFilters 55 = .ok (.iload_n 1, 1) := by decide +kernel
theorem dX1_passFilters_56 : decode cX1_passFilters 56 = .ok (.iaload, 1) := by decide +kernel
theorem dX1_passFilters_57 : decode cX1_passFilters 57 = .ok (.istore_n 2, 1) := by decide +kernel
theorem dX1_passFilters_58 : decode cX1_passFilters 58 = .ok (.aload_n 0, 1) := by decide +kernel
theorem dX1_passFilters_59 : decode cX1_passFilters 59 = .ok (.getfield 28, 3) := by decide +kernel
theorem dX1_passFilters_62 : decode cX1_passFilters 62 = .ok (.getfield 52, 3) := by decide +kernel
theorem dX1_passFilters_65 : decode cX1_passFilters 65 = .ok (.iload_n 2, 1) := by decide +kernel
theorem dX1_passFilters_66 : decode cX1_passFilters 66 = .ok (.iconst 3, 1) := by decide +kernel
theorem dX1_passFilters_67 : decode cX1_passFilters 67 = .ok (.idiv, 1) := by decide +kernel
theorem dX1_passFilters_68 : decode cX1_passFilters 68 = .ok (.aaload, 1) := by decide +kernel
theorem dX1_passFilters_69 : decode cX1_passFilters 69 = .ok (.astore_n 3, 1) := by decide +kernel
theorem dX1_passFilters_70 : decode cX1_passFilters 70 = .ok (.iconst 0, 1) := by decide +kernel
theorem dX1_passFilters_71 : decode cX1_passFilters 71 = .ok (.istore 4, 2) := by decide +kernel
theorem dX1_passFilters_73 : decode cX1_passFilters 73 = .ok (.iload 4, 2) := by decide +kernel
theorem dX1_passFilters_75 : decode cX1_passFilters 75 = .ok (.aload_n 3, 1) := by decide +kernel
theorem dX1_passFilters_76 : decode cX1_passFilters 76 = .ok (.getfield 58, 3) := by decide +kernel
theorem dX1_passFilters_79 : decode cX1_passFilters 79 = .ok (.if_icmp .ge 43, 3) := by decide +kernel
theorem dX1_passFilters_82 : decode cX1_passFilters 82 = .ok (.aload_n 0, 1) := by decide +kernel
theorem dX1_passFilters_83 : decode cX1_passFilters 83 = .ok (.iload_n 1, 1) := by decide +kernel
theorem dX1_passFilters_84 : decode cX1_passFilters 84 = .ok (.aload_n 3, 1) := by decide +kernel
theorem dX1_passFilters_85 : decode cX1_passFilters 85 = .ok (.iload 4, 2) := by decide +kernel
theorem dX1_passFilters_87 : decode cX1_passFilters 87 = .ok (.iload_n 2, 1) := by decide +kernel
theorem dX1_passFilters_88 : decode cX1_passFilters 88 = .ok (.iconst 3, 1) := by decide +kernel
theorem dX1_passFilters_89 : decode cX1_passFilters 89 = .ok (.irem, 1) := by decide +kernel
theorem dX1_passFilters_90 : decode cX1_passFilters 90 = .ok (.invokevirtual 63, 3) := by decide +kernel
theorem dX1_passFilters_93 : decode cX1_passFilters 93 = .ok (.invokevirtual 73, 3) := by decide +kernel
theorem dX1_passFilters_96 : decode cX1_passFilters 96 = .ok (.ifCond .ne 20, 3) := by decide +kernel
theorem dX1_passFilters_99 : decode cX1_passFilters 99 = .ok (.aload_n 0, 1) := by decide +kernel
theorem dX1_passFilters_100 : decode cX1_passFilters 100 = .ok (.getfield 19, 3) := by decide +kernel
theorem dX1_passFilters_103 : decode cX1_passFilters 103 = .ok (.iload_n 2, 1) := by decide +kernel
theorem dX1_passFilters_104 : decode cX1_passFilters 104 = .ok (.iconst 3, 1) := by decide +kernel
theorem dX1_passFilters_105 : decode cX1_passFilters 105 = .ok (.idiv, 1) := by decide +kernel
theorem dX1_passFilters_106 : decode cX1_passFilters 106 = .ok (.dup2, 1) := by decide +kernel
theorem dX1_passFilters_107 : decode cX1_passFilters 107 = .ok (.iaload, 1) := by decide +kernel
theorem dX1_passFilters_108 : decode cX1_passFilters 108 = .ok (.iconst 1, 1) := by decide +kernel
theorem dX1_passFilters_109 : decode cX1_passFilters 109 = .ok (.iload 4, 2) := by decide +kernel
theorem dX1_passFilters_111 : decode cX1_passFilters 111 = .ok (.ishl, 1) := by decide +kernel
theorem dX1_passFilters_112 : decode cX1_passFilters 112 = .ok (.iconst (-1), 1) := by decide +kernel
theorem dX1_passFilters_113 : decode cX1_passFilters 113 = .ok (.ixor, 1) := by decide +kernel
theorem dX1_passFilters_114 : decode cX1_passFilters 114 = .ok (.iand, 1) := by decide +kernel
theorem dX1_passFilters_115 : decode cX1_passFilters 115 = .ok (.iastore, 1) := by decide +kernel
theorem dX1_passFilters_116 : decode cX1_passFilters 116 = .ok (.iinc 4 1, 3) := by decide +kernel
theorem dX1_passFilters_119 : decode cX1_passFilters 119 = .ok (.goto (-46), 3) := by decide +kernel
theorem dX1_passFilters_122 : decode cX1_passFilters 122 = .ok (.iinc 1 1, 3) := by decide +kernel
theorem dX1_passFilters_125 : decode cX1_passFilters 125 = .ok (.goto (-88), 3) := by decide +kernel
theorem dX1_passFilters_128 : decode cX1_passFilters 128 = .ok (.return_, 1) := by decide +kernel
theorem dX1_passes_0 : decode cX1_passes 0 = .ok (.aload_n 0, 1) := by decide +kernel
theorem dX1_passes_1 : decode cX1_passes 1 = .ok (.getfield 28, 3) := by decide +kernel
theorem dX1_passes_4 : decode cX1_passes 4 = .ok (.getfield 76, 3) := by decide +kernel
theorem dX1_passes_7 : decode cX1_passes 7 = .ok (.iload_n 1, 1) := by decide +kernel
theorem dX1_passes_8 : decode cX1_passes 8 = .ok (.iaload, 1) := by decide +kernel
theorem dX1_passes_9 : decode cX1_passes 9 = .ok (.istore_n 3, 1) := by decide +kernel
theorem dX1_passes_10 : decode cX1_passes 10 = .ok (.aload_n 0, 1) := by decide +kernel
theorem dX1_passes_11 : decode cX1_passes 11 = .ok (.getfield 28, 3) := by decide +kernel
theorem dX1_passes_14 : decode cX1_passes 14 = .ok (.getfield 79, 3) := by decide +kernel
theorem dX1_passes_17 : decode cX1_passes 17 = .ok (.iload_n 1, 1) := by decide +kernel
theorem dX1_passes_18 : decode cX1_passes 18 = .ok (.iaload, 1) := by decide +kernel
theorem dX1_passes_19 : decode cX1_passes 19 = .ok (.ifCond .ne 14, 3) := by decide +kernel
theorem dX1_passes_22 : decode cX1_passes 22 = .ok (.iload_n 2, 1) := by decide +kernel
theorem dX1_passes_23 : decode cX1_passes 23 = .ok (.iload_n 3, 1) := by decide +kernel
theorem dX1_passes_24 : decode cX1_passes 24 = .ok (.if_icmp .ge 7, 3) := by decide +kernel
theorem dX1_passes_27 : decode cX1_passes 27 = .ok (.iconst 1, 1) := by decide +kernel
theorem dX1_passes_28 : decode cX1_passes 28 = .ok (.goto 4, 3) := by decide +kernel
theorem dX1_passes_31 : decode cX1_passes 31 = .ok (.iconst 0, 1) := by decide +kernel
theorem dX1_passes_32 : decode cX1_passes 32 = .ok (.ireturn, 1) := by decide +kernel
theorem dX1_passes_33 : decode cX1_passes 33 = .ok (.aload_n 0, 1) := by decide +kernel
theorem dX1_passes_34 : decode cX1_passes 34 = .ok (.getfield 28, 3) := by decide +kernel
theorem dX1_passes_37 : decode cX1_passes 37 = .ok (.getfield 79, 3) := by decide +kernel
theorem dX1_passes_40 : decode cX1_passes 40 = .ok (.iload_n 1, 1) := by decide +kernel
theorem dX1_passes_41 : decode cX1_passes 41 = .ok (.iaload, 1) := by decide +kernel
theorem dX1_passes_42 : decode cX1_passes 42 = .ok (.iconst 1, 1) := by decide +kernel
theorem dX1_passes_43 : decode cX1_passes 43 = .ok (.if_icmp .ne 16, 3) := by decide +kernel
theorem dX1_passes_46 : decode cX1_passes 46 = .ok (.iload_n 2, 1) := by decide +kernel
theorem dX1_passes_47 : decode cX1_passes 47 = .ok (.iload_n 3, 1) := by decide +kernel
theorem dX1_passes_48 : decode cX1_passes 48 = .ok (.if_icmp .ne 7, 3) := by decide +kernel
theorem dX1_passes_51 : decode cX1_passes 51 = .ok (.iconst 1, 1) := by decide +kernel
theorem dX1_passes_52 : decode cX1_passes 52 = .ok (.goto 17, 3) := by decide +kernel
theorem dX1_passes_55 : decode cX1_passes 55 = .ok (.iconst 0, 1) := by decide +kernel
theorem dX1_passes_56 : decode cX1_passes 56 = .ok (.goto 13, 3) := by decide +kernel
theorem dX1_passes_59 : decode cX1_passes 59 = .ok (.iload_n 2, 1) := by decide +kernel
theorem dX1_passes_60 : decode cX1_passes 60 = .ok (.iload_n 3, 1) := by decide +kernel
theorem dX1_passes_61 : decode cX1_passes 61 = .ok (.if_icmp .le 7, 3) := by decide +kernel
theorem dX1_passes_64 : decode cX1_passes 64 = .ok (.iconst 1, 1) := by decide +kernel
theorem dX1_passes_65 : decode cX1_passes 65 = .ok (.goto 4, 3) := by decide +kernel
theorem dX1_passes_68 : decode cX1_passes 68 = .ok (.iconst 0, 1) := by decide +kernel
theorem dX1_passes_69 : decode cX1_passes 69 = .ok (.ireturn, 1) := by decide +kernel
theorem dX1_pairLines_0 : decode cX1_pairLines 0 = .ok (.aload_n 0, 1) := by decide +kernel
theorem dX1_pairLines_1 : decode cX1_pairLines 1 = .ok (.getfield 22, 3) := by decide +kernel
theorem dX1_pairLines_4 : decode cX1_pairLines 4 = .ok (.ldc 82, 2) := by decide +kernel
theorem dX1_pairLines_6 : decode cX1_pairLines 6 = .ok (.invokestatic 83, 3) := by decide +kernel
theorem dX1_pairLines_9 : decode cX1_pairLines 9 = .ok (.iconst 0, 1) := by decide +kernel
theorem dX1_pairLines_10 : decode cX1_pairLines 10 = .ok (.istore_n 2, 1) := by decide +kernel
theorem dX1_pairLines_11 : decode cX1_pairLines 11 = .ok (.iload_n 2, 1) := by decide +kernel
theorem dX1_pairLines_12 : decode cX1_pairLines 12 = .ok (.aload_n 0, 1) := by decide +kernel
theorem dX1_pairLines_13 : decode cX1_pairLines 13 = .ok (.getfield 28, 3) := by decide +kernel
theorem dX1_pairLines_16 : decode cX1_pairLines 16 = .ok (.getfield 89, 3) := by decide +kernel
theorem dX1_pairLines_19 : decode cX1_pairLines 19 = .ok (.if_icmp .ge 43, 3) := by decide +kernel
theorem dX1_pairLines_22 : decode cX1_pairLines 22 = .ok (.aload_n 0, 1) := by decide +kernel
theorem dX1_pairLines_23 : decode cX1_pairLines 23 = .ok (.getfield 28, 3) := by decide +kernel
theorem dX1_pairLines_26 : decode cX1_pairLines 26 = .ok (.iload_n 1, 1) := by decide +kernel
theorem dX1_pairLines_27 : decode cX1_pairLines 27 = .ok (.iload_n 2, 1) := by decide +kernel
theorem dX1_pairLines_28 : decode cX1_pairLines 28 = .ok (.invokevirtual 92, 3) := by decide +kernel
theorem dX1_pairLines_31 : decode cX1_pairLines 31 = .ok (.ifCond .eq 25, 3) := by decide +kernel
theorem dX1_pairLines_34 : decode cX1_pairLines 34 = .ok (.aload_n 0, 1) := by decide +kernel
theorem dX1_pairLines_35 : decode cX1_pairLines 35 = .ok (.aload_n 0, 1) := by decide +kernel
theorem dX1_pairLines_36 : decode cX1_pairLines 36 = .ok (.getfield 28, 3) := by decide +kernel
theorem dX1_pairLines_39 : decode cX1_pairLines 39 = .ok (.getfield 95, 3) := by decide +kernel
theorem dX1_pairLines_42 : decode cX1_pairLines 42 = .ok (.iload_n 2, 1) := by decide +kernel
theorem dX1_pairLines_43 : decode cX1_pairLines 43 = .ok (.iaload, 1) := by decide +kernel
theorem dX1_pairLines_44 : decode cX1_pairLines 44 = .ok (.aload_n 0, 1) := by decide +kernel
theorem dX1_pairLines_45 : decode cX1_pairLines 45 = .ok (.getfield 28, 3) := by decide +kernel
theorem dX1_pairLines_48 : decode cX1_pairLines 48 = .ok (.getfield 98, 3) := by decide +kernel
theorem dX1_pairLines_51 : decode cX1_pairLines 51 = .ok (.iload_n 2, 1) := by decide +kernel
theorem dX1_pairLines_52 : decode cX1_pairLines 52 = .ok (.iaload, 1) := by decide +kernel
theorem dX1_pairLines_53 : decode cX1_pairLines 53 = .ok (.invokevirtual 101, 3) := by decide +kernel
theorem dX1_pairLines_56 : decode cX1_pairLines 56 = .ok (.iinc 2 1, 3) := by decide +kernel
theorem dX1_pairLines_59 : decode cX1_pairLines 59 = .ok (.goto (-48), 3) := by decide +kernel
theorem dX1_pairLines_62 : decode cX1_pairLines 62 = .ok (.return_, 1) := by decide +kernel
theorem dX1_pairLinesBy_0 : decode cX1_pairLinesBy 0 = .ok (.aload_n 0, 1) := by decide +kernel
theorem dX1_pairLinesBy_1 : decode cX1_pairLinesBy 1 = .ok (.getfield 28, 3) := by decide +kernel
theorem dX1_pairLinesBy_4 : decode cX1_pairLinesBy 4 = .ok (.getfield 52, 3) := by decide +kernel
theorem dX1_pairLinesBy_7 : decode cX1_pairLinesBy 7 = .ok (.iload_n 1, 1) := by decide +kernel
theorem dX1_pairLinesBy_8 : decode cX1_pairLinesBy 8 = .ok (.iconst 3, 1) := by decide +kernel
theorem dX1_pairLinesBy_9 : decode cX1_pairLinesBy 9 = .ok (.idiv, 1) := by decide +kernel
theorem dX1_pairLinesBy_10 : decode cX1_pairLinesBy 10 = .ok (.aaload, 1) := by decide +kernel
theorem dX1_pairLinesBy_11 : decode cX1_pairLinesBy 11 = .ok (.astore_n 3, 1) := by decide +kernel
theorem dX1_pairLinesBy_12 : decode cX1_pairLinesBy 12 = .ok (.aload_n 0, 1) := by decide +kernel
theorem dX1_pairLinesBy_13 : decode cX1_pairLinesBy 13 = .ok (.getfield 28, 3) := by decide +kernel
theorem dX1_pairLinesBy_16 : decode cX1_pairLinesBy 16 = .ok (.getfield 52, 3) := by decide +kernel
theorem dX1_pairLinesBy_19 : decode cX1_pairLinesBy 19 = .ok (.iload_n 2, 1) := by decide +kernel
theorem dX1_pairLinesBy_20 : decode cX1_pairLinesBy 20 = .ok (.iconst 3, 1) := by decide +kernel
theorem dX1_pairLinesBy_21 : decode cX1_pairLinesBy 21 = .ok (.idiv, 1) := by decide +kernel
theorem dX1_pairLinesBy_22 : decode cX1_pairLinesBy 22 = .ok (.aaload, 1) := by decide +kernel
theorem dX1_pairLinesBy_23 : decode cX1_pairLinesBy 23 = .ok (.astore 4, 2) := by decide +kernel
theorem dX1_pairLinesBy_25 : decode cX1_pairLinesBy 25 = .ok (.iconst 0, 1) := by decide +kernel
theorem dX1_pairLinesBy_26 : decode cX1_pairLinesBy 26 = .ok (.istore 5, 2) := by decide +kernel
theorem dX1_pairLinesBy_28 : decode cX1_pairLinesBy 28 = .ok (.iload 5, 2) := by decide +kernel
theorem dX1_pairLinesBy_30 : decode cX1_pairLinesBy 30 = .ok (.aload_n 3, 1) := by decide +kernel
theorem dX1_pairLinesBy_31 : decode cX1_pairLinesBy 31 = .ok (.getfield 58, 3) := by decide +kernel
theorem dX1_pairLinesBy_34 : decode cX1_pairLinesBy 34 = .ok (.if_icmp .ge 100, 3) := by decide +kernel
theorem dX1_pairLinesBy_37 : decode cX1_pairLinesBy 37 = .ok (.iconst 0, 1) := by decide +kernel
theorem dX1_pairLinesBy_38 : decode cX1_pairLinesBy 38 = .ok (.istore 6, 2) := by decide +kernel
theorem dX1_pairLinesBy_40 : decode cX1_pairLinesBy 40 = .ok (.iload 6, 2) := by decide +kernel
theorem dX1_pairLinesBy_42 : decode cX1_pairLinesBy 42 = .ok (.aload 4, 2) := by decide +kernel
theorem dX1_pairLinesBy_44 : decode cX1_pairLinesBy 44 = .ok (.getfield 58, 3) := by decide +kernel
theorem dX1_pairLinesBy_47 : decode cX1_pairLinesBy 47 = .ok (.if_icmp .ge 81, 3) := by decide +kernel
theorem dX1_pairLinesBy_50 : decode cX1_pairLinesBy 50 = .ok (.aload_n 3, 1) := by decide +kernel
theorem dX1_pairLinesBy_51 : decode cX1_pairLinesBy 51 = .ok (.iload 5, 2) := by decide +kernel
theorem dX1_pairLinesBy_53 : decode cX1_pairLinesBy 53 = .ok (.iload_n 1, 1) := by decide +kernel
theorem dX1_pairLinesBy_54 : decode cX1_pairLinesBy 54 = .ok (.iconst 3, 1) := by decide +kernel
theorem dX1_pairLinesBy_55 : decode cX1_pairLinesBy 55 = .ok (.irem, 1) := by decide +kernel
theorem dX1_pairLinesBy_56 : decode cX1_pairLinesBy 56 = .ok (.invokevirtual 63, 3) := by decide +kernel
theorem dX1_pairLinesBy_59 : decode cX1_pairLinesBy 59 = .ok (.aload 4, 2) := by decide +kernel
theorem dX1_pairLinesBy_61 : decode cX1_pairLinesBy 61 = .ok (.iload 6, 2) := by decide +kernel
theorem dX1_pairLinesBy_63 : decode cX1_pairLinesBy 63 = .ok (.iload_n 2, 1) := by decide +kernel
theorem dX1_pairLinesBy_64 : decode cX1_pairLinesBy 64 = .ok (.iconst 3, 1) := by decide +kernel
theorem dX1_pairLinesBy_65 : decode cX1_pairLinesBy 65 = .ok (.irem, 1) := by decide +kernel
theorem dX1_pairLinesBy_66 : decode cX1_pairLinesBy 66 = .ok (.invokevirtual 63, 3) := by decide +kernel
theorem dX1_pairLinesBy_69 : decode cX1_pairLinesBy 69 = .ok (.if_icmp .eq 53, 3) := by decide +kernel
theorem dX1_pairLinesBy_72 : decode cX1_pairLinesBy 72 = .ok (.aload_n 0, 1) := by decide +kernel
theorem dX1_pairLinesBy_73 : decode cX1_pairLinesBy 73 = .ok (.getfield 22, 3) := by decide +kernel
theorem dX1_pairLinesBy_76 : decode cX1_pairLinesBy 76 = .ok (.iload_n 1, 1) := by decide +kernel
theorem dX1_pairLinesBy_77 : decode cX1_pairLinesBy 77 = .ok (.iconst 3, 1) := by decide +kernel
theorem dX1_pairLinesBy_78 : decode cX1_pairLinesBy 78 = .ok (.idiv, 1) := by decide +kernel
theorem dX1_pairLinesBy_79 : decode cX1_pairLinesBy 79 = .ok (.iload 5, 2) := by decide +kernel
theorem dX1_pairLinesBy_81 : decode cX1_pairLinesBy 81 = .ok (.iload_n 2, 1) := by decide +kernel
theorem dX1_pairLinesBy_82 : decode cX1_pairLinesBy 82 = .ok (.iconst 3, 1) := by decide +kernel
theorem dX1_pairLinesBy_83 : decode cX1_pairLinesBy 83 = .ok (.idiv, 1) := by decide +kernel
theorem dX1_pairLinesBy_84 : decode cX1_pairLinesBy 84 = .ok (.invokestatic 104, 3) := by decide +kernel
theorem dX1_pairLinesBy_87 : decode cX1_pairLinesBy 87 = .ok (.dup2, 1) := by decide +kernel
theorem dX1_pairLinesBy_88 : decode cX1_pairLinesBy 88 = .ok (.iaload, 1) := by decide +kernel
theorem dX1_pairLinesBy_89 : decode cX1_pairLinesBy 89 = .ok (.iconst 1, 1) := by decide +kernel
theorem dX1_pairLinesBy_90 : decode cX1_pairLinesBy 90 = .ok (.iload 6, 2) := by decide +kernel
theorem dX1_pairLinesBy_92 : decode cX1_pairLinesBy 92 = .ok (.ishl, 1) := by decide +kernel
theorem dX1_pairLinesBy_93 : decode cX1_pairLinesBy 93 = .ok (.iconst (-1), 1) := by decide +kernel
theorem dX1_pairLinesBy_94 : decode cX1_pairLinesBy 94 = .ok (.ixor, 1) := by decide +kernel
theorem dX1_pairLinesBy_95 : decode cX1_pairLinesBy 95 = .ok (.iand, 1) := by decide +kernel
theorem dX1_pairLinesBy_96 : decode cX1_pairLinesBy 96 = .ok (.iastore, 1) := by decide +kernel
theorem dX1_pairLinesBy_97 : decode cX1_pairLinesBy 97 = .ok (.aload_n 0, 1) := by decide +kernel
theorem dX1_pairLinesBy_98 : decode cX1_pairLinesBy 98 = .ok (.getfield 22, 3) := by decide +kernel
theorem dX1_pairLinesBy_101 : decode cX1_pairLinesBy 101 = .ok (.iload_n 2, 1) := by decide +kernel
theorem dX1_pairLinesBy_102 : decode cX1_pairLinesBy 102 = .ok (.iconst 3, 1) := by decide +kernel
theorem dX1_pairLinesBy_103 : decode cX1_pairLinesBy 103 = .ok (.idiv, 1) := by decide +kernel
theorem dX1_pairLinesBy_104 : decode cX1_pairLinesBy 104 = .ok (.iload 6, 2) := by decide +kernel
theorem dX1_pairLinesBy_106 : decode cX1_pairLinesBy 106 = .ok (.iload_n 1, 1) := by decide +kernel
theorem dX1_pairLinesBy_107 : decode cX1_pairLinesBy 107 = .ok (.iconst 3, 1) := by decide +kernel
theorem dX1_pairLinesBy_108 : decode cX1_pairLinesBy 108 = .ok (.idiv, 1) := by decide +kernel
theorem dX1_pairLinesBy_109 : decode cX1_pairLinesBy 109 = .ok (.invokestatic 104, 3) := by decide +kernel
theorem dX1_pairLinesBy_112 : decode cX1_pairLinesBy 112 = .ok (.dup2, 1) := by decide +kernel
theorem dX1_pairLinesBy_113 : decode cX1_pairLinesBy 113 = .ok (.iaload, 1) := by decide +kernel
theorem dX1_pairLinesBy_114 : decode cX1_pairLinesBy 114 = .ok (.iconst 1, 1) := by decide +kernel
theorem dX1_pairLinesBy_115 : decode cX1_pairLinesBy 115 = .ok (.iload 5, 2) := by decide +kernel
theorem dX1_pairLinesBy_117 : decode cX1_pairLinesBy 117 = .ok (.ishl, 1) := by decide +kernel
theorem dX1_pairLinesBy_118 : decode cX1_pairLinesBy 118 = .ok (.iconst (-1), 1) := by decide +kernel
theorem dX1_pairLinesBy_119 : decode cX1_pairLinesBy 119 = .ok (.ixor, 1) := by decide +kernel
theorem dX1_pairLinesBy_120 : decode cX1_pairLinesBy 120 = .ok (.iand, 1) := by decide +kernel
theorem dX1_pairLinesBy_121 : decode cX1_pairLinesBy 121 = .ok (.iastore, 1) := by decide +kernel
theorem dX1_pairLinesBy_122 : decode cX1_pairLinesBy 122 = .ok (.iinc 6 1, 3) := by decide +kernel
theorem dX1_pairLinesBy_125 : decode cX1_pairLinesBy 125 = .ok (.goto (-85), 3) := by decide +kernel
theorem dX1_pairLinesBy_128 : decode cX1_pairLinesBy 128 = .ok (.iinc 5 1, 3) := by decide +kernel
theorem dX1_pairLinesBy_131 : decode cX1_pairLinesBy 131 = .ok (.goto (-103), 3) := by decide +kernel
theorem dX1_pairLinesBy_134 : decode cX1_pairLinesBy 134 = .ok (.return_, 1) := by decide +kernel
theorem dX1_partnersAt_0 : decode cX1_partnersAt 0 = .ok (.iload_n 0, 1) := by decide +kernel
theorem dX1_partnersAt_1 : decode cX1_partnersAt 1 = .ok (.bipush 16, 2) := by decide +kernel
theorem dX1_partnersAt_3 : decode cX1_partnersAt 3 = .ok (.imul, 1) := by decide +kernel
theorem dX1_partnersAt_4 : decode cX1_partnersAt 4 = .ok (.iload_n 1, 1) := by decide +kernel
theorem dX1_partnersAt_5 : decode cX1_partnersAt 5 = .ok (.iadd, 1) := by decide +kernel
theorem dX1_partnersAt_6 : decode cX1_partnersAt 6 = .ok (.iconst 5, 1) := by decide +kernel
theorem dX1_partnersAt_7 : decode cX1_partnersAt 7 = .ok (.imul, 1) := by decide +kernel
theorem dX1_partnersAt_8 : decode cX1_partnersAt 8 = .ok (.iload_n 2, 1) := by decide +kernel
theorem dX1_partnersAt_9 : decode cX1_partnersAt 9 = .ok (.iadd, 1) := by decide +kernel
theorem dX1_partnersAt_10 : decode cX1_partnersAt 10 = .ok (.ireturn, 1) := by decide +kernel
theorem dX1_narrow_0 : decode cX1_narrow 0 = .ok (.iload_n 1, 1) := by decide +kernel
theorem dX1_narrow_1 : decode cX1_narrow 1 = .ok (.iconst 1, 1) := by decide +kernel
theorem dX1_narrow_2 : decode cX1_narrow 2 = .ok (.iadd, 1) := by decide +kernel
theorem dX1_narrow_3 : decode cX1_narrow 3 = .ok (.istore_n 3, 1) := by decide +kernel
theorem dX1_narrow_4 : decode cX1_narrow 4 = .ok (.iload_n 3, 1) := by decide +kernel
theorem dX1_narrow_5 : decode cX1_narrow 5 = .ok (.aload_n 0, 1) := by decide +kernel
theorem dX1_narrow_6 : decode cX1_narrow 6 = .ok (.getfield 15, 3) := by decide +kernel
theorem dX1_narrow_9 : decode cX1_narrow 9 = .ok (.if_icmp .ge 70, 3) := by decide +kernel
theorem dX1_narrow_12 : decode cX1_narrow 12 = .ok (.aload_n 0, 1) := by decide +kernel
theorem dX1_narrow_13 : decode cX1_narrow 13 = .ok (.getfield 9, 3) := by decide +kernel
theorem dX1_narrow_16 : decode cX1_narrow 16 = .ok (.iload_n 3, 1) := by decide +kernel
theorem dX1_narrow_17 : decode cX1_narrow 17 = .ok (.iaload, 1) := by decide +kernel
theorem dX1_narrow_18 : decode cX1_narrow 18 = .ok (.istore 4, 2) := by decide +kernel
theorem dX1_narrow_20 : decode cX1_narrow 20 = .ok (.aload_n 0, 1) := by decide +kernel
theorem dX1_narrow_21 : decode cX1_narrow 21 = .ok (.getfield 19, 3) := by decide +kernel
theorem dX1_narrow_24 : decode cX1_narrow 24 = .ok (.iload_n 1, 1) := by decide +kernel
theorem dX1_narrow_25 : decode cX1_narrow 25 = .ok (.iconst 5, 1) := by decide +kernel
theorem dX1_narrow_26 : decode cX1_narrow 26 = .ok (.imul, 1) := by decide +kernel
theorem dX1_narrow_27 : decode cX1_narrow 27 = .ok (.iload 4, 2) := by decide +kernel
theorem dX1_narrow_29 : decode cX1_narrow 29 = .ok (.iadd, 1) := by decide +kernel
theorem dX1_narrow_30 : decode cX1_narrow 30 = .ok (.iaload, 1) := by decide +kernel
theorem dX1_narrow_31 : decode cX1_narrow 31 = .ok (.aload_n 0, 1) := by decide +kernel
theorem dX1_narrow_32 : decode cX1_narrow 32 = .ok (.getfield 22, 3) := by decide +kernel
theorem dX1_narrow_35 : decode cX1_narrow 35 = .ok (.aload_n 0, 1) := by decide +kernel
theorem dX1_narrow_36 : decode cX1_narrow 36 = .ok (.getfield 9, 3) := by decide +kernel
theorem dX1_narrow_39 : decode cX1_narrow 39 = .ok (.iload_n 1, 1) := by decide +kernel
theorem dX1_narrow_40 : decode cX1_narrow 40 = .ok (.iaload, 1) := by decide +kernel
theorem dX1_narrow_41 : decode cX1_narrow 41 = .ok (.iload_n 2, 1) := by decide +kernel
theorem dX1_narrow_42 : decode cX1_narrow 42 = .ok (.iload 4, 2) := by decide +kernel
theorem dX1_narrow_44 : decode cX1_narrow 44 = .ok (.invokestatic 104, 3) := by decide +kernel
theorem dX1_narrow_47 : decode cX1_narrow 47 = .ok (.iaload, 1) := by decide +kernel
theorem dX1_narrow_48 : decode cX1_narrow 48 = .ok (.iand, 1) := by decide +kernel
theorem dX1_narrow_49 : decode cX1_narrow 49 = .ok (.istore 5, 2) := by decide +kernel
theorem dX1_narrow_51 : decode cX1_narrow 51 = .ok (.iload 5, 2) := by decide +kernel
theorem dX1_narrow_53 : decode cX1_narrow 53 = .ok (.ifCond .ne 5, 3) := by decide +kernel
theorem dX1_narrow_56 : decode cX1_narrow 56 = .ok (.iconst 0, 1) := by decide +kernel
theorem dX1_narrow_57 : decode cX1_narrow 57 = .ok (.ireturn, 1) := by decide +kernel
theorem dX1_narrow_58 : decode cX1_narrow 58 = .ok (.aload_n 0, 1) := by decide +kernel
theorem dX1_narrow_59 : decode cX1_narrow 59 = .ok (.getfield 19, 3) := by decide +kernel
theorem dX1_narrow_62 : decode cX1_narrow 62 = .ok (.iload_n 1, 1) := by decide +kernel
theorem dX1_narrow_63 : decode cX1_narrow 63 = .ok (.iconst 1, 1) := by decide +kernel
theorem dX1_narrow_64 : decode cX1_narrow 64 = .ok (.iadd, 1) := by decide +kernel
theorem dX1_narrow_65 : decode cX1_narrow 65 = .ok (.iconst 5, 1) := by decide +kernel
theorem dX1_narrow_66 : decode cX1_narrow 66 = .ok (.imul, 1) := by decide +kernel
theorem dX1_narrow_67 : decode cX1_narrow 67 = .ok (.iload 4, 2) := by decide +kernel
theorem dX1_narrow_69 : decode cX1_narrow 69 = .ok (.iadd, 1) := by decide +kernel
theorem dX1_narrow_70 : decode cX1_narrow 70 = .ok (.iload 5, 2) := by decide +kernel
theorem dX1_narrow_72 : decode cX1_narrow 72 = .ok (.iastore, 1) := by decide +kernel
theorem dX1_narrow_73 : decode cX1_narrow 73 = .ok (.iinc 3 1, 3) := by decide +kernel
theorem dX1_narrow_76 : decode cX1_narrow 76 = .ok (.goto (-72), 3) := by decide +kernel
theorem dX1_narrow_79 : decode cX1_narrow 79 = .ok (.iconst 1, 1) := by decide +kernel
theorem dX1_narrow_80 : decode cX1_narrow 80 = .ok (.ireturn, 1) := by decide +kernel
theorem dX1_rowsFrom_0 : decode cX1_rowsFrom 0 = .ok (.iload_n 1, 1) := by decide +kernel
theorem dX1_rowsFrom_1 : decode cX1_rowsFrom 1 = .ok (.aload_n 0, 1) := by decide +kernel
theorem dX1_rowsFrom_2 : decode cX1_rowsFrom 2 = .ok (.getfield 15, 3) := by decide +kernel
theorem dX1_rowsFrom_5 : decode cX1_rowsFrom 5 = .ok (.if_icmp .lt 5, 3) := by decide +kernel
theorem dX1_rowsFrom_8 : decode cX1_rowsFrom 8 = .ok (.iconst 1, 1) := by decide +kernel
theorem dX1_rowsFrom_9 : decode cX1_rowsFrom 9 = .ok (.ireturn, 1) := by decide +kernel
theorem dX1_rowsFrom_10 : decode cX1_rowsFrom 10 = .ok (.aload_n 0, 1) := by decide +kernel
theorem dX1_rowsFrom_11 : decode cX1_rowsFrom 11 = .ok (.getfield 19, 3) := by decide +kernel
theorem dX1_rowsFrom_14 : decode cX1_rowsFrom 14 = .ok (.iload_n 1, 1) := by decide +kernel
theorem dX1_rowsFrom_15 : decode cX1_rowsFrom 15 = .ok (.iconst 5, 1) := by decide +kernel
theorem dX1_rowsFrom_16 : decode cX1_rowsFrom 16 = .ok (.imul, 1) := by decide +kernel
theorem dX1_rowsFrom_17 : decode cX1_rowsFrom 17 = .ok (.aload_n 0, 1) := by decide +kernel
theorem dX1_rowsFrom_18 : decode cX1_rowsFrom 18 = .ok (.getfield 9, 3) := by decide +kernel
theorem dX1_rowsFrom_21 : decode cX1_rowsFrom 21 = .ok (.iload_n 1, 1) := by decide +kernel
theorem dX1_rowsFrom_22 : decode cX1_rowsFrom 22 = .ok (.iaload, 1) := by decide +kernel
theorem dX1_rowsFrom_23 : decode cX1_rowsFrom 23 = .ok (.iadd, 1) := by decide +kernel
theorem dX1_rowsFrom_24 : decode cX1_rowsFrom 24 = .ok (.iaload, 1) := by decide +kernel
theorem dX1_rowsFrom_25 : decode cX1_rowsFrom 25 = .ok (.istore_n 2, 1) := by decide +kernel
theorem dX1_rowsFrom_26 : decode cX1_rowsFrom 26 = .ok (.iload_n 1, 1) := by decide +kernel
theorem dX1_rowsFrom_27 : decode cX1_rowsFrom 27 = .ok (.aload_n 0, 1) := by decide +kernel
theorem dX1_rowsFrom_28 : decode cX1_rowsFrom 28 = .ok (.getfield 15, 3) := by decide +kernel
theorem dX1_rowsFrom_31 : decode cX1_rowsFrom 31 = .ok (.iconst 1, 1) := by decide +kernel
theorem dX1_rowsFrom_32 : decode cX1_rowsFrom 32 = .ok (.isub, 1) := by decide +kernel
theorem dX1_rowsFrom_33 : decode cX1_rowsFrom 33 = .ok (.if_icmp .ne 8, 3) := by decide +kernel
theorem dX1_rowsFrom_36 : decode cX1_rowsFrom 36 = .ok (.iload_n 2, 1) := by decide +kernel
theorem dX1_rowsFrom_37 : decode cX1_rowsFrom 37 = .ok (.invokestatic 108, 3) := by decide +kernel
theorem dX1_rowsFrom_40 : decode cX1_rowsFrom 40 = .ok (.ireturn, 1) := by decide +kernel
theorem dX1_rowsFrom_41 : decode cX1_rowsFrom 41 = .ok (.iconst 0, 1) := by decide +kernel
theorem dX1_rowsFrom_42 : decode cX1_rowsFrom 42 = .ok (.istore_n 3, 1) := by decide +kernel
theorem dX1_rowsFrom_43 : decode cX1_rowsFrom 43 = .ok (.iconst 0, 1) := by decide +kernel
theorem dX1_rowsFrom_44 : decode cX1_rowsFrom 44 = .ok (.istore 4, 2) := by decide +kernel
theorem dX1_rowsFrom_46 : decode cX1_rowsFrom 46 = .ok (.iload 4, 2) := by decide +kernel
theorem dX1_rowsFrom_48 : decode cX1_rowsFrom 48 = .ok (.bipush 16, 2) := by decide +kernel
theorem dX1_rowsFrom_50 : decode cX1_rowsFrom 50 = .ok (.if_icmp .ge 45, 3) := by decide +kernel
theorem dX1_rowsFrom_53 : decode cX1_rowsFrom 53 = .ok (.iload_n 3, 1) := by decide +kernel
theorem dX1_rowsFrom_54 : decode cX1_rowsFrom 54 = .ok (.ldc 43, 2) := by decide +kernel
theorem dX1_rowsFrom_56 : decode cX1_rowsFrom 56 = .ok (.if_icmp .gt 39, 3) := by decide +kernel
theorem dX1_rowsFrom_59 : decode cX1_rowsFrom 59 = .ok (.iload_n 2, 1) := by decide +kernel
theorem dX1_rowsFrom_60 : decode cX1_rowsFrom 60 = .ok (.iload 4, 2) := by decide +kernel
theorem dX1_rowsFrom_62 : decode cX1_rowsFrom 62 = .ok (.ishr, 1) := by decide +kernel
theorem dX1_rowsFrom_63 : decode cX1_rowsFrom 63 = .ok (.iconst 1, 1) := by decide +kernel
theorem dX1_rowsFrom_64 : decode cX1_rowsFrom 64 = .ok (.iand, 1) := by decide +kernel
theorem dX1_rowsFrom_65 : decode cX1_rowsFrom 65 = .ok (.iconst 1, 1) := by decide +kernel
theorem dX1_rowsFrom_66 : decode cX1_rowsFrom 66 = .ok (.if_icmp .ne 23, 3) := by decide +kernel
theorem dX1_rowsFrom_69 : decode cX1_rowsFrom 69 = .ok (.aload_n 0, 1) := by decide +kernel
theorem dX1_rowsFrom_70 : decode cX1_rowsFrom 70 = .ok (.iload_n 1, 1) := by decide +kernel
theorem dX1_rowsFrom_71 : decode cX1_rowsFrom 71 = .ok (.iload 4, 2) := by decide +kernel
theorem dX1_rowsFrom_73 : decode cX1_rowsFrom 73 = .ok (.invokevirtual 44, 3) := by decide +kernel
theorem dX1_rowsFrom_76 : decode cX1_rowsFrom 76 = .ok (.ifCond .eq 13, 3) := by decide +kernel
theorem dX1_rowsFrom_79 : decode cX1_rowsFrom 79 = .ok (.iload_n 3, 1) := by decide +kernel
theorem dX1_rowsFrom_80 : decode cX1_rowsFrom 80 = .ok (.aload_n 0, 1) := by decide +kernel
theorem dX1_rowsFrom_81 : decode cX1_rowsFrom 81 = .ok (.iload_n 1, 1) := by decide +kernel
theorem dX1_rowsFrom_82 : decode cX1_rowsFrom 82 = .ok (.iconst 1, 1) := by decide +kernel
theorem dX1_rowsFrom_83 : decode cX1_rowsFrom 83 = .ok (.iadd, 1) := by decide +kernel
theorem dX1_rowsFrom_84 : decode cX1_rowsFrom 84 = .ok (.invokestatic 48, 3) := by decide +kernel
theorem dX1_rowsFrom_87 : decode cX1_rowsFrom 87 = .ok (.iadd, 1) := by decide +kernel
theorem dX1_rowsFrom_88 : decode cX1_rowsFrom 88 = .ok (.istore_n 3, 1) := by decide +kernel
theorem dX1_rowsFrom_89 : decode cX1_rowsFrom 89 = .ok (.iinc 4 1, 3) := by decide +kernel
theorem dX1_rowsFrom_92 : decode cX1_rowsFrom 92 = .ok (.goto (-46), 3) := by decide +kernel
theorem dX1_rowsFrom_95 : decode cX1_rowsFrom 95 = .ok (.iload_n 3, 1) := by decide +kernel
theorem dX1_rowsFrom_96 : decode cX1_rowsFrom 96 = .ok (.ireturn, 1) := by decide +kernel
theorem dX2_init_0 : decode cX2_init 0 = .ok (.aload_n 0, 1) := by decide +kernel
theorem dX2_init_1 : decode cX2_init 1 = .ok (.invokespecial 3, 3) := by decide +kernel
theorem dX2_init_4 : decode cX2_init 4 = .ok (.aload_n 0, 1) := by decide +kernel
theorem dX2_init_5 : decode cX2_init 5 = .ok (.iconst 0, 1) := by decide +kernel
theorem dX2_init_6 : decode cX2_init 6 = .ok (.putfield 9, 3) := by decide +kernel
theorem dX2_init_9 : decode cX2_init 9 = .ok (.aload_n 0, 1) := by decide +kernel
theorem dX2_init_10 : decode cX2_init 10 = .ok (.iconst 0, 1) := by decide +kernel
theorem dX2_init_11 : decode cX2_init 11 = .ok (.putfield 15, 3) := by decide +kernel
theorem dX2_init_14 : decode cX2_init 14 = .ok (.aload_n 0, 1) := by decide +kernel
theorem dX2_init_15 : decode cX2_init 15 = .ok (.iconst (-1), 1) := by decide +kernel
theorem dX2_init_16 : decode cX2_init 16 = .ok (.putfield 18, 3) := by decide +kernel
theorem dX2_init_19 : decode cX2_init 19 = .ok (.aload_n 0, 1) := by decide +kernel
theorem dX2_init_20 : decode cX2_init 20 = .ok (.iconst 0, 1) := by decide +kernel
theorem dX2_init_21 : decode cX2_init 21 = .ok (.putfield 21, 3) := by decide +kernel
theorem dX2_init_24 : decode cX2_init 24 = .ok (.aload_n 0, 1) := by decide +kernel
theorem dX2_init_25 : decode cX2_init 25 = .ok (.iconst (-1), 1) := by decide +kernel
theorem dX2_init_26 : decode cX2_init 26 = .ok (.putfield 24, 3) := by decide +kernel
theorem dX2_init_29 : decode cX2_init 29 = .ok (.aload_n 0, 1) := by decide +kernel
theorem dX2_init_30 : decode cX2_init 30 = .ok (.iconst (-1), 1) := by decide +kernel
theorem dX2_init_31 : decode cX2_init 31 = .ok (.putfield 27, 3) := by decide +kernel
theorem dX2_init_34 : decode cX2_init 34 = .ok (.aload_n 0, 1) := by decide +kernel
theorem dX2_init_35 : decode cX2_init 35 = .ok (.iconst 1, 1) := by decide +kernel
theorem dX2_init_36 : decode cX2_init 36 = .ok (.putfield 30, 3) := by decide +kernel
theorem dX2_init_39 : decode cX2_init 39 = .ok (.return_, 1) := by decide +kernel
theorem dX2_speaks_0 : decode cX2_speaks 0 = .ok (.iload_n 1, 1) := by decide +kernel
theorem dX2_speaks_1 : decode cX2_speaks 1 = .ok (.tableswitch 90 0 3 #[31, 33, 46, 76], 31) := by decide +kernel
theorem dX2_speaks_32 : decode cX2_speaks 32 = .ok (.iconst 1, 1) := by decide +kernel
theorem dX2_speaks_33 : decode cX2_speaks 33 = .ok (.ireturn, 1) := by decide +kernel
theorem dX2_speaks_34 : decode cX2_speaks 34 = .ok (.aload_n 0, 1) := by decide +kernel
theorem dX2_speaks_35 : decode cX2_speaks 35 = .ok (.getfield 9, 3) := by decide +kernel
theorem dX2_speaks_38 : decode cX2_speaks 38 = .ok (.ifCond .ne 7, 3) := by decide +kernel
theorem dX2_speaks_41 : decode cX2_speaks 41 = .ok (.iconst 1, 1) := by decide +kernel
theorem dX2_speaks_42 : decode cX2_speaks 42 = .ok (.goto 4, 3) := by decide +kernel
theorem dX2_speaks_45 : decode cX2_speaks 45 = .ok (.iconst 0, 1) := by decide +kernel
theorem dX2_speaks_46 : decode cX2_speaks 46 = .ok (.ireturn, 1) := by decide +kernel
theorem dX2_speaks_47 : decode cX2_speaks 47 = .ok (.aload_n 0, 1) := by decide +kernel
theorem dX2_speaks_48 : decode cX2_speaks 48 = .ok (.getfield 9, 3) := by decide +kernel
theorem dX2_speaks_51 : decode cX2_speaks 51 = .ok (.iconst 1, 1) := by decide +kernel
theorem dX2_speaks_52 : decode cX2_speaks 52 = .ok (.if_icmp .eq 19, 3) := by decide +kernel
theorem dX2_speaks_55 : decode cX2_speaks 55 = .ok (.aload_n 0, 1) := by decide +kernel
theorem dX2_speaks_56 : decode cX2_speaks 56 = .ok (.getfield 9, 3) := by decide +kernel
theorem dX2_speaks_59 : decode cX2_speaks 59 = .ok (.iconst 2, 1) := by decide +kernel
theorem dX2_speaks_60 : decode cX2_speaks 60 = .ok (.if_icmp .eq 11, 3) := by decide +kernel
theorem dX2_speaks_63 : decode cX2_speaks 63 = .ok (.aload_n 0, 1) := by decide +kernel
theorem dX2_speaks_64 : decode cX2_speaks 64 = .ok (.getfield 9, 3) := by decide +kernel
theorem dX2_speaks_67 : decode cX2_speaks 67 = .ok (.iconst 3, 1) := by decide +kernel
theorem dX2_speaks_68 : decode cX2_speaks 68 = .ok (.if_icmp .ne 7, 3) := by decide +kernel
theorem dX2_speaks_71 : decode cX2_speaks 71 = .ok (.iconst 1, 1) := by decide +kernel
theorem dX2_speaks_72 : decode cX2_speaks 72 = .ok (.goto 4, 3) := by decide +kernel
theorem dX2_speaks_75 : decode cX2_speaks 75 = .ok (.iconst 0, 1) := by decide +kernel
theorem dX2_speaks_76 : decode cX2_speaks 76 = .ok (.ireturn, 1) := by decide +kernel
theorem dX2_speaks_77 : decode cX2_speaks 77 = .ok (.aload_n 0, 1) := by decide +kernel
theorem dX2_speaks_78 : decode cX2_speaks 78 = .ok (.getfield 9, 3) := by decide +kernel
theorem dX2_speaks_81 : decode cX2_speaks 81 = .ok (.iconst 3, 1) := by decide +kernel
theorem dX2_speaks_82 : decode cX2_speaks 82 = .ok (.if_icmp .ne 7, 3) := by decide +kernel
theorem dX2_speaks_85 : decode cX2_speaks 85 = .ok (.iconst 1, 1) := by decide +kernel
theorem dX2_speaks_86 : decode cX2_speaks 86 = .ok (.goto 4, 3) := by decide +kernel
theorem dX2_speaks_89 : decode cX2_speaks 89 = .ok (.iconst 0, 1) := by decide +kernel
theorem dX2_speaks_90 : decode cX2_speaks 90 = .ok (.ireturn, 1) := by decide +kernel
theorem dX2_speaks_91 : decode cX2_speaks 91 = .ok (.aload_n 0, 1) := by decide +kernel
theorem dX2_speaks_92 : decode cX2_speaks 92 = .ok (.getfield 9, 3) := by decide +kernel
theorem dX2_speaks_95 : decode cX2_speaks 95 = .ok (.iconst 4, 1) := by decide +kernel
theorem dX2_speaks_96 : decode cX2_speaks 96 = .ok (.if_icmp .ne 7, 3) := by decide +kernel
theorem dX2_speaks_99 : decode cX2_speaks 99 = .ok (.iconst 1, 1) := by decide +kernel
theorem dX2_speaks_100 : decode cX2_speaks 100 = .ok (.goto 4, 3) := by decide +kernel
theorem dX2_speaks_103 : decode cX2_speaks 103 = .ok (.iconst 0, 1) := by decide +kernel
theorem dX2_speaks_104 : decode cX2_speaks 104 = .ok (.ireturn, 1) := by decide +kernel
theorem dX2_speech_0 : decode cX2_speech 0 = .ok (.iload_n 1, 1) := by decide +kernel
theorem dX2_speech_1 : decode cX2_speech 1 = .ok (.tableswitch 54 0 3 #[31, 36, 44, 49], 31) := by decide +kernel
theorem dX2_speech_32 : decode cX2_speech 32 = .ok (.aload_n 0, 1) := by decide +kernel
theorem dX2_speech_33 : decode cX2_speech 33 = .ok (.getfield 21, 3) := by decide +kernel
theorem dX2_speech_36 : decode cX2_speech 36 = .ok (.ireturn, 1) := by decide +kernel
theorem dX2_speech_37 : decode cX2_speech 37 = .ok (.aload_n 0, 1) := by decide +kernel
theorem dX2_speech_38 : decode cX2_speech 38 = .ok (.getfield 15, 3) := by decide +kernel
theorem dX2_speech_41 : decode cX2_speech 41 = .ok (.invokestatic 33, 3) := by decide +kernel
theorem dX2_speech_44 : decode cX2_speech 44 = .ok (.ireturn, 1) := by decide +kernel
theorem dX2_speech_45 : decode cX2_speech 45 = .ok (.aload_n 0, 1) := by decide +kernel
theorem dX2_speech_46 : decode cX2_speech 46 = .ok (.getfield 24, 3) := by decide +kernel
theorem dX2_speech_49 : decode cX2_speech 49 = .ok (.ireturn, 1) := by decide +kernel
theorem dX2_speech_50 : decode cX2_speech 50 = .ok (.aload_n 0, 1) := by decide +kernel
theorem dX2_speech_51 : decode cX2_speech 51 = .ok (.getfield 27, 3) := by decide +kernel
theorem dX2_speech_54 : decode cX2_speech 54 = .ok (.ireturn, 1) := by decide +kernel
theorem dX2_speech_55 : decode cX2_speech 55 = .ok (.aload_n 0, 1) := by decide +kernel
theorem dX2_speech_56 : decode cX2_speech 56 = .ok (.getfield 18, 3) := by decide +kernel
theorem dX2_speech_59 : decode cX2_speech 59 = .ok (.ireturn, 1) := by decide +kernel
theorem dX2_become_0 : decode cX2_become 0 = .ok (.aload_n 0, 1) := by decide +kernel
theorem dX2_become_1 : decode cX2_become 1 = .ok (.aload_n 1, 1) := by decide +kernel
theorem dX2_become_2 : decode cX2_become 2 = .ok (.getfield 9, 3) := by decide +kernel
theorem dX2_become_5 : decode cX2_become 5 = .ok (.putfield 9, 3) := by decide +kernel
theorem dX2_become_8 : decode cX2_become 8 = .ok (.aload_n 0, 1) := by decide +kernel
theorem dX2_become_9 : decode cX2_become 9 = .ok (.aload_n 1, 1) := by decide +kernel
theorem dX2_become_10 : decode cX2_become 10 = .ok (.getfield 15, 3) := by decide +kernel
theorem dX2_become_13 : decode cX2_become 13 = .ok (.putfield 15, 3) := by decide +kernel
theorem dX2_become_16 : decode cX2_become 16 = .ok (.aload_n 0, 1) := by decide +kernel
theorem dX2_become_17 : decode cX2_become 17 = .ok (.aload_n 1, 1) := by decide +kernel
theorem dX2_become_18 : decode cX2_become 18 = .ok (.getfield 18, 3) := by decide +kernel
theorem dX2_become_21 : decode cX2_become 21 = .ok (.putfield 18, 3) := by decide +kernel
theorem dX2_become_24 : decode cX2_become 24 = .ok (.aload_n 0, 1) := by decide +kernel
theorem dX2_become_25 : decode cX2_become 25 = .ok (.aload_n 1, 1) := by decide +kernel
theorem dX2_become_26 : decode cX2_become 26 = .ok (.getfield 21, 3) := by decide +kernel
theorem dX2_become_29 : decode cX2_become 29 = .ok (.putfield 21, 3) := by decide +kernel
theorem dX2_become_32 : decode cX2_become 32 = .ok (.aload_n 0, 1) := by decide +kernel
theorem dX2_become_33 : decode cX2_become 33 = .ok (.aload_n 1, 1) := by decide +kernel
theorem dX2_become_34 : decode cX2_become 34 = .ok (.getfield 24, 3) := by decide +kernel
theorem dX2_become_37 : decode cX2_become 37 = .ok (.putfield 24, 3) := by decide +kernel
theorem dX2_become_40 : decode cX2_become 40 = .ok (.aload_n 0, 1) := by decide +kernel
theorem dX2_become_41 : decode cX2_become 41 = .ok (.aload_n 1, 1) := by decide +kernel
theorem dX2_become_42 : decode cX2_become 42 = .ok (.getfield 27, 3) := by decide +kernel
theorem dX2_become_45 : decode cX2_become 45 = .ok (.putfield 27, 3) := by decide +kernel
theorem dX2_become_48 : decode cX2_become 48 = .ok (.aload_n 0, 1) := by decide +kernel
theorem dX2_become_49 : decode cX2_become 49 = .ok (.aload_n 1, 1) := by decide +kernel
theorem dX2_become_50 : decode cX2_become 50 = .ok (.getfield 30, 3) := by decide +kernel
theorem dX2_become_53 : decode cX2_become 53 = .ok (.putfield 30, 3) := by decide +kernel
theorem dX2_become_56 : decode cX2_become 56 = .ok (.return_, 1) := by decide +kernel
theorem dX3_init_0 : decode cX3_init 0 = .ok (.aload_n 0, 1) := by decide +kernel
theorem dX3_init_1 : decode cX3_init 1 = .ok (.invokespecial 3, 3) := by decide +kernel
theorem dX3_init_4 : decode cX3_init 4 = .ok (.aload_n 0, 1) := by decide +kernel
theorem dX3_init_5 : decode cX3_init 5 = .ok (.bipush 32, 2) := by decide +kernel
theorem dX3_init_7 : decode cX3_init 7 = .ok (.newarray .float, 2) := by decide +kernel
theorem dX3_init_9 : decode cX3_init 9 = .ok (.putfield 9, 3) := by decide +kernel
theorem dX3_init_12 : decode cX3_init 12 = .ok (.aload_n 0, 1) := by decide +kernel
theorem dX3_init_13 : decode cX3_init 13 = .ok (.sipush 512, 3) := by decide +kernel
theorem dX3_init_16 : decode cX3_init 16 = .ok (.newarray .int, 2) := by decide +kernel
theorem dX3_init_18 : decode cX3_init 18 = .ok (.putfield 15, 3) := by decide +kernel
theorem dX3_init_21 : decode cX3_init 21 = .ok (.aload_n 0, 1) := by decide +kernel
theorem dX3_init_22 : decode cX3_init 22 = .ok (.sipush 512, 3) := by decide +kernel
theorem dX3_init_25 : decode cX3_init 25 = .ok (.newarray .float, 2) := by decide +kernel
theorem dX3_init_27 : decode cX3_init 27 = .ok (.putfield 19, 3) := by decide +kernel
theorem dX3_init_30 : decode cX3_init 30 = .ok (.aload_n 0, 1) := by decide +kernel
theorem dX3_init_31 : decode cX3_init 31 = .ok (.sipush 512, 3) := by decide +kernel
theorem dX3_init_34 : decode cX3_init 34 = .ok (.newarray .int, 2) := by decide +kernel
theorem dX3_init_36 : decode cX3_init 36 = .ok (.putfield 22, 3) := by decide +kernel
theorem dX3_init_39 : decode cX3_init 39 = .ok (.aload_n 0, 1) := by decide +kernel
theorem dX3_init_40 : decode cX3_init 40 = .ok (.sipush 512, 3) := by decide +kernel
theorem dX3_init_43 : decode cX3_init 43 = .ok (.newarray .int, 2) := by decide +kernel
theorem dX3_init_45 : decode cX3_init 45 = .ok (.putfield 25, 3) := by decide +kernel
theorem dX3_init_48 : decode cX3_init 48 = .ok (.aload_n 0, 1) := by decide +kernel
theorem dX3_init_49 : decode cX3_init 49 = .ok (.sipush 512, 3) := by decide +kernel
theorem dX3_init_52 : decode cX3_init 52 = .ok (.newarray .int, 2) := by decide +kernel
theorem dX3_init_54 : decode cX3_init 54 = .ok (.putfield 28, 3) := by decide +kernel
theorem dX3_init_57 : decode cX3_init 57 = .ok (.aload_n 0, 1) := by decide +kernel
theorem dX3_init_58 : decode cX3_init 58 = .ok (.sipush 512, 3) := by decide +kernel
theorem dX3_init_61 : decode cX3_init 61 = .ok (.newarray .int, 2) := by decide +kernel
theorem dX3_init_63 : decode cX3_init 63 = .ok (.putfield 31, 3) := by decide +kernel
theorem dX3_init_66 : decode cX3_init 66 = .ok (.aload_n 0, 1) := by decide +kernel
theorem dX3_init_67 : decode cX3_init 67 = .ok (.bipush 18, 2) := by decide +kernel
theorem dX3_init_69 : decode cX3_init 69 = .ok (.newarray .int, 2) := by decide +kernel
theorem dX3_init_71 : decode cX3_init 71 = .ok (.putfield 34, 3) := by decide +kernel
theorem dX3_init_74 : decode cX3_init 74 = .ok (.aload_n 0, 1) := by decide +kernel
theorem dX3_init_75 : decode cX3_init 75 = .ok (.aload_n 1, 1) := by decide +kernel
theorem dX3_init_76 : decode cX3_init 76 = .ok (.putfield 37, 3) := by decide +kernel
theorem dX3_init_79 : decode cX3_init 79 = .ok (.aload_n 0, 1) := by decide +kernel
theorem dX3_init_80 : decode cX3_init 80 = .ok (.aload_n 2, 1) := by decide +kernel
theorem dX3_init_81 : decode cX3_init 81 = .ok (.putfield 41, 3) := by decide +kernel
theorem dX3_init_84 : decode cX3_init 84 = .ok (.return_, 1) := by decide +kernel
theorem dX3_search_0 : decode cX3_search 0 = .ok (.iconst 1, 1) := by decide +kernel
theorem dX3_search_1 : decode cX3_search 1 = .ok (.istore_n 2, 1) := by decide +kernel
theorem dX3_search_2 : decode cX3_search 2 = .ok (.iload_n 2, 1) := by decide +kernel
theorem dX3_search_3 : decode cX3_search 3 = .ok (.iload_n 1, 1) := by decide +kernel
theorem dX3_search_4 : decode cX3_search 4 = .ok (.if_icmp .gt 21, 3) := by decide +kernel
theorem dX3_search_7 : decode cX3_search 7 = .ok (.iload_n 2, 1) := by decide +kernel
theorem dX3_search_8 : decode cX3_search 8 = .ok (.iload_n 1, 1) := by decide +kernel
theorem dX3_search_9 : decode cX3_search 9 = .ok (.iand, 1) := by decide +kernel
theorem dX3_search_10 : decode cX3_search 10 = .ok (.iload_n 2, 1) := by decide +kernel
theorem dX3_search_11 : decode cX3_search 11 = .ok (.if_icmp .ne 8, 3) := by decide +kernel
theorem dX3_search_14 : decode cX3_search 14 = .ok (.aload_n 0, 1) := by decide +kernel
theorem dX3_search_15 : decode cX3_search 15 = .ok (.iload_n 2, 1) := by decide +kernel
theorem dX3_search_16 : decode cX3_search 16 = .ok (.invokevirtual 45, 3) := by decide +kernel
theorem dX3_search_19 : decode cX3_search 19 = .ok (.iinc 2 1, 3) := by decide +kernel
theorem dX3_search_22 : decode cX3_search 22 = .ok (.goto (-20), 3) := by decide +kernel
theorem dX3_search_25 : decode cX3_search 25 = .ok (.return_, 1) := by decide +kernel
theorem dX3_searchSet_0 : decode cX3_searchSet 0 = .ok (.aload_n 0, 1) := by decide +kernel
theorem dX3_searchSet_1 : decode cX3_searchSet 1 = .ok (.getfield 9, 3) := by decide +kernel
theorem dX3_searchSet_4 : decode cX3_searchSet 4 = .ok (.iload_n 1, 1) := by decide +kernel
theorem dX3_searchSet_5 : decode cX3_searchSet 5 = .ok (.aload_n 0, 1) := by decide +kernel
theorem dX3_searchSet_6 : decode cX3_searchSet 6 = .ok (.getfield 41, 3) := by decide +kernel
theorem dX3_searchSet_9 : decode cX3_searchSet 9 = .ok (.iload_n 1, 1) := by decide +kernel
theorem dX3_searchSet_10 : decode cX3_searchSet 10 = .ok (.invokevirtual 49, 3) := by decide +kernel
theorem dX3_searchSet_13 : decode cX3_searchSet 13 = .ok (.fastore, 1) := by decide +kernel
theorem dX3_searchSet_14 : decode cX3_searchSet 14 = .ok (.iconst (-1), 1) := by decide +kernel
theorem dX3_searchSet_15 : decode cX3_searchSet 15 = .ok (.istore_n 2, 1) := by decide +kernel
theorem dX3_searchSet_16 : decode cX3_searchSet 16 = .ok (.iload_n 2, 1) := by decide +kernel
theorem dX3_searchSet_17 : decode cX3_searchSet 17 = .ok (.bipush 15, 2) := by decide +kernel
theorem dX3_searchSet_19 : decode cX3_searchSet 19 = .ok (.if_icmp .ge 20, 3) := by decide +kernel
theorem dX3_searchSet_22 : decode cX3_searchSet 22 = .ok (.aload_n 0, 1) := by decide +kernel
theorem dX3_searchSet_23 : decode cX3_searchSet 23 = .ok (.getfield 15, 3) := by decide +kernel
theorem dX3_searchSet_26 : decode cX3_searchSet 26 = .ok (.iload_n 1, 1) := by decide +kernel
theorem dX3_searchSet_27 : decode cX3_searchSet 27 = .ok (.iload_n 2, 1) := by decide +kernel
theorem dX3_searchSet_28 : decode cX3_searchSet 28 = .ok (.invokestatic 55, 3) := by decide +kernel
theorem dX3_searchSet_31 : decode cX3_searchSet 31 = .ok (.iconst (-1), 1) := by decide +kernel
theorem dX3_searchSet_32 : decode cX3_searchSet 32 = .ok (.iastore, 1) := by decide +kernel
theorem dX3_searchSet_33 : decode cX3_searchSet 33 = .ok (.iinc 2 1, 3) := by decide +kernel
theorem dX3_searchSet_36 : decode cX3_searchSet 36 = .ok (.goto (-20), 3) := by decide +kernel
theorem dX3_searchSet_39 : decode cX3_searchSet 39 = .ok (.iload_n 1, 1) := by decide +kernel
theorem dX3_searchSet_40 : decode cX3_searchSet 40 = .ok (.iload_n 1, 1) := by decide +kernel
theorem dX3_searchSet_41 : decode cX3_searchSet 41 = .ok (.iconst 1, 1) := by decide +kernel
theorem dX3_searchSet_42 : decode cX3_searchSet 42 = .ok (.isub, 1) := by decide +kernel
theorem dX3_searchSet_43 : decode cX3_searchSet 43 = .ok (.iand, 1) := by decide +kernel
theorem dX3_searchSet_44 : decode cX3_searchSet 44 = .ok (.ifCond .ne 11, 3) := by decide +kernel
theorem dX3_searchSet_47 : decode cX3_searchSet 47 = .ok (.aload_n 0, 1) := by decide +kernel
theorem dX3_searchSet_48 : decode cX3_searchSet 48 = .ok (.iload_n 1, 1) := by decide +kernel
theorem dX3_searchSet_49 : decode cX3_searchSet 49 = .ok (.invokevirtual 59, 3) := by decide +kernel
theorem dX3_searchSet_52 : decode cX3_searchSet 52 = .ok (.goto 8, 3) := by decide +kernel
theorem dX3_searchSet_55 : decode cX3_searchSet 55 = .ok (.aload_n 0, 1) := by decide +kernel
theorem dX3_searchSet_56 : decode cX3_searchSet 56 = .ok (.iload_n 1, 1) := by decide +kernel
theorem dX3_searchSet_57 : decode cX3_searchSet 57 = .ok (.invokevirtual 62, 3) := by decide +kernel
theorem dX3_searchSet_60 : decode cX3_searchSet 60 = .ok (.aload_n 0, 1) := by decide +kernel
theorem dX3_searchSet_61 : decode cX3_searchSet 61 = .ok (.iload_n 1, 1) := by decide +kernel
theorem dX3_searchSet_62 : decode cX3_searchSet 62 = .ok (.invokevirtual 65, 3) := by decide +kernel
theorem dX3_searchSet_65 : decode cX3_searchSet 65 = .ok (.return_, 1) := by decide +kernel
theorem dX3_offerRead_0 : decode cX3_offerRead 0 = .ok (.iload_n 1, 1) := by decide +kernel
theorem dX3_offerRead_1 : decode cX3_offerRead 1 = .ok (.invokestatic 68, 3) := by decide +kernel
theorem dX3_offerRead_4 : decode cX3_offerRead 4 = .ok (.istore_n 2, 1) := by decide +kernel
theorem dX3_offerRead_5 : decode cX3_offerRead 5 = .ok (.aload_n 0, 1) := by decide +kernel
theorem dX3_offerRead_6 : decode cX3_offerRead 6 = .ok (.getfield 37, 3) := by decide +kernel
theorem dX3_offerRead_9 : decode cX3_offerRead 9 = .ok (.getfield 72, 3) := by decide +kernel
theorem dX3_offerRead_12 : decode cX3_offerRead 12 = .ok (.iload_n 2, 1) := by decide +kernel
theorem dX3_offerRead_13 : decode cX3_offerRead 13 = .ok (.aaload, 1) := by decide +kernel
theorem dX3_offerRead_14 : decode cX3_offerRead 14 = .ok (.astore_n 3, 1) := by decide +kernel
theorem dX3_offerRead_15 : decode cX3_offerRead 15 = .ok (.aload_n 3, 1) := by decide +kernel
theorem dX3_offerRead_16 : decode cX3_offerRead 16 = .ok (.getfield 78, 3) := by decide +kernel
theorem dX3_offerRead_19 : decode cX3_offerRead 19 = .ok (.i2f, 1) := by decide +kernel
theorem dX3_offerRead_20 : decode cX3_offerRead 20 = .ok (.fstore 4, 2) := by decide +kernel
theorem dX3_offerRead_22 : decode cX3_offerRead 22 = .ok (.aload_n 0, 1) := by decide +kernel
theorem dX3_offerRead_23 : decode cX3_offerRead 23 = .ok (.iload_n 1, 1) := by decide +kernel
theorem dX3_offerRead_24 : decode cX3_offerRead 24 = .ok (.iconst (-1), 1) := by decide +kernel
theorem dX3_offerRead_25 : decode cX3_offerRead 25 = .ok (.invokestatic 55, 3) := by decide +kernel
theorem dX3_offerRead_28 : decode cX3_offerRead 28 = .ok (.iconst 0, 1) := by decide +kernel
theorem dX3_offerRead_29 : decode cX3_offerRead 29 = .ok (.fload 4, 2) := by decide +kernel
theorem dX3_offerRead_31 : decode cX3_offerRead 31 = .ok (.iconst (-1), 1) := by decide +kernel
theorem dX3_offerRead_32 : decode cX3_offerRead 32 = .ok (.iconst (-1), 1) := by decide +kernel
theorem dX3_offerRead_33 : decode cX3_offerRead 33 = .ok (.iconst (-1), 1) := by decide +kernel
theorem dX3_offerRead_34 : decode cX3_offerRead 34 = .ok (.invokevirtual 84, 3) := by decide +kernel
theorem dX3_offerRead_37 : decode cX3_offerRead 37 = .ok (.aload_n 3, 1) := by decide +kernel
theorem dX3_offerRead_38 : decode cX3_offerRead 38 = .ok (.getfield 88, 3) := by decide +kernel
theorem dX3_offerRead_41 : decode cX3_offerRead 41 = .ok (.iconst (-1), 1) := by decide +kernel
theorem dX3_offerRead_42 : decode cX3_offerRead 42 = .ok (.if_icmp .eq 25, 3) := by decide +kernel
theorem dX3_offerRead_45 : decode cX3_offerRead 45 = .ok (.aload_n 0, 1) := by decide +kernel
theorem dX3_offerRead_46 : decode cX3_offerRead 46 = .ok (.iload_n 1, 1) := by decide +kernel
theorem dX3_offerRead_47 : decode cX3_offerRead 47 = .ok (.iload_n 2, 1) := by decide +kernel
theorem dX3_offerRead_48 : decode cX3_offerRead 48 = .ok (.iconst 3, 1) := by decide +kernel
theorem dX3_offerRead_49 : decode cX3_offerRead 49 = .ok (.imul, 1) := by decide +kernel
theorem dX3_offerRead_50 : decode cX3_offerRead 50 = .ok (.aload_n 3, 1) := by decide +kernel
theorem dX3_offerRead_51 : decode cX3_offerRead 51 = .ok (.getfield 88, 3) := by decide +kernel
theorem dX3_offerRead_54 : decode cX3_offerRead 54 = .ok (.iadd, 1) := by decide +kernel
theorem dX3_offerRead_55 : decode cX3_offerRead 55 = .ok (.invokestatic 55, 3) := by decide +kernel
theorem dX3_offerRead_58 : decode cX3_offerRead 58 = .ok (.iconst 0, 1) := by decide +kernel
theorem dX3_offerRead_59 : decode cX3_offerRead 59 = .ok (.fload 4, 2) := by decide +kernel
theorem dX3_offerRead_61 : decode cX3_offerRead 61 = .ok (.iconst (-1), 1) := by decide +kernel
theorem dX3_offerRead_62 : decode cX3_offerRead 62 = .ok (.iconst (-1), 1) := by decide +kernel
theorem dX3_offerRead_63 : decode cX3_offerRead 63 = .ok (.iconst (-1), 1) := by decide +kernel
theorem dX3_offerRead_64 : decode cX3_offerRead 64 = .ok (.invokevirtual 84, 3) := by decide +kernel
theorem dX3_offerRead_67 : decode cX3_offerRead 67 = .ok (.return_, 1) := by decide +kernel
theorem dX3_offerPairs_0 : decode cX3_offerPairs 0 = .ok (.iconst 1, 1) := by decide +kernel
theorem dX3_offerPairs_1 : decode cX3_offerPairs 1 = .ok (.istore_n 2, 1) := by decide +kernel
theorem dX3_offerPairs_2 : decode cX3_offerPairs 2 = .ok (.iload_n 2, 1) := by decide +kernel
theorem dX3_offerPairs_3 : decode cX3_offerPairs 3 = .ok (.iload_n 1, 1) := by decide +kernel
theorem dX3_offerPairs_4 : decode cX3_offerPairs 4 = .ok (.if_icmp .ge 39, 3) := by decide +kernel
theorem dX3_offerPairs_7 : decode cX3_offerPairs 7 = .ok (.iload_n 2, 1) := by decide +kernel
theorem dX3_offerPairs_8 : decode cX3_offerPairs 8 = .ok (.iload_n 1, 1) := by decide +kernel
theorem dX3_offerPairs_9 : decode cX3_offerPairs 9 = .ok (.iand, 1) := by decide +kernel
theorem dX3_offerPairs_10 : decode cX3_offerPairs 10 = .ok (.iload_n 2, 1) := by decide +kernel
theorem dX3_offerPairs_11 : decode cX3_offerPairs 11 = .ok (.if_icmp .ne 26, 3) := by decide +kernel
theorem dX3_offerPairs_14 : decode cX3_offerPairs 14 = .ok (.aload_n 0, 1) := by decide +kernel
theorem dX3_offerPairs_15 : decode cX3_offerPairs 15 = .ok (.iload_n 2, 1) := by decide +kernel
theorem dX3_offerPairs_16 : decode cX3_offerPairs 16 = .ok (.iload_n 1, 1) := by decide +kernel
theorem dX3_offerPairs_17 : decode cX3_offerPairs 17 = .ok (.iload_n 2, 1) := by decide +kernel
theorem dX3_offerPairs_18 : decode cX3_offerPairs 18 = .ok (.ixor, 1) := by decide +kernel
theorem dX3_offerPairs_19 : decode cX3_offerPairs 19 = .ok (.invokevirtual 91, 3) := by decide +kernel
theorem dX3_offerPairs_22 : decode cX3_offerPairs 22 = .ok (.istore_n 3, 1) := by decide +kernel
theorem dX3_offerPairs_23 : decode cX3_offerPairs 23 = .ok (.iload_n 3, 1) := by decide +kernel
theorem dX3_offerPairs_24 : decode cX3_offerPairs 24 = .ok (.iconst (-1), 1) := by decide +kernel
theorem dX3_offerPairs_25 : decode cX3_offerPairs 25 = .ok (.if_icmp .eq 12, 3) := by decide +kernel
theorem dX3_offerPairs_28 : decode cX3_offerPairs 28 = .ok (.aload_n 0, 1) := by decide +kernel
theorem dX3_offerPairs_29 : decode cX3_offerPairs 29 = .ok (.iload_n 2, 1) := by decide +kernel
theorem dX3_offerPairs_30 : decode cX3_offerPairs 30 = .ok (.iload_n 1, 1) := by decide +kernel
theorem dX3_offerPairs_31 : decode cX3_offerPairs 31 = .ok (.iload_n 2, 1) := by decide +kernel
theorem dX3_offerPairs_32 : decode cX3_offerPairs 32 = .ok (.ixor, 1) := by decide +kernel
theorem dX3_offerPairs_33 : decode cX3_offerPairs 33 = .ok (.iload_n 3, 1) := by decide +kernel
theorem dX3_offerPairs_34 : decode cX3_offerPairs 34 = .ok (.invokevirtual 94, 3) := by decide +kernel
theorem dX3_offerPairs_37 : decode cX3_offerPairs 37 = .ok (.iinc 2 1, 3) := by decide +kernel
theorem dX3_offerPairs_40 : decode cX3_offerPairs 40 = .ok (.goto (-38), 3) := by decide +kernel
theorem dX3_offerPairs_43 : decode cX3_offerPairs 43 = .ok (.return_, 1) := by decide +kernel
theorem dX3_firstJoinBetween_0 : decode cX3_firstJoinBetween 0 = .ok (.iconst 0, 1) := by decide +kernel
theorem dX3_firstJoinBetween_1 : decode cX3_firstJoinBetween 1 = .ok (.istore_n 3, 1) := by decide +kernel
theorem dX3_firstJoinBetween_2 : decode cX3_firstJoinBetween 2 = .ok (.iload_n 3, 1) := by decide +kernel
theorem dX3_firstJoinBetween_3 : decode cX3_firstJoinBetween 3 = .ok (.aload_n 0, 1) := by decide +kernel
theorem dX3_firstJoinBetween_4 : decode cX3_firstJoinBetween 4 = .ok (.getfield 37, 3) := by decide +kernel
theorem dX3_firstJoinBetween_7 : decode cX3_firstJoinBetween 7 = .ok (.getfield 98, 3) := by decide +kernel
theorem dX3_firstJoinBetween_10 : decode cX3_firstJoinBetween 10 = .ok (.if_icmp .ge 69, 3) := by decide +kernel
theorem dX3_firstJoinBetween_13 : decode cX3_firstJoinBetween 13 = .ok (.aload_n 0, 1) := by decide +kernel
theorem dX3_firstJoinBetween_14 : decode cX3_firstJoinBetween 14 = .ok (.getfield 37, 3) := by decide +kernel
theorem dX3_firstJoinBetween_17 : decode cX3_firstJoinBetween 17 = .ok (.getfield 101, 3) := by decide +kernel
theorem dX3_firstJoinBetween_20 : decode cX3_firstJoinBetween 20 = .ok (.iload_n 3, 1) := by decide +kernel
theorem dX3_firstJoinBetween_21 : decode cX3_firstJoinBetween 21 = .ok (.iaload, 1) := by decide +kernel
theorem dX3_firstJoinBetween_22 : decode cX3_firstJoinBetween 22 = .ok (.istore 4, 2) := by decide +kernel
theorem dX3_firstJoinBetween_24 : decode cX3_firstJoinBetween 24 = .ok (.aload_n 0, 1) := by decide +kernel
theorem dX3_firstJoinBetween_25 : decode cX3_firstJoinBetween 25 = .ok (.getfield 37, 3) := by decide +kernel
theorem dX3_firstJoinBetween_28 : decode cX3_firstJoinBetween 28 = .ok (.getfield 104, 3) := by decide +kernel
theorem dX3_firstJoinBetween_31 : decode cX3_firstJoinBetween 31 = .ok (.iload_n 3, 1) := by decide +kernel
theorem dX3_firstJoinBetween_32 : decode cX3_firstJoinBetween 32 = .ok (.iaload, 1) := by decide +kernel
theorem dX3_firstJoinBetween_33 : decode cX3_firstJoinBetween 33 = .ok (.istore 5, 2) := by decide +kernel
theorem dX3_firstJoinBetween_35 : decode cX3_firstJoinBetween 35 = .ok (.iload_n 1, 1) := by decide +kernel
theorem dX3_firstJoinBetween_36 : decode cX3_firstJoinBetween 36 = .ok (.iload 4, 2) := by decide +kernel
theorem dX3_firstJoinBetween_38 : decode cX3_firstJoinBetween 38 = .ok (.invokestatic 107, 3) := by decide +kernel
theorem dX3_firstJoinBetween_41 : decode cX3_firstJoinBetween 41 = .ok (.ifCond .eq 12, 3) := by decide +kernel
theorem dX3_firstJoinBetween_44 : decode cX3_firstJoinBetween 44 = .ok (.iload_n 2, 1) := by decide +kernel
theorem dX3_firstJoinBetween_45 : decode cX3_firstJoinBetween 45 = .ok (.iload 5, 2) := by decide +kernel
theorem dX3_firstJoinBetween_47 : decode cX3_firstJoinBetween 47 = .ok (.invokestatic 107, 3) := by decide +kernel
theorem dX3_firstJoinBetween_50 : decode cX3_firstJoinBetween 50 = .ok (.ifCond .ne 21, 3) := by decide +kernel
theorem dX3_firstJoinBetween_53 : decode cX3_firstJoinBetween 53 = .ok (.iload_n 2, 1) := by decide +kernel
theorem dX3_firstJoinBetween_54 : decode cX3_firstJoinBetween 54 = .ok (.iload 4, 2) := by decide +kernel
theorem dX3_firstJoinBetween_56 : decode cX3_firstJoinBetween 56 = .ok (.invokestatic 107, 3) := by decide +kernel
theorem dX3_firstJoinBetween_59 : decode cX3_firstJoinBetween 59 = .ok (.ifCond .eq 14, 3) := by decide +kernel
theorem dX3_firstJoinBetween_62 : decode cX3_firstJoinBetween 62 = .ok (.iload_n 1, 1) := by decide +kernel
theorem dX3_firstJoinBetween_63 : decode cX3_firstJoinBetween 63 = .ok (.iload 5, 2) := by decide +kernel
theorem dX3_firstJoinBetween_65 : decode cX3_firstJoinBetween 65 = .ok (.invokestatic 107, 3) := by decide +kernel
theorem dX3_firstJoinBetween_68 : decode cX3_firstJoinBetween 68 = .ok (.ifCond .eq 5, 3) := by decide +kernel
theorem dX3_firstJoinBetween_71 : decode cX3_firstJoinBetween 71 = .ok (.iload_n 3, 1) := by decide +kernel
theorem dX3_firstJoinBetween_72 : decode cX3_firstJoinBetween 72 = .ok (.ireturn, 1) := by decide +kernel
theorem dX3_firstJoinBetween_73 : decode cX3_firstJoinBetween 73 = .ok (.iinc 3 1, 3) := by decide +kernel
theorem dX3_firstJoinBetween_76 : decode cX3_firstJoinBetween 76 = .ok (.goto (-74), 3) := by decide +kernel
theorem dX3_firstJoinBetween_79 : decode cX3_firstJoinBetween 79 = .ok (.iconst (-1), 1) := by decide +kernel
theorem dX3_firstJoinBetween_80 : decode cX3_firstJoinBetween 80 = .ok (.ireturn, 1) := by decide +kernel
theorem dX3_offerPair_0 : decode cX3_offerPair 0 = .ok (.iload_n 1, 1) := by decide +kernel
theorem dX3_offerPair_1 : decode cX3_offerPair 1 = .ok (.iconst (-1), 1) := by decide +kernel
theorem dX3_offerPair_2 : decode cX3_offerPair 2 = .ok (.invokestatic 55, 3) := by decide +kernel
theorem dX3_offerPair_5 : decode cX3_offerPair 5 = .ok (.istore 4, 2) := by decide +kernel
theorem dX3_offerPair_7 : decode cX3_offerPair 7 = .ok (.iload_n 2, 1) := by decide +kernel
theorem dX3_offerPair_8 : decode cX3_offerPair 8 = .ok (.iconst (-1), 1) := by decide +kernel
theorem dX3_offerPair_9 : decode cX3_offerPair 9 = .ok (.invokestatic 55, 3) := by decide +kernel
theorem dX3_offerPair_12 : decode cX3_offerPair 12 = .ok (.istore 5, 2) := by decide +kernel
theorem dX3_offerPair_14 : decode cX3_offerPair 14 = .ok (.aload_n 0, 1) := by decide +kernel
theorem dX3_offerPair_15 : decode cX3_offerPair 15 = .ok (.getfield 15, 3) := by decide +kernel
theorem dX3_offerPair_18 : decode cX3_offerPair 18 = .ok (.iload 4, 2) := by decide +kernel
theorem dX3_offerPair_20 : decode cX3_offerPair 20 = .ok (.iaload, 1) := by decide +kernel
theorem dX3_offerPair_21 : decode cX3_offerPair 21 = .ok (.iconst (-1), 1) := by decide +kernel
theorem dX3_offerPair_22 : decode cX3_offerPair 22 = .ok (.if_icmp .eq 14, 3) := by decide +kernel
theorem dX3_offerPair_25 : decode cX3_offerPair 25 = .ok (.aload_n 0, 1) := by decide +kernel
theorem dX3_offerPair_26 : decode cX3_offerPair 26 = .ok (.getfield 15, 3) := by decide +kernel
theorem dX3_offerPair_29 : decode cX3_offerPair 29 = .ok (.iload 5, 2) := by decide +kernel
theorem dX3_offerPair_31 : decode cX3_offerPair 31 = .ok (.iaload, 1) := by decide +kernel
theorem dX3_offerPair_32 : decode cX3_offerPair 32 = .ok (.iconst (-1), 1) := by decide +kernel
theorem dX3_offerPair_33 : decode cX3_offerPair 33 = .ok (.if_icmp .ne 4, 3) := by decide +kernel
theorem dX3_offerPair_36 : decode cX3_offerPair 36 = .ok (.return_, 1) := by decide +kernel
theorem dX3_offerPair_37 : decode cX3_offerPair 37 = .ok (.iload_n 1, 1) := by decide +kernel
theorem dX3_offerPair_38 : decode cX3_offerPair 38 = .ok (.iload_n 2, 1) := by decide +kernel
theorem dX3_offerPair_39 : decode cX3_offerPair 39 = .ok (.ior, 1) := by decide +kernel
theorem dX3_offerPair_40 : decode cX3_offerPair 40 = .ok (.iconst (-1), 1) := by decide +kernel
theorem dX3_offerPair_41 : decode cX3_offerPair 41 = .ok (.invokestatic 55, 3) := by decide +kernel
theorem dX3_offerPair_44 : decode cX3_offerPair 44 = .ok (.istore 6, 2) := by decide +kernel
theorem dX3_offerPair_46 : decode cX3_offerPair 46 = .ok (.aload_n 0, 1) := by decide +kernel
theorem dX3_offerPair_47 : decode cX3_offerPair 47 = .ok (.getfield 9, 3) := by decide +kernel
theorem dX3_offerPair_50 : decode cX3_offerPair 50 = .ok (.iload_n 1, 1) := by decide +kernel
theorem dX3_offerPair_51 : decode cX3_offerPair 51 = .ok (.faload, 1) := by decide +kernel
theorem dX3_offerPair_52 : decode cX3_offerPair 52 = .ok (.fconst 2, 1) := by decide +kernel
theorem dX3_offerPair_53 : decode cX3_offerPair 53 = .ok (.aload_n 0, 1) := by decide +kernel
theorem dX3_offerPair_54 : decode cX3_offerPair 54 = .ok (.getfield 9, 3) := by decide +kernel
theorem dX3_offerPair_57 : decode cX3_offerPair 57 = .ok (.iload_n 2, 1) := by decide +kernel
theorem dX3_offerPair_58 : decode cX3_offerPair 58 = .ok (.faload, 1) := by decide +kernel
theorem dX3_offerPair_59 : decode cX3_offerPair 59 = .ok (.fmul, 1) := by decide +kernel
theorem dX3_offerPair_60 : decode cX3_offerPair 60 = .ok (.fadd, 1) := by decide +kernel
theorem dX3_offerPair_61 : decode cX3_offerPair 61 = .ok (.aload_n 0, 1) := by decide +kernel
theorem dX3_offerPair_62 : decode cX3_offerPair 62 = .ok (.getfield 9, 3) := by decide +kernel
theorem dX3_offerPair_65 : decode cX3_offerPair 65 = .ok (.iload_n 1, 1) := by decide +kernel
theorem dX3_offerPair_66 : decode cX3_offerPair 66 = .ok (.iload_n 2, 1) := by decide +kernel
theorem dX3_offerPair_67 : decode cX3_offerPair 67 = .ok (.ior, 1) := by decide +kernel
theorem dX3_offerPair_68 : decode cX3_offerPair 68 = .ok (.faload, 1) := by decide +kernel
theorem dX3_offerPair_69 : decode cX3_offerPair 69 = .ok (.fadd, 1) := by decide +kernel
theorem dX3_offerPair_70 : decode cX3_offerPair 70 = .ok (.fstore 7, 2) := by decide +kernel
theorem dX3_offerPair_72 : decode cX3_offerPair 72 = .ok (.aload_n 0, 1) := by decide +kernel
theorem dX3_offerPair_73 : decode cX3_offerPair 73 = .ok (.iload 6, 2) := by decide +kernel
theorem dX3_offerPair_75 : decode cX3_offerPair 75 = .ok (.iconst 1, 1) := by decide +kernel
theorem dX3_offerPair_76 : decode cX3_offerPair 76 = .ok (.aload_n 0, 1) := by decide +kernel
theorem dX3_offerPair_77 : decode cX3_offerPair 77 = .ok (.getfield 19, 3) := by decide +kernel
theorem dX3_offerPair_80 : decode cX3_offerPair 80 = .ok (.iload 4, 2) := by decide +kernel
theorem dX3_offerPair_82 : decode cX3_offerPair 82 = .ok (.faload, 1) := by decide +kernel
theorem dX3_offerPair_83 : decode cX3_offerPair 83 = .ok (.aload_n 0, 1) := by decide +kernel
theorem dX3_offerPair_84 : decode cX3_offerPair 84 = .ok (.getfield 19, 3) := by decide +kernel
theorem dX3_offerPair_87 : decode cX3_offerPair 87 = .ok (.iload 5, 2) := by decide +kernel
theorem dX3_offerPair_89 : decode cX3_offerPair 89 = .ok (.faload, 1) := by decide +kernel
theorem dX3_offerPair_90 : decode cX3_offerPair 90 = .ok (.fadd, 1) := by decide +kernel
theorem dX3_offerPair_91 : decode cX3_offerPair 91 = .ok (.fload 7, 2) := by decide +kernel
theorem dX3_offerPair_93 : decode cX3_offerPair 93 = .ok (.fadd, 1) := by decide +kernel
theorem dX3_offerPair_94 : decode cX3_offerPair 94 = .ok (.iload 4, 2) := by decide +kernel
theorem dX3_offerPair_96 : decode cX3_offerPair 96 = .ok (.iload 5, 2) := by decide +kernel
theorem dX3_offerPair_98 : decode cX3_offerPair 98 = .ok (.iload_n 3, 1) := by decide +kernel
theorem dX3_offerPair_99 : decode cX3_offerPair 99 = .ok (.invokevirtual 84, 3) := by decide +kernel
theorem dX3_offerPair_102 : decode cX3_offerPair 102 = .ok (.iconst (-1), 1) := by decide +kernel
theorem dX3_offerPair_103 : decode cX3_offerPair 103 = .ok (.istore 8, 2) := by decide +kernel
theorem dX3_offerPair_105 : decode cX3_offerPair 105 = .ok (.iload 8, 2) := by decide +kernel
theorem dX3_offerPair_107 : decode cX3_offerPair 107 = .ok (.bipush 15, 2) := by decide +kernel
theorem dX3_offerPair_109 : decode cX3_offerPair 109 = .ok (.if_icmp .ge 76, 3) := by decide +kernel
theorem dX3_offerPair_112 : decode cX3_offerPair 112 = .ok (.iload 8, 2) := by decide +kernel
theorem dX3_offerPair_114 : decode cX3_offerPair 114 = .ok (.iconst (-1), 1) := by decide +kernel
theorem dX3_offerPair_115 : decode cX3_offerPair 115 = .ok (.if_icmp .eq 12, 3) := by decide +kernel
theorem dX3_offerPair_118 : decode cX3_offerPair 118 = .ok (.iload_n 1, 1) := by decide +kernel
theorem dX3_offerPair_119 : decode cX3_offerPair 119 = .ok (.iload 8, 2) := by decide +kernel
theorem dX3_offerPair_121 : decode cX3_offerPair 121 = .ok (.invokestatic 107, 3) := by decide +kernel
theorem dX3_offerPair_124 : decode cX3_offerPair 124 = .ok (.ifCond .eq 55, 3) := by decide +kernel
theorem dX3_offerPair_127 : decode cX3_offerPair 127 = .ok (.iload_n 1, 1) := by decide +kernel
theorem dX3_offerPair_128 : decode cX3_offerPair 128 = .ok (.iload 8, 2) := by decide +kernel
theorem dX3_offerPair_130 : decode cX3_offerPair 130 = .ok (.invokestatic 55, 3) := by decide +kernel
theorem dX3_offerPair_133 : decode cX3_offerPair 133 = .ok (.istore 9, 2) := by decide +kernel
theorem dX3_offerPair_135 : decode cX3_offerPair 135 = .ok (.aload_n 0, 1) := by decide +kernel
theorem dX3_offerPair_136 : decode cX3_offerPair 136 = .ok (.getfield 19, 3) := by decide +kernel
theorem dX3_offerPair_139 : decode cX3_offerPair 139 = .ok (.iload 9, 2) := by decide +kernel
theorem dX3_offerPair_141 : decode cX3_offerPair 141 = .ok (.faload, 1) := by decide +kernel
theorem dX3_offerPair_142 : decode cX3_offerPair 142 = .ok (.aload_n 0, 1) := by decide +kernel
theorem dX3_offerPair_143 : decode cX3_offerPair 143 = .ok (.getfield 9, 3) := by decide +kernel
theorem dX3_offerPair_146 : decode cX3_offerPair 146 = .ok (.iload_n 1, 1) := by decide +kernel
theorem dX3_offerPair_147 : decode cX3_offerPair 147 = .ok (.faload, 1) := by decide +kernel
theorem dX3_offerPair_148 : decode cX3_offerPair 148 = .ok (.aload_n 0, 1) := by decide +kernel
theorem dX3_offerPair_149 : decode cX3_offerPair 149 = .ok (.getfield 19, 3) := by decide +kernel
theorem dX3_offerPair_152 : decode cX3_offerPair 152 = .ok (.iload 5, 2) := by decide +kernel
theorem dX3_offerPair_154 : decode cX3_offerPair 154 = .ok (.faload, 1) := by decide +kernel
theorem dX3_offerPair_155 : decode cX3_offerPair 155 = .ok (.fmul, 1) := by decide +kernel
theorem dX3_offerPair_156 : decode cX3_offerPair 156 = .ok (.fadd, 1) := by decide +kernel
theorem dX3_offerPair_157 : decode cX3_offerPair 157 = .ok (.fstore 10, 2) := by decide +kernel
theorem dX3_offerPair_159 : decode cX3_offerPair 159 = .ok (.aload_n 0, 1) := by decide +kernel
theorem dX3_offerPair_160 : decode cX3_offerPair 160 = .ok (.iload_n 1, 1) := by decide +kernel
theorem dX3_offerPair_161 : decode cX3_offerPair 161 = .ok (.iload_n 2, 1) := by decide +kernel
theorem dX3_offerPair_162 : decode cX3_offerPair 162 = .ok (.ior, 1) := by decide +kernel
theorem dX3_offerPair_163 : decode cX3_offerPair 163 = .ok (.iload 8, 2) := by decide +kernel
theorem dX3_offerPair_165 : decode cX3_offerPair 165 = .ok (.invokestatic 55, 3) := by decide +kernel
theorem dX3_offerPair_168 : decode cX3_offerPair 168 = .ok (.iconst 2, 1) := by decide +kernel
theorem dX3_offerPair_169 : decode cX3_offerPair 169 = .ok (.fload 10, 2) := by decide +kernel
theorem dX3_offerPair_171 : decode cX3_offerPair 171 = .ok (.iload 9, 2) := by decide +kernel
theorem dX3_offerPair_173 : decode cX3_offerPair 173 = .ok (.iload 5, 2) := by decide +kernel
theorem dX3_offerPair_175 : decode cX3_offerPair 175 = .ok (.iload_n 3, 1) := by decide +kernel
theorem dX3_offerPair_176 : decode cX3_offerPair 176 = .ok (.invokevirtual 84, 3) := by decide +kernel
theorem dX3_offerPair_179 : decode cX3_offerPair 179 = .ok (.iinc 8 1, 3) := by decide +kernel
theorem dX3_offerPair_182 : decode cX3_offerPair 182 = .ok (.goto (-77), 3) := by decide +kernel
theorem dX3_offerPair_185 : decode cX3_offerPair 185 = .ok (.aload_n 0, 1) := by decide +kernel
theorem dX3_offerPair_186 : decode cX3_offerPair 186 = .ok (.getfield 37, 3) := by decide +kernel
theorem dX3_offerPair_189 : decode cX3_offerPair 189 = .ok (.iload_n 1, 1) := by decide +kernel
theorem dX3_offerPair_190 : decode cX3_offerPair 190 = .ok (.iload_n 3, 1) := by decide +kernel
theorem dX3_offerPair_191 : decode cX3_offerPair 191 = .ok (.invokevirtual 111, 3) := by decide +kernel
theorem dX3_offerPair_194 : decode cX3_offerPair 194 = .ok (.istore 8, 2) := by decide +kernel
theorem dX3_offerPair_196 : decode cX3_offerPair 196 = .ok (.iload_n 1, 1) := by decide +kernel
theorem dX3_offerPair_197 : decode cX3_offerPair 197 = .ok (.iload 8, 2) := by decide +kernel
theorem dX3_offerPair_199 : decode cX3_offerPair 199 = .ok (.invokestatic 55, 3) := by decide +kernel
theorem dX3_offerPair_202 : decode cX3_offerPair 202 = .ok (.istore 9, 2) := by decide +kernel
theorem dX3_offerPair_204 : decode cX3_offerPair 204 = .ok (.iload_n 2, 1) := by decide +kernel
theorem dX3_offerPair_205 : decode cX3_offerPair 205 = .ok (.aload_n 0, 1) := by decide +kernel
theorem dX3_offerPair_206 : decode cX3_offerPair 206 = .ok (.getfield 37, 3) := by decide +kernel
theorem dX3_offerPair_209 : decode cX3_offerPair 209 = .ok (.iload_n 2, 1) := by decide +kernel
theorem dX3_offerPair_210 : decode cX3_offerPair 210 = .ok (.iload_n 3, 1) := by decide +kernel
theorem dX3_offerPair_211 : decode cX3_offerPair 211 = .ok (.invokevirtual 111, 3) := by decide +kernel
theorem dX3_offerPair_214 : decode cX3_offerPair 214 = .ok (.invokestatic 55, 3) := by decide +kernel
theorem dX3_offerPair_217 : decode cX3_offerPair 217 = .ok (.istore 10, 2) := by decide +kernel
theorem dX3_offerPair_219 : decode cX3_offerPair 219 = .ok (.aload_n 0, 1) := by decide +kernel
theorem dX3_offerPair_220 : decode cX3_offerPair 220 = .ok (.getfield 19, 3) := by decide +kernel
theorem dX3_offerPair_223 : decode cX3_offerPair 223 = .ok (.iload 9, 2) := by decide +kernel
theorem dX3_offerPair_225 : decode cX3_offerPair 225 = .ok (.faload, 1) := by decide +kernel
theorem dX3_offerPair_226 : decode cX3_offerPair 226 = .ok (.aload_n 0, 1) := by decide +kernel
theorem dX3_offerPair_227 : decode cX3_offerPair 227 = .ok (.getfield 19, 3) := by decide +kernel
theorem dX3_offerPair_230 : decode cX3_offerPair 230 = .ok (.iload 10, 2) := by decide +kernel
theorem dX3_offerPair_232 : decode cX3_offerPair 232 = .ok (.faload, 1) := by decide +kernel
theorem dX3_offerPair_233 : decode cX3_offerPair 233 = .ok (.fadd, 1) := by decide +kernel
theorem dX3_offerPair_234 : decode cX3_offerPair 234 = .ok (.aload_n 0, 1) := by decide +kernel
theorem dX3_offerPair_235 : decode cX3_offerPair 235 = .ok (.getfield 9, 3) := by decide +kernel
theorem dX3_offerPair_238 : decode cX3_offerPair 238 = .ok (.iload_n 1, 1) := by decide +kernel
theorem dX3_offerPair_239 : decode cX3_offerPair 239 = .ok (.faload, 1) := by decide +kernel
theorem dX3_offerPair_240 : decode cX3_offerPair 240 = .ok (.aload_n 0, 1) := by decide +kernel
theorem dX3_offerPair_241 : decode cX3_offerPair 241 = .ok (.getfield 9, 3) := by decide +kernel
theorem dX3_offerPair_244 : decode cX3_offerPair 244 = .ok (.iload_n 2, 1) := by decide +kernel
theorem dX3_offerPair_245 : decode cX3_offerPair 245 = .ok (.faload, 1) := by decide +kernel
theorem dX3_offerPair_246 : decode cX3_offerPair 246 = .ok (.fadd, 1) := by decide +kernel
theorem dX3_offerPair_247 : decode cX3_offerPair 247 = .ok (.aload_n 0, 1) := by decide +kernel
theorem dX3_offerPair_248 : decode cX3_offerPair 248 = .ok (.getfield 9, 3) := by decide +kernel
theorem dX3_offerPair_251 : decode cX3_offerPair 251 = .ok (.iload_n 1, 1) := by decide +kernel
theorem dX3_offerPair_252 : decode cX3_offerPair 252 = .ok (.iload_n 2, 1) := by decide +kernel
theorem dX3_offerPair_253 : decode cX3_offerPair 253 = .ok (.ior, 1) := by decide +kernel
theorem dX3_offerPair_254 : decode cX3_offerPair 254 = .ok (.faload, 1) := by decide +kernel
theorem dX3_offerPair_255 : decode cX3_offerPair 255 = .ok (.fadd, 1) := by decide +kernel
theorem dX3_offerPair_256 : decode cX3_offerPair 256 = .ok (.fadd, 1) := by decide +kernel
theorem dX3_offerPair_257 : decode cX3_offerPair 257 = .ok (.fstore 11, 2) := by decide +kernel
theorem dX3_offerPair_259 : decode cX3_offerPair 259 = .ok (.aload_n 0, 1) := by decide +kernel
theorem dX3_offerPair_260 : decode cX3_offerPair 260 = .ok (.iload 6, 2) := by decide +kernel
theorem dX3_offerPair_262 : decode cX3_offerPair 262 = .ok (.iconst 3, 1) := by decide +kernel
theorem dX3_offerPair_263 : decode cX3_offerPair 263 = .ok (.fload 11, 2) := by decide +kernel
theorem dX3_offerPair_265 : decode cX3_offerPair 265 = .ok (.iload 9, 2) := by decide +kernel
theorem dX3_offerPair_267 : decode cX3_offerPair 267 = .ok (.iload 10, 2) := by decide +kernel
theorem dX3_offerPair_269 : decode cX3_offerPair 269 = .ok (.iload_n 3, 1) := by decide +kernel
theorem dX3_offerPair_270 : decode cX3_offerPair 270 = .ok (.invokevirtual 84, 3) := by decide +kernel
theorem dX3_offerPair_273 : decode cX3_offerPair 273 = .ok (.aload_n 0, 1) := by decide +kernel
theorem dX3_offerPair_274 : decode cX3_offerPair 274 = .ok (.iload_n 1, 1) := by decide +kernel
theorem dX3_offerPair_275 : decode cX3_offerPair 275 = .ok (.iload_n 2, 1) := by decide +kernel
theorem dX3_offerPair_276 : decode cX3_offerPair 276 = .ok (.ior, 1) := by decide +kernel
theorem dX3_offerPair_277 : decode cX3_offerPair 277 = .ok (.iload 8, 2) := by decide +kernel
theorem dX3_offerPair_279 : decode cX3_offerPair 279 = .ok (.invokestatic 55, 3) := by decide +kernel
theorem dX3_offerPair_282 : decode cX3_offerPair 282 = .ok (.iconst 3, 1) := by decide +kernel
theorem dX3_offerPair_283 : decode cX3_offerPair 283 = .ok (.fload 11, 2) := by decide +kernel
theorem dX3_offerPair_285 : decode cX3_offerPair 285 = .ok (.iload 9, 2) := by decide +kernel
theorem dX3_offerPair_287 : decode cX3_offerPair 287 = .ok (.iload 10, 2) := by decide +kernel
theorem dX3_offerPair_289 : decode cX3_offerPair 289 = .ok (.iload_n 3, 1) := by decide +kernel
theorem dX3_offerPair_290 : decode cX3_offerPair 290 = .ok (.invokevirtual 84, 3) := by decide +kernel
theorem dX3_offerPair_293 : decode cX3_offerPair 293 = .ok (.return_, 1) := by decide +kernel
theorem dX3_offerSorts_0 : decode cX3_offerSorts 0 = .ok (.iload_n 1, 1) := by decide +kernel
theorem dX3_offerSorts_1 : decode cX3_offerSorts 1 = .ok (.iconst (-1), 1) := by decide +kernel
theorem dX3_offerSorts_2 : decode cX3_offerSorts 2 = .ok (.invokestatic 55, 3) := by decide +kernel
theorem dX3_offerSorts_5 : decode cX3_offerSorts 5 = .ok (.istore_n 2, 1) := by decide +kernel
theorem dX3_offerSorts_6 : decode cX3_offerSorts 6 = .ok (.aload_n 0, 1) := by decide +kernel
theorem dX3_offerSorts_7 : decode cX3_offerSorts 7 = .ok (.getfield 15, 3) := by decide +kernel
theorem dX3_offerSorts_10 : decode cX3_offerSorts 10 = .ok (.iload_n 2, 1) := by decide +kernel
theorem dX3_offerSorts_11 : decode cX3_offerSorts 11 = .ok (.iaload, 1) := by decide +kernel
theorem dX3_offerSorts_12 : decode cX3_offerSorts 12 = .ok (.iconst (-1), 1) := by decide +kernel
theorem dX3_offerSorts_13 : decode cX3_offerSorts 13 = .ok (.if_icmp .ne 4, 3) := by decide +kernel
theorem dX3_offerSorts_16 : decode cX3_offerSorts 16 = .ok (.return_, 1) := by decide +kernel
theorem dX3_offerSorts_17 : decode cX3_offerSorts 17 = .ok (.aload_n 0, 1) := by decide +kernel
theorem dX3_offerSorts_18 : decode cX3_offerSorts 18 = .ok (.getfield 19, 3) := by decide +kernel
theorem dX3_offerSorts_21 : decode cX3_offerSorts 21 = .ok (.iload_n 2, 1) := by decide +kernel
theorem dX3_offerSorts_22 : decode cX3_offerSorts 22 = .ok (.faload, 1) := by decide +kernel
theorem dX3_offerSorts_23 : decode cX3_offerSorts 23 = .ok (.aload_n 0, 1) := by decide +kernel
theorem dX3_offerSorts_24 : decode cX3_offerSorts 24 = .ok (.getfield 9, 3) := by decide +kernel
theorem dX3_offerSorts_27 : decode cX3_offerSorts 27 = .ok (.iload_n 1, 1) := by decide +kernel
theorem dX3_offerSorts_28 : decode cX3_offerSorts 28 = .ok (.faload, 1) := by decide +kernel
theorem dX3_offerSorts_29 : decode cX3_offerSorts 29 = .ok (.invokestatic 114, 3) := by decide +kernel
theorem dX3_offerSorts_32 : decode cX3_offerSorts 32 = .ok (.fadd, 1) := by decide +kernel
theorem dX3_offerSorts_33 : decode cX3_offerSorts 33 = .ok (.fstore_n 3, 1) := by decide +kernel
theorem dX3_offerSorts_34 : decode cX3_offerSorts 34 = .ok (.iconst 0, 1) := by decide +kernel
theorem dX3_offerSorts_35 : decode cX3_offerSorts 35 = .ok (.istore 4, 2) := by decide +kernel
theorem dX3_offerSorts_37 : decode cX3_offerSorts 37 = .ok (.iload 4, 2) := by decide +kernel
theorem dX3_offerSorts_39 : decode cX3_offerSorts 39 = .ok (.bipush 15, 2) := by decide +kernel
theorem dX3_offerSorts_41 : decode cX3_offerSorts 41 = .ok (.if_icmp .ge 33, 3) := by decide +kernel
theorem dX3_offerSorts_44 : decode cX3_offerSorts 44 = .ok (.iload_n 1, 1) := by decide +kernel
theorem dX3_offerSorts_45 : decode cX3_offerSorts 45 = .ok (.iload 4, 2) := by decide +kernel
theorem dX3_offerSorts_47 : decode cX3_offerSorts 47 = .ok (.invokestatic 107, 3) := by decide +kernel
theorem dX3_offerSorts_50 : decode cX3_offerSorts 50 = .ok (.ifCond .eq 18, 3) := by decide +kernel
theorem dX3_offerSorts_53 : decode cX3_offerSorts 53 = .ok (.aload_n 0, 1) := by decide +kernel
theorem dX3_offerSorts_54 : decode cX3_offerSorts 54 = .ok (.iload_n 1, 1) := by decide +kernel
theorem dX3_offerSorts_55 : decode cX3_offerSorts 55 = .ok (.iload 4, 2) := by decide +kernel
theorem dX3_offerSorts_57 : decode cX3_offerSorts 57 = .ok (.invokestatic 55, 3) := by decide +kernel
theorem dX3_offerSorts_60 : decode cX3_offerSorts 60 = .ok (.iconst 4, 1) := by decide +kernel
theorem dX3_offerSorts_61 : decode cX3_offerSorts 61 = .ok (.fload_n 3, 1) := by decide +kernel
theorem dX3_offerSorts_62 : decode cX3_offerSorts 62 = .ok (.iload_n 2, 1) := by decide +kernel
theorem dX3_offerSorts_63 : decode cX3_offerSorts 63 = .ok (.iconst (-1), 1) := by decide +kernel
theorem dX3_offerSorts_64 : decode cX3_offerSorts 64 = .ok (.iconst (-1), 1) := by decide +kernel
theorem dX3_offerSorts_65 : decode cX3_offerSorts 65 = .ok (.invokevirtual 84, 3) := by decide +kernel
theorem dX3_offerSorts_68 : decode cX3_offerSorts 68 = .ok (.iinc 4 1, 3) := by decide +kernel
theorem dX3_offerSorts_71 : decode cX3_offerSorts 71 = .ok (.goto (-34), 3) := by decide +kernel
theorem dX3_offerSorts_74 : decode cX3_offerSorts 74 = .ok (.return_, 1) := by decide +kernel
theorem dX3_offer_0 : decode cX3_offer 0 = .ok (.aload_n 0, 1) := by decide +kernel
theorem dX3_offer_1 : decode cX3_offer 1 = .ok (.getfield 15, 3) := by decide +kernel
theorem dX3_offer_4 : decode cX3_offer 4 = .ok (.iload_n 1, 1) := by decide +kernel
theorem dX3_offer_5 : decode cX3_offer 5 = .ok (.iaload, 1) := by decide +kernel
theorem dX3_offer_6 : decode cX3_offer 6 = .ok (.iconst (-1), 1) := by decide +kernel
theorem dX3_offer_7 : decode cX3_offer 7 = .ok (.if_icmp .eq 14, 3) := by decide +kernel
theorem dX3_offer_10 : decode cX3_offer 10 = .ok (.fload_n 3, 1) := by decide +kernel
theorem dX3_offer_11 : decode cX3_offer 11 = .ok (.aload_n 0, 1) := by decide +kernel
theorem dX3_offer_12 : decode cX3_offer 12 = .ok (.getfield 19, 3) := by decide +kernel
theorem dX3_offer_15 : decode cX3_offer 15 = .ok (.iload_n 1, 1) := by decide +kernel
theorem dX3_offer_16 : decode cX3_offer 16 = .ok (.faload, 1) := by decide +kernel
theorem dX3_offer_17 : decode cX3_offer 17 = .ok (.fcmp .g, 1) := by decide +kernel
theorem dX3_offer_18 : decode cX3_offer 18 = .ok (.ifCond .ge 62, 3) := by decide +kernel
theorem dX3_offer_21 : decode cX3_offer 21 = .ok (.aload_n 0, 1) := by decide +kernel
theorem dX3_offer_22 : decode cX3_offer 22 = .ok (.getfield 15, 3) := by decide +kernel
theorem dX3_offer_25 : decode cX3_offer 25 = .ok (.iload_n 1, 1) := by decide +kernel
theorem dX3_offer_26 : decode cX3_offer 26 = .ok (.iload_n 2, 1) := by decide +kernel
theorem dX3_offer_27 : decode cX3_offer 27 = .ok (.iastore, 1) := by decide +kernel
theorem dX3_offer_28 : decode cX3_offer 28 = .ok (.aload_n 0, 1) := by decide +kernel
theorem dX3_offer_29 : decode cX3_offer 29 = .ok (.getfield 19, 3) := by decide +kernel
theorem dX3_offer_32 : decode cX3_offer 32 = .ok (.iload_n 1, 1) := by decide +kernel
theorem dX3_offer_33 : decode cX3_offer 33 = .ok (.fload_n 3, 1) := by decide +kernel
theorem dX3_offer_34 : decode cX3_offer 34 = .ok (.fastore, 1) := by decide +kernel
theorem dX3_offer_35 : decode cX3_offer 35 = .ok (.aload_n 0, 1) := by decide +kernel
theorem dX3_offer_36 : decode cX3_offer 36 = .ok (.getfield 22, 3) := by decide +kernel
theorem dX3_offer_39 : decode cX3_offer 39 = .ok (.iload_n 1, 1) := by decide +kernel
theorem dX3_offer_40 : decode cX3_offer 40 = .ok (.iload 4, 2) := by decide +kernel
theorem dX3_offer_42 : decode cX3_offer 42 = .ok (.iastore, 1) := by decide +kernel
theorem dX3_offer_43 : decode cX3_offer 43 = .ok (.aload_n 0, 1) := by decide +kernel
theorem dX3_offer_44 : decode cX3_offer 44 = .ok (.getfield 25, 3) := by decide +kernel
theorem dX3_offer_47 : decode cX3_offer 47 = .ok (.iload_n 1, 1) := by decide +kernel
theorem dX3_offer_48 : decode cX3_offer 48 = .ok (.iload 5, 2) := by decide +kernel
theorem dX3_offer_50 : decode cX3_offer 50 = .ok (.iastore, 1) := by decide +kernel
theorem dX3_offer_51 : decode cX3_offer 51 = .ok (.aload_n 0, 1) := by decide +kernel
theorem dX3_offer_52 : decode cX3_offer 52 = .ok (.getfield 28, 3) := by decide +kernel
theorem dX3_offer_55 : decode cX3_offer 55 = .ok (.iload_n 1, 1) := by decide +kernel
theorem dX3_offer_56 : decode cX3_offer 56 = .ok (.iload 6, 2) := by decide +kernel
theorem dX3_offer_58 : decode cX3_offer 58 = .ok (.iastore, 1) := by decide +kernel
theorem dX3_offer_59 : decode cX3_offer 59 = .ok (.aload_n 0, 1) := by decide +kernel
theorem dX3_offer_60 : decode cX3_offer 60 = .ok (.getfield 31, 3) := by decide +kernel
theorem dX3_offer_63 : decode cX3_offer 63 = .ok (.iload_n 1, 1) := by decide +kernel
theorem dX3_offer_64 : decode cX3_offer 64 = .ok (.iconst 1, 1) := by decide +kernel
theorem dX3_offer_65 : decode cX3_offer 65 = .ok (.aload_n 0, 1) := by decide +kernel
theorem dX3_offer_66 : decode cX3_offer 66 = .ok (.iload 4, 2) := by decide +kernel
theorem dX3_offer_68 : decode cX3_offer 68 = .ok (.invokevirtual 118, 3) := by decide +kernel
theorem dX3_offer_71 : decode cX3_offer 71 = .ok (.iadd, 1) := by decide +kernel
theorem dX3_offer_72 : decode cX3_offer 72 = .ok (.aload_n 0, 1) := by decide +kernel
theorem dX3_offer_73 : decode cX3_offer 73 = .ok (.iload 5, 2) := by decide +kernel
theorem dX3_offer_75 : decode cX3_offer 75 = .ok (.invokevirtual 118, 3) := by decide +kernel
theorem dX3_offer_78 : decode cX3_offer 78 = .ok (.iadd, 1) := by decide +kernel
theorem dX3_offer_79 : decode cX3_offer 79 = .ok (.iastore, 1) := by decide +kernel
theorem dX3_offer_80 : decode cX3_offer 80 = .ok (.return_, 1) := by decide +kernel
theorem dX3_sizeOf_0 : decode cX3_sizeOf 0 = .ok (.iload_n 1, 1) := by decide +kernel
theorem dX3_sizeOf_1 : decode cX3_sizeOf 1 = .ok (.iconst (-1), 1) := by decide +kernel
theorem dX3_sizeOf_2 : decode cX3_sizeOf 2 = .ok (.if_icmp .ne 7, 3) := by decide +kernel
theorem dX3_sizeOf_5 : decode cX3_sizeOf 5 = .ok (.iconst 0, 1) := by decide +kernel
theorem dX3_sizeOf_6 : decode cX3_sizeOf 6 = .ok (.goto 9, 3) := by decide +kernel
theorem dX3_sizeOf_9 : decode cX3_sizeOf 9 = .ok (.aload_n 0, 1) := by decide +kernel
theorem dX3_sizeOf_10 : decode cX3_sizeOf 10 = .ok (.getfield 31, 3) := by decide +kernel
theorem dX3_sizeOf_13 : decode cX3_sizeOf 13 = .ok (.iload_n 1, 1) := by decide +kernel
theorem dX3_sizeOf_14 : decode cX3_sizeOf 14 = .ok (.iaload, 1) := by decide +kernel
theorem dX3_sizeOf_15 : decode cX3_sizeOf 15 = .ok (.ireturn, 1) := by decide +kernel
theorem dX3_layOut_0 : decode cX3_layOut 0 = .ok (.aload_n 0, 1) := by decide +kernel
theorem dX3_layOut_1 : decode cX3_layOut 1 = .ok (.getfield 31, 3) := by decide +kernel
theorem dX3_layOut_4 : decode cX3_layOut 4 = .ok (.iload_n 1, 1) := by decide +kernel
theorem dX3_layOut_5 : decode cX3_layOut 5 = .ok (.iaload, 1) := by decide +kernel
theorem dX3_layOut_6 : decode cX3_layOut 6 = .ok (.bipush 18, 2) := by decide +kernel
theorem dX3_layOut_8 : decode cX3_layOut 8 = .ok (.invokestatic 121, 3) := by decide +kernel
theorem dX3_layOut_11 : decode cX3_layOut 11 = .ok (.istore_n 3, 1) := by decide +kernel
theorem dX3_layOut_12 : decode cX3_layOut 12 = .ok (.aload_n 0, 1) := by decide +kernel
theorem dX3_layOut_13 : decode cX3_layOut 13 = .ok (.iconst 0, 1) := by decide +kernel
theorem dX3_layOut_14 : decode cX3_layOut 14 = .ok (.iload_n 1, 1) := by decide +kernel
theorem dX3_layOut_15 : decode cX3_layOut 15 = .ok (.invokevirtual 126, 3) := by decide +kernel
theorem dX3_layOut_18 : decode cX3_layOut 18 = .ok (.iconst 0, 1) := by decide +kernel
theorem dX3_layOut_19 : decode cX3_layOut 19 = .ok (.istore 4, 2) := by decide +kernel
theorem dX3_layOut_21 : decode cX3_layOut 21 = .ok (.iload 4, 2) := by decide +kernel
theorem dX3_layOut_23 : decode cX3_layOut 23 = .ok (.iload_n 3, 1) := by decide +kernel
theorem dX3_layOut_24 : decode cX3_layOut 24 = .ok (.if_icmp .ge 70, 3) := by decide +kernel
theorem dX3_layOut_27 : decode cX3_layOut 27 = .ok (.aload_n 0, 1) := by decide +kernel
theorem dX3_layOut_28 : decode cX3_layOut 28 = .ok (.getfield 34, 3) := by decide +kernel
theorem dX3_layOut_31 : decode cX3_layOut 31 = .ok (.iload 4, 2) := by decide +kernel
theorem dX3_layOut_33 : decode cX3_layOut 33 = .ok (.iaload, 1) := by decide +kernel
theorem dX3_layOut_34 : decode cX3_layOut 34 = .ok (.istore 5, 2) := by decide +kernel
theorem dX3_layOut_36 : decode cX3_layOut 36 = .ok (.aload_n 0, 1) := by decide +kernel
theorem dX3_layOut_37 : decode cX3_layOut 37 = .ok (.iload 5, 2) := by decide +kernel
theorem dX3_layOut_39 : decode cX3_layOut 39 = .ok (.aload_n 2, 1) := by decide +kernel
theorem dX3_layOut_40 : decode cX3_layOut 40 = .ok (.iload 4, 2) := by decide +kernel
theorem dX3_layOut_42 : decode cX3_layOut 42 = .ok (.aaload, 1) := by decide +kernel
theorem dX3_layOut_43 : decode cX3_layOut 43 = .ok (.invokevirtual 130, 3) := by decide +kernel
theorem dX3_layOut_46 : decode cX3_layOut 46 = .ok (.aload_n 0, 1) := by decide +kernel
theorem dX3_layOut_47 : decode cX3_layOut 47 = .ok (.iload 4, 2) := by decide +kernel
theorem dX3_layOut_49 : decode cX3_layOut 49 = .ok (.iconst 1, 1) := by decide +kernel
theorem dX3_layOut_50 : decode cX3_layOut 50 = .ok (.iadd, 1) := by decide +kernel
theorem dX3_layOut_51 : decode cX3_layOut 51 = .ok (.aload_n 0, 1) := by decide +kernel
theorem dX3_layOut_52 : decode cX3_layOut 52 = .ok (.getfield 22, 3) := by decide +kernel
theorem dX3_layOut_55 : decode cX3_layOut 55 = .ok (.iload 5, 2) := by decide +kernel
theorem dX3_layOut_57 : decode cX3_layOut 57 = .ok (.iaload, 1) := by decide +kernel
theorem dX3_layOut_58 : decode cX3_layOut 58 = .ok (.invokevirtual 126, 3) := by decide +kernel
theorem dX3_layOut_61 : decode cX3_layOut 61 = .ok (.aload_n 0, 1) := by decide +kernel
theorem dX3_layOut_62 : decode cX3_layOut 62 = .ok (.iload 4, 2) := by decide +kernel
theorem dX3_layOut_64 : decode cX3_layOut 64 = .ok (.iconst 1, 1) := by decide +kernel
theorem dX3_layOut_65 : decode cX3_layOut 65 = .ok (.iadd, 1) := by decide +kernel
theorem dX3_layOut_66 : decode cX3_layOut 66 = .ok (.aload_n 0, 1) := by decide +kernel
theorem dX3_layOut_67 : decode cX3_layOut 67 = .ok (.aload_n 0, 1) := by decide +kernel
theorem dX3_layOut_68 : decode cX3_layOut 68 = .ok (.getfield 22, 3) := by decide +kernel
theorem dX3_layOut_71 : decode cX3_layOut 71 = .ok (.iload 5, 2) := by decide +kernel
theorem dX3_layOut_73 : decode cX3_layOut 73 = .ok (.iaload, 1) := by decide +kernel
theorem dX3_layOut_74 : decode cX3_layOut 74 = .ok (.invokevirtual 118, 3) := by decide +kernel
theorem dX3_layOut_77 : decode cX3_layOut 77 = .ok (.iadd, 1) := by decide +kernel
theorem dX3_layOut_78 : decode cX3_layOut 78 = .ok (.aload_n 0, 1) := by decide +kernel
theorem dX3_layOut_79 : decode cX3_layOut 79 = .ok (.getfield 25, 3) := by decide +kernel
theorem dX3_layOut_82 : decode cX3_layOut 82 = .ok (.iload 5, 2) := by decide +kernel
theorem dX3_layOut_84 : decode cX3_layOut 84 = .ok (.iaload, 1) := by decide +kernel
theorem dX3_layOut_85 : decode cX3_layOut 85 = .ok (.invokevirtual 126, 3) := by decide +kernel
theorem dX3_layOut_88 : decode cX3_layOut 88 = .ok (.iinc 4 1, 3) := by decide +kernel
theorem dX3_layOut_91 : decode cX3_layOut 91 = .ok (.goto (-70), 3) := by decide +kernel
theorem dX3_layOut_94 : decode cX3_layOut 94 = .ok (.iload_n 3, 1) := by decide +kernel
theorem dX3_layOut_95 : decode cX3_layOut 95 = .ok (.ireturn, 1) := by decide +kernel
theorem dX3_lay_0 : decode cX3_lay 0 = .ok (.iload_n 2, 1) := by decide +kernel
theorem dX3_lay_1 : decode cX3_lay 1 = .ok (.iconst (-1), 1) := by decide +kernel
theorem dX3_lay_2 : decode cX3_lay 2 = .ok (.if_icmp .eq 16, 3) := by decide +kernel
theorem dX3_lay_5 : decode cX3_lay 5 = .ok (.iload_n 1, 1) := by decide +kernel
theorem dX3_lay_6 : decode cX3_lay 6 = .ok (.bipush 18, 2) := by decide +kernel
theorem dX3_lay_8 : decode cX3_lay 8 = .ok (.if_icmp .ge 10, 3) := by decide +kernel
theorem dX3_lay_11 : decode cX3_lay 11 = .ok (.aload_n 0, 1) := by decide +kernel
theorem dX3_lay_12 : decode cX3_lay 12 = .ok (.getfield 34, 3) := by decide +kernel
theorem dX3_lay_15 : decode cX3_lay 15 = .ok (.iload_n 1, 1) := by decide +kernel
theorem dX3_lay_16 : decode cX3_lay 16 = .ok (.iload_n 2, 1) := by decide +kernel
theorem dX3_lay_17 : decode cX3_lay 17 = .ok (.iastore, 1) := by decide +kernel
theorem dX3_lay_18 : decode cX3_lay 18 = .ok (.return_, 1) := by decide +kernel
theorem dX3_describe_0 : decode cX3_describe 0 = .ok (.aload_n 0, 1) := by decide +kernel
theorem dX3_describe_1 : decode cX3_describe 1 = .ok (.getfield 25, 3) := by decide +kernel
theorem dX3_describe_4 : decode cX3_describe 4 = .ok (.iload_n 1, 1) := by decide +kernel
theorem dX3_describe_5 : decode cX3_describe 5 = .ok (.iaload, 1) := by decide +kernel
theorem dX3_describe_6 : decode cX3_describe 6 = .ok (.istore_n 3, 1) := by decide +kernel
theorem dX3_describe_7 : decode cX3_describe 7 = .ok (.aload_n 2, 1) := by decide +kernel
theorem dX3_describe_8 : decode cX3_describe 8 = .ok (.aload_n 0, 1) := by decide +kernel
theorem dX3_describe_9 : decode cX3_describe 9 = .ok (.getfield 15, 3) := by decide +kernel
theorem dX3_describe_12 : decode cX3_describe 12 = .ok (.iload_n 1, 1) := by decide +kernel
theorem dX3_describe_13 : decode cX3_describe 13 = .ok (.iaload, 1) := by decide +kernel
theorem dX3_describe_14 : decode cX3_describe 14 = .ok (.putfield 134, 3) := by decide +kernel
theorem dX3_describe_17 : decode cX3_describe 17 = .ok (.aload_n 2, 1) := by decide +kernel
theorem dX3_describe_18 : decode cX3_describe 18 = .ok (.iload_n 1, 1) := by decide +kernel
theorem dX3_describe_19 : decode cX3_describe 19 = .ok (.bipush 16, 2) := by decide +kernel
theorem dX3_describe_21 : decode cX3_describe 21 = .ok (.idiv, 1) := by decide +kernel
theorem dX3_describe_22 : decode cX3_describe 22 = .ok (.putfield 138, 3) := by decide +kernel
theorem dX3_describe_25 : decode cX3_describe 25 = .ok (.aload_n 2, 1) := by decide +kernel
theorem dX3_describe_26 : decode cX3_describe 26 = .ok (.iload_n 1, 1) := by decide +kernel
theorem dX3_describe_27 : decode cX3_describe 27 = .ok (.bipush 16, 2) := by decide +kernel
theorem dX3_describe_29 : decode cX3_describe 29 = .ok (.irem, 1) := by decide +kernel
theorem dX3_describe_30 : decode cX3_describe 30 = .ok (.iconst 1, 1) := by decide +kernel
theorem dX3_describe_31 : decode cX3_describe 31 = .ok (.isub, 1) := by decide +kernel
theorem dX3_describe_32 : decode cX3_describe 32 = .ok (.putfield 140, 3) := by decide +kernel
theorem dX3_describe_35 : decode cX3_describe 35 = .ok (.aload_n 2, 1) := by decide +kernel
theorem dX3_describe_36 : decode cX3_describe 36 = .ok (.aload_n 0, 1) := by decide +kernel
theorem dX3_describe_37 : decode cX3_describe 37 = .ok (.getfield 19, 3) := by decide +kernel
theorem dX3_describe_40 : decode cX3_describe 40 = .ok (.iload_n 1, 1) := by decide +kernel
theorem dX3_describe_41 : decode cX3_describe 41 = .ok (.faload, 1) := by decide +kernel
theorem dX3_describe_42 : decode cX3_describe 42 = .ok (.invokestatic 143, 3) := by decide +kernel
theorem dX3_describe_45 : decode cX3_describe 45 = .ok (.putfield 147, 3) := by decide +kernel
theorem dX3_describe_48 : decode cX3_describe 48 = .ok (.aload_n 2, 1) := by decide +kernel
theorem dX3_describe_49 : decode cX3_describe 49 = .ok (.aload_n 0, 1) := by decide +kernel
theorem dX3_describe_50 : decode cX3_describe 50 = .ok (.getfield 28, 3) := by decide +kernel
theorem dX3_describe_53 : decode cX3_describe 53 = .ok (.iload_n 1, 1) := by decide +kernel
theorem dX3_describe_54 : decode cX3_describe 54 = .ok (.iaload, 1) := by decide +kernel
theorem dX3_describe_55 : decode cX3_describe 55 = .ok (.putfield 150, 3) := by decide +kernel
theorem dX3_describe_58 : decode cX3_describe 58 = .ok (.aload_n 2, 1) := by decide +kernel
theorem dX3_describe_59 : decode cX3_describe 59 = .ok (.iload_n 3, 1) := by decide +kernel
theorem dX3_describe_60 : decode cX3_describe 60 = .ok (.iconst (-1), 1) := by decide +kernel
theorem dX3_describe_61 : decode cX3_describe 61 = .ok (.if_icmp .ne 7, 3) := by decide +kernel
theorem dX3_describe_64 : decode cX3_describe 64 = .ok (.iconst (-1), 1) := by decide +kernel
theorem dX3_describe_65 : decode cX3_describe 65 = .ok (.goto 20, 3) := by decide +kernel
theorem dX3_describe_68 : decode cX3_describe 68 = .ok (.aload_n 0, 1) := by decide +kernel
theorem dX3_describe_69 : decode cX3_describe 69 = .ok (.getfield 37, 3) := by decide +kernel
theorem dX3_describe_72 : decode cX3_describe 72 = .ok (.iload_n 3, 1) := by decide +kernel
theorem dX3_describe_73 : decode cX3_describe 73 = .ok (.bipush 16, 2) := by decide +kernel
theorem dX3_describe_75 : decode cX3_describe 75 = .ok (.idiv, 1) := by decide +kernel
theorem dX3_describe_76 : decode cX3_describe 76 = .ok (.aload_n 0, 1) := by decide +kernel
theorem dX3_describe_77 : decode cX3_describe 77 = .ok (.getfield 28, 3) := by decide +kernel
theorem dX3_describe_80 : decode cX3_describe 80 = .ok (.iload_n 1, 1) := by decide +kernel
theorem dX3_describe_81 : decode cX3_describe 81 = .ok (.iaload, 1) := by decide +kernel
theorem dX3_describe_82 : decode cX3_describe 82 = .ok (.invokevirtual 111, 3) := by decide +kernel
theorem dX3_describe_85 : decode cX3_describe 85 = .ok (.putfield 152, 3) := by decide +kernel
theorem dX3_describe_88 : decode cX3_describe 88 = .ok (.aload_n 2, 1) := by decide +kernel
theorem dX3_describe_89 : decode cX3_describe 89 = .ok (.aload_n 0, 1) := by decide +kernel
theorem dX3_describe_90 : decode cX3_describe 90 = .ok (.getfield 31, 3) := by decide +kernel
theorem dX3_describe_93 : decode cX3_describe 93 = .ok (.iload_n 1, 1) := by decide +kernel
theorem dX3_describe_94 : decode cX3_describe 94 = .ok (.iaload, 1) := by decide +kernel
theorem dX3_describe_95 : decode cX3_describe 95 = .ok (.putfield 155, 3) := by decide +kernel
theorem dX3_describe_98 : decode cX3_describe 98 = .ok (.return_, 1) := by decide +kernel
theorem dX4_init_0 : decode cX4_init 0 = .ok (.aload_n 0, 1) := by decide +kernel
theorem dX4_init_1 : decode cX4_init 1 = .ok (.invokespecial 3, 3) := by decide +kernel
theorem dX4_init_4 : decode cX4_init 4 = .ok (.aload_n 0, 1) := by decide +kernel
theorem dX4_init_5 : decode cX4_init 5 = .ok (.iconst 0, 1) := by decide +kernel
theorem dX4_init_6 : decode cX4_init 6 = .ok (.putfield 11, 3) := by decide +kernel
theorem dX4_init_9 : decode cX4_init 9 = .ok (.aload_n 0, 1) := by decide +kernel
theorem dX4_init_10 : decode cX4_init 10 = .ok (.iconst 0, 1) := by decide +kernel
theorem dX4_init_11 : decode cX4_init 11 = .ok (.putfield 15, 3) := by decide +kernel
theorem dX4_init_14 : decode cX4_init 14 = .ok (.aload_n 0, 1) := by decide +kernel
theorem dX4_init_15 : decode cX4_init 15 = .ok (.iconst 0, 1) := by decide +kernel
theorem dX4_init_16 : decode cX4_init 16 = .ok (.putfield 18, 3) := by decide +kernel
theorem dX4_init_19 : decode cX4_init 19 = .ok (.aload_n 0, 1) := by decide +kernel
theorem dX4_init_20 : decode cX4_init 20 = .ok (.sipush 160, 3) := by decide +kernel
theorem dX4_init_23 : decode cX4_init 23 = .ok (.newarray .long, 2) := by decide +kernel
theorem dX4_init_25 : decode cX4_init 25 = .ok (.putfield 21, 3) := by decide +kernel
theorem dX4_init_28 : decode cX4_init 28 = .ok (.aload_n 0, 1) := by decide +kernel
theorem dX4_init_29 : decode cX4_init 29 = .ok (.new 25, 3) := by decide +kernel
theorem dX4_init_32 : decode cX4_init 32 = .ok (.dup, 1) := by decide +kernel
theorem dX4_init_33 : decode cX4_init 33 = .ok (.invokespecial 27, 3) := by decide +kernel
theorem dX4_init_36 : decode cX4_init 36 = .ok (.putfield 28, 3) := by decide +kernel
theorem dX4_init_39 : decode cX4_init 39 = .ok (.return_, 1) := by decide +kernel
theorem dX4_becomeRow_0 : decode cX4_becomeRow 0 = .ok (.aload_n 0, 1) := by decide +kernel
theorem dX4_becomeRow_1 : decode cX4_becomeRow 1 = .ok (.iconst 1, 1) := by decide +kernel
theorem dX4_becomeRow_2 : decode cX4_becomeRow 2 = .ok (.putfield 11, 3) := by decide +kernel
theorem dX4_becomeRow_5 : decode cX4_becomeRow 5 = .ok (.aload_n 0, 1) := by decide +kernel
theorem dX4_becomeRow_6 : decode cX4_becomeRow 6 = .ok (.iload_n 1, 1) := by decide +kernel
theorem dX4_becomeRow_7 : decode cX4_becomeRow 7 = .ok (.putfield 15, 3) := by decide +kernel
theorem dX4_becomeRow_10 : decode cX4_becomeRow 10 = .ok (.aload_n 0, 1) := by decide +kernel
theorem dX4_becomeRow_11 : decode cX4_becomeRow 11 = .ok (.iload_n 2, 1) := by decide +kernel
theorem dX4_becomeRow_12 : decode cX4_becomeRow 12 = .ok (.putfield 18, 3) := by decide +kernel
theorem dX4_becomeRow_15 : decode cX4_becomeRow 15 = .ok (.aload_n 0, 1) := by decide +kernel
theorem dX4_becomeRow_16 : decode cX4_becomeRow 16 = .ok (.getfield 21, 3) := by decide +kernel
theorem dX4_becomeRow_19 : decode cX4_becomeRow 19 = .ok (.lconst 0, 1) := by decide +kernel
theorem dX4_becomeRow_20 : decode cX4_becomeRow 20 = .ok (.invokestatic 32, 3) := by decide +kernel
theorem dX4_becomeRow_23 : decode cX4_becomeRow 23 = .ok (.return_, 1) := by decide +kernel
theorem dX4_becomeNode_0 : decode cX4_becomeNode 0 = .ok (.aload_n 0, 1) := by decide +kernel
theorem dX4_becomeNode_1 : decode cX4_becomeNode 1 = .ok (.iconst 2, 1) := by decide +kernel
theorem dX4_becomeNode_2 : decode cX4_becomeNode 2 = .ok (.putfield 11, 3) := by decide +kernel
theorem dX4_becomeNode_5 : decode cX4_becomeNode 5 = .ok (.aload_n 0, 1) := by decide +kernel
theorem dX4_becomeNode_6 : decode cX4_becomeNode 6 = .ok (.getfield 28, 3) := by decide +kernel
theorem dX4_becomeNode_9 : decode cX4_becomeNode 9 = .ok (.aload_n 1, 1) := by decide +kernel
theorem dX4_becomeNode_10 : decode cX4_becomeNode 10 = .ok (.invokevirtual 38, 3) := by decide +kernel
theorem dX4_becomeNode_13 : decode cX4_becomeNode 13 = .ok (.return_, 1) := by decide +kernel
theorem dX4_told_0 : decode cX4_told 0 = .ok (.aload_n 0, 1) := by decide +kernel
theorem dX4_told_1 : decode cX4_told 1 = .ok (.getfield 11, 3) := by decide +kernel
theorem dX4_told_4 : decode cX4_told 4 = .ok (.ifCond .ne 5, 3) := by decide +kernel
theorem dX4_told_7 : decode cX4_told 7 = .ok (.iconst (-1), 1) := by decide +kernel
theorem dX4_told_8 : decode cX4_told 8 = .ok (.ireturn, 1) := by decide +kernel
theorem dX4_told_9 : decode cX4_told 9 = .ok (.aload_n 0, 1) := by decide +kernel
theorem dX4_told_10 : decode cX4_told 10 = .ok (.getfield 11, 3) := by decide +kernel
theorem dX4_told_13 : decode cX4_told 13 = .ok (.iconst 1, 1) := by decide +kernel
theorem dX4_told_14 : decode cX4_told 14 = .ok (.if_icmp .ne 13, 3) := by decide +kernel
theorem dX4_told_17 : decode cX4_told 17 = .ok (.bipush 100, 2) := by decide +kernel
theorem dX4_told_19 : decode cX4_told 19 = .ok (.aload_n 0, 1) := by decide +kernel
theorem dX4_told_20 : decode cX4_told 20 = .ok (.getfield 15, 3) := by decide +kernel
theorem dX4_told_23 : decode cX4_told 23 = .ok (.iadd, 1) := by decide +kernel
theorem dX4_told_24 : decode cX4_told 24 = .ok (.goto 14, 3) := by decide +kernel
theorem dX4_told_27 : decode cX4_told 27 = .ok (.sipush 200, 3) := by decide +kernel
theorem dX4_told_30 : decode cX4_told 30 = .ok (.aload_n 0, 1) := by decide +kernel
theorem dX4_told_31 : decode cX4_told 31 = .ok (.getfield 28, 3) := by decide +kernel
theorem dX4_told_34 : decode cX4_told 34 = .ok (.getfield 42, 3) := by decide +kernel
theorem dX4_told_37 : decode cX4_told 37 = .ok (.iadd, 1) := by decide +kernel
theorem dX4_told_38 : decode cX4_told 38 = .ok (.ireturn, 1) := by decide +kernel
theorem dX4_keep_0 : decode cX4_keep 0 = .ok (.aload_n 0, 1) := by decide +kernel
theorem dX4_keep_1 : decode cX4_keep 1 = .ok (.getfield 15, 3) := by decide +kernel
theorem dX4_keep_4 : decode cX4_keep 4 = .ok (.tableswitch 66 0 2 #[28, 41, 54], 28) := by decide +kernel
theorem dX4_keep_32 : decode cX4_keep 32 = .ok (.aload_n 0, 1) := by decide +kernel
theorem dX4_keep_33 : decode cX4_keep 33 = .ok (.getfield 21, 3) := by decide +kernel
theorem dX4_keep_36 : decode cX4_keep 36 = .ok (.iload_n 1, 1) := by decide +kernel
theorem dX4_keep_37 : decode cX4_keep 37 = .ok (.lload_n 2, 1) := by decide +kernel
theorem dX4_keep_38 : decode cX4_keep 38 = .ok (.l2i, 1) := by decide +kernel
theorem dX4_keep_39 : decode cX4_keep 39 = .ok (.i2b, 1) := by decide +kernel
theorem dX4_keep_40 : decode cX4_keep 40 = .ok (.i2l, 1) := by decide +kernel
theorem dX4_keep_41 : decode cX4_keep 41 = .ok (.lastore, 1) := by decide +kernel
theorem dX4_keep_42 : decode cX4_keep 42 = .ok (.goto 35, 3) := by decide +kernel
theorem dX4_keep_45 : decode cX4_keep 45 = .ok (.aload_n 0, 1) := by decide +kernel
theorem dX4_keep_46 : decode cX4_keep 46 = .ok (.getfield 21, 3) := by decide +kernel
theorem dX4_keep_49 : decode cX4_keep 49 = .ok (.iload_n 1, 1) := by decide +kernel
theorem dX4_keep_50 : decode cX4_keep 50 = .ok (.lload_n 2, 1) := by decide +kernel
theorem dX4_keep_51 : decode cX4_keep 51 = .ok (.l2i, 1) := by decide +kernel
theorem dX4_keep_52 : decode cX4_keep 52 = .ok (.i2s, 1) := by decide +kernel
theorem dX4_keep_53 : decode cX4_keep 53 = .ok (.i2l, 1) := by decide +kernel
theorem dX4_keep_54 : decode cX4_keep 54 = .ok (.lastore, 1) := by decide +kernel
theorem dX4_keep_55 : decode cX4_keep 55 = .ok (.goto 22, 3) := by decide +kernel
theorem dX4_keep_58 : decode cX4_keep 58 = .ok (.aload_n 0, 1) := by decide +kernel
theorem dX4_keep_59 : decode cX4_keep 59 = .ok (.getfield 21, 3) := by decide +kernel
theorem dX4_keep_62 : decode cX4_keep 62 = .ok (.iload_n 1, 1) := by decide +kernel
theorem dX4_keep_63 : decode cX4_keep 63 = .ok (.lload_n 2, 1) := by decide +kernel
theorem dX4_keep_64 : decode cX4_keep 64 = .ok (.l2i, 1) := by decide +kernel
theorem dX4_keep_65 : decode cX4_keep 65 = .ok (.i2l, 1) := by decide +kernel
theorem dX4_keep_66 : decode cX4_keep 66 = .ok (.lastore, 1) := by decide +kernel
theorem dX4_keep_67 : decode cX4_keep 67 = .ok (.goto 10, 3) := by decide +kernel
theorem dX4_keep_70 : decode cX4_keep 70 = .ok (.aload_n 0, 1) := by decide +kernel
theorem dX4_keep_71 : decode cX4_keep 71 = .ok (.getfield 21, 3) := by decide +kernel
theorem dX4_keep_74 : decode cX4_keep 74 = .ok (.iload_n 1, 1) := by decide +kernel
theorem dX4_keep_75 : decode cX4_keep 75 = .ok (.lload_n 2, 1) := by decide +kernel
theorem dX4_keep_76 : decode cX4_keep 76 = .ok (.lastore, 1) := by decide +kernel
theorem dX4_keep_77 : decode cX4_keep 77 = .ok (.return_, 1) := by decide +kernel
theorem dX4_intAt_0 : decode cX4_intAt 0 = .ok (.aload_n 0, 1) := by decide +kernel
theorem dX4_intAt_1 : decode cX4_intAt 1 = .ok (.getfield 21, 3) := by decide +kernel
theorem dX4_intAt_4 : decode cX4_intAt 4 = .ok (.iload_n 1, 1) := by decide +kernel
theorem dX4_intAt_5 : decode cX4_intAt 5 = .ok (.laload, 1) := by decide +kernel
theorem dX4_intAt_6 : decode cX4_intAt 6 = .ok (.l2i, 1) := by decide +kernel
theorem dX4_intAt_7 : decode cX4_intAt 7 = .ok (.ireturn, 1) := by decide +kernel
theorem dX5_init_0 : decode cX5_init 0 = .ok (.aload_n 0, 1) := by decide +kernel
theorem dX5_init_1 : decode cX5_init 1 = .ok (.invokespecial 3, 3) := by decide +kernel
theorem dX5_init_4 : decode cX5_init 4 = .ok (.aload_n 0, 1) := by decide +kernel
theorem dX5_init_5 : decode cX5_init 5 = .ok (.bipush 48, 2) := by decide +kernel
theorem dX5_init_7 : decode cX5_init 7 = .ok (.newarray .int, 2) := by decide +kernel
theorem dX5_init_9 : decode cX5_init 9 = .ok (.putfield 9, 3) := by decide +kernel
theorem dX5_init_12 : decode cX5_init 12 = .ok (.aload_n 0, 1) := by decide +kernel
theorem dX5_init_13 : decode cX5_init 13 = .ok (.iconst 0, 1) := by decide +kernel
theorem dX5_init_14 : decode cX5_init 14 = .ok (.putfield 15, 3) := by decide +kernel
theorem dX5_init_17 : decode cX5_init 17 = .ok (.aload_n 0, 1) := by decide +kernel
theorem dX5_init_18 : decode cX5_init 18 = .ok (.iconst 4, 1) := by decide +kernel
theorem dX5_init_19 : decode cX5_init 19 = .ok (.putfield 19, 3) := by decide +kernel
theorem dX5_init_22 : decode cX5_init 22 = .ok (.aload_n 0, 1) := by decide +kernel
theorem dX5_init_23 : decode cX5_init 23 = .ok (.iconst (-1), 1) := by decide +kernel
theorem dX5_init_24 : decode cX5_init 24 = .ok (.putfield 22, 3) := by decide +kernel
theorem dX5_init_27 : decode cX5_init 27 = .ok (.return_, 1) := by decide +kernel
theorem dX5_valueAt_0 : decode cX5_valueAt 0 = .ok (.aload_n 0, 1) := by decide +kernel
theorem dX5_valueAt_1 : decode cX5_valueAt 1 = .ok (.getfield 9, 3) := by decide +kernel
theorem dX5_valueAt_4 : decode cX5_valueAt 4 = .ok (.iload_n 1, 1) := by decide +kernel
theorem dX5_valueAt_5 : decode cX5_valueAt 5 = .ok (.iconst 3, 1) := by decide +kernel
theorem dX5_valueAt_6 : decode cX5_valueAt 6 = .ok (.imul, 1) := by decide +kernel
theorem dX5_valueAt_7 : decode cX5_valueAt 7 = .ok (.iload_n 2, 1) := by decide +kernel
theorem dX5_valueAt_8 : decode cX5_valueAt 8 = .ok (.iadd, 1) := by decide +kernel
theorem dX5_valueAt_9 : decode cX5_valueAt 9 = .ok (.iaload, 1) := by decide +kernel
theorem dX5_valueAt_10 : decode cX5_valueAt 10 = .ok (.ireturn, 1) := by decide +kernel
theorem dX5_add_0 : decode cX5_add 0 = .ok (.aload_n 0, 1) := by decide +kernel
theorem dX5_add_1 : decode cX5_add 1 = .ok (.getfield 15, 3) := by decide +kernel
theorem dX5_add_4 : decode cX5_add 4 = .ok (.iconst 3, 1) := by decide +kernel
theorem dX5_add_5 : decode cX5_add 5 = .ok (.imul, 1) := by decide +kernel
theorem dX5_add_6 : decode cX5_add 6 = .ok (.istore 4, 2) := by decide +kernel
theorem dX5_add_8 : decode cX5_add 8 = .ok (.aload_n 0, 1) := by decide +kernel
theorem dX5_add_9 : decode cX5_add 9 = .ok (.getfield 15, 3) := by decide +kernel
theorem dX5_add_12 : decode cX5_add 12 = .ok (.bipush 16, 2) := by decide +kernel
theorem dX5_add_14 : decode cX5_add 14 = .ok (.if_icmp .ge 41, 3) := by decide +kernel
theorem dX5_add_17 : decode cX5_add 17 = .ok (.aload_n 0, 1) := by decide +kernel
theorem dX5_add_18 : decode cX5_add 18 = .ok (.getfield 9, 3) := by decide +kernel
theorem dX5_add_21 : decode cX5_add 21 = .ok (.iload 4, 2) := by decide +kernel
theorem dX5_add_23 : decode cX5_add 23 = .ok (.iload_n 1, 1) := by decide +kernel
theorem dX5_add_24 : decode cX5_add 24 = .ok (.iastore, 1) := by decide +kernel
theorem dX5_add_25 : decode cX5_add 25 = .ok (.aload_n 0, 1) := by decide +kernel
theorem dX5_add_26 : decode cX5_add 26 = .ok (.getfield 9, 3) := by decide +kernel
theorem dX5_add_29 : decode cX5_add 29 = .ok (.iload 4, 2) := by decide +kernel
theorem dX5_add_31 : decode cX5_add 31 = .ok (.iconst 1, 1) := by decide +kernel
theorem dX5_add_32 : decode cX5_add 32 = .ok (.iadd, 1) := by decide +kernel
theorem dX5_add_33 : decode cX5_add 33 = .ok (.iload_n 2, 1) := by decide +kernel
theorem dX5_add_34 : decode cX5_add 34 = .ok (.iastore, 1) := by decide +kernel
theorem dX5_add_35 : decode cX5_add 35 = .ok (.aload_n 0, 1) := by decide +kernel
theorem dX5_add_36 : decode cX5_add 36 = .ok (.getfield 9, 3) := by decide +kernel
theorem dX5_add_39 : decode cX5_add 39 = .ok (.iload 4, 2) := by decide +kernel
theorem dX5_add_41 : decode cX5_add 41 = .ok (.iconst 2, 1) := by decide +kernel
theorem dX5_add_42 : decode cX5_add 42 = .ok (.iadd, 1) := by decide +kernel
theorem dX5_add_43 : decode cX5_add 43 = .ok (.iload_n 3, 1) := by decide +kernel
theorem dX5_add_44 : decode cX5_add 44 = .ok (.iastore, 1) := by decide +kernel
theorem dX5_add_45 : decode cX5_add 45 = .ok (.aload_n 0, 1) := by decide +kernel
theorem dX5_add_46 : decode cX5_add 46 = .ok (.dup, 1) := by decide +kernel
theorem dX5_add_47 : decode cX5_add 47 = .ok (.getfield 15, 3) := by decide +kernel
theorem dX5_add_50 : decode cX5_add 50 = .ok (.iconst 1, 1) := by decide +kernel
theorem dX5_add_51 : decode cX5_add 51 = .ok (.iadd, 1) := by decide +kernel
theorem dX5_add_52 : decode cX5_add 52 = .ok (.putfield 15, 3) := by decide +kernel
theorem dX5_add_55 : decode cX5_add 55 = .ok (.return_, 1) := by decide +kernel
theorem dX5_become_0 : decode cX5_become 0 = .ok (.aload_n 1, 1) := by decide +kernel
theorem dX5_become_1 : decode cX5_become 1 = .ok (.getfield 9, 3) := by decide +kernel
theorem dX5_become_4 : decode cX5_become 4 = .ok (.iconst 0, 1) := by decide +kernel
theorem dX5_become_5 : decode cX5_become 5 = .ok (.aload_n 0, 1) := by decide +kernel
theorem dX5_become_6 : decode cX5_become 6 = .ok (.getfield 9, 3) := by decide +kernel
theorem dX5_become_9 : decode cX5_become 9 = .ok (.iconst 0, 1) := by decide +kernel
theorem dX5_become_10 : decode cX5_become 10 = .ok (.bipush 48, 2) := by decide +kernel
theorem dX5_become_12 : decode cX5_become 12 = .ok (.invokestatic 25, 3) := by decide +kernel
theorem dX5_become_15 : decode cX5_become 15 = .ok (.aload_n 0, 1) := by decide +kernel
theorem dX5_become_16 : decode cX5_become 16 = .ok (.aload_n 1, 1) := by decide +kernel
theorem dX5_become_17 : decode cX5_become 17 = .ok (.getfield 15, 3) := by decide +kernel
theorem dX5_become_20 : decode cX5_become 20 = .ok (.putfield 15, 3) := by decide +kernel
theorem dX5_become_23 : decode cX5_become 23 = .ok (.aload_n 0, 1) := by decide +kernel
theorem dX5_become_24 : decode cX5_become 24 = .ok (.aload_n 1, 1) := by decide +kernel
theorem dX5_become_25 : decode cX5_become 25 = .ok (.getfield 19, 3) := by decide +kernel
theorem dX5_become_28 : decode cX5_become 28 = .ok (.putfield 19, 3) := by decide +kernel
theorem dX5_become_31 : decode cX5_become 31 = .ok (.aload_n 0, 1) := by decide +kernel
theorem dX5_become_32 : decode cX5_become 32 = .ok (.aload_n 1, 1) := by decide +kernel
theorem dX5_become_33 : decode cX5_become 33 = .ok (.getfield 22, 3) := by decide +kernel
theorem dX5_become_36 : decode cX5_become 36 = .ok (.putfield 22, 3) := by decide +kernel
theorem dX5_become_39 : decode cX5_become 39 = .ok (.return_, 1) := by decide +kernel
theorem dX6_init_0 : decode cX6_init 0 = .ok (.aload_n 0, 1) := by decide +kernel
theorem dX6_init_1 : decode cX6_init 1 = .ok (.invokespecial 3, 3) := by decide +kernel
theorem dX6_init_4 : decode cX6_init 4 = .ok (.aload_n 0, 1) := by decide +kernel
theorem dX6_init_5 : decode cX6_init 5 = .ok (.iconst 5, 1) := by decide +kernel
theorem dX6_init_6 : decode cX6_init 6 = .ok (.newarray .int, 2) := by decide +kernel
theorem dX6_init_8 : decode cX6_init 8 = .ok (.putfield 9, 3) := by decide +kernel
theorem dX6_init_11 : decode cX6_init 11 = .ok (.aload_n 0, 1) := by decide +kernel
theorem dX6_init_12 : decode cX6_init 12 = .ok (.iconst 0, 1) := by decide +kernel
theorem dX6_init_13 : decode cX6_init 13 = .ok (.putfield 15, 3) := by decide +kernel
theorem dX6_init_16 : decode cX6_init 16 = .ok (.aload_n 0, 1) := by decide +kernel
theorem dX6_init_17 : decode cX6_init 17 = .ok (.iconst 0, 1) := by decide +kernel
theorem dX6_init_18 : decode cX6_init 18 = .ok (.putfield 19, 3) := by decide +kernel
theorem dX6_init_21 : decode cX6_init 21 = .ok (.aload_n 0, 1) := by decide +kernel
theorem dX6_init_22 : decode cX6_init 22 = .ok (.iconst 0, 1) := by decide +kernel
theorem dX6_init_23 : decode cX6_init 23 = .ok (.putfield 22, 3) := by decide +kernel
theorem dX6_init_26 : decode cX6_init 26 = .ok (.aload_n 0, 1) := by decide +kernel
theorem dX6_init_27 : decode cX6_init 27 = .ok (.iconst 0, 1) := by decide +kernel
theorem dX6_init_28 : decode cX6_init 28 = .ok (.putfield 25, 3) := by decide +kernel
theorem dX6_init_31 : decode cX6_init 31 = .ok (.aload_n 0, 1) := by decide +kernel
theorem dX6_init_32 : decode cX6_init 32 = .ok (.iconst 0, 1) := by decide +kernel
theorem dX6_init_33 : decode cX6_init 33 = .ok (.putfield 28, 3) := by decide +kernel
theorem dX6_init_36 : decode cX6_init 36 = .ok (.aload_n 0, 1) := by decide +kernel
theorem dX6_init_37 : decode cX6_init 37 = .ok (.aload_n 1, 1) := by decide +kernel
theorem dX6_init_38 : decode cX6_init 38 = .ok (.putfield 31, 3) := by decide +kernel
theorem dX6_init_41 : decode cX6_init 41 = .ok (.return_, 1) := by decide +kernel
theorem dX6_faultIn_0 : decode cX6_faultIn 0 = .ok (.aload_n 0, 1) := by decide +kernel
theorem dX6_faultIn_1 : decode cX6_faultIn 1 = .ok (.getfield 9, 3) := by decide +kernel
theorem dX6_faultIn_4 : decode cX6_faultIn 4 = .ok (.iconst 0, 1) := by decide +kernel
theorem dX6_faultIn_5 : decode cX6_faultIn 5 = .ok (.invokestatic 35, 3) := by decide +kernel
theorem dX6_faultIn_8 : decode cX6_faultIn 8 = .ok (.aload_n 0, 1) := by decide +kernel
theorem dX6_faultIn_9 : decode cX6_faultIn 9 = .ok (.iconst 0, 1) := by decide +kernel
theorem dX6_faultIn_10 : decode cX6_faultIn 10 = .ok (.putfield 15, 3) := by decide +kernel
theorem dX6_faultIn_13 : decode cX6_faultIn 13 = .ok (.aload_n 0, 1) := by decide +kernel
theorem dX6_faultIn_14 : decode cX6_faultIn 14 = .ok (.iconst 0, 1) := by decide +kernel
theorem dX6_faultIn_15 : decode cX6_faultIn 15 = .ok (.putfield 28, 3) := by decide +kernel
theorem dX6_faultIn_18 : decode cX6_faultIn 18 = .ok (.iconst 0, 1) := by decide +kernel
theorem dX6_faultIn_19 : decode cX6_faultIn 19 = .ok (.istore_n 2, 1) := by decide +kernel
theorem dX6_faultIn_20 : decode cX6_faultIn 20 = .ok (.iload_n 2, 1) := by decide +kernel
theorem dX6_faultIn_21 : decode cX6_faultIn 21 = .ok (.aload_n 1, 1) := by decide +kernel
theorem dX6_faultIn_22 : decode cX6_faultIn 22 = .ok (.getfield 41, 3) := by decide +kernel
theorem dX6_faultIn_25 : decode cX6_faultIn 25 = .ok (.if_icmp .ge 23, 3) := by decide +kernel
theorem dX6_faultIn_28 : decode cX6_faultIn 28 = .ok (.aload_n 0, 1) := by decide +kernel
theorem dX6_faultIn_29 : decode cX6_faultIn 29 = .ok (.aload_n 1, 1) := by decide +kernel
theorem dX6_faultIn_30 : decode cX6_faultIn 30 = .ok (.iload_n 2, 1) := by decide +kernel
theorem dX6_faultIn_31 : decode cX6_faultIn 31 = .ok (.invokevirtual 46, 3) := by decide +kernel
theorem dX6_faultIn_34 : decode cX6_faultIn 34 = .ok (.invokevirtual 50, 3) := by decide +kernel
theorem dX6_faultIn_37 : decode cX6_faultIn 37 = .ok (.ifCond .ne 5, 3) := by decide +kernel
theorem dX6_faultIn_40 : decode cX6_faultIn 40 = .ok (.iload_n 2, 1) := by decide +kernel
theorem dX6_faultIn_41 : decode cX6_faultIn 41 = .ok (.ireturn, 1) := by decide +kernel
theorem dX6_faultIn_42 : decode cX6_faultIn 42 = .ok (.iinc 2 1, 3) := by decide +kernel
theorem dX6_faultIn_45 : decode cX6_faultIn 45 = .ok (.goto (-25), 3) := by decide +kernel
theorem dX6_faultIn_48 : decode cX6_faultIn 48 = .ok (.aload_n 0, 1) := by decide +kernel
theorem dX6_faultIn_49 : decode cX6_faultIn 49 = .ok (.invokevirtual 54, 3) := by decide +kernel
theorem dX6_faultIn_52 : decode cX6_faultIn 52 = .ok (.ifCond .ne 8, 3) := by decide +kernel
theorem dX6_faultIn_55 : decode cX6_faultIn 55 = .ok (.aload_n 1, 1) := by decide +kernel
theorem dX6_faultIn_56 : decode cX6_faultIn 56 = .ok (.getfield 41, 3) := by decide +kernel
theorem dX6_faultIn_59 : decode cX6_faultIn 59 = .ok (.ireturn, 1) := by decide +kernel
theorem dX6_faultIn_60 : decode cX6_faultIn 60 = .ok (.aload_n 0, 1) := by decide +kernel
theorem dX6_faultIn_61 : decode cX6_faultIn 61 = .ok (.invokevirtual 58, 3) := by decide +kernel
theorem dX6_faultIn_64 : decode cX6_faultIn 64 = .ok (.iconst (-1), 1) := by decide +kernel
theorem dX6_faultIn_65 : decode cX6_faultIn 65 = .ok (.ireturn, 1) := by decide +kernel
theorem dX6_bringLines_0 : decode cX6_bringLines 0 = .ok (.iconst 0, 1) := by decide +kernel
theorem dX6_bringLines_1 : decode cX6_bringLines 1 = .ok (.istore_n 1, 1) := by decide +kernel
theorem dX6_bringLines_2 : decode cX6_bringLines 2 = .ok (.iload_n 1, 1) := by decide +kernel
theorem dX6_bringLines_3 : decode cX6_bringLines 3 = .ok (.iconst 5, 1) := by decide +kernel
theorem dX6_bringLines_4 : decode cX6_bringLines 4 = .ok (.if_icmp .ge 45, 3) := by decide +kernel
theorem dX6_bringLines_7 : decode cX6_bringLines 7 = .ok (.aload_n 0, 1) := by decide +kernel
theorem dX6_bringLines_8 : decode cX6_bringLines 8 = .ok (.getfield 31, 3) := by decide +kernel
theorem dX6_bringLines_11 : decode cX6_bringLines 11 = .ok (.getfield 61, 3) := by decide +kernel
theorem dX6_bringLines_14 : decode cX6_bringLines 14 = .ok (.iload_n 1, 1) := by decide +kernel
theorem dX6_bringLines_15 : decode cX6_bringLines 15 = .ok (.aaload, 1) := by decide +kernel
theorem dX6_bringLines_16 : decode cX6_bringLines 16 = .ok (.aload_n 0, 1) := by decide +kernel
theorem dX6_bringLines_17 : decode cX6_bringLines 17 = .ok (.getfield 31, 3) := by decide +kernel
theorem dX6_bringLines_20 : decode cX6_bringLines 20 = .ok (.getfield 61, 3) := by decide +kernel
theorem dX6_bringLines_23 : decode cX6_bringLines 23 = .ok (.iload_n 1, 1) := by decide +kernel
theorem dX6_bringLines_24 : decode cX6_bringLines 24 = .ok (.aaload, 1) := by decide +kernel
theorem dX6_bringLines_25 : decode cX6_bringLines 25 = .ok (.getfield 67, 3) := by decide +kernel
theorem dX6_bringLines_28 : decode cX6_bringLines 28 = .ok (.aload_n 0, 1) := by decide +kernel
theorem dX6_bringLines_29 : decode cX6_bringLines 29 = .ok (.getfield 9, 3) := by decide +kernel
theorem dX6_bringLines_32 : decode cX6_bringLines 32 = .ok (.iload_n 1, 1) := by decide +kernel
theorem dX6_bringLines_33 : decode cX6_bringLines 33 = .ok (.iaload, 1) := by decide +kernel
theorem dX6_bringLines_34 : decode cX6_bringLines 34 = .ok (.iadd, 1) := by decide +kernel
theorem dX6_bringLines_35 : decode cX6_bringLines 35 = .ok (.bipush 16, 2) := by decide +kernel
theorem dX6_bringLines_37 : decode cX6_bringLines 37 = .ok (.invokestatic 72, 3) := by decide +kernel
theorem dX6_bringLines_40 : decode cX6_bringLines 40 = .ok (.putfield 67, 3) := by decide +kernel
theorem dX6_bringLines_43 : decode cX6_bringLines 43 = .ok (.iinc 1 1, 3) := by decide +kernel
theorem dX6_bringLines_46 : decode cX6_bringLines 46 = .ok (.goto (-44), 3) := by decide +kernel
theorem dX6_bringLines_49 : decode cX6_bringLines 49 = .ok (.return_, 1) := by decide +kernel
theorem dX6_takes_0 : decode cX6_takes 0 = .ok (.aload_n 0, 1) := by decide +kernel
theorem dX6_takes_1 : decode cX6_takes 1 = .ok (.getfield 15, 3) := by decide +kernel
theorem dX6_takes_4 : decode cX6_takes 4 = .ok (.tableswitch 108 0 4 #[36, 53, 59, 81, 87], 36) := by decide +kernel
theorem dX6_takes_40 : decode cX6_takes 40 = .ok (.aload_n 0, 1) := by decide +kernel
theorem dX6_takes_41 : decode cX6_takes 41 = .ok (.iload_n 1, 1) := by decide +kernel
theorem dX6_takes_42 : decode cX6_takes 42 = .ok (.bipush 116, 2) := by decide +kernel
theorem dX6_takes_44 : decode cX6_takes 44 = .ok (.if_icmp .ne 7, 3) := by decide +kernel
theorem dX6_takes_47 : decode cX6_takes 47 = .ok (.iconst 1, 1) := by decide +kernel
theorem dX6_takes_48 : decode cX6_takes 48 = .ok (.goto 4, 3) := by decide +kernel
theorem dX6_takes_51 : decode cX6_takes 51 = .ok (.iconst 0, 1) := by decide +kernel
theorem dX6_takes_52 : decode cX6_takes 52 = .ok (.iconst 1, 1) := by decide +kernel
theorem dX6_takes_53 : decode cX6_takes 53 = .ok (.invokevirtual 78, 3) := by decide +kernel
theorem dX6_takes_56 : decode cX6_takes 56 = .ok (.ireturn, 1) := by decide +kernel
theorem dX6_takes_57 : decode cX6_takes 57 = .ok (.aload_n 0, 1) := by decide +kernel
theorem dX6_takes_58 : decode cX6_takes 58 = .ok (.iload_n 1, 1) := by decide +kernel
theorem dX6_takes_59 : decode cX6_takes 59 = .ok (.invokevirtual 82, 3) := by decide +kernel
theorem dX6_takes_62 : decode cX6_takes 62 = .ok (.ireturn, 1) := by decide +kernel
theorem dX6_takes_63 : decode cX6_takes 63 = .ok (.aload_n 0, 1) := by decide +kernel
theorem dX6_takes_64 : decode cX6_takes 64 = .ok (.iconst 0, 1) := by decide +kernel
theorem dX6_takes_65 : decode cX6_takes 65 = .ok (.putfield 22, 3) := by decide +kernel
theorem dX6_takes_68 : decode cX6_takes 68 = .ok (.aload_n 0, 1) := by decide +kernel
theorem dX6_takes_69 : decode cX6_takes 69 = .ok (.iload_n 1, 1) := by decide +kernel
theorem dX6_takes_70 : decode cX6_takes 70 = .ok (.bipush 58, 2) := by decide +kernel
theorem dX6_takes_72 : decode cX6_takes 72 = .ok (.if_icmp .ne 7, 3) := by decide +kernel
theorem dX6_takes_75 : decode cX6_takes 75 = .ok (.iconst 1, 1) := by decide +kernel
theorem dX6_takes_76 : decode cX6_takes 76 = .ok (.goto 4, 3) := by decide +kernel
theorem dX6_takes_79 : decode cX6_takes 79 = .ok (.iconst 0, 1) := by decide +kernel
theorem dX6_takes_80 : decode cX6_takes 80 = .ok (.iconst 3, 1) := by decide +kernel
theorem dX6_takes_81 : decode cX6_takes 81 = .ok (.invokevirtual 78, 3) := by decide +kernel
theorem dX6_takes_84 : decode cX6_takes 84 = .ok (.ireturn, 1) := by decide +kernel
theorem dX6_takes_85 : decode cX6_takes 85 = .ok (.aload_n 0, 1) := by decide +kernel
theorem dX6_takes_86 : decode cX6_takes 86 = .ok (.iload_n 1, 1) := by decide +kernel
theorem dX6_takes_87 : decode cX6_takes 87 = .ok (.invokevirtual 85, 3) := by decide +kernel
theorem dX6_takes_90 : decode cX6_takes 90 = .ok (.ireturn, 1) := by decide +kernel
theorem dX6_takes_91 : decode cX6_takes 91 = .ok (.iload_n 1, 1) := by decide +kernel
theorem dX6_takes_92 : decode cX6_takes 92 = .ok (.invokestatic 88, 3) := by decide +kernel
theorem dX6_takes_95 : decode cX6_takes 95 = .ok (.ifCond .eq 11, 3) := by decide +kernel
theorem dX6_takes_98 : decode cX6_takes 98 = .ok (.aload_n 0, 1) := by decide +kernel
theorem dX6_takes_99 : decode cX6_takes 99 = .ok (.iload_n 1, 1) := by decide +kernel
theorem dX6_takes_100 : decode cX6_takes 100 = .ok (.invokevirtual 91, 3) := by decide +kernel
theorem dX6_takes_103 : decode cX6_takes 103 = .ok (.goto 8, 3) := by decide +kernel
theorem dX6_takes_106 : decode cX6_takes 106 = .ok (.aload_n 0, 1) := by decide +kernel
theorem dX6_takes_107 : decode cX6_takes 107 = .ok (.iload_n 1, 1) := by decide +kernel
theorem dX6_takes_108 : decode cX6_takes 108 = .ok (.invokevirtual 94, 3) := by decide +kernel
theorem dX6_takes_111 : decode cX6_takes 111 = .ok (.ireturn, 1) := by decide +kernel
theorem dX6_takes_112 : decode cX6_takes 112 = .ok (.aload_n 0, 1) := by decide +kernel
theorem dX6_takes_113 : decode cX6_takes 113 = .ok (.iload_n 1, 1) := by decide +kernel
theorem dX6_takes_114 : decode cX6_takes 114 = .ok (.invokevirtual 94, 3) := by decide +kernel
theorem dX6_takes_117 : decode cX6_takes 117 = .ok (.ireturn, 1) := by decide +kernel
theorem dX6_moves_0 : decode cX6_moves 0 = .ok (.aload_n 0, 1) := by decide +kernel
theorem dX6_moves_1 : decode cX6_moves 1 = .ok (.iload_n 1, 1) := by decide +kernel
theorem dX6_moves_2 : decode cX6_moves 2 = .ok (.ifCond .eq 7, 3) := by decide +kernel
theorem dX6_moves_5 : decode cX6_moves 5 = .ok (.iload_n 2, 1) := by decide +kernel
theorem dX6_moves_6 : decode cX6_moves 6 = .ok (.goto 7, 3) := by decide +kernel
theorem dX6_moves_9 : decode cX6_moves 9 = .ok (.aload_n 0, 1) := by decide +kernel
theorem dX6_moves_10 : decode cX6_moves 10 = .ok (.getfield 15, 3) := by decide +kernel
theorem dX6_moves_13 : decode cX6_moves 13 = .ok (.putfield 15, 3) := by decide +kernel
theorem dX6_moves_16 : decode cX6_moves 16 = .ok (.iload_n 1, 1) := by decide +kernel
theorem dX6_moves_17 : decode cX6_moves 17 = .ok (.ireturn, 1) := by decide +kernel
theorem dX6_takesTable_0 : decode cX6_takesTable 0 = .ok (.iload_n 1, 1) := by decide +kernel
theorem dX6_takesTable_1 : decode cX6_takesTable 1 = .ok (.bipush 48, 2) := by decide +kernel
theorem dX6_takesTable_3 : decode cX6_takesTable 3 = .ok (.if_icmp .lt 9, 3) := by decide +kernel
theorem dX6_takesTable_6 : decode cX6_takesTable 6 = .ok (.iload_n 1, 1) := by decide +kernel
theorem dX6_takesTable_7 : decode cX6_takesTable 7 = .ok (.bipush 53, 2) := by decide +kernel
theorem dX6_takesTable_9 : decode cX6_takesTable 9 = .ok (.if_icmp .lt 5, 3) := by decide +kernel
theorem dX6_takesTable_12 : decode cX6_takesTable 12 = .ok (.iconst 0, 1) := by decide +kernel
theorem dX6_takesTable_13 : decode cX6_takesTable 13 = .ok (.ireturn, 1) := by decide +kernel
theorem dX6_takesTable_14 : decode cX6_takesTable 14 = .ok (.aload_n 0, 1) := by decide +kernel
theorem dX6_takesTable_15 : decode cX6_takesTable 15 = .ok (.iload_n 1, 1) := by decide +kernel
theorem dX6_takesTable_16 : decode cX6_takesTable 16 = .ok (.bipush 48, 2) := by decide +kernel
theorem dX6_takesTable_18 : decode cX6_takesTable 18 = .ok (.isub, 1) := by decide +kernel
theorem dX6_takesTable_19 : decode cX6_takesTable 19 = .ok (.putfield 19, 3) := by decide +kernel
theorem dX6_takesTable_22 : decode cX6_takesTable 22 = .ok (.aload_n 0, 1) := by decide +kernel
theorem dX6_takesTable_23 : decode cX6_takesTable 23 = .ok (.iconst 1, 1) := by decide +kernel
theorem dX6_takesTable_24 : decode cX6_takesTable 24 = .ok (.iconst 2, 1) := by decide +kernel
theorem dX6_takesTable_25 : decode cX6_takesTable 25 = .ok (.invokevirtual 78, 3) := by decide +kernel
theorem dX6_takesTable_28 : decode cX6_takesTable 28 = .ok (.ireturn, 1) := by decide +kernel
theorem dX6_takesFirstDigit_0 : decode cX6_takesFirstDigit 0 = .ok (.iload_n 1, 1) := by decide +kernel
theorem dX6_takesFirstDigit_1 : decode cX6_takesFirstDigit 1 = .ok (.invokestatic 88, 3) := by decide +kernel
theorem dX6_takesFirstDigit_4 : decode cX6_takesFirstDigit 4 = .ok (.ifCond .eq 33, 3) := by decide +kernel
theorem dX6_takesFirstDigit_7 : decode cX6_takesFirstDigit 7 = .ok (.aload_n 0, 1) := by decide +kernel
theorem dX6_takesFirstDigit_8 : decode cX6_takesFirstDigit 8 = .ok (.getfield 31, 3) := by decide +kernel
theorem dX6_takesFirstDigit_11 : decode cX6_takesFirstDigit 11 = .ok (.getfield 61, 3) := by decide +kernel
theorem dX6_takesFirstDigit_14 : decode cX6_takesFirstDigit 14 = .ok (.aload_n 0, 1) := by decide +kernel
theorem dX6_takesFirstDigit_15 : decode cX6_takesFirstDigit 15 = .ok (.getfield 19, 3) := by decide +kernel
theorem dX6_takesFirstDigit_18 : decode cX6_takesFirstDigit 18 = .ok (.aaload, 1) := by decide +kernel
theorem dX6_takesFirstDigit_19 : decode cX6_takesFirstDigit 19 = .ok (.getfield 67, 3) := by decide +kernel
theorem dX6_takesFirstDigit_22 : decode cX6_takesFirstDigit 22 = .ok (.aload_n 0, 1) := by decide +kernel
theorem dX6_takesFirstDigit_23 : decode cX6_takesFirstDigit 23 = .ok (.getfield 9, 3) := by decide +kernel
theorem dX6_takesFirstDigit_26 : decode cX6_takesFirstDigit 26 = .ok (.aload_n 0, 1) := by decide +kernel
theorem dX6_takesFirstDigit_27 : decode cX6_takesFirstDigit 27 = .ok (.getfield 19, 3) := by decide +kernel
theorem dX6_takesFirstDigit_30 : decode cX6_takesFirstDigit 30 = .ok (.iaload, 1) := by decide +kernel
theorem dX6_takesFirstDigit_31 : decode cX6_takesFirstDigit 31 = .ok (.iadd, 1) := by decide +kernel
theorem dX6_takesFirstDigit_32 : decode cX6_takesFirstDigit 32 = .ok (.bipush 16, 2) := by decide +kernel
theorem dX6_takesFirstDigit_34 : decode cX6_takesFirstDigit 34 = .ok (.if_icmp .lt 5, 3) := by decide +kernel
theorem dX6_takesFirstDigit_37 : decode cX6_takesFirstDigit 37 = .ok (.iconst 0, 1) := by decide +kernel
theorem dX6_takesFirstDigit_38 : decode cX6_takesFirstDigit 38 = .ok (.ireturn, 1) := by decide +kernel
theorem dX6_takesFirstDigit_39 : decode cX6_takesFirstDigit 39 = .ok (.aload_n 0, 1) := by decide +kernel
theorem dX6_takesFirstDigit_40 : decode cX6_takesFirstDigit 40 = .ok (.iload_n 1, 1) := by decide +kernel
theorem dX6_takesFirstDigit_41 : decode cX6_takesFirstDigit 41 = .ok (.bipush 48, 2) := by decide +kernel
theorem dX6_takesFirstDigit_43 : decode cX6_takesFirstDigit 43 = .ok (.isub, 1) := by decide +kernel
theorem dX6_takesFirstDigit_44 : decode cX6_takesFirstDigit 44 = .ok (.putfield 25, 3) := by decide +kernel
theorem dX6_takesFirstDigit_47 : decode cX6_takesFirstDigit 47 = .ok (.aload_n 0, 1) := by decide +kernel
theorem dX6_takesFirstDigit_48 : decode cX6_takesFirstDigit 48 = .ok (.iconst 1, 1) := by decide +kernel
theorem dX6_takesFirstDigit_49 : decode cX6_takesFirstDigit 49 = .ok (.iconst 4, 1) := by decide +kernel
theorem dX6_takesFirstDigit_50 : decode cX6_takesFirstDigit 50 = .ok (.invokevirtual 78, 3) := by decide +kernel
theorem dX6_takesFirstDigit_53 : decode cX6_takesFirstDigit 53 = .ok (.ireturn, 1) := by decide +kernel
theorem dX6_takesSecondDigit_0 : decode cX6_takesSecondDigit 0 = .ok (.aload_n 0, 1) := by decide +kernel
theorem dX6_takesSecondDigit_1 : decode cX6_takesSecondDigit 1 = .ok (.aload_n 0, 1) := by decide +kernel
theorem dX6_takesSecondDigit_2 : decode cX6_takesSecondDigit 2 = .ok (.getfield 25, 3) := by decide +kernel
theorem dX6_takesSecondDigit_5 : decode cX6_takesSecondDigit 5 = .ok (.bipush 10, 2) := by decide +kernel
theorem dX6_takesSecondDigit_7 : decode cX6_takesSecondDigit 7 = .ok (.imul, 1) := by decide +kernel
theorem dX6_takesSecondDigit_8 : decode cX6_takesSecondDigit 8 = .ok (.iload_n 1, 1) := by decide +kernel
theorem dX6_takesSecondDigit_9 : decode cX6_takesSecondDigit 9 = .ok (.bipush 48, 2) := by decide +kernel
theorem dX6_takesSecondDigit_11 : decode cX6_takesSecondDigit 11 = .ok (.isub, 1) := by decide +kernel
theorem dX6_takesSecondDigit_12 : decode cX6_takesSecondDigit 12 = .ok (.iadd, 1) := by decide +kernel
theorem dX6_takesSecondDigit_13 : decode cX6_takesSecondDigit 13 = .ok (.putfield 25, 3) := by decide +kernel
theorem dX6_takesSecondDigit_16 : decode cX6_takesSecondDigit 16 = .ok (.aload_n 0, 1) := by decide +kernel
theorem dX6_takesSecondDigit_17 : decode cX6_takesSecondDigit 17 = .ok (.iconst 1, 1) := by decide +kernel
theorem dX6_takesSecondDigit_18 : decode cX6_takesSecondDigit 18 = .ok (.iconst 5, 1) := by decide +kernel
theorem dX6_takesSecondDigit_19 : decode cX6_takesSecondDigit 19 = .ok (.invokevirtual 78, 3) := by decide +kernel
theorem dX6_takesSecondDigit_22 : decode cX6_takesSecondDigit 22 = .ok (.ireturn, 1) := by decide +kernel
theorem dX6_takesMark_0 : decode cX6_takesMark 0 = .ok (.aload_n 0, 1) := by decide +kernel
theorem dX6_takesMark_1 : decode cX6_takesMark 1 = .ok (.getfield 22, 3) := by decide +kernel
theorem dX6_takesMark_4 : decode cX6_takesMark 4 = .ok (.iconst 2, 1) := by decide +kernel
theorem dX6_takesMark_5 : decode cX6_takesMark 5 = .ok (.if_icmp .ge 22, 3) := by decide +kernel
theorem dX6_takesMark_8 : decode cX6_takesMark 8 = .ok (.iload_n 1, 1) := by decide +kernel
theorem dX6_takesMark_9 : decode cX6_takesMark 9 = .ok (.bipush 44, 2) := by decide +kernel
theorem dX6_takesMark_11 : decode cX6_takesMark 11 = .ok (.if_icmp .ne 14, 3) := by decide +kernel
theorem dX6_takesMark_14 : decode cX6_takesMark 14 = .ok (.aload_n 0, 1) := by decide +kernel
theorem dX6_takesMark_15 : decode cX6_takesMark 15 = .ok (.invokevirtual 97, 3) := by decide +kernel
theorem dX6_takesMark_18 : decode cX6_takesMark 18 = .ok (.ifCond .eq 7, 3) := by decide +kernel
theorem dX6_takesMark_21 : decode cX6_takesMark 21 = .ok (.iconst 1, 1) := by decide +kernel
theorem dX6_takesMark_22 : decode cX6_takesMark 22 = .ok (.goto 4, 3) := by decide +kernel
theorem dX6_takesMark_25 : decode cX6_takesMark 25 = .ok (.iconst 0, 1) := by decide +kernel
theorem dX6_takesMark_26 : decode cX6_takesMark 26 = .ok (.ireturn, 1) := by decide +kernel
theorem dX6_takesMark_27 : decode cX6_takesMark 27 = .ok (.iload_n 1, 1) := by decide +kernel
theorem dX6_takesMark_28 : decode cX6_takesMark 28 = .ok (.bipush 47, 2) := by decide +kernel
theorem dX6_takesMark_30 : decode cX6_takesMark 30 = .ok (.if_icmp .ne 19, 3) := by decide +kernel
theorem dX6_takesMark_33 : decode cX6_takesMark 33 = .ok (.aload_n 0, 1) := by decide +kernel
theorem dX6_takesMark_34 : decode cX6_takesMark 34 = .ok (.invokevirtual 100, 3) := by decide +kernel
theorem dX6_takesMark_37 : decode cX6_takesMark 37 = .ok (.aload_n 0, 1) := by decide +kernel
theorem dX6_takesMark_38 : decode cX6_takesMark 38 = .ok (.iconst 0, 1) := by decide +kernel
theorem dX6_takesMark_39 : decode cX6_takesMark 39 = .ok (.putfield 22, 3) := by decide +kernel
theorem dX6_takesMark_42 : decode cX6_takesMark 42 = .ok (.aload_n 0, 1) := by decide +kernel
theorem dX6_takesMark_43 : decode cX6_takesMark 43 = .ok (.iconst 1, 1) := by decide +kernel
theorem dX6_takesMark_44 : decode cX6_takesMark 44 = .ok (.iconst 3, 1) := by decide +kernel
theorem dX6_takesMark_45 : decode cX6_takesMark 45 = .ok (.invokevirtual 78, 3) := by decide +kernel
theorem dX6_takesMark_48 : decode cX6_takesMark 48 = .ok (.ireturn, 1) := by decide +kernel
theorem dX6_takesMark_49 : decode cX6_takesMark 49 = .ok (.iload_n 1, 1) := by decide +kernel
theorem dX6_takesMark_50 : decode cX6_takesMark 50 = .ok (.bipush 59, 2) := by decide +kernel
theorem dX6_takesMark_52 : decode cX6_takesMark 52 = .ok (.if_icmp .ne 14, 3) := by decide +kernel
theorem dX6_takesMark_55 : decode cX6_takesMark 55 = .ok (.aload_n 0, 1) := by decide +kernel
theorem dX6_takesMark_56 : decode cX6_takesMark 56 = .ok (.invokevirtual 58, 3) := by decide +kernel
theorem dX6_takesMark_59 : decode cX6_takesMark 59 = .ok (.aload_n 0, 1) := by decide +kernel
theorem dX6_takesMark_60 : decode cX6_takesMark 60 = .ok (.iconst 1, 1) := by decide +kernel
theorem dX6_takesMark_61 : decode cX6_takesMark 61 = .ok (.iconst 0, 1) := by decide +kernel
theorem dX6_takesMark_62 : decode cX6_takesMark 62 = .ok (.invokevirtual 78, 3) := by decide +kernel
theorem dX6_takesMark_65 : decode cX6_takesMark 65 = .ok (.ireturn, 1) := by decide +kernel
theorem dX6_takesMark_66 : decode cX6_takesMark 66 = .ok (.iconst 0, 1) := by decide +kernel
theorem dX6_takesMark_67 : decode cX6_takesMark 67 = .ok (.ireturn, 1) := by decide +kernel
theorem dX6_isDigit_0 : decode cX6_isDigit 0 = .ok (.iload_n 0, 1) := by decide +kernel
theorem dX6_isDigit_1 : decode cX6_isDigit 1 = .ok (.bipush 48, 2) := by decide +kernel
theorem dX6_isDigit_3 : decode cX6_isDigit 3 = .ok (.if_icmp .lt 13, 3) := by decide +kernel
theorem dX6_isDigit_6 : decode cX6_isDigit 6 = .ok (.iload_n 0, 1) := by decide +kernel
theorem dX6_isDigit_7 : decode cX6_isDigit 7 = .ok (.bipush 57, 2) := by decide +kernel
theorem dX6_isDigit_9 : decode cX6_isDigit 9 = .ok (.if_icmp .gt 7, 3) := by decide +kernel
theorem dX6_isDigit_12 : decode cX6_isDigit 12 = .ok (.iconst 1, 1) := by decide +kernel
theorem dX6_isDigit_13 : decode cX6_isDigit 13 = .ok (.goto 4, 3) := by decide +kernel
theorem dX6_isDigit_16 : decode cX6_isDigit 16 = .ok (.iconst 0, 1) := by decide +kernel
theorem dX6_isDigit_17 : decode cX6_isDigit 17 = .ok (.ireturn, 1) := by decide +kernel
theorem dX6_isBehindLine_0 : decode cX6_isBehindLine 0 = .ok (.aload_n 0, 1) := by decide +kernel
theorem dX6_isBehindLine_1 : decode cX6_isBehindLine 1 = .ok (.getfield 15, 3) := by decide +kernel
theorem dX6_isBehindLine_4 : decode cX6_isBehindLine 4 = .ok (.iconst 4, 1) := by decide +kernel
theorem dX6_isBehindLine_5 : decode cX6_isBehindLine 5 = .ok (.if_icmp .eq 11, 3) := by decide +kernel
theorem dX6_isBehindLine_8 : decode cX6_isBehindLine 8 = .ok (.aload_n 0, 1) := by decide +kernel
theorem dX6_isBehindLine_9 : decode cX6_isBehindLine 9 = .ok (.getfield 15, 3) := by decide +kernel
theorem dX6_isBehindLine_12 : decode cX6_isBehindLine 12 = .ok (.iconst 5, 1) := by decide +kernel
theorem dX6_isBehindLine_13 : decode cX6_isBehindLine 13 = .ok (.if_icmp .ne 15, 3) := by decide +kernel
theorem dX6_isBehindLine_16 : decode cX6_isBehindLine 16 = .ok (.aload_n 0, 1) := by decide +kernel
theorem dX6_isBehindLine_17 : decode cX6_isBehindLine 17 = .ok (.getfield 22, 3) := by decide +kernel
theorem dX6_isBehindLine_20 : decode cX6_isBehindLine 20 = .ok (.iconst 2, 1) := by decide +kernel
theorem dX6_isBehindLine_21 : decode cX6_isBehindLine 21 = .ok (.if_icmp .ne 7, 3) := by decide +kernel
theorem dX6_isBehindLine_24 : decode cX6_isBehindLine 24 = .ok (.iconst 1, 1) := by decide +kernel
theorem dX6_isBehindLine_25 : decode cX6_isBehindLine 25 = .ok (.goto 4, 3) := by decide +kernel
theorem dX6_isBehindLine_28 : decode cX6_isBehindLine 28 = .ok (.iconst 0, 1) := by decide +kernel
theorem dX6_isBehindLine_29 : decode cX6_isBehindLine 29 = .ok (.ireturn, 1) := by decide +kernel
theorem dX6_endsValue_0 : decode cX6_endsValue 0 = .ok (.aload_n 0, 1) := by decide +kernel
theorem dX6_endsValue_1 : decode cX6_endsValue 1 = .ok (.invokevirtual 103, 3) := by decide +kernel
theorem dX6_endsValue_4 : decode cX6_endsValue 4 = .ok (.aload_n 0, 1) := by decide +kernel
theorem dX6_endsValue_5 : decode cX6_endsValue 5 = .ok (.dup, 1) := by decide +kernel
theorem dX6_endsValue_6 : decode cX6_endsValue 6 = .ok (.getfield 22, 3) := by decide +kernel
theorem dX6_endsValue_9 : decode cX6_endsValue 9 = .ok (.iconst 1, 1) := by decide +kernel
theorem dX6_endsValue_10 : decode cX6_endsValue 10 = .ok (.iadd, 1) := by decide +kernel
theorem dX6_endsValue_11 : decode cX6_endsValue 11 = .ok (.putfield 22, 3) := by decide +kernel
theorem dX6_endsValue_14 : decode cX6_endsValue 14 = .ok (.aload_n 0, 1) := by decide +kernel
theorem dX6_endsValue_15 : decode cX6_endsValue 15 = .ok (.iconst 1, 1) := by decide +kernel
theorem dX6_endsValue_16 : decode cX6_endsValue 16 = .ok (.iconst 3, 1) := by decide +kernel
theorem dX6_endsValue_17 : decode cX6_endsValue 17 = .ok (.invokevirtual 78, 3) := by decide +kernel
theorem dX6_endsValue_20 : decode cX6_endsValue 20 = .ok (.ireturn, 1) := by decide +kernel
theorem dX6_keepNumber_0 : decode cX6_keepNumber 0 = .ok (.aload_n 0, 1) := by decide +kernel
theorem dX6_keepNumber_1 : decode cX6_keepNumber 1 = .ok (.getfield 31, 3) := by decide +kernel
theorem dX6_keepNumber_4 : decode cX6_keepNumber 4 = .ok (.getfield 61, 3) := by decide +kernel
theorem dX6_keepNumber_7 : decode cX6_keepNumber 7 = .ok (.aload_n 0, 1) := by decide +kernel
theorem dX6_keepNumber_8 : decode cX6_keepNumber 8 = .ok (.getfield 19, 3) := by decide +kernel
theorem dX6_keepNumber_11 : decode cX6_keepNumber 11 = .ok (.aaload, 1) := by decide +kernel
theorem dX6_keepNumber_12 : decode cX6_keepNumber 12 = .ok (.getfield 67, 3) := by decide +kernel
theorem dX6_keepNumber_15 : decode cX6_keepNumber 15 = .ok (.aload_n 0, 1) := by decide +kernel
theorem dX6_keepNumber_16 : decode cX6_keepNumber 16 = .ok (.getfield 9, 3) := by decide +kernel
theorem dX6_keepNumber_19 : decode cX6_keepNumber 19 = .ok (.aload_n 0, 1) := by decide +kernel
theorem dX6_keepNumber_20 : decode cX6_keepNumber 20 = .ok (.getfield 19, 3) := by decide +kernel
theorem dX6_keepNumber_23 : decode cX6_keepNumber 23 = .ok (.iaload, 1) := by decide +kernel
theorem dX6_keepNumber_24 : decode cX6_keepNumber 24 = .ok (.iadd, 1) := by decide +kernel
theorem dX6_keepNumber_25 : decode cX6_keepNumber 25 = .ok (.istore_n 1, 1) := by decide +kernel
theorem dX6_keepNumber_26 : decode cX6_keepNumber 26 = .ok (.iload_n 1, 1) := by decide +kernel
theorem dX6_keepNumber_27 : decode cX6_keepNumber 27 = .ok (.bipush 16, 2) := by decide +kernel
theorem dX6_keepNumber_29 : decode cX6_keepNumber 29 = .ok (.if_icmp .ge 31, 3) := by decide +kernel
theorem dX6_keepNumber_32 : decode cX6_keepNumber 32 = .ok (.aload_n 0, 1) := by decide +kernel
theorem dX6_keepNumber_33 : decode cX6_keepNumber 33 = .ok (.getfield 31, 3) := by decide +kernel
theorem dX6_keepNumber_36 : decode cX6_keepNumber 36 = .ok (.getfield 61, 3) := by decide +kernel
theorem dX6_keepNumber_39 : decode cX6_keepNumber 39 = .ok (.aload_n 0, 1) := by decide +kernel
theorem dX6_keepNumber_40 : decode cX6_keepNumber 40 = .ok (.getfield 19, 3) := by decide +kernel
theorem dX6_keepNumber_43 : decode cX6_keepNumber 43 = .ok (.aaload, 1) := by decide +kernel
theorem dX6_keepNumber_44 : decode cX6_keepNumber 44 = .ok (.getfield 106, 3) := by decide +kernel
theorem dX6_keepNumber_47 : decode cX6_keepNumber 47 = .ok (.iload_n 1, 1) := by decide +kernel
theorem dX6_keepNumber_48 : decode cX6_keepNumber 48 = .ok (.iconst 3, 1) := by decide +kernel
theorem dX6_keepNumber_49 : decode cX6_keepNumber 49 = .ok (.imul, 1) := by decide +kernel
theorem dX6_keepNumber_50 : decode cX6_keepNumber 50 = .ok (.aload_n 0, 1) := by decide +kernel
theorem dX6_keepNumber_51 : decode cX6_keepNumber 51 = .ok (.getfield 22, 3) := by decide +kernel
theorem dX6_keepNumber_54 : decode cX6_keepNumber 54 = .ok (.iadd, 1) := by decide +kernel
theorem dX6_keepNumber_55 : decode cX6_keepNumber 55 = .ok (.aload_n 0, 1) := by decide +kernel
theorem dX6_keepNumber_56 : decode cX6_keepNumber 56 = .ok (.getfield 25, 3) := by decide +kernel
theorem dX6_keepNumber_59 : decode cX6_keepNumber 59 = .ok (.iastore, 1) := by decide +kernel
theorem dX6_keepNumber_60 : decode cX6_keepNumber 60 = .ok (.return_, 1) := by decide +kernel
theorem dX6_endLine_0 : decode cX6_endLine 0 = .ok (.aload_n 0, 1) := by decide +kernel
theorem dX6_endLine_1 : decode cX6_endLine 1 = .ok (.invokevirtual 103, 3) := by decide +kernel
theorem dX6_endLine_4 : decode cX6_endLine 4 = .ok (.aload_n 0, 1) := by decide +kernel
theorem dX6_endLine_5 : decode cX6_endLine 5 = .ok (.getfield 9, 3) := by decide +kernel
theorem dX6_endLine_8 : decode cX6_endLine 8 = .ok (.aload_n 0, 1) := by decide +kernel
theorem dX6_endLine_9 : decode cX6_endLine 9 = .ok (.getfield 19, 3) := by decide +kernel
theorem dX6_endLine_12 : decode cX6_endLine 12 = .ok (.dup2, 1) := by decide +kernel
theorem dX6_endLine_13 : decode cX6_endLine 13 = .ok (.iaload, 1) := by decide +kernel
theorem dX6_endLine_14 : decode cX6_endLine 14 = .ok (.iconst 1, 1) := by decide +kernel
theorem dX6_endLine_15 : decode cX6_endLine 15 = .ok (.iadd, 1) := by decide +kernel
theorem dX6_endLine_16 : decode cX6_endLine 16 = .ok (.iastore, 1) := by decide +kernel
theorem dX6_endLine_17 : decode cX6_endLine 17 = .ok (.return_, 1) := by decide +kernel
theorem dX6_endItem_0 : decode cX6_endItem 0 = .ok (.aload_n 0, 1) := by decide +kernel
theorem dX6_endItem_1 : decode cX6_endItem 1 = .ok (.invokevirtual 100, 3) := by decide +kernel
theorem dX6_endItem_4 : decode cX6_endItem 4 = .ok (.aload_n 0, 1) := by decide +kernel
theorem dX6_endItem_5 : decode cX6_endItem 5 = .ok (.dup, 1) := by decide +kernel
theorem dX6_endItem_6 : decode cX6_endItem 6 = .ok (.getfield 28, 3) := by decide +kernel
theorem dX6_endItem_9 : decode cX6_endItem 9 = .ok (.iconst 1, 1) := by decide +kernel
theorem dX6_endItem_10 : decode cX6_endItem 10 = .ok (.iadd, 1) := by decide +kernel
theorem dX6_endItem_11 : decode cX6_endItem 11 = .ok (.putfield 28, 3) := by decide +kernel
theorem dX6_endItem_14 : decode cX6_endItem 14 = .ok (.return_, 1) := by decide +kernel
theorem dX7_init_0 : decode cX7_init 0 = .ok (.aload_n 0, 1) := by decide +kernel
theorem dX7_init_1 : decode cX7_init 1 = .ok (.invokespecial 3, 3) := by decide +kernel
theorem dX7_init_4 : decode cX7_init 4 = .ok (.aload_n 0, 1) := by decide +kernel
theorem dX7_init_5 : decode cX7_init 5 = .ok (.new 9, 3) := by decide +kernel
theorem dX7_init_8 : decode cX7_init 8 = .ok (.dup, 1) := by decide +kernel
theorem dX7_init_9 : decode cX7_init 9 = .ok (.invokespecial 11, 3) := by decide +kernel
theorem dX7_init_12 : decode cX7_init 12 = .ok (.putfield 12, 3) := by decide +kernel
theorem dX7_init_15 : decode cX7_init 15 = .ok (.aload_n 0, 1) := by decide +kernel
theorem dX7_init_16 : decode cX7_init 16 = .ok (.iconst 5, 1) := by decide +kernel
theorem dX7_init_17 : decode cX7_init 17 = .ok (.newarray .float, 2) := by decide +kernel
theorem dX7_init_19 : decode cX7_init 19 = .ok (.putfield 18, 3) := by decide +kernel
theorem dX7_init_22 : decode cX7_init 22 = .ok (.aload_n 0, 1) := by decide +kernel
theorem dX7_init_23 : decode cX7_init 23 = .ok (.bipush 8, 2) := by decide +kernel
theorem dX7_init_25 : decode cX7_init 25 = .ok (.newarray .float, 2) := by decide +kernel
theorem dX7_init_27 : decode cX7_init 27 = .ok (.putfield 22, 3) := by decide +kernel
theorem dX7_init_30 : decode cX7_init 30 = .ok (.aload_n 0, 1) := by decide +kernel
theorem dX7_init_31 : decode cX7_init 31 = .ok (.aload_n 1, 1) := by decide +kernel
theorem dX7_init_32 : decode cX7_init 32 = .ok (.putfield 25, 3) := by decide +kernel
theorem dX7_init_35 : decode cX7_init 35 = .ok (.return_, 1) := by decide +kernel
theorem dX7_histogramOf_0 : decode cX7_histogramOf 0 = .ok (.aload_n 0, 1) := by decide +kernel
theorem dX7_histogramOf_1 : decode cX7_histogramOf 1 = .ok (.getfield 12, 3) := by decide +kernel
theorem dX7_histogramOf_4 : decode cX7_histogramOf 4 = .ok (.aload_n 0, 1) := by decide +kernel
theorem dX7_histogramOf_5 : decode cX7_histogramOf 5 = .ok (.getfield 25, 3) := by decide +kernel
theorem dX7_histogramOf_8 : decode cX7_histogramOf 8 = .ok (.getfield 29, 3) := by decide +kernel
theorem dX7_histogramOf_11 : decode cX7_histogramOf 11 = .ok (.iload_n 1, 1) := by decide +kernel
theorem dX7_histogramOf_12 : decode cX7_histogramOf 12 = .ok (.iconst 3, 1) := by decide +kernel
theorem dX7_histogramOf_13 : decode cX7_histogramOf 13 = .ok (.idiv, 1) := by decide +kernel
theorem dX7_histogramOf_14 : decode cX7_histogramOf 14 = .ok (.aaload, 1) := by decide +kernel
theorem dX7_histogramOf_15 : decode cX7_histogramOf 15 = .ok (.iload_n 1, 1) := by decide +kernel
theorem dX7_histogramOf_16 : decode cX7_histogramOf 16 = .ok (.iconst 3, 1) := by decide +kernel
theorem dX7_histogramOf_17 : decode cX7_histogramOf 17 = .ok (.irem, 1) := by decide +kernel
theorem dX7_histogramOf_18 : decode cX7_histogramOf 18 = .ok (.invokevirtual 35, 3) := by decide +kernel
theorem dX7_histogramOf_21 : decode cX7_histogramOf 21 = .ok (.aload_n 0, 1) := by decide +kernel
theorem dX7_histogramOf_22 : decode cX7_histogramOf 22 = .ok (.getfield 12, 3) := by decide +kernel
theorem dX7_histogramOf_25 : decode cX7_histogramOf 25 = .ok (.areturn, 1) := by decide +kernel
theorem dX7_shareOfJoin_0 : decode cX7_shareOfJoin 0 = .ok (.aload_n 0, 1) := by decide +kernel
theorem dX7_shareOfJoin_1 : decode cX7_shareOfJoin 1 = .ok (.aload_n 0, 1) := by decide +kernel
theorem dX7_shareOfJoin_2 : decode cX7_shareOfJoin 2 = .ok (.getfield 25, 3) := by decide +kernel
theorem dX7_shareOfJoin_5 : decode cX7_shareOfJoin 5 = .ok (.getfield 39, 3) := by decide +kernel
theorem dX7_shareOfJoin_8 : decode cX7_shareOfJoin 8 = .ok (.iload_n 1, 1) := by decide +kernel
theorem dX7_shareOfJoin_9 : decode cX7_shareOfJoin 9 = .ok (.iaload, 1) := by decide +kernel
theorem dX7_shareOfJoin_10 : decode cX7_shareOfJoin 10 = .ok (.invokevirtual 43, 3) := by decide +kernel
theorem dX7_shareOfJoin_13 : decode cX7_shareOfJoin 13 = .ok (.invokevirtual 47, 3) := by decide +kernel
theorem dX7_shareOfJoin_16 : decode cX7_shareOfJoin 16 = .ok (.istore_n 2, 1) := by decide +kernel
theorem dX7_shareOfJoin_17 : decode cX7_shareOfJoin 17 = .ok (.aload_n 0, 1) := by decide +kernel
theorem dX7_shareOfJoin_18 : decode cX7_shareOfJoin 18 = .ok (.aload_n 0, 1) := by decide +kernel
theorem dX7_shareOfJoin_19 : decode cX7_shareOfJoin 19 = .ok (.getfield 25, 3) := by decide +kernel
theorem dX7_shareOfJoin_22 : decode cX7_shareOfJoin 22 = .ok (.getfield 51, 3) := by decide +kernel
theorem dX7_shareOfJoin_25 : decode cX7_shareOfJoin 25 = .ok (.iload_n 1, 1) := by decide +kernel
theorem dX7_shareOfJoin_26 : decode cX7_shareOfJoin 26 = .ok (.iaload, 1) := by decide +kernel
theorem dX7_shareOfJoin_27 : decode cX7_shareOfJoin 27 = .ok (.invokevirtual 43, 3) := by decide +kernel
theorem dX7_shareOfJoin_30 : decode cX7_shareOfJoin 30 = .ok (.invokevirtual 47, 3) := by decide +kernel
theorem dX7_shareOfJoin_33 : decode cX7_shareOfJoin 33 = .ok (.istore_n 3, 1) := by decide +kernel
theorem dX7_shareOfJoin_34 : decode cX7_shareOfJoin 34 = .ok (.iload_n 2, 1) := by decide +kernel
theorem dX7_shareOfJoin_35 : decode cX7_shareOfJoin 35 = .ok (.iload_n 3, 1) := by decide +kernel
theorem dX7_shareOfJoin_36 : decode cX7_shareOfJoin 36 = .ok (.invokestatic 54, 3) := by decide +kernel
theorem dX7_shareOfJoin_39 : decode cX7_shareOfJoin 39 = .ok (.istore 4, 2) := by decide +kernel
theorem dX7_shareOfJoin_41 : decode cX7_shareOfJoin 41 = .ok (.iload 4, 2) := by decide +kernel
theorem dX7_shareOfJoin_43 : decode cX7_shareOfJoin 43 = .ok (.ifCond .ne 7, 3) := by decide +kernel
theorem dX7_shareOfJoin_46 : decode cX7_shareOfJoin 46 = .ok (.fconst 0, 1) := by decide +kernel
theorem dX7_shareOfJoin_47 : decode cX7_shareOfJoin 47 = .ok (.goto 8, 3) := by decide +kernel
theorem dX7_shareOfJoin_50 : decode cX7_shareOfJoin 50 = .ok (.fconst 1, 1) := by decide +kernel
theorem dX7_shareOfJoin_51 : decode cX7_shareOfJoin 51 = .ok (.iload 4, 2) := by decide +kernel
theorem dX7_shareOfJoin_53 : decode cX7_shareOfJoin 53 = .ok (.i2f, 1) := by decide +kernel
theorem dX7_shareOfJoin_54 : decode cX7_shareOfJoin 54 = .ok (.fdiv, 1) := by decide +kernel
theorem dX7_shareOfJoin_55 : decode cX7_shareOfJoin 55 = .ok (.freturn, 1) := by decide +kernel
theorem dX7_think_0 : decode cX7_think 0 = .ok (.iconst 0, 1) := by decide +kernel
theorem dX7_think_1 : decode cX7_think 1 = .ok (.istore_n 1, 1) := by decide +kernel
theorem dX7_think_2 : decode cX7_think 2 = .ok (.iload_n 1, 1) := by decide +kernel
theorem dX7_think_3 : decode cX7_think 3 = .ok (.iconst 5, 1) := by decide +kernel
theorem dX7_think_4 : decode cX7_think 4 = .ok (.if_icmp .ge 20, 3) := by decide +kernel
theorem dX7_think_7 : decode cX7_think 7 = .ok (.aload_n 0, 1) := by decide +kernel
theorem dX7_think_8 : decode cX7_think 8 = .ok (.getfield 18, 3) := by decide +kernel
theorem dX7_think_11 : decode cX7_think 11 = .ok (.iload_n 1, 1) := by decide +kernel
theorem dX7_think_12 : decode cX7_think 12 = .ok (.aload_n 0, 1) := by decide +kernel
theorem dX7_think_13 : decode cX7_think 13 = .ok (.iload_n 1, 1) := by decide +kernel
theorem dX7_think_14 : decode cX7_think 14 = .ok (.invokevirtual 60, 3) := by decide +kernel
theorem dX7_think_17 : decode cX7_think 17 = .ok (.fastore, 1) := by decide +kernel
theorem dX7_think_18 : decode cX7_think 18 = .ok (.iinc 1 1, 3) := by decide +kernel
theorem dX7_think_21 : decode cX7_think 21 = .ok (.goto (-19), 3) := by decide +kernel
theorem dX7_think_24 : decode cX7_think 24 = .ok (.iconst 0, 1) := by decide +kernel
theorem dX7_think_25 : decode cX7_think 25 = .ok (.istore_n 1, 1) := by decide +kernel
theorem dX7_think_26 : decode cX7_think 26 = .ok (.iload_n 1, 1) := by decide +kernel
theorem dX7_think_27 : decode cX7_think 27 = .ok (.aload_n 0, 1) := by decide +kernel
theorem dX7_think_28 : decode cX7_think 28 = .ok (.getfield 25, 3) := by decide +kernel
theorem dX7_think_31 : decode cX7_think 31 = .ok (.getfield 64, 3) := by decide +kernel
theorem dX7_think_34 : decode cX7_think 34 = .ok (.if_icmp .ge 20, 3) := by decide +kernel
theorem dX7_think_37 : decode cX7_think 37 = .ok (.aload_n 0, 1) := by decide +kernel
theorem dX7_think_38 : decode cX7_think 38 = .ok (.getfield 22, 3) := by decide +kernel
theorem dX7_think_41 : decode cX7_think 41 = .ok (.iload_n 1, 1) := by decide +kernel
theorem dX7_think_42 : decode cX7_think 42 = .ok (.aload_n 0, 1) := by decide +kernel
theorem dX7_think_43 : decode cX7_think 43 = .ok (.iload_n 1, 1) := by decide +kernel
theorem dX7_think_44 : decode cX7_think 44 = .ok (.invokevirtual 68, 3) := by decide +kernel
theorem dX7_think_47 : decode cX7_think 47 = .ok (.fastore, 1) := by decide +kernel
theorem dX7_think_48 : decode cX7_think 48 = .ok (.iinc 1 1, 3) := by decide +kernel
theorem dX7_think_51 : decode cX7_think 51 = .ok (.goto (-25), 3) := by decide +kernel
theorem dX7_think_54 : decode cX7_think 54 = .ok (.return_, 1) := by decide +kernel
theorem dX7_thoughtOfTable_0 : decode cX7_thoughtOfTable 0 = .ok (.aload_n 0, 1) := by decide +kernel
theorem dX7_thoughtOfTable_1 : decode cX7_thoughtOfTable 1 = .ok (.getfield 25, 3) := by decide +kernel
theorem dX7_thoughtOfTable_4 : decode cX7_thoughtOfTable 4 = .ok (.getfield 29, 3) := by decide +kernel
theorem dX7_thoughtOfTable_7 : decode cX7_thoughtOfTable 7 = .ok (.iload_n 1, 1) := by decide +kernel
theorem dX7_thoughtOfTable_8 : decode cX7_thoughtOfTable 8 = .ok (.aaload, 1) := by decide +kernel
theorem dX7_thoughtOfTable_9 : decode cX7_thoughtOfTable 9 = .ok (.getfield 71, 3) := by decide +kernel
theorem dX7_thoughtOfTable_12 : decode cX7_thoughtOfTable 12 = .ok (.i2f, 1) := by decide +kernel
theorem dX7_thoughtOfTable_13 : decode cX7_thoughtOfTable 13 = .ok (.fstore_n 2, 1) := by decide +kernel
theorem dX7_thoughtOfTable_14 : decode cX7_thoughtOfTable 14 = .ok (.iconst 0, 1) := by decide +kernel
theorem dX7_thoughtOfTable_15 : decode cX7_thoughtOfTable 15 = .ok (.istore_n 3, 1) := by decide +kernel
theorem dX7_thoughtOfTable_16 : decode cX7_thoughtOfTable 16 = .ok (.iload_n 3, 1) := by decide +kernel
theorem dX7_thoughtOfTable_17 : decode cX7_thoughtOfTable 17 = .ok (.aload_n 0, 1) := by decide +kernel
theorem dX7_thoughtOfTable_18 : decode cX7_thoughtOfTable 18 = .ok (.getfield 25, 3) := by decide +kernel
theorem dX7_thoughtOfTable_21 : decode cX7_thoughtOfTable 21 = .ok (.getfield 76, 3) := by decide +kernel
theorem dX7_thoughtOfTable_24 : decode cX7_thoughtOfTable 24 = .ok (.if_icmp .ge 58, 3) := by decide +kernel
theorem dX7_thoughtOfTable_27 : decode cX7_thoughtOfTable 27 = .ok (.aload_n 0, 1) := by decide +kernel
theorem dX7_thoughtOfTable_28 : decode cX7_thoughtOfTable 28 = .ok (.getfield 25, 3) := by decide +kernel
theorem dX7_thoughtOfTable_31 : decode cX7_thoughtOfTable 31 = .ok (.getfield 79, 3) := by decide +kernel
theorem dX7_thoughtOfTable_34 : decode cX7_thoughtOfTable 34 = .ok (.iload_n 3, 1) := by decide +kernel
theorem dX7_thoughtOfTable_35 : decode cX7_thoughtOfTable 35 = .ok (.iaload, 1) := by decide +kernel
theorem dX7_thoughtOfTable_36 : decode cX7_thoughtOfTable 36 = .ok (.istore 4, 2) := by decide +kernel
theorem dX7_thoughtOfTable_38 : decode cX7_thoughtOfTable 38 = .ok (.iload 4, 2) := by decide +kernel
theorem dX7_thoughtOfTable_40 : decode cX7_thoughtOfTable 40 = .ok (.iconst 3, 1) := by decide +kernel
theorem dX7_thoughtOfTable_41 : decode cX7_thoughtOfTable 41 = .ok (.idiv, 1) := by decide +kernel
theorem dX7_thoughtOfTable_42 : decode cX7_thoughtOfTable 42 = .ok (.iload_n 1, 1) := by decide +kernel
theorem dX7_thoughtOfTable_43 : decode cX7_thoughtOfTable 43 = .ok (.if_icmp .ne 33, 3) := by decide +kernel
theorem dX7_thoughtOfTable_46 : decode cX7_thoughtOfTable 46 = .ok (.fload_n 2, 1) := by decide +kernel
theorem dX7_thoughtOfTable_47 : decode cX7_thoughtOfTable 47 = .ok (.aload_n 0, 1) := by decide +kernel
theorem dX7_thoughtOfTable_48 : decode cX7_thoughtOfTable 48 = .ok (.iload 4, 2) := by decide +kernel
theorem dX7_thoughtOfTable_50 : decode cX7_thoughtOfTable 50 = .ok (.invokevirtual 43, 3) := by decide +kernel
theorem dX7_thoughtOfTable_53 : decode cX7_thoughtOfTable 53 = .ok (.aload_n 0, 1) := by decide +kernel
theorem dX7_thoughtOfTable_54 : decode cX7_thoughtOfTable 54 = .ok (.getfield 25, 3) := by decide +kernel
theorem dX7_thoughtOfTable_57 : decode cX7_thoughtOfTable 57 = .ok (.getfield 82, 3) := by decide +kernel
theorem dX7_thoughtOfTable_60 : decode cX7_thoughtOfTable 60 = .ok (.iload_n 3, 1) := by decide +kernel
theorem dX7_thoughtOfTable_61 : decode cX7_thoughtOfTable 61 = .ok (.iaload, 1) := by decide +kernel
theorem dX7_thoughtOfTable_62 : decode cX7_thoughtOfTable 62 = .ok (.aload_n 0, 1) := by decide +kernel
theorem dX7_thoughtOfTable_63 : decode cX7_thoughtOfTable 63 = .ok (.getfield 25, 3) := by decide +kernel
theorem dX7_thoughtOfTable_66 : decode cX7_thoughtOfTable 66 = .ok (.getfield 85, 3) := by decide +kernel
theorem dX7_thoughtOfTable_69 : decode cX7_thoughtOfTable 69 = .ok (.iload_n 3, 1) := by decide +kernel
theorem dX7_thoughtOfTable_70 : decode cX7_thoughtOfTable 70 = .ok (.iaload, 1) := by decide +kernel
theorem dX7_thoughtOfTable_71 : decode cX7_thoughtOfTable 71 = .ok (.invokevirtual 88, 3) := by decide +kernel
theorem dX7_thoughtOfTable_74 : decode cX7_thoughtOfTable 74 = .ok (.fmul, 1) := by decide +kernel
theorem dX7_thoughtOfTable_75 : decode cX7_thoughtOfTable 75 = .ok (.fstore_n 2, 1) := by decide +kernel
theorem dX7_thoughtOfTable_76 : decode cX7_thoughtOfTable 76 = .ok (.iinc 3 1, 3) := by decide +kernel
theorem dX7_thoughtOfTable_79 : decode cX7_thoughtOfTable 79 = .ok (.goto (-63), 3) := by decide +kernel
theorem dX7_thoughtOfTable_82 : decode cX7_thoughtOfTable 82 = .ok (.fload_n 2, 1) := by decide +kernel
theorem dX7_thoughtOfTable_83 : decode cX7_thoughtOfTable 83 = .ok (.freturn, 1) := by decide +kernel
theorem dX7_thoughtOf_0 : decode cX7_thoughtOf 0 = .ok (.fconst 1, 1) := by decide +kernel
theorem dX7_thoughtOf_1 : decode cX7_thoughtOf 1 = .ok (.fstore_n 2, 1) := by decide +kernel
theorem dX7_thoughtOf_2 : decode cX7_thoughtOf 2 = .ok (.iconst 0, 1) := by decide +kernel
theorem dX7_thoughtOf_3 : decode cX7_thoughtOf 3 = .ok (.istore_n 3, 1) := by decide +kernel
theorem dX7_thoughtOf_4 : decode cX7_thoughtOf 4 = .ok (.iload_n 3, 1) := by decide +kernel
theorem dX7_thoughtOf_5 : decode cX7_thoughtOf 5 = .ok (.iconst 5, 1) := by decide +kernel
theorem dX7_thoughtOf_6 : decode cX7_thoughtOf 6 = .ok (.if_icmp .ge 27, 3) := by decide +kernel
theorem dX7_thoughtOf_9 : decode cX7_thoughtOf 9 = .ok (.iload_n 1, 1) := by decide +kernel
theorem dX7_thoughtOf_10 : decode cX7_thoughtOf 10 = .ok (.iload_n 3, 1) := by decide +kernel
theorem dX7_thoughtOf_11 : decode cX7_thoughtOf 11 = .ok (.ishr, 1) := by decide +kernel
theorem dX7_thoughtOf_12 : decode cX7_thoughtOf 12 = .ok (.iconst 1, 1) := by decide +kernel
theorem dX7_thoughtOf_13 : decode cX7_thoughtOf 13 = .ok (.iand, 1) := by decide +kernel
theorem dX7_thoughtOf_14 : decode cX7_thoughtOf 14 = .ok (.iconst 1, 1) := by decide +kernel
theorem dX7_thoughtOf_15 : decode cX7_thoughtOf 15 = .ok (.if_icmp .ne 12, 3) := by decide +kernel
theorem dX7_thoughtOf_18 : decode cX7_thoughtOf 18 = .ok (.fload_n 2, 1) := by decide +kernel
theorem dX7_thoughtOf_19 : decode cX7_thoughtOf 19 = .ok (.aload_n 0, 1) := by decide +kernel
theorem dX7_thoughtOf_20 : decode cX7_thoughtOf 20 = .ok (.getfield 18, 3) := by decide +kernel
theorem dX7_thoughtOf_23 : decode cX7_thoughtOf 23 = .ok (.iload_n 3, 1) := by decide +kernel
theorem dX7_thoughtOf_24 : decode cX7_thoughtOf 24 = .ok (.faload, 1) := by decide +kernel
theorem dX7_thoughtOf_25 : decode cX7_thoughtOf 25 = .ok (.fmul, 1) := by decide +kernel
theorem dX7_thoughtOf_26 : decode cX7_thoughtOf 26 = .ok (.fstore_n 2, 1) := by decide +kernel
theorem dX7_thoughtOf_27 : decode cX7_thoughtOf 27 = .ok (.iinc 3 1, 3) := by decide +kernel
theorem dX7_thoughtOf_30 : decode cX7_thoughtOf 30 = .ok (.goto (-26), 3) := by decide +kernel
theorem dX7_thoughtOf_33 : decode cX7_thoughtOf 33 = .ok (.iconst 0, 1) := by decide +kernel
theorem dX7_thoughtOf_34 : decode cX7_thoughtOf 34 = .ok (.istore_n 3, 1) := by decide +kernel
theorem dX7_thoughtOf_35 : decode cX7_thoughtOf 35 = .ok (.iload_n 3, 1) := by decide +kernel
theorem dX7_thoughtOf_36 : decode cX7_thoughtOf 36 = .ok (.aload_n 0, 1) := by decide +kernel
theorem dX7_thoughtOf_37 : decode cX7_thoughtOf 37 = .ok (.getfield 25, 3) := by decide +kernel
theorem dX7_thoughtOf_40 : decode cX7_thoughtOf 40 = .ok (.getfield 64, 3) := by decide +kernel
theorem dX7_thoughtOf_43 : decode cX7_thoughtOf 43 = .ok (.if_icmp .ge 30, 3) := by decide +kernel
theorem dX7_thoughtOf_46 : decode cX7_thoughtOf 46 = .ok (.aload_n 0, 1) := by decide +kernel
theorem dX7_thoughtOf_47 : decode cX7_thoughtOf 47 = .ok (.getfield 25, 3) := by decide +kernel
theorem dX7_thoughtOf_50 : decode cX7_thoughtOf 50 = .ok (.iload_n 1, 1) := by decide +kernel
theorem dX7_thoughtOf_51 : decode cX7_thoughtOf 51 = .ok (.iload_n 3, 1) := by decide +kernel
theorem dX7_thoughtOf_52 : decode cX7_thoughtOf 52 = .ok (.invokevirtual 92, 3) := by decide +kernel
theorem dX7_thoughtOf_55 : decode cX7_thoughtOf 55 = .ok (.ifCond .eq 12, 3) := by decide +kernel
theorem dX7_thoughtOf_58 : decode cX7_thoughtOf 58 = .ok (.fload_n 2, 1) := by decide +kernel
theorem dX7_thoughtOf_59 : decode cX7_thoughtOf 59 = .ok (.aload_n 0, 1) := by decide +kernel
theorem dX7_thoughtOf_60 : decode cX7_thoughtOf 60 = .ok (.getfield 22, 3) := by decide +kernel
theorem dX7_thoughtOf_63 : decode cX7_thoughtOf 63 = .ok (.iload_n 3, 1) := by decide +kernel
theorem dX7_thoughtOf_64 : decode cX7_thoughtOf 64 = .ok (.faload, 1) := by decide +kernel
theorem dX7_thoughtOf_65 : decode cX7_thoughtOf 65 = .ok (.fmul, 1) := by decide +kernel
theorem dX7_thoughtOf_66 : decode cX7_thoughtOf 66 = .ok (.fstore_n 2, 1) := by decide +kernel
theorem dX7_thoughtOf_67 : decode cX7_thoughtOf 67 = .ok (.iinc 3 1, 3) := by decide +kernel
theorem dX7_thoughtOf_70 : decode cX7_thoughtOf 70 = .ok (.goto (-35), 3) := by decide +kernel
theorem dX7_thoughtOf_73 : decode cX7_thoughtOf 73 = .ok (.fload_n 2, 1) := by decide +kernel
theorem dX7_thoughtOf_74 : decode cX7_thoughtOf 74 = .ok (.freturn, 1) := by decide +kernel
theorem dX8_init_0 : decode cX8_init 0 = .ok (.aload_n 0, 1) := by decide +kernel
theorem dX8_init_1 : decode cX8_init 1 = .ok (.invokespecial 3, 3) := by decide +kernel
theorem dX8_init_4 : decode cX8_init 4 = .ok (.aload_n 0, 1) := by decide +kernel
theorem dX8_init_5 : decode cX8_init 5 = .ok (.iconst 5, 1) := by decide +kernel
theorem dX8_init_6 : decode cX8_init 6 = .ok (.anewarray 9, 3) := by decide +kernel
theorem dX8_init_9 : decode cX8_init 9 = .ok (.putfield 11, 3) := by decide +kernel
theorem dX8_init_12 : decode cX8_init 12 = .ok (.aload_n 0, 1) := by decide +kernel
theorem dX8_init_13 : decode cX8_init 13 = .ok (.bipush 8, 2) := by decide +kernel
theorem dX8_init_15 : decode cX8_init 15 = .ok (.newarray .int, 2) := by decide +kernel
theorem dX8_init_17 : decode cX8_init 17 = .ok (.putfield 17, 3) := by decide +kernel
theorem dX8_init_20 : decode cX8_init 20 = .ok (.aload_n 0, 1) := by decide +kernel
theorem dX8_init_21 : decode cX8_init 21 = .ok (.bipush 8, 2) := by decide +kernel
theorem dX8_init_23 : decode cX8_init 23 = .ok (.newarray .int, 2) := by decide +kernel
theorem dX8_init_25 : decode cX8_init 25 = .ok (.putfield 21, 3) := by decide +kernel
theorem dX8_init_28 : decode cX8_init 28 = .ok (.aload_n 0, 1) := by decide +kernel
theorem dX8_init_29 : decode cX8_init 29 = .ok (.bipush 8, 2) := by decide +kernel
theorem dX8_init_31 : decode cX8_init 31 = .ok (.newarray .int, 2) := by decide +kernel
theorem dX8_init_33 : decode cX8_init 33 = .ok (.putfield 24, 3) := by decide +kernel
theorem dX8_init_36 : decode cX8_init 36 = .ok (.aload_n 0, 1) := by decide +kernel
theorem dX8_init_37 : decode cX8_init 37 = .ok (.iconst 0, 1) := by decide +kernel
theorem dX8_init_38 : decode cX8_init 38 = .ok (.putfield 27, 3) := by decide +kernel
theorem dX8_init_41 : decode cX8_init 41 = .ok (.aload_n 0, 1) := by decide +kernel
theorem dX8_init_42 : decode cX8_init 42 = .ok (.bipush 8, 2) := by decide +kernel
theorem dX8_init_44 : decode cX8_init 44 = .ok (.newarray .int, 2) := by decide +kernel
theorem dX8_init_46 : decode cX8_init 46 = .ok (.putfield 31, 3) := by decide +kernel
theorem dX8_init_49 : decode cX8_init 49 = .ok (.aload_n 0, 1) := by decide +kernel
theorem dX8_init_50 : decode cX8_init 50 = .ok (.bipush 8, 2) := by decide +kernel
theorem dX8_init_52 : decode cX8_init 52 = .ok (.newarray .int, 2) := by decide +kernel
theorem dX8_init_54 : decode cX8_init 54 = .ok (.putfield 34, 3) := by decide +kernel
theorem dX8_init_57 : decode cX8_init 57 = .ok (.aload_n 0, 1) := by decide +kernel
theorem dX8_init_58 : decode cX8_init 58 = .ok (.iconst 0, 1) := by decide +kernel
theorem dX8_init_59 : decode cX8_init 59 = .ok (.putfield 37, 3) := by decide +kernel
theorem dX8_init_62 : decode cX8_init 62 = .ok (.aload_n 0, 1) := by decide +kernel
theorem dX8_init_63 : decode cX8_init 63 = .ok (.iconst 1, 1) := by decide +kernel
theorem dX8_init_64 : decode cX8_init 64 = .ok (.putfield 40, 3) := by decide +kernel
theorem dX8_init_67 : decode cX8_init 67 = .ok (.iconst 0, 1) := by decide +kernel
theorem dX8_init_68 : decode cX8_init 68 = .ok (.istore_n 1, 1) := by decide +kernel
theorem dX8_init_69 : decode cX8_init 69 = .ok (.iload_n 1, 1) := by decide +kernel
theorem dX8_init_70 : decode cX8_init 70 = .ok (.iconst 5, 1) := by decide +kernel
theorem dX8_init_71 : decode cX8_init 71 = .ok (.if_icmp .ge 22, 3) := by decide +kernel
theorem dX8_init_74 : decode cX8_init 74 = .ok (.aload_n 0, 1) := by decide +kernel
theorem dX8_init_75 : decode cX8_init 75 = .ok (.getfield 11, 3) := by decide +kernel
theorem dX8_init_78 : decode cX8_init 78 = .ok (.iload_n 1, 1) := by decide +kernel
theorem dX8_init_79 : decode cX8_init 79 = .ok (.new 9, 3) := by decide +kernel
theorem dX8_init_82 : decode cX8_init 82 = .ok (.dup, 1) := by decide +kernel
theorem dX8_init_83 : decode cX8_init 83 = .ok (.invokespecial 43, 3) := by decide +kernel
theorem dX8_init_86 : decode cX8_init 86 = .ok (.aastore, 1) := by decide +kernel
theorem dX8_init_87 : decode cX8_init 87 = .ok (.iinc 1 1, 3) := by decide +kernel
theorem dX8_init_90 : decode cX8_init 90 = .ok (.goto (-21), 3) := by decide +kernel
theorem dX8_init_93 : decode cX8_init 93 = .ok (.return_, 1) := by decide +kernel
theorem dX8_addFilter_0 : decode cX8_addFilter 0 = .ok (.aload_n 0, 1) := by decide +kernel
theorem dX8_addFilter_1 : decode cX8_addFilter 1 = .ok (.getfield 27, 3) := by decide +kernel
theorem dX8_addFilter_4 : decode cX8_addFilter 4 = .ok (.bipush 8, 2) := by decide +kernel
theorem dX8_addFilter_6 : decode cX8_addFilter 6 = .ok (.if_icmp .ge 43, 3) := by decide +kernel
theorem dX8_addFilter_9 : decode cX8_addFilter 9 = .ok (.aload_n 0, 1) := by decide +kernel
theorem dX8_addFilter_10 : decode cX8_addFilter 10 = .ok (.getfield 17, 3) := by decide +kernel
theorem dX8_addFilter_13 : decode cX8_addFilter 13 = .ok (.aload_n 0, 1) := by decide +kernel
theorem dX8_addFilter_14 : decode cX8_addFilter 14 = .ok (.getfield 27, 3) := by decide +kernel
theorem dX8_addFilter_17 : decode cX8_addFilter 17 = .ok (.iload_n 1, 1) := by decide +kernel
theorem dX8_addFilter_18 : decode cX8_addFilter 18 = .ok (.iastore, 1) := by decide +kernel
theorem dX8_addFilter_19 : decode cX8_addFilter 19 = .ok (.aload_n 0, 1) := by decide +kernel
theorem dX8_addFilter_20 : decode cX8_addFilter 20 = .ok (.getfield 21, 3) := by decide +kernel
theorem dX8_addFilter_23 : decode cX8_addFilter 23 = .ok (.aload_n 0, 1) := by decide +kernel
theorem dX8_addFilter_24 : decode cX8_addFilter 24 = .ok (.getfield 27, 3) := by decide +kernel
theorem dX8_addFilter_27 : decode cX8_addFilter 27 = .ok (.iload_n 2, 1) := by decide +kernel
theorem dX8_addFilter_28 : decode cX8_addFilter 28 = .ok (.iastore, 1) := by decide +kernel
theorem dX8_addFilter_29 : decode cX8_addFilter 29 = .ok (.aload_n 0, 1) := by decide +kernel
theorem dX8_addFilter_30 : decode cX8_addFilter 30 = .ok (.getfield 24, 3) := by decide +kernel
theorem dX8_addFilter_33 : decode cX8_addFilter 33 = .ok (.aload_n 0, 1) := by decide +kernel
theorem dX8_addFilter_34 : decode cX8_addFilter 34 = .ok (.getfield 27, 3) := by decide +kernel
theorem dX8_addFilter_37 : decode cX8_addFilter 37 = .ok (.iload_n 3, 1) := by decide +kernel
theorem dX8_addFilter_38 : decode cX8_addFilter 38 = .ok (.iastore, 1) := by decide +kernel
theorem dX8_addFilter_39 : decode cX8_addFilter 39 = .ok (.aload_n 0, 1) := by decide +kernel
theorem dX8_addFilter_40 : decode cX8_addFilter 40 = .ok (.dup, 1) := by decide +kernel
theorem dX8_addFilter_41 : decode cX8_addFilter 41 = .ok (.getfield 27, 3) := by decide +kernel
theorem dX8_addFilter_44 : decode cX8_addFilter 44 = .ok (.iconst 1, 1) := by decide +kernel
theorem dX8_addFilter_45 : decode cX8_addFilter 45 = .ok (.iadd, 1) := by decide +kernel
theorem dX8_addFilter_46 : decode cX8_addFilter 46 = .ok (.putfield 27, 3) := by decide +kernel
theorem dX8_addFilter_49 : decode cX8_addFilter 49 = .ok (.return_, 1) := by decide +kernel
theorem dX8_addJoin_0 : decode cX8_addJoin 0 = .ok (.aload_n 0, 1) := by decide +kernel
theorem dX8_addJoin_1 : decode cX8_addJoin 1 = .ok (.getfield 37, 3) := by decide +kernel
theorem dX8_addJoin_4 : decode cX8_addJoin 4 = .ok (.bipush 8, 2) := by decide +kernel
theorem dX8_addJoin_6 : decode cX8_addJoin 6 = .ok (.if_icmp .ge 33, 3) := by decide +kernel
theorem dX8_addJoin_9 : decode cX8_addJoin 9 = .ok (.aload_n 0, 1) := by decide +kernel
theorem dX8_addJoin_10 : decode cX8_addJoin 10 = .ok (.getfield 31, 3) := by decide +kernel
theorem dX8_addJoin_13 : decode cX8_addJoin 13 = .ok (.aload_n 0, 1) := by decide +kernel
theorem dX8_addJoin_14 : decode cX8_addJoin 14 = .ok (.getfield 37, 3) := by decide +kernel
theorem dX8_addJoin_17 : decode cX8_addJoin 17 = .ok (.iload_n 1, 1) := by decide +kernel
theorem dX8_addJoin_18 : decode cX8_addJoin 18 = .ok (.iastore, 1) := by decide +kernel
theorem dX8_addJoin_19 : decode cX8_addJoin 19 = .ok (.aload_n 0, 1) := by decide +kernel
theorem dX8_addJoin_20 : decode cX8_addJoin 20 = .ok (.getfield 34, 3) := by decide +kernel
theorem dX8_addJoin_23 : decode cX8_addJoin 23 = .ok (.aload_n 0, 1) := by decide +kernel
theorem dX8_addJoin_24 : decode cX8_addJoin 24 = .ok (.getfield 37, 3) := by decide +kernel
theorem dX8_addJoin_27 : decode cX8_addJoin 27 = .ok (.iload_n 2, 1) := by decide +kernel
theorem dX8_addJoin_28 : decode cX8_addJoin 28 = .ok (.iastore, 1) := by decide +kernel
theorem dX8_addJoin_29 : decode cX8_addJoin 29 = .ok (.aload_n 0, 1) := by decide +kernel
theorem dX8_addJoin_30 : decode cX8_addJoin 30 = .ok (.dup, 1) := by decide +kernel
theorem dX8_addJoin_31 : decode cX8_addJoin 31 = .ok (.getfield 37, 3) := by decide +kernel
theorem dX8_addJoin_34 : decode cX8_addJoin 34 = .ok (.iconst 1, 1) := by decide +kernel
theorem dX8_addJoin_35 : decode cX8_addJoin 35 = .ok (.iadd, 1) := by decide +kernel
theorem dX8_addJoin_36 : decode cX8_addJoin 36 = .ok (.putfield 37, 3) := by decide +kernel
theorem dX8_addJoin_39 : decode cX8_addJoin 39 = .ok (.return_, 1) := by decide +kernel
theorem dX8_hasWithin_0 : decode cX8_hasWithin 0 = .ok (.iload_n 1, 1) := by decide +kernel
theorem dX8_hasWithin_1 : decode cX8_hasWithin 1 = .ok (.aload_n 0, 1) := by decide +kernel
theorem dX8_hasWithin_2 : decode cX8_hasWithin 2 = .ok (.getfield 31, 3) := by decide +kernel
theorem dX8_hasWithin_5 : decode cX8_hasWithin 5 = .ok (.iload_n 2, 1) := by decide +kernel
theorem dX8_hasWithin_6 : decode cX8_hasWithin 6 = .ok (.iaload, 1) := by decide +kernel
theorem dX8_hasWithin_7 : decode cX8_hasWithin 7 = .ok (.invokestatic 44, 3) := by decide +kernel
theorem dX8_hasWithin_10 : decode cX8_hasWithin 10 = .ok (.ifCond .eq 20, 3) := by decide +kernel
theorem dX8_hasWithin_13 : decode cX8_hasWithin 13 = .ok (.iload_n 1, 1) := by decide +kernel
theorem dX8_hasWithin_14 : decode cX8_hasWithin 14 = .ok (.aload_n 0, 1) := by decide +kernel
theorem dX8_hasWithin_15 : decode cX8_hasWithin 15 = .ok (.getfield 34, 3) := by decide +kernel
theorem dX8_hasWithin_18 : decode cX8_hasWithin 18 = .ok (.iload_n 2, 1) := by decide +kernel
theorem dX8_hasWithin_19 : decode cX8_hasWithin 19 = .ok (.iaload, 1) := by decide +kernel
theorem dX8_hasWithin_20 : decode cX8_hasWithin 20 = .ok (.invokestatic 44, 3) := by decide +kernel
theorem dX8_hasWithin_23 : decode cX8_hasWithin 23 = .ok (.ifCond .eq 7, 3) := by decide +kernel
theorem dX8_hasWithin_26 : decode cX8_hasWithin 26 = .ok (.iconst 1, 1) := by decide +kernel
theorem dX8_hasWithin_27 : decode cX8_hasWithin 27 = .ok (.goto 4, 3) := by decide +kernel
theorem dX8_hasWithin_30 : decode cX8_hasWithin 30 = .ok (.iconst 0, 1) := by decide +kernel
theorem dX8_hasWithin_31 : decode cX8_hasWithin 31 = .ok (.ireturn, 1) := by decide +kernel
theorem dX8_placeIn_0 : decode cX8_placeIn 0 = .ok (.iload_n 1, 1) := by decide +kernel
theorem dX8_placeIn_1 : decode cX8_placeIn 1 = .ok (.aload_n 0, 1) := by decide +kernel
theorem dX8_placeIn_2 : decode cX8_placeIn 2 = .ok (.getfield 31, 3) := by decide +kernel
theorem dX8_placeIn_5 : decode cX8_placeIn 5 = .ok (.iload_n 2, 1) := by decide +kernel
theorem dX8_placeIn_6 : decode cX8_placeIn 6 = .ok (.iaload, 1) := by decide +kernel
theorem dX8_placeIn_7 : decode cX8_placeIn 7 = .ok (.invokestatic 44, 3) := by decide +kernel
theorem dX8_placeIn_10 : decode cX8_placeIn 10 = .ok (.ifCond .eq 12, 3) := by decide +kernel
theorem dX8_placeIn_13 : decode cX8_placeIn 13 = .ok (.aload_n 0, 1) := by decide +kernel
theorem dX8_placeIn_14 : decode cX8_placeIn 14 = .ok (.getfield 31, 3) := by decide +kernel
theorem dX8_placeIn_17 : decode cX8_placeIn 17 = .ok (.iload_n 2, 1) := by decide +kernel
theorem dX8_placeIn_18 : decode cX8_placeIn 18 = .ok (.iaload, 1) := by decide +kernel
theorem dX8_placeIn_19 : decode cX8_placeIn 19 = .ok (.goto 9, 3) := by decide +kernel
theorem dX8_placeIn_22 : decode cX8_placeIn 22 = .ok (.aload_n 0, 1) := by decide +kernel
theorem dX8_placeIn_23 : decode cX8_placeIn 23 = .ok (.getfield 34, 3) := by decide +kernel
theorem dX8_placeIn_26 : decode cX8_placeIn 26 = .ok (.iload_n 2, 1) := by decide +kernel
theorem dX8_placeIn_27 : decode cX8_placeIn 27 = .ok (.iaload, 1) := by decide +kernel
theorem dX8_placeIn_28 : decode cX8_placeIn 28 = .ok (.ireturn, 1) := by decide +kernel
theorem dX8_allLines_0 : decode cX8_allLines 0 = .ok (.iconst 0, 1) := by decide +kernel
theorem dX8_allLines_1 : decode cX8_allLines 1 = .ok (.istore_n 1, 1) := by decide +kernel
theorem dX8_allLines_2 : decode cX8_allLines 2 = .ok (.iconst 0, 1) := by decide +kernel
theorem dX8_allLines_3 : decode cX8_allLines 3 = .ok (.istore_n 2, 1) := by decide +kernel
theorem dX8_allLines_4 : decode cX8_allLines 4 = .ok (.iload_n 2, 1) := by decide +kernel
theorem dX8_allLines_5 : decode cX8_allLines 5 = .ok (.iconst 5, 1) := by decide +kernel
theorem dX8_allLines_6 : decode cX8_allLines 6 = .ok (.if_icmp .ge 21, 3) := by decide +kernel
theorem dX8_allLines_9 : decode cX8_allLines 9 = .ok (.iload_n 1, 1) := by decide +kernel
theorem dX8_allLines_10 : decode cX8_allLines 10 = .ok (.aload_n 0, 1) := by decide +kernel
theorem dX8_allLines_11 : decode cX8_allLines 11 = .ok (.getfield 11, 3) := by decide +kernel
theorem dX8_allLines_14 : decode cX8_allLines 14 = .ok (.iload_n 2, 1) := by decide +kernel
theorem dX8_allLines_15 : decode cX8_allLines 15 = .ok (.aaload, 1) := by decide +kernel
theorem dX8_allLines_16 : decode cX8_allLines 16 = .ok (.getfield 48, 3) := by decide +kernel
theorem dX8_allLines_19 : decode cX8_allLines 19 = .ok (.iadd, 1) := by decide +kernel
theorem dX8_allLines_20 : decode cX8_allLines 20 = .ok (.istore_n 1, 1) := by decide +kernel
theorem dX8_allLines_21 : decode cX8_allLines 21 = .ok (.iinc 2 1, 3) := by decide +kernel
theorem dX8_allLines_24 : decode cX8_allLines 24 = .ok (.goto (-20), 3) := by decide +kernel
theorem dX8_allLines_27 : decode cX8_allLines 27 = .ok (.iload_n 1, 1) := by decide +kernel
theorem dX8_allLines_28 : decode cX8_allLines 28 = .ok (.ireturn, 1) := by decide +kernel
theorem dX8_drawBelow_0 : decode cX8_drawBelow 0 = .ok (.aload_n 0, 1) := by decide +kernel
theorem dX8_drawBelow_1 : decode cX8_drawBelow 1 = .ok (.aload_n 0, 1) := by decide +kernel
theorem dX8_drawBelow_2 : decode cX8_drawBelow 2 = .ok (.getfield 40, 3) := by decide +kernel
theorem dX8_drawBelow_5 : decode cX8_drawBelow 5 = .ok (.ldc 51, 2) := by decide +kernel
theorem dX8_drawBelow_7 : decode cX8_drawBelow 7 = .ok (.imul, 1) := by decide +kernel
theorem dX8_drawBelow_8 : decode cX8_drawBelow 8 = .ok (.sipush 12345, 3) := by decide +kernel
theorem dX8_drawBelow_11 : decode cX8_drawBelow 11 = .ok (.iadd, 1) := by decide +kernel
theorem dX8_drawBelow_12 : decode cX8_drawBelow 12 = .ok (.putfield 40, 3) := by decide +kernel
theorem dX8_drawBelow_15 : decode cX8_drawBelow 15 = .ok (.aload_n 0, 1) := by decide +kernel
theorem dX8_drawBelow_16 : decode cX8_drawBelow 16 = .ok (.getfield 40, 3) := by decide +kernel
theorem dX8_drawBelow_19 : decode cX8_drawBelow 19 = .ok (.bipush 16, 2) := by decide +kernel
theorem dX8_drawBelow_21 : decode cX8_drawBelow 21 = .ok (.iushr, 1) := by decide +kernel
theorem dX8_drawBelow_22 : decode cX8_drawBelow 22 = .ok (.iload_n 1, 1) := by decide +kernel
theorem dX8_drawBelow_23 : decode cX8_drawBelow 23 = .ok (.irem, 1) := by decide +kernel
theorem dX8_drawBelow_24 : decode cX8_drawBelow 24 = .ok (.ireturn, 1) := by decide +kernel
theorem dX8_drawLine_0 : decode cX8_drawLine 0 = .ok (.aload_n 0, 1) := by decide +kernel
theorem dX8_drawLine_1 : decode cX8_drawLine 1 = .ok (.getfield 11, 3) := by decide +kernel
theorem dX8_drawLine_4 : decode cX8_drawLine 4 = .ok (.aload_n 0, 1) := by decide +kernel
theorem dX8_drawLine_5 : decode cX8_drawLine 5 = .ok (.iconst 5, 1) := by decide +kernel
theorem dX8_drawLine_6 : decode cX8_drawLine 6 = .ok (.invokevirtual 52, 3) := by decide +kernel
theorem dX8_drawLine_9 : decode cX8_drawLine 9 = .ok (.aaload, 1) := by decide +kernel
theorem dX8_drawLine_10 : decode cX8_drawLine 10 = .ok (.astore_n 1, 1) := by decide +kernel
theorem dX8_drawLine_11 : decode cX8_drawLine 11 = .ok (.aload_n 0, 1) := by decide +kernel
theorem dX8_drawLine_12 : decode cX8_drawLine 12 = .ok (.bipush 20, 2) := by decide +kernel
theorem dX8_drawLine_14 : decode cX8_drawLine 14 = .ok (.invokevirtual 52, 3) := by decide +kernel
theorem dX8_drawLine_17 : decode cX8_drawLine 17 = .ok (.istore_n 2, 1) := by decide +kernel
theorem dX8_drawLine_18 : decode cX8_drawLine 18 = .ok (.aload_n 0, 1) := by decide +kernel
theorem dX8_drawLine_19 : decode cX8_drawLine 19 = .ok (.bipush 20, 2) := by decide +kernel
theorem dX8_drawLine_21 : decode cX8_drawLine 21 = .ok (.invokevirtual 52, 3) := by decide +kernel
theorem dX8_drawLine_24 : decode cX8_drawLine 24 = .ok (.istore_n 3, 1) := by decide +kernel
theorem dX8_drawLine_25 : decode cX8_drawLine 25 = .ok (.aload_n 0, 1) := by decide +kernel
theorem dX8_drawLine_26 : decode cX8_drawLine 26 = .ok (.bipush 20, 2) := by decide +kernel
theorem dX8_drawLine_28 : decode cX8_drawLine 28 = .ok (.invokevirtual 52, 3) := by decide +kernel
theorem dX8_drawLine_31 : decode cX8_drawLine 31 = .ok (.istore 4, 2) := by decide +kernel
theorem dX8_drawLine_33 : decode cX8_drawLine 33 = .ok (.aload_n 1, 1) := by decide +kernel
theorem dX8_drawLine_34 : decode cX8_drawLine 34 = .ok (.getfield 48, 3) := by decide +kernel
theorem dX8_drawLine_37 : decode cX8_drawLine 37 = .ok (.bipush 16, 2) := by decide +kernel
theorem dX8_drawLine_39 : decode cX8_drawLine 39 = .ok (.if_icmp .ge 7, 3) := by decide +kernel
theorem dX8_drawLine_42 : decode cX8_drawLine 42 = .ok (.iconst 1, 1) := by decide +kernel
theorem dX8_drawLine_43 : decode cX8_drawLine 43 = .ok (.goto 4, 3) := by decide +kernel
theorem dX8_drawLine_46 : decode cX8_drawLine 46 = .ok (.iconst 0, 1) := by decide +kernel
theorem dX8_drawLine_47 : decode cX8_drawLine 47 = .ok (.istore 5, 2) := by decide +kernel
theorem dX8_drawLine_49 : decode cX8_drawLine 49 = .ok (.aload_n 1, 1) := by decide +kernel
theorem dX8_drawLine_50 : decode cX8_drawLine 50 = .ok (.iload_n 2, 1) := by decide +kernel
theorem dX8_drawLine_51 : decode cX8_drawLine 51 = .ok (.iload_n 3, 1) := by decide +kernel
theorem dX8_drawLine_52 : decode cX8_drawLine 52 = .ok (.iload 4, 2) := by decide +kernel
theorem dX8_drawLine_54 : decode cX8_drawLine 54 = .ok (.invokevirtual 56, 3) := by decide +kernel
theorem dX8_drawLine_57 : decode cX8_drawLine 57 = .ok (.iload 5, 2) := by decide +kernel
theorem dX8_drawLine_59 : decode cX8_drawLine 59 = .ok (.ireturn, 1) := by decide +kernel
theorem dX8_become_0 : decode cX8_become 0 = .ok (.iconst 0, 1) := by decide +kernel
theorem dX8_become_1 : decode cX8_become 1 = .ok (.istore_n 2, 1) := by decide +kernel
theorem dX8_become_2 : decode cX8_become 2 = .ok (.iload_n 2, 1) := by decide +kernel
theorem dX8_become_3 : decode cX8_become 3 = .ok (.iconst 5, 1) := by decide +kernel
theorem dX8_become_4 : decode cX8_become 4 = .ok (.if_icmp .ge 24, 3) := by decide +kernel
theorem dX8_become_7 : decode cX8_become 7 = .ok (.aload_n 0, 1) := by decide +kernel
theorem dX8_become_8 : decode cX8_become 8 = .ok (.getfield 11, 3) := by decide +kernel
theorem dX8_become_11 : decode cX8_become 11 = .ok (.iload_n 2, 1) := by decide +kernel
theorem dX8_become_12 : decode cX8_become 12 = .ok (.aaload, 1) := by decide +kernel
theorem dX8_become_13 : decode cX8_become 13 = .ok (.aload_n 1, 1) := by decide +kernel
theorem dX8_become_14 : decode cX8_become 14 = .ok (.getfield 11, 3) := by decide +kernel
theorem dX8_become_17 : decode cX8_become 17 = .ok (.iload_n 2, 1) := by decide +kernel
theorem dX8_become_18 : decode cX8_become 18 = .ok (.aaload, 1) := by decide +kernel
theorem dX8_become_19 : decode cX8_become 19 = .ok (.invokevirtual 60, 3) := by decide +kernel
theorem dX8_become_22 : decode cX8_become 22 = .ok (.iinc 2 1, 3) := by decide +kernel
theorem dX8_become_25 : decode cX8_become 25 = .ok (.goto (-23), 3) := by decide +kernel
theorem dX8_become_28 : decode cX8_become 28 = .ok (.aload_n 1, 1) := by decide +kernel
theorem dX8_become_29 : decode cX8_become 29 = .ok (.getfield 17, 3) := by decide +kernel
theorem dX8_become_32 : decode cX8_become 32 = .ok (.iconst 0, 1) := by decide +kernel
theorem dX8_become_33 : decode cX8_become 33 = .ok (.aload_n 0, 1) := by decide +kernel
theorem dX8_become_34 : decode cX8_become 34 = .ok (.getfield 17, 3) := by decide +kernel
theorem dX8_become_37 : decode cX8_become 37 = .ok (.iconst 0, 1) := by decide +kernel
theorem dX8_become_38 : decode cX8_become 38 = .ok (.bipush 8, 2) := by decide +kernel
theorem dX8_become_40 : decode cX8_become 40 = .ok (.invokestatic 64, 3) := by decide +kernel
theorem dX8_become_43 : decode cX8_become 43 = .ok (.aload_n 1, 1) := by decide +kernel
theorem dX8_become_44 : decode cX8_become 44 = .ok (.getfield 21, 3) := by decide +kernel
theorem dX8_become_47 : decode cX8_become 47 = .ok (.iconst 0, 1) := by decide +kernel
theorem dX8_become_48 : decode cX8_become 48 = .ok (.aload_n 0, 1) := by decide +kernel
theorem dX8_become_49 : decode cX8_become 49 = .ok (.getfield 21, 3) := by decide +kernel
theorem dX8_become_52 : decode cX8_become 52 = .ok (.iconst 0, 1) := by decide +kernel
theorem dX8_become_53 : decode cX8_become 53 = .ok (.bipush 8, 2) := by decide +kernel
theorem dX8_become_55 : decode cX8_become 55 = .ok (.invokestatic 64, 3) := by decide +kernel
theorem dX8_become_58 : decode cX8_become 58 = .ok (.aload_n 1, 1) := by decide +kernel
theorem dX8_become_59 : decode cX8_become 59 = .ok (.getfield 24, 3) := by decide +kernel
theorem dX8_become_62 : decode cX8_become 62 = .ok (.iconst 0, 1) := by decide +kernel
theorem dX8_become_63 : decode cX8_become 63 = .ok (.aload_n 0, 1) := by decide +kernel
theorem dX8_become_64 : decode cX8_become 64 = .ok (.getfield 24, 3) := by decide +kernel
theorem dX8_become_67 : decode cX8_become 67 = .ok (.iconst 0, 1) := by decide +kernel
theorem dX8_become_68 : decode cX8_become 68 = .ok (.bipush 8, 2) := by decide +kernel
theorem dX8_become_70 : decode cX8_become 70 = .ok (.invokestatic 64, 3) := by decide +kernel
theorem dX8_become_73 : decode cX8_become 73 = .ok (.aload_n 0, 1) := by decide +kernel
theorem dX8_become_74 : decode cX8_become 74 = .ok (.aload_n 1, 1) := by decide +kernel
theorem dX8_become_75 : decode cX8_become 75 = .ok (.getfield 27, 3) := by decide +kernel
theorem dX8_become_78 : decode cX8_become 78 = .ok (.putfield 27, 3) := by decide +kernel
theorem dX8_become_81 : decode cX8_become 81 = .ok (.aload_n 1, 1) := by decide +kernel
theorem dX8_become_82 : decode cX8_become 82 = .ok (.getfield 31, 3) := by decide +kernel
theorem dX8_become_85 : decode cX8_become 85 = .ok (.iconst 0, 1) := by decide +kernel
theorem dX8_become_86 : decode cX8_become 86 = .ok (.aload_n 0, 1) := by decide +kernel
theorem dX8_become_87 : decode cX8_become 87 = .ok (.getfield 31, 3) := by decide +kernel
theorem dX8_become_90 : decode cX8_become 90 = .ok (.iconst 0, 1) := by decide +kernel
theorem dX8_become_91 : decode cX8_become 91 = .ok (.bipush 8, 2) := by decide +kernel
theorem dX8_become_93 : decode cX8_become 93 = .ok (.invokestatic 64, 3) := by decide +kernel
theorem dX8_become_96 : decode cX8_become 96 = .ok (.aload_n 1, 1) := by decide +kernel
theorem dX8_become_97 : decode cX8_become 97 = .ok (.getfield 34, 3) := by decide +kernel
theorem dX8_become_100 : decode cX8_become 100 = .ok (.iconst 0, 1) := by decide +kernel
theorem dX8_become_101 : decode cX8_become 101 = .ok (.aload_n 0, 1) := by decide +kernel
theorem dX8_become_102 : decode cX8_become 102 = .ok (.getfield 34, 3) := by decide +kernel
theorem dX8_become_105 : decode cX8_become 105 = .ok (.iconst 0, 1) := by decide +kernel
theorem dX8_become_106 : decode cX8_become 106 = .ok (.bipush 8, 2) := by decide +kernel
theorem dX8_become_108 : decode cX8_become 108 = .ok (.invokestatic 64, 3) := by decide +kernel
theorem dX8_become_111 : decode cX8_become 111 = .ok (.aload_n 0, 1) := by decide +kernel
theorem dX8_become_112 : decode cX8_become 112 = .ok (.aload_n 1, 1) := by decide +kernel
theorem dX8_become_113 : decode cX8_become 113 = .ok (.getfield 37, 3) := by decide +kernel
theorem dX8_become_116 : decode cX8_become 116 = .ok (.putfield 37, 3) := by decide +kernel
theorem dX8_become_119 : decode cX8_become 119 = .ok (.aload_n 0, 1) := by decide +kernel
theorem dX8_become_120 : decode cX8_become 120 = .ok (.aload_n 1, 1) := by decide +kernel
theorem dX8_become_121 : decode cX8_become 121 = .ok (.getfield 40, 3) := by decide +kernel
theorem dX8_become_124 : decode cX8_become 124 = .ok (.putfield 40, 3) := by decide +kernel
theorem dX8_become_127 : decode cX8_become 127 = .ok (.return_, 1) := by decide +kernel
theorem dX9_init_0 : decode cX9_init 0 = .ok (.aload_n 0, 1) := by decide +kernel
theorem dX9_init_1 : decode cX9_init 1 = .ok (.invokespecial 3, 3) := by decide +kernel
theorem dX9_init_4 : decode cX9_init 4 = .ok (.aload_n 0, 1) := by decide +kernel
theorem dX9_init_5 : decode cX9_init 5 = .ok (.new 9, 3) := by decide +kernel
theorem dX9_init_8 : decode cX9_init 8 = .ok (.dup, 1) := by decide +kernel
theorem dX9_init_9 : decode cX9_init 9 = .ok (.invokespecial 11, 3) := by decide +kernel
theorem dX9_init_12 : decode cX9_init 12 = .ok (.putfield 12, 3) := by decide +kernel
theorem dX9_init_15 : decode cX9_init 15 = .ok (.aload_n 0, 1) := by decide +kernel
theorem dX9_init_16 : decode cX9_init 16 = .ok (.new 9, 3) := by decide +kernel
theorem dX9_init_19 : decode cX9_init 19 = .ok (.dup, 1) := by decide +kernel
theorem dX9_init_20 : decode cX9_init 20 = .ok (.invokespecial 11, 3) := by decide +kernel
theorem dX9_init_23 : decode cX9_init 23 = .ok (.putfield 16, 3) := by decide +kernel
theorem dX9_init_26 : decode cX9_init 26 = .ok (.aload_n 0, 1) := by decide +kernel
theorem dX9_init_27 : decode cX9_init 27 = .ok (.iconst 0, 1) := by decide +kernel
theorem dX9_init_28 : decode cX9_init 28 = .ok (.putfield 19, 3) := by decide +kernel
theorem dX9_init_31 : decode cX9_init 31 = .ok (.aload_n 0, 1) := by decide +kernel
theorem dX9_init_32 : decode cX9_init 32 = .ok (.new 23, 3) := by decide +kernel
theorem dX9_init_35 : decode cX9_init 35 = .ok (.dup, 1) := by decide +kernel
theorem dX9_init_36 : decode cX9_init 36 = .ok (.aload_n 0, 1) := by decide +kernel
theorem dX9_init_37 : decode cX9_init 37 = .ok (.getfield 12, 3) := by decide +kernel
theorem dX9_init_40 : decode cX9_init 40 = .ok (.invokespecial 25, 3) := by decide +kernel
theorem dX9_init_43 : decode cX9_init 43 = .ok (.putfield 28, 3) := by decide +kernel
theorem dX9_init_46 : decode cX9_init 46 = .ok (.aload_n 0, 1) := by decide +kernel
theorem dX9_init_47 : decode cX9_init 47 = .ok (.new 32, 3) := by decide +kernel
theorem dX9_init_50 : decode cX9_init 50 = .ok (.dup, 1) := by decide +kernel
theorem dX9_init_51 : decode cX9_init 51 = .ok (.aload_n 0, 1) := by decide +kernel
theorem dX9_init_52 : decode cX9_init 52 = .ok (.getfield 12, 3) := by decide +kernel
theorem dX9_init_55 : decode cX9_init 55 = .ok (.aload_n 0, 1) := by decide +kernel
theorem dX9_init_56 : decode cX9_init 56 = .ok (.getfield 28, 3) := by decide +kernel
theorem dX9_init_59 : decode cX9_init 59 = .ok (.invokespecial 34, 3) := by decide +kernel
theorem dX9_init_62 : decode cX9_init 62 = .ok (.putfield 37, 3) := by decide +kernel
theorem dX9_init_65 : decode cX9_init 65 = .ok (.aload_n 0, 1) := by decide +kernel
theorem dX9_init_66 : decode cX9_init 66 = .ok (.new 41, 3) := by decide +kernel
theorem dX9_init_69 : decode cX9_init 69 = .ok (.dup, 1) := by decide +kernel
theorem dX9_init_70 : decode cX9_init 70 = .ok (.aload_n 0, 1) := by decide +kernel
theorem dX9_init_71 : decode cX9_init 71 = .ok (.getfield 12, 3) := by decide +kernel
theorem dX9_init_74 : decode cX9_init 74 = .ok (.invokespecial 43, 3) := by decide +kernel
theorem dX9_init_77 : decode cX9_init 77 = .ok (.putfield 44, 3) := by decide +kernel
theorem dX9_init_80 : decode cX9_init 80 = .ok (.aload_n 0, 1) := by decide +kernel
theorem dX9_init_81 : decode cX9_init 81 = .ok (.new 48, 3) := by decide +kernel
theorem dX9_init_84 : decode cX9_init 84 = .ok (.dup, 1) := by decide +kernel
theorem dX9_init_85 : decode cX9_init 85 = .ok (.aload_n 0, 1) := by decide +kernel
theorem dX9_init_86 : decode cX9_init 86 = .ok (.getfield 12, 3) := by decide +kernel
theorem dX9_init_89 : decode cX9_init 89 = .ok (.invokespecial 50, 3) := by decide +kernel
theorem dX9_init_92 : decode cX9_init 92 = .ok (.putfield 51, 3) := by decide +kernel
theorem dX9_init_95 : decode cX9_init 95 = .ok (.aload_n 0, 1) := by decide +kernel
theorem dX9_init_96 : decode cX9_init 96 = .ok (.bipush 8, 2) := by decide +kernel
theorem dX9_init_98 : decode cX9_init 98 = .ok (.anewarray 55, 3) := by decide +kernel
theorem dX9_init_101 : decode cX9_init 101 = .ok (.putfield 57, 3) := by decide +kernel
theorem dX9_init_104 : decode cX9_init 104 = .ok (.aload_n 0, 1) := by decide +kernel
theorem dX9_init_105 : decode cX9_init 105 = .ok (.bipush 18, 2) := by decide +kernel
theorem dX9_init_107 : decode cX9_init 107 = .ok (.anewarray 61, 3) := by decide +kernel
theorem dX9_init_110 : decode cX9_init 110 = .ok (.putfield 63, 3) := by decide +kernel
theorem dX9_init_113 : decode cX9_init 113 = .ok (.aload_n 0, 1) := by decide +kernel
theorem dX9_init_114 : decode cX9_init 114 = .ok (.iconst 0, 1) := by decide +kernel
theorem dX9_init_115 : decode cX9_init 115 = .ok (.putfield 67, 3) := by decide +kernel
theorem dX9_init_118 : decode cX9_init 118 = .ok (.aload_n 0, 1) := by decide +kernel
theorem dX9_init_119 : decode cX9_init 119 = .ok (.iconst (-1), 1) := by decide +kernel
theorem dX9_init_120 : decode cX9_init 120 = .ok (.putfield 71, 3) := by decide +kernel
theorem dX9_init_123 : decode cX9_init 123 = .ok (.aload_n 0, 1) := by decide +kernel
theorem dX9_init_124 : decode cX9_init 124 = .ok (.bipush 8, 2) := by decide +kernel
theorem dX9_init_126 : decode cX9_init 126 = .ok (.newarray .int, 2) := by decide +kernel
theorem dX9_init_128 : decode cX9_init 128 = .ok (.putfield 74, 3) := by decide +kernel
theorem dX9_init_131 : decode cX9_init 131 = .ok (.iconst 0, 1) := by decide +kernel
theorem dX9_init_132 : decode cX9_init 132 = .ok (.istore_n 1, 1) := by decide +kernel
theorem dX9_init_133 : decode cX9_init 133 = .ok (.iload_n 1, 1) := by decide +kernel
theorem dX9_init_134 : decode cX9_init 134 = .ok (.bipush 8, 2) := by decide +kernel
theorem dX9_init_136 : decode cX9_init 136 = .ok (.if_icmp .ge 22, 3) := by decide +kernel
theorem dX9_init_139 : decode cX9_init 139 = .ok (.aload_n 0, 1) := by decide +kernel
theorem dX9_init_140 : decode cX9_init 140 = .ok (.getfield 57, 3) := by decide +kernel
theorem dX9_init_143 : decode cX9_init 143 = .ok (.iload_n 1, 1) := by decide +kernel
theorem dX9_init_144 : decode cX9_init 144 = .ok (.new 55, 3) := by decide +kernel
theorem dX9_init_147 : decode cX9_init 147 = .ok (.dup, 1) := by decide +kernel
theorem dX9_init_148 : decode cX9_init 148 = .ok (.invokespecial 78, 3) := by decide +kernel
theorem dX9_init_151 : decode cX9_init 151 = .ok (.aastore, 1) := by decide +kernel
theorem dX9_init_152 : decode cX9_init 152 = .ok (.iinc 1 1, 3) := by decide +kernel
theorem dX9_init_155 : decode cX9_init 155 = .ok (.goto (-22), 3) := by decide +kernel
theorem dX9_init_158 : decode cX9_init 158 = .ok (.iconst 0, 1) := by decide +kernel
theorem dX9_init_159 : decode cX9_init 159 = .ok (.istore_n 1, 1) := by decide +kernel
theorem dX9_init_160 : decode cX9_init 160 = .ok (.iload_n 1, 1) := by decide +kernel
theorem dX9_init_161 : decode cX9_init 161 = .ok (.bipush 18, 2) := by decide +kernel
theorem dX9_init_163 : decode cX9_init 163 = .ok (.if_icmp .ge 22, 3) := by decide +kernel
theorem dX9_init_166 : decode cX9_init 166 = .ok (.aload_n 0, 1) := by decide +kernel
theorem dX9_init_167 : decode cX9_init 167 = .ok (.getfield 63, 3) := by decide +kernel
theorem dX9_init_170 : decode cX9_init 170 = .ok (.iload_n 1, 1) := by decide +kernel
theorem dX9_init_171 : decode cX9_init 171 = .ok (.new 61, 3) := by decide +kernel
theorem dX9_init_174 : decode cX9_init 174 = .ok (.dup, 1) := by decide +kernel
theorem dX9_init_175 : decode cX9_init 175 = .ok (.invokespecial 79, 3) := by decide +kernel
theorem dX9_init_178 : decode cX9_init 178 = .ok (.aastore, 1) := by decide +kernel
theorem dX9_init_179 : decode cX9_init 179 = .ok (.iinc 1 1, 3) := by decide +kernel
theorem dX9_init_182 : decode cX9_init 182 = .ok (.goto (-22), 3) := by decide +kernel
theorem dX9_init_185 : decode cX9_init 185 = .ok (.return_, 1) := by decide +kernel
theorem dX9_row_0 : decode cX9_row 0 = .ok (.iload_n 1, 1) := by decide +kernel
theorem dX9_row_1 : decode cX9_row 1 = .ok (.bipush 8, 2) := by decide +kernel
theorem dX9_row_3 : decode cX9_row 3 = .ok (.invokestatic 80, 3) := by decide +kernel
theorem dX9_row_6 : decode cX9_row 6 = .ok (.ifCond .ne 9, 3) := by decide +kernel
theorem dX9_row_9 : decode cX9_row 9 = .ok (.aload_n 0, 1) := by decide +kernel
theorem dX9_row_10 : decode cX9_row 10 = .ok (.iconst 1, 1) := by decide +kernel
theorem dX9_row_11 : decode cX9_row 11 = .ok (.invokevirtual 84, 3) := by decide +kernel
theorem dX9_row_14 : decode cX9_row 14 = .ok (.ireturn, 1) := by decide +kernel
theorem dX9_row_15 : decode cX9_row 15 = .ok (.iload_n 3, 1) := by decide +kernel
theorem dX9_row_16 : decode cX9_row 16 = .ok (.ifCond .ge 9, 3) := by decide +kernel
theorem dX9_row_19 : decode cX9_row 19 = .ok (.aload_n 0, 1) := by decide +kernel
theorem dX9_row_20 : decode cX9_row 20 = .ok (.iconst 4, 1) := by decide +kernel
theorem dX9_row_21 : decode cX9_row 21 = .ok (.invokevirtual 84, 3) := by decide +kernel
theorem dX9_row_24 : decode cX9_row 24 = .ok (.ireturn, 1) := by decide +kernel
theorem dX9_row_25 : decode cX9_row 25 = .ok (.iload_n 2, 1) := by decide +kernel
theorem dX9_row_26 : decode cX9_row 26 = .ok (.iconst 4, 1) := by decide +kernel
theorem dX9_row_27 : decode cX9_row 27 = .ok (.invokestatic 80, 3) := by decide +kernel
theorem dX9_row_30 : decode cX9_row 30 = .ok (.ifCond .ne 10, 3) := by decide +kernel
theorem dX9_row_33 : decode cX9_row 33 = .ok (.aload_n 0, 1) := by decide +kernel
theorem dX9_row_34 : decode cX9_row 34 = .ok (.bipush 6, 2) := by decide +kernel
theorem dX9_row_36 : decode cX9_row 36 = .ok (.invokevirtual 84, 3) := by decide +kernel
theorem dX9_row_39 : decode cX9_row 39 = .ok (.ireturn, 1) := by decide +kernel
theorem dX9_row_40 : decode cX9_row 40 = .ok (.iload_n 3, 1) := by decide +kernel
theorem dX9_row_41 : decode cX9_row 41 = .ok (.sipush 160, 3) := by decide +kernel
theorem dX9_row_44 : decode cX9_row 44 = .ok (.if_icmp .le 10, 3) := by decide +kernel
theorem dX9_row_47 : decode cX9_row 47 = .ok (.aload_n 0, 1) := by decide +kernel
theorem dX9_row_48 : decode cX9_row 48 = .ok (.bipush 7, 2) := by decide +kernel
theorem dX9_row_50 : decode cX9_row 50 = .ok (.invokevirtual 84, 3) := by decide +kernel
theorem dX9_row_53 : decode cX9_row 53 = .ok (.ireturn, 1) := by decide +kernel
theorem dX9_row_54 : decode cX9_row 54 = .ok (.aload_n 0, 1) := by decide +kernel
theorem dX9_row_55 : decode cX9_row 55 = .ok (.getfield 57, 3) := by decide +kernel
theorem dX9_row_58 : decode cX9_row 58 = .ok (.iload_n 1, 1) := by decide +kernel
theorem dX9_row_59 : decode cX9_row 59 = .ok (.aaload, 1) := by decide +kernel
theorem dX9_row_60 : decode cX9_row 60 = .ok (.iload_n 2, 1) := by decide +kernel
theorem dX9_row_61 : decode cX9_row 61 = .ok (.iload_n 3, 1) := by decide +kernel
theorem dX9_row_62 : decode cX9_row 62 = .ok (.invokevirtual 88, 3) := by decide +kernel
theorem dX9_row_65 : decode cX9_row 65 = .ok (.iconst 1, 1) := by decide +kernel
theorem dX9_row_66 : decode cX9_row 66 = .ok (.ireturn, 1) := by decide +kernel
theorem dX9_set_0 : decode cX9_set 0 = .ok (.aload_n 0, 1) := by decide +kernel
theorem dX9_set_1 : decode cX9_set 1 = .ok (.iload_n 1, 1) := by decide +kernel
theorem dX9_set_2 : decode cX9_set 2 = .ok (.invokevirtual 92, 3) := by decide +kernel
theorem dX9_set_5 : decode cX9_set 5 = .ok (.istore 5, 2) := by decide +kernel
theorem dX9_set_7 : decode cX9_set 7 = .ok (.iload 5, 2) := by decide +kernel
theorem dX9_set_9 : decode cX9_set 9 = .ok (.ifCond .eq 10, 3) := by decide +kernel
theorem dX9_set_12 : decode cX9_set 12 = .ok (.aload_n 0, 1) := by decide +kernel
theorem dX9_set_13 : decode cX9_set 13 = .ok (.iload 5, 2) := by decide +kernel
theorem dX9_set_15 : decode cX9_set 15 = .ok (.invokevirtual 84, 3) := by decide +kernel
theorem dX9_set_18 : decode cX9_set 18 = .ok (.ireturn, 1) := by decide +kernel
theorem dX9_set_19 : decode cX9_set 19 = .ok (.iload_n 2, 1) := by decide +kernel
theorem dX9_set_20 : decode cX9_set 20 = .ok (.aload_n 0, 1) := by decide +kernel
theorem dX9_set_21 : decode cX9_set 21 = .ok (.getfield 57, 3) := by decide +kernel
theorem dX9_set_24 : decode cX9_set 24 = .ok (.iload_n 1, 1) := by decide +kernel
theorem dX9_set_25 : decode cX9_set 25 = .ok (.aaload, 1) := by decide +kernel
theorem dX9_set_26 : decode cX9_set 26 = .ok (.getfield 95, 3) := by decide +kernel
theorem dX9_set_29 : decode cX9_set 29 = .ok (.invokestatic 80, 3) := by decide +kernel
theorem dX9_set_32 : decode cX9_set 32 = .ok (.ifCond .ne 9, 3) := by decide +kernel
theorem dX9_set_35 : decode cX9_set 35 = .ok (.aload_n 0, 1) := by decide +kernel
theorem dX9_set_36 : decode cX9_set 36 = .ok (.iconst 5, 1) := by decide +kernel
theorem dX9_set_37 : decode cX9_set 37 = .ok (.invokevirtual 84, 3) := by decide +kernel
theorem dX9_set_40 : decode cX9_set 40 = .ok (.ireturn, 1) := by decide +kernel
theorem dX9_set_41 : decode cX9_set 41 = .ok (.aload_n 0, 1) := by decide +kernel
theorem dX9_set_42 : decode cX9_set 42 = .ok (.getfield 57, 3) := by decide +kernel
theorem dX9_set_45 : decode cX9_set 45 = .ok (.iload_n 1, 1) := by decide +kernel
theorem dX9_set_46 : decode cX9_set 46 = .ok (.aaload, 1) := by decide +kernel
theorem dX9_set_47 : decode cX9_set 47 = .ok (.iload_n 2, 1) := by decide +kernel
theorem dX9_set_48 : decode cX9_set 48 = .ok (.lload_n 3, 1) := by decide +kernel
theorem dX9_set_49 : decode cX9_set 49 = .ok (.invokevirtual 98, 3) := by decide +kernel
theorem dX9_set_52 : decode cX9_set 52 = .ok (.iconst 1, 1) := by decide +kernel
theorem dX9_set_53 : decode cX9_set 53 = .ok (.ireturn, 1) := by decide +kernel
theorem dX9_copy_0 : decode cX9_copy 0 = .ok (.iload_n 1, 1) := by decide +kernel
theorem dX9_copy_1 : decode cX9_copy 1 = .ok (.bipush 8, 2) := by decide +kernel
theorem dX9_copy_3 : decode cX9_copy 3 = .ok (.invokestatic 80, 3) := by decide +kernel
theorem dX9_copy_6 : decode cX9_copy 6 = .ok (.ifCond .eq 12, 3) := by decide +kernel
theorem dX9_copy_9 : decode cX9_copy 9 = .ok (.iload_n 2, 1) := by decide +kernel
theorem dX9_copy_10 : decode cX9_copy 10 = .ok (.bipush 8, 2) := by decide +kernel
theorem dX9_copy_12 : decode cX9_copy 12 = .ok (.invokestatic 80, 3) := by decide +kernel
theorem dX9_copy_15 : decode cX9_copy 15 = .ok (.ifCond .ne 9, 3) := by decide +kernel
theorem dX9_copy_18 : decode cX9_copy 18 = .ok (.aload_n 0, 1) := by decide +kernel
theorem dX9_copy_19 : decode cX9_copy 19 = .ok (.iconst 1, 1) := by decide +kernel
theorem dX9_copy_20 : decode cX9_copy 20 = .ok (.invokevirtual 84, 3) := by decide +kernel
theorem dX9_copy_23 : decode cX9_copy 23 = .ok (.ireturn, 1) := by decide +kernel
theorem dX9_copy_24 : decode cX9_copy 24 = .ok (.aload_n 0, 1) := by decide +kernel
theorem dX9_copy_25 : decode cX9_copy 25 = .ok (.getfield 57, 3) := by decide +kernel
theorem dX9_copy_28 : decode cX9_copy 28 = .ok (.iload_n 1, 1) := by decide +kernel
theorem dX9_copy_29 : decode cX9_copy 29 = .ok (.aaload, 1) := by decide +kernel
theorem dX9_copy_30 : decode cX9_copy 30 = .ok (.astore 6, 2) := by decide +kernel
theorem dX9_copy_32 : decode cX9_copy 32 = .ok (.aload_n 0, 1) := by decide +kernel
theorem dX9_copy_33 : decode cX9_copy 33 = .ok (.getfield 57, 3) := by decide +kernel
theorem dX9_copy_36 : decode cX9_copy 36 = .ok (.iload_n 2, 1) := by decide +kernel
theorem dX9_copy_37 : decode cX9_copy 37 = .ok (.aaload, 1) := by decide +kernel
theorem dX9_copy_38 : decode cX9_copy 38 = .ok (.astore 7, 2) := by decide +kernel
theorem dX9_copy_40 : decode cX9_copy 40 = .ok (.aload 6, 2) := by decide +kernel
theorem dX9_copy_42 : decode cX9_copy 42 = .ok (.getfield 102, 3) := by decide +kernel
theorem dX9_copy_45 : decode cX9_copy 45 = .ok (.iconst 2, 1) := by decide +kernel
theorem dX9_copy_46 : decode cX9_copy 46 = .ok (.if_icmp .eq 22, 3) := by decide +kernel
theorem dX9_copy_49 : decode cX9_copy 49 = .ok (.aload 7, 2) := by decide +kernel
theorem dX9_copy_51 : decode cX9_copy 51 = .ok (.getfield 102, 3) := by decide +kernel
theorem dX9_copy_54 : decode cX9_copy 54 = .ok (.iconst 2, 1) := by decide +kernel
theorem dX9_copy_55 : decode cX9_copy 55 = .ok (.if_icmp .eq 13, 3) := by decide +kernel
theorem dX9_copy_58 : decode cX9_copy 58 = .ok (.aload 6, 2) := by decide +kernel
theorem dX9_copy_60 : decode cX9_copy 60 = .ok (.aload 7, 2) := by decide +kernel
theorem dX9_copy_62 : decode cX9_copy 62 = .ok (.invokestatic 105, 3) := by decide +kernel
theorem dX9_copy_65 : decode cX9_copy 65 = .ok (.ifCond .eq 9, 3) := by decide +kernel
theorem dX9_copy_68 : decode cX9_copy 68 = .ok (.aload_n 0, 1) := by decide +kernel
theorem dX9_copy_69 : decode cX9_copy 69 = .ok (.iconst 2, 1) := by decide +kernel
theorem dX9_copy_70 : decode cX9_copy 70 = .ok (.invokevirtual 84, 3) := by decide +kernel
theorem dX9_copy_73 : decode cX9_copy 73 = .ok (.ireturn, 1) := by decide +kernel
theorem dX9_copy_74 : decode cX9_copy 74 = .ok (.aload 6, 2) := by decide +kernel
theorem dX9_copy_76 : decode cX9_copy 76 = .ok (.getfield 102, 3) := by decide +kernel
theorem dX9_copy_79 : decode cX9_copy 79 = .ok (.ifCond .eq 11, 3) := by decide +kernel
theorem dX9_copy_82 : decode cX9_copy 82 = .ok (.aload 7, 2) := by decide +kernel
theorem dX9_copy_84 : decode cX9_copy 84 = .ok (.getfield 102, 3) := by decide +kernel
theorem dX9_copy_87 : decode cX9_copy 87 = .ok (.ifCond .ne 9, 3) := by decide +kernel
theorem dX9_copy_90 : decode cX9_copy 90 = .ok (.aload_n 0, 1) := by decide +kernel
theorem dX9_copy_91 : decode cX9_copy 91 = .ok (.iconst 3, 1) := by decide +kernel
theorem dX9_copy_92 : decode cX9_copy 92 = .ok (.invokevirtual 84, 3) := by decide +kernel
theorem dX9_copy_95 : decode cX9_copy 95 = .ok (.ireturn, 1) := by decide +kernel
theorem dX9_copy_96 : decode cX9_copy 96 = .ok (.iload 5, 2) := by decide +kernel
theorem dX9_copy_98 : decode cX9_copy 98 = .ok (.ifCond .ge 9, 3) := by decide +kernel
theorem dX9_copy_101 : decode cX9_copy 101 = .ok (.aload_n 0, 1) := by decide +kernel
theorem dX9_copy_102 : decode cX9_copy 102 = .ok (.iconst 4, 1) := by decide +kernel
theorem dX9_copy_103 : decode cX9_copy 103 = .ok (.invokevirtual 84, 3) := by decide +kernel
theorem dX9_copy_106 : decode cX9_copy 106 = .ok (.ireturn, 1) := by decide +kernel
theorem dX9_copy_107 : decode cX9_copy 107 = .ok (.aload 6, 2) := by decide +kernel
theorem dX9_copy_109 : decode cX9_copy 109 = .ok (.iload_n 3, 1) := by decide +kernel
theorem dX9_copy_110 : decode cX9_copy 110 = .ok (.iload 5, 2) := by decide +kernel
theorem dX9_copy_112 : decode cX9_copy 112 = .ok (.invokestatic 109, 3) := by decide +kernel
theorem dX9_copy_115 : decode cX9_copy 115 = .ok (.ifCond .eq 15, 3) := by decide +kernel
theorem dX9_copy_118 : decode cX9_copy 118 = .ok (.aload 7, 2) := by decide +kernel
theorem dX9_copy_120 : decode cX9_copy 120 = .ok (.iload 4, 2) := by decide +kernel
theorem dX9_copy_122 : decode cX9_copy 122 = .ok (.iload 5, 2) := by decide +kernel
theorem dX9_copy_124 : decode cX9_copy 124 = .ok (.invokestatic 109, 3) := by decide +kernel
theorem dX9_copy_127 : decode cX9_copy 127 = .ok (.ifCond .ne 9, 3) := by decide +kernel
theorem dX9_copy_130 : decode cX9_copy 130 = .ok (.aload_n 0, 1) := by decide +kernel
theorem dX9_copy_131 : decode cX9_copy 131 = .ok (.iconst 5, 1) := by decide +kernel
theorem dX9_copy_132 : decode cX9_copy 132 = .ok (.invokevirtual 84, 3) := by decide +kernel
theorem dX9_copy_135 : decode cX9_copy 135 = .ok (.ireturn, 1) := by decide +kernel
theorem dX9_copy_136 : decode cX9_copy 136 = .ok (.aload 6, 2) := by decide +kernel
theorem dX9_copy_138 : decode cX9_copy 138 = .ok (.getfield 113, 3) := by decide +kernel
theorem dX9_copy_141 : decode cX9_copy 141 = .ok (.iload_n 3, 1) := by decide +kernel
theorem dX9_copy_142 : decode cX9_copy 142 = .ok (.aload 7, 2) := by decide +kernel
theorem dX9_copy_144 : decode cX9_copy 144 = .ok (.getfield 113, 3) := by decide +kernel
theorem dX9_copy_147 : decode cX9_copy 147 = .ok (.iload 4, 2) := by decide +kernel
theorem dX9_copy_149 : decode cX9_copy 149 = .ok (.iload 5, 2) := by decide +kernel
theorem dX9_copy_151 : decode cX9_copy 151 = .ok (.invokestatic 117, 3) := by decide +kernel
theorem dX9_copy_154 : decode cX9_copy 154 = .ok (.iconst 1, 1) := by decide +kernel
theorem dX9_copy_155 : decode cX9_copy 155 = .ok (.ireturn, 1) := by decide +kernel
theorem dX9_element_0 : decode cX9_element 0 = .ok (.iload_n 1, 1) := by decide +kernel
theorem dX9_element_1 : decode cX9_element 1 = .ok (.bipush 8, 2) := by decide +kernel
theorem dX9_element_3 : decode cX9_element 3 = .ok (.invokestatic 80, 3) := by decide +kernel
theorem dX9_element_6 : decode cX9_element 6 = .ok (.ifCond .eq 32, 3) := by decide +kernel
theorem dX9_element_9 : decode cX9_element 9 = .ok (.aload_n 0, 1) := by decide +kernel
theorem dX9_element_10 : decode cX9_element 10 = .ok (.getfield 57, 3) := by decide +kernel
theorem dX9_element_13 : decode cX9_element 13 = .ok (.iload_n 1, 1) := by decide +kernel
theorem dX9_element_14 : decode cX9_element 14 = .ok (.aaload, 1) := by decide +kernel
theorem dX9_element_15 : decode cX9_element 15 = .ok (.getfield 102, 3) := by decide +kernel
theorem dX9_element_18 : decode cX9_element 18 = .ok (.iconst 1, 1) := by decide +kernel
theorem dX9_element_19 : decode cX9_element 19 = .ok (.if_icmp .ne 19, 3) := by decide +kernel
theorem dX9_element_22 : decode cX9_element 22 = .ok (.iload_n 2, 1) := by decide +kernel
theorem dX9_element_23 : decode cX9_element 23 = .ok (.aload_n 0, 1) := by decide +kernel
theorem dX9_element_24 : decode cX9_element 24 = .ok (.getfield 57, 3) := by decide +kernel
theorem dX9_element_27 : decode cX9_element 27 = .ok (.iload_n 1, 1) := by decide +kernel
theorem dX9_element_28 : decode cX9_element 28 = .ok (.aaload, 1) := by decide +kernel
theorem dX9_element_29 : decode cX9_element 29 = .ok (.getfield 95, 3) := by decide +kernel
theorem dX9_element_32 : decode cX9_element 32 = .ok (.invokestatic 80, 3) := by decide +kernel
theorem dX9_element_35 : decode cX9_element 35 = .ok (.ifCond .ne 5, 3) := by decide +kernel
theorem dX9_element_38 : decode cX9_element 38 = .ok (.lconst 0, 1) := by decide +kernel
theorem dX9_element_39 : decode cX9_element 39 = .ok (.lreturn, 1) := by decide +kernel
theorem dX9_element_40 : decode cX9_element 40 = .ok (.aload_n 0, 1) := by decide +kernel
theorem dX9_element_41 : decode cX9_element 41 = .ok (.getfield 57, 3) := by decide +kernel
theorem dX9_element_44 : decode cX9_element 44 = .ok (.iload_n 1, 1) := by decide +kernel
theorem dX9_element_45 : decode cX9_element 45 = .ok (.aaload, 1) := by decide +kernel
theorem dX9_element_46 : decode cX9_element 46 = .ok (.getfield 113, 3) := by decide +kernel
theorem dX9_element_49 : decode cX9_element 49 = .ok (.iload_n 2, 1) := by decide +kernel
theorem dX9_element_50 : decode cX9_element 50 = .ok (.laload, 1) := by decide +kernel
theorem dX9_element_51 : decode cX9_element 51 = .ok (.lreturn, 1) := by decide +kernel
theorem dX9_show_0 : decode cX9_show 0 = .ok (.iload_n 1, 1) := by decide +kernel
theorem dX9_show_1 : decode cX9_show 1 = .ok (.bipush 8, 2) := by decide +kernel
theorem dX9_show_3 : decode cX9_show 3 = .ok (.invokestatic 80, 3) := by decide +kernel
theorem dX9_show_6 : decode cX9_show 6 = .ok (.ifCond .eq 16, 3) := by decide +kernel
theorem dX9_show_9 : decode cX9_show 9 = .ok (.iload_n 2, 1) := by decide +kernel
theorem dX9_show_10 : decode cX9_show 10 = .ok (.iconst (-1), 1) := by decide +kernel
theorem dX9_show_11 : decode cX9_show 11 = .ok (.if_icmp .eq 17, 3) := by decide +kernel
theorem dX9_show_14 : decode cX9_show 14 = .ok (.aload_n 0, 1) := by decide +kernel
theorem dX9_show_15 : decode cX9_show 15 = .ok (.iload_n 2, 1) := by decide +kernel
theorem dX9_show_16 : decode cX9_show 16 = .ok (.invokevirtual 123, 3) := by decide +kernel
theorem dX9_show_19 : decode cX9_show 19 = .ok (.ifCond .ne 9, 3) := by decide +kernel
theorem dX9_show_22 : decode cX9_show 22 = .ok (.aload_n 0, 1) := by decide +kernel
theorem dX9_show_23 : decode cX9_show 23 = .ok (.iconst 1, 1) := by decide +kernel
theorem dX9_show_24 : decode cX9_show 24 = .ok (.invokevirtual 84, 3) := by decide +kernel
theorem dX9_show_27 : decode cX9_show 27 = .ok (.ireturn, 1) := by decide +kernel
theorem dX9_show_28 : decode cX9_show 28 = .ok (.iload_n 2, 1) := by decide +kernel
theorem dX9_show_29 : decode cX9_show 29 = .ok (.iconst (-1), 1) := by decide +kernel
theorem dX9_show_30 : decode cX9_show 30 = .ok (.if_icmp .ne 15, 3) := by decide +kernel
theorem dX9_show_33 : decode cX9_show 33 = .ok (.aload_n 0, 1) := by decide +kernel
theorem dX9_show_34 : decode cX9_show 34 = .ok (.getfield 57, 3) := by decide +kernel
theorem dX9_show_37 : decode cX9_show 37 = .ok (.iload_n 1, 1) := by decide +kernel
theorem dX9_show_38 : decode cX9_show 38 = .ok (.aaload, 1) := by decide +kernel
theorem dX9_show_39 : decode cX9_show 39 = .ok (.iconst 0, 1) := by decide +kernel
theorem dX9_show_40 : decode cX9_show 40 = .ok (.putfield 102, 3) := by decide +kernel
theorem dX9_show_43 : decode cX9_show 43 = .ok (.iconst 0, 1) := by decide +kernel
theorem dX9_show_44 : decode cX9_show 44 = .ok (.ireturn, 1) := by decide +kernel
theorem dX9_show_45 : decode cX9_show 45 = .ok (.aload_n 0, 1) := by decide +kernel
theorem dX9_show_46 : decode cX9_show 46 = .ok (.getfield 57, 3) := by decide +kernel
theorem dX9_show_49 : decode cX9_show 49 = .ok (.iload_n 1, 1) := by decide +kernel
theorem dX9_show_50 : decode cX9_show 50 = .ok (.aaload, 1) := by decide +kernel
theorem dX9_show_51 : decode cX9_show 51 = .ok (.aload_n 0, 1) := by decide +kernel
theorem dX9_show_52 : decode cX9_show 52 = .ok (.getfield 63, 3) := by decide +kernel
theorem dX9_show_55 : decode cX9_show 55 = .ok (.iload_n 2, 1) := by decide +kernel
theorem dX9_show_56 : decode cX9_show 56 = .ok (.aaload, 1) := by decide +kernel
theorem dX9_show_57 : decode cX9_show 57 = .ok (.invokevirtual 127, 3) := by decide +kernel
theorem dX9_show_60 : decode cX9_show 60 = .ok (.iconst 1, 1) := by decide +kernel
theorem dX9_show_61 : decode cX9_show 61 = .ok (.ireturn, 1) := by decide +kernel
theorem dX9_holds_0 : decode cX9_holds 0 = .ok (.iload_n 1, 1) := by decide +kernel
theorem dX9_holds_1 : decode cX9_holds 1 = .ok (.bipush 8, 2) := by decide +kernel
theorem dX9_holds_3 : decode cX9_holds 3 = .ok (.invokestatic 80, 3) := by decide +kernel
theorem dX9_holds_6 : decode cX9_holds 6 = .ok (.ifCond .ne 5, 3) := by decide +kernel
theorem dX9_holds_9 : decode cX9_holds 9 = .ok (.iconst (-1), 1) := by decide +kernel
theorem dX9_holds_10 : decode cX9_holds 10 = .ok (.ireturn, 1) := by decide +kernel
theorem dX9_holds_11 : decode cX9_holds 11 = .ok (.aload_n 0, 1) := by decide +kernel
theorem dX9_holds_12 : decode cX9_holds 12 = .ok (.getfield 57, 3) := by decide +kernel
theorem dX9_holds_15 : decode cX9_holds 15 = .ok (.iload_n 1, 1) := by decide +kernel
theorem dX9_holds_16 : decode cX9_holds 16 = .ok (.aaload, 1) := by decide +kernel
theorem dX9_holds_17 : decode cX9_holds 17 = .ok (.invokevirtual 131, 3) := by decide +kernel
theorem dX9_holds_20 : decode cX9_holds 20 = .ok (.ireturn, 1) := by decide +kernel
theorem dX9_says_0 : decode cX9_says 0 = .ok (.iload_n 1, 1) := by decide +kernel
theorem dX9_says_1 : decode cX9_says 1 = .ok (.bipush 8, 2) := by decide +kernel
theorem dX9_says_3 : decode cX9_says 3 = .ok (.invokestatic 80, 3) := by decide +kernel
theorem dX9_says_6 : decode cX9_says 6 = .ok (.ifCond .eq 11, 3) := by decide +kernel
theorem dX9_says_9 : decode cX9_says 9 = .ok (.iload_n 2, 1) := by decide +kernel
theorem dX9_says_10 : decode cX9_says 10 = .ok (.iconst 5, 1) := by decide +kernel
theorem dX9_says_11 : decode cX9_says 11 = .ok (.invokestatic 80, 3) := by decide +kernel
theorem dX9_says_14 : decode cX9_says 14 = .ok (.ifCond .ne 9, 3) := by decide +kernel
theorem dX9_says_17 : decode cX9_says 17 = .ok (.aload_n 0, 1) := by decide +kernel
theorem dX9_says_18 : decode cX9_says 18 = .ok (.iconst 1, 1) := by decide +kernel
theorem dX9_says_19 : decode cX9_says 19 = .ok (.invokevirtual 84, 3) := by decide +kernel
theorem dX9_says_22 : decode cX9_says 22 = .ok (.ireturn, 1) := by decide +kernel
theorem dX9_says_23 : decode cX9_says 23 = .ok (.aload_n 0, 1) := by decide +kernel
theorem dX9_says_24 : decode cX9_says 24 = .ok (.getfield 57, 3) := by decide +kernel
theorem dX9_says_27 : decode cX9_says 27 = .ok (.iload_n 1, 1) := by decide +kernel
theorem dX9_says_28 : decode cX9_says 28 = .ok (.aaload, 1) := by decide +kernel
theorem dX9_says_29 : decode cX9_says 29 = .ok (.astore_n 3, 1) := by decide +kernel
theorem dX9_says_30 : decode cX9_says 30 = .ok (.aload_n 3, 1) := by decide +kernel
theorem dX9_says_31 : decode cX9_says 31 = .ok (.getfield 102, 3) := by decide +kernel
theorem dX9_says_34 : decode cX9_says 34 = .ok (.iconst 1, 1) := by decide +kernel
theorem dX9_says_35 : decode cX9_says 35 = .ok (.if_icmp .ne 9, 3) := by decide +kernel
theorem dX9_says_38 : decode cX9_says 38 = .ok (.aload_n 0, 1) := by decide +kernel
theorem dX9_says_39 : decode cX9_says 39 = .ok (.iconst 2, 1) := by decide +kernel
theorem dX9_says_40 : decode cX9_says 40 = .ok (.invokevirtual 84, 3) := by decide +kernel
theorem dX9_says_43 : decode cX9_says 43 = .ok (.ireturn, 1) := by decide +kernel
theorem dX9_says_44 : decode cX9_says 44 = .ok (.aload_n 3, 1) := by decide +kernel
theorem dX9_says_45 : decode cX9_says 45 = .ok (.getfield 102, 3) := by decide +kernel
theorem dX9_says_48 : decode cX9_says 48 = .ok (.ifCond .ne 9, 3) := by decide +kernel
theorem dX9_says_51 : decode cX9_says 51 = .ok (.aload_n 0, 1) := by decide +kernel
theorem dX9_says_52 : decode cX9_says 52 = .ok (.iconst 3, 1) := by decide +kernel
theorem dX9_says_53 : decode cX9_says 53 = .ok (.invokevirtual 84, 3) := by decide +kernel
theorem dX9_says_56 : decode cX9_says 56 = .ok (.ireturn, 1) := by decide +kernel
theorem dX9_says_57 : decode cX9_says 57 = .ok (.aload_n 3, 1) := by decide +kernel
theorem dX9_says_58 : decode cX9_says 58 = .ok (.getfield 135, 3) := by decide +kernel
theorem dX9_says_61 : decode cX9_says 61 = .ok (.iload_n 2, 1) := by decide +kernel
theorem dX9_says_62 : decode cX9_says 62 = .ok (.invokevirtual 139, 3) := by decide +kernel
theorem dX9_says_65 : decode cX9_says 65 = .ok (.ifCond .ne 9, 3) := by decide +kernel
theorem dX9_says_68 : decode cX9_says 68 = .ok (.aload_n 0, 1) := by decide +kernel
theorem dX9_says_69 : decode cX9_says 69 = .ok (.iconst 2, 1) := by decide +kernel
theorem dX9_says_70 : decode cX9_says 70 = .ok (.invokevirtual 84, 3) := by decide +kernel
theorem dX9_says_73 : decode cX9_says 73 = .ok (.ireturn, 1) := by decide +kernel
theorem dX9_says_74 : decode cX9_says 74 = .ok (.aload_n 3, 1) := by decide +kernel
theorem dX9_says_75 : decode cX9_says 75 = .ok (.getfield 135, 3) := by decide +kernel
theorem dX9_says_78 : decode cX9_says 78 = .ok (.iload_n 2, 1) := by decide +kernel
theorem dX9_says_79 : decode cX9_says 79 = .ok (.invokevirtual 142, 3) := by decide +kernel
theorem dX9_says_82 : decode cX9_says 82 = .ok (.ireturn, 1) := by decide +kernel
theorem dX9_line_0 : decode cX9_line 0 = .ok (.iload_n 1, 1) := by decide +kernel
theorem dX9_line_1 : decode cX9_line 1 = .ok (.iconst 5, 1) := by decide +kernel
theorem dX9_line_2 : decode cX9_line 2 = .ok (.invokestatic 80, 3) := by decide +kernel
theorem dX9_line_5 : decode cX9_line 5 = .ok (.ifCond .ne 9, 3) := by decide +kernel
theorem dX9_line_8 : decode cX9_line 8 = .ok (.aload_n 0, 1) := by decide +kernel
theorem dX9_line_9 : decode cX9_line 9 = .ok (.iconst 1, 1) := by decide +kernel
theorem dX9_line_10 : decode cX9_line 10 = .ok (.invokevirtual 84, 3) := by decide +kernel
theorem dX9_line_13 : decode cX9_line 13 = .ok (.ireturn, 1) := by decide +kernel
theorem dX9_line_14 : decode cX9_line 14 = .ok (.iload_n 2, 1) := by decide +kernel
theorem dX9_line_15 : decode cX9_line 15 = .ok (.bipush 100, 2) := by decide +kernel
theorem dX9_line_17 : decode cX9_line 17 = .ok (.invokestatic 80, 3) := by decide +kernel
theorem dX9_line_20 : decode cX9_line 20 = .ok (.ifCond .eq 22, 3) := by decide +kernel
theorem dX9_line_23 : decode cX9_line 23 = .ok (.iload_n 3, 1) := by decide +kernel
theorem dX9_line_24 : decode cX9_line 24 = .ok (.bipush 100, 2) := by decide +kernel
theorem dX9_line_26 : decode cX9_line 26 = .ok (.invokestatic 80, 3) := by decide +kernel
theorem dX9_line_29 : decode cX9_line 29 = .ok (.ifCond .eq 13, 3) := by decide +kernel
theorem dX9_line_32 : decode cX9_line 32 = .ok (.iload 4, 2) := by decide +kernel
theorem dX9_line_34 : decode cX9_line 34 = .ok (.bipush 100, 2) := by decide +kernel
theorem dX9_line_36 : decode cX9_line 36 = .ok (.invokestatic 80, 3) := by decide +kernel
theorem dX9_line_39 : decode cX9_line 39 = .ok (.ifCond .ne 10, 3) := by decide +kernel
theorem dX9_line_42 : decode cX9_line 42 = .ok (.aload_n 0, 1) := by decide +kernel
theorem dX9_line_43 : decode cX9_line 43 = .ok (.bipush 6, 2) := by decide +kernel
theorem dX9_line_45 : decode cX9_line 45 = .ok (.invokevirtual 84, 3) := by decide +kernel
theorem dX9_line_48 : decode cX9_line 48 = .ok (.ireturn, 1) := by decide +kernel
theorem dX9_line_49 : decode cX9_line 49 = .ok (.aload_n 0, 1) := by decide +kernel
theorem dX9_line_50 : decode cX9_line 50 = .ok (.getfield 12, 3) := by decide +kernel
theorem dX9_line_53 : decode cX9_line 53 = .ok (.getfield 145, 3) := by decide +kernel
theorem dX9_line_56 : decode cX9_line 56 = .ok (.iload_n 1, 1) := by decide +kernel
theorem dX9_line_57 : decode cX9_line 57 = .ok (.aaload, 1) := by decide +kernel
theorem dX9_line_58 : decode cX9_line 58 = .ok (.getfield 149, 3) := by decide +kernel
theorem dX9_line_61 : decode cX9_line 61 = .ok (.bipush 16, 2) := by decide +kernel
theorem dX9_line_63 : decode cX9_line 63 = .ok (.if_icmp .lt 10, 3) := by decide +kernel
theorem dX9_line_66 : decode cX9_line 66 = .ok (.aload_n 0, 1) := by decide +kernel
theorem dX9_line_67 : decode cX9_line 67 = .ok (.bipush 7, 2) := by decide +kernel
theorem dX9_line_69 : decode cX9_line 69 = .ok (.invokevirtual 84, 3) := by decide +kernel
theorem dX9_line_72 : decode cX9_line 72 = .ok (.ireturn, 1) := by decide +kernel
theorem dX9_line_73 : decode cX9_line 73 = .ok (.aload_n 0, 1) := by decide +kernel
theorem dX9_line_74 : decode cX9_line 74 = .ok (.getfield 12, 3) := by decide +kernel
theorem dX9_line_77 : decode cX9_line 77 = .ok (.getfield 145, 3) := by decide +kernel
theorem dX9_line_80 : decode cX9_line 80 = .ok (.iload_n 1, 1) := by decide +kernel
theorem dX9_line_81 : decode cX9_line 81 = .ok (.aaload, 1) := by decide +kernel
theorem dX9_line_82 : decode cX9_line 82 = .ok (.iload_n 2, 1) := by decide +kernel
theorem dX9_line_83 : decode cX9_line 83 = .ok (.iload_n 3, 1) := by decide +kernel
theorem dX9_line_84 : decode cX9_line 84 = .ok (.iload 4, 2) := by decide +kernel
theorem dX9_line_86 : decode cX9_line 86 = .ok (.invokevirtual 154, 3) := by decide +kernel
theorem dX9_line_89 : decode cX9_line 89 = .ok (.aload_n 0, 1) := by decide +kernel
theorem dX9_line_90 : decode cX9_line 90 = .ok (.getfield 12, 3) := by decide +kernel
theorem dX9_line_93 : decode cX9_line 93 = .ok (.getfield 145, 3) := by decide +kernel
theorem dX9_line_96 : decode cX9_line 96 = .ok (.iload_n 1, 1) := by decide +kernel
theorem dX9_line_97 : decode cX9_line 97 = .ok (.aaload, 1) := by decide +kernel
theorem dX9_line_98 : decode cX9_line 98 = .ok (.getfield 149, 3) := by decide +kernel
theorem dX9_line_101 : decode cX9_line 101 = .ok (.iconst 1, 1) := by decide +kernel
theorem dX9_line_102 : decode cX9_line 102 = .ok (.isub, 1) := by decide +kernel
theorem dX9_line_103 : decode cX9_line 103 = .ok (.ireturn, 1) := by decide +kernel
theorem dX9_read_0 : decode cX9_read 0 = .ok (.aload_n 0, 1) := by decide +kernel
theorem dX9_read_1 : decode cX9_read 1 = .ok (.iload_n 1, 1) := by decide +kernel
theorem dX9_read_2 : decode cX9_read 2 = .ok (.invokevirtual 92, 3) := by decide +kernel
theorem dX9_read_5 : decode cX9_read 5 = .ok (.istore_n 2, 1) := by decide +kernel
theorem dX9_read_6 : decode cX9_read 6 = .ok (.iload_n 2, 1) := by decide +kernel
theorem dX9_read_7 : decode cX9_read 7 = .ok (.ifCond .eq 9, 3) := by decide +kernel
theorem dX9_read_10 : decode cX9_read 10 = .ok (.aload_n 0, 1) := by decide +kernel
theorem dX9_read_11 : decode cX9_read 11 = .ok (.iload_n 2, 1) := by decide +kernel
theorem dX9_read_12 : decode cX9_read 12 = .ok (.invokevirtual 84, 3) := by decide +kernel
theorem dX9_read_15 : decode cX9_read 15 = .ok (.ireturn, 1) := by decide +kernel
theorem dX9_read_16 : decode cX9_read 16 = .ok (.aload_n 0, 1) := by decide +kernel
theorem dX9_read_17 : decode cX9_read 17 = .ok (.aload_n 0, 1) := by decide +kernel
theorem dX9_read_18 : decode cX9_read 18 = .ok (.getfield 51, 3) := by decide +kernel
theorem dX9_read_21 : decode cX9_read 21 = .ok (.aload_n 0, 1) := by decide +kernel
theorem dX9_read_22 : decode cX9_read 22 = .ok (.getfield 57, 3) := by decide +kernel
theorem dX9_read_25 : decode cX9_read 25 = .ok (.iload_n 1, 1) := by decide +kernel
theorem dX9_read_26 : decode cX9_read 26 = .ok (.aaload, 1) := by decide +kernel
theorem dX9_read_27 : decode cX9_read 27 = .ok (.invokevirtual 158, 3) := by decide +kernel
theorem dX9_read_30 : decode cX9_read 30 = .ok (.putfield 71, 3) := by decide +kernel
theorem dX9_read_33 : decode cX9_read 33 = .ok (.aload_n 0, 1) := by decide +kernel
theorem dX9_read_34 : decode cX9_read 34 = .ok (.getfield 71, 3) := by decide +kernel
theorem dX9_read_37 : decode cX9_read 37 = .ok (.iconst (-1), 1) := by decide +kernel
theorem dX9_read_38 : decode cX9_read 38 = .ok (.if_icmp .eq 10, 3) := by decide +kernel
theorem dX9_read_41 : decode cX9_read 41 = .ok (.aload_n 0, 1) := by decide +kernel
theorem dX9_read_42 : decode cX9_read 42 = .ok (.bipush 6, 2) := by decide +kernel
theorem dX9_read_44 : decode cX9_read 44 = .ok (.invokevirtual 84, 3) := by decide +kernel
theorem dX9_read_47 : decode cX9_read 47 = .ok (.ireturn, 1) := by decide +kernel
theorem dX9_read_48 : decode cX9_read 48 = .ok (.aload_n 0, 1) := by decide +kernel
theorem dX9_read_49 : decode cX9_read 49 = .ok (.getfield 51, 3) := by decide +kernel
theorem dX9_read_52 : decode cX9_read 52 = .ok (.invokevirtual 162, 3) := by decide +kernel
theorem dX9_read_55 : decode cX9_read 55 = .ok (.aload_n 0, 1) := by decide +kernel
theorem dX9_read_56 : decode cX9_read 56 = .ok (.getfield 51, 3) := by decide +kernel
theorem dX9_read_59 : decode cX9_read 59 = .ok (.getfield 165, 3) := by decide +kernel
theorem dX9_read_62 : decode cX9_read 62 = .ok (.ireturn, 1) := by decide +kernel
theorem dX9_fault_0 : decode cX9_fault 0 = .ok (.aload_n 0, 1) := by decide +kernel
theorem dX9_fault_1 : decode cX9_fault 1 = .ok (.getfield 71, 3) := by decide +kernel
theorem dX9_fault_4 : decode cX9_fault 4 = .ok (.ireturn, 1) := by decide +kernel
theorem dX9_empty_0 : decode cX9_empty 0 = .ok (.iload_n 1, 1) := by decide +kernel
theorem dX9_empty_1 : decode cX9_empty 1 = .ok (.iconst 5, 1) := by decide +kernel
theorem dX9_empty_2 : decode cX9_empty 2 = .ok (.invokestatic 80, 3) := by decide +kernel
theorem dX9_empty_5 : decode cX9_empty 5 = .ok (.ifCond .ne 9, 3) := by decide +kernel
theorem dX9_empty_8 : decode cX9_empty 8 = .ok (.aload_n 0, 1) := by decide +kernel
theorem dX9_empty_9 : decode cX9_empty 9 = .ok (.iconst 1, 1) := by decide +kernel
theorem dX9_empty_10 : decode cX9_empty 10 = .ok (.invokevirtual 84, 3) := by decide +kernel
theorem dX9_empty_13 : decode cX9_empty 13 = .ok (.ireturn, 1) := by decide +kernel
theorem dX9_empty_14 : decode cX9_empty 14 = .ok (.aload_n 0, 1) := by decide +kernel
theorem dX9_empty_15 : decode cX9_empty 15 = .ok (.getfield 12, 3) := by decide +kernel
theorem dX9_empty_18 : decode cX9_empty 18 = .ok (.getfield 145, 3) := by decide +kernel
theorem dX9_empty_21 : decode cX9_empty 21 = .ok (.iload_n 1, 1) := by decide +kernel
theorem dX9_empty_22 : decode cX9_empty 22 = .ok (.aaload, 1) := by decide +kernel
theorem dX9_empty_23 : decode cX9_empty 23 = .ok (.getfield 149, 3) := by decide +kernel
theorem dX9_empty_26 : decode cX9_empty 26 = .ok (.istore_n 2, 1) := by decide +kernel
theorem dX9_empty_27 : decode cX9_empty 27 = .ok (.aload_n 0, 1) := by decide +kernel
theorem dX9_empty_28 : decode cX9_empty 28 = .ok (.getfield 12, 3) := by decide +kernel
theorem dX9_empty_31 : decode cX9_empty 31 = .ok (.getfield 145, 3) := by decide +kernel
theorem dX9_empty_34 : decode cX9_empty 34 = .ok (.iload_n 1, 1) := by decide +kernel
theorem dX9_empty_35 : decode cX9_empty 35 = .ok (.aaload, 1) := by decide +kernel
theorem dX9_empty_36 : decode cX9_empty 36 = .ok (.iconst 0, 1) := by decide +kernel
theorem dX9_empty_37 : decode cX9_empty 37 = .ok (.putfield 149, 3) := by decide +kernel
theorem dX9_empty_40 : decode cX9_empty 40 = .ok (.iload_n 2, 1) := by decide +kernel
theorem dX9_empty_41 : decode cX9_empty 41 = .ok (.ireturn, 1) := by decide +kernel
theorem dX9_put_0 : decode cX9_put 0 = .ok (.iload_n 1, 1) := by decide +kernel
theorem dX9_put_1 : decode cX9_put 1 = .ok (.iconst 5, 1) := by decide +kernel
theorem dX9_put_2 : decode cX9_put 2 = .ok (.invokestatic 80, 3) := by decide +kernel
theorem dX9_put_5 : decode cX9_put 5 = .ok (.ifCond .ne 9, 3) := by decide +kernel
theorem dX9_put_8 : decode cX9_put 8 = .ok (.aload_n 0, 1) := by decide +kernel
theorem dX9_put_9 : decode cX9_put 9 = .ok (.iconst 1, 1) := by decide +kernel
theorem dX9_put_10 : decode cX9_put 10 = .ok (.invokevirtual 168, 3) := by decide +kernel
theorem dX9_put_13 : decode cX9_put 13 = .ok (.ireturn, 1) := by decide +kernel
theorem dX9_put_14 : decode cX9_put 14 = .ok (.iload_n 2, 1) := by decide +kernel
theorem dX9_put_15 : decode cX9_put 15 = .ok (.iconst 2, 1) := by decide +kernel
theorem dX9_put_16 : decode cX9_put 16 = .ok (.invokestatic 80, 3) := by decide +kernel
theorem dX9_put_19 : decode cX9_put 19 = .ok (.ifCond .ne 9, 3) := by decide +kernel
theorem dX9_put_22 : decode cX9_put 22 = .ok (.aload_n 0, 1) := by decide +kernel
theorem dX9_put_23 : decode cX9_put 23 = .ok (.iconst 5, 1) := by decide +kernel
theorem dX9_put_24 : decode cX9_put 24 = .ok (.invokevirtual 168, 3) := by decide +kernel
theorem dX9_put_27 : decode cX9_put 27 = .ok (.ireturn, 1) := by decide +kernel
theorem dX9_put_28 : decode cX9_put 28 = .ok (.aload_n 0, 1) := by decide +kernel
theorem dX9_put_29 : decode cX9_put 29 = .ok (.getfield 12, 3) := by decide +kernel
theorem dX9_put_32 : decode cX9_put 32 = .ok (.getfield 145, 3) := by decide +kernel
theorem dX9_put_35 : decode cX9_put 35 = .ok (.iload_n 1, 1) := by decide +kernel
theorem dX9_put_36 : decode cX9_put 36 = .ok (.aaload, 1) := by decide +kernel
theorem dX9_put_37 : decode cX9_put 37 = .ok (.astore 4, 2) := by decide +kernel
theorem dX9_put_39 : decode cX9_put 39 = .ok (.iload_n 2, 1) := by decide +kernel
theorem dX9_put_40 : decode cX9_put 40 = .ok (.ifCond .ne 7, 3) := by decide +kernel
theorem dX9_put_43 : decode cX9_put 43 = .ok (.iconst 1, 1) := by decide +kernel
theorem dX9_put_44 : decode cX9_put 44 = .ok (.goto 4, 3) := by decide +kernel
theorem dX9_put_47 : decode cX9_put 47 = .ok (.iconst 0, 1) := by decide +kernel
theorem dX9_put_48 : decode cX9_put 48 = .ok (.istore 5, 2) := by decide +kernel
theorem dX9_put_50 : decode cX9_put 50 = .ok (.iload 5, 2) := by decide +kernel
theorem dX9_put_52 : decode cX9_put 52 = .ok (.ifCond .eq 22, 3) := by decide +kernel
theorem dX9_put_55 : decode cX9_put 55 = .ok (.iload_n 3, 1) := by decide +kernel
theorem dX9_put_56 : decode cX9_put 56 = .ok (.iconst 1, 1) := by decide +kernel
theorem dX9_put_57 : decode cX9_put 57 = .ok (.if_icmp .lt 13, 3) := by decide +kernel
theorem dX9_put_60 : decode cX9_put 60 = .ok (.iload_n 3, 1) := by decide +kernel
theorem dX9_put_61 : decode cX9_put 61 = .ok (.bipush 8, 2) := by decide +kernel
theorem dX9_put_63 : decode cX9_put 63 = .ok (.if_icmp .gt 7, 3) := by decide +kernel
theorem dX9_put_66 : decode cX9_put 66 = .ok (.iconst 1, 1) := by decide +kernel
theorem dX9_put_67 : decode cX9_put 67 = .ok (.goto 25, 3) := by decide +kernel
theorem dX9_put_70 : decode cX9_put 70 = .ok (.iconst 0, 1) := by decide +kernel
theorem dX9_put_71 : decode cX9_put 71 = .ok (.goto 21, 3) := by decide +kernel
theorem dX9_put_74 : decode cX9_put 74 = .ok (.iload_n 3, 1) := by decide +kernel
theorem dX9_put_75 : decode cX9_put 75 = .ok (.iconst (-1), 1) := by decide +kernel
theorem dX9_put_76 : decode cX9_put 76 = .ok (.if_icmp .eq 11, 3) := by decide +kernel
theorem dX9_put_79 : decode cX9_put 79 = .ok (.iload_n 3, 1) := by decide +kernel
theorem dX9_put_80 : decode cX9_put 80 = .ok (.iconst 3, 1) := by decide +kernel
theorem dX9_put_81 : decode cX9_put 81 = .ok (.invokestatic 80, 3) := by decide +kernel
theorem dX9_put_84 : decode cX9_put 84 = .ok (.ifCond .eq 7, 3) := by decide +kernel
theorem dX9_put_87 : decode cX9_put 87 = .ok (.iconst 1, 1) := by decide +kernel
theorem dX9_put_88 : decode cX9_put 88 = .ok (.goto 4, 3) := by decide +kernel
theorem dX9_put_91 : decode cX9_put 91 = .ok (.iconst 0, 1) := by decide +kernel
theorem dX9_put_92 : decode cX9_put 92 = .ok (.istore 6, 2) := by decide +kernel
theorem dX9_put_94 : decode cX9_put 94 = .ok (.iload 6, 2) := by decide +kernel
theorem dX9_put_96 : decode cX9_put 96 = .ok (.ifCond .ne 10, 3) := by decide +kernel
theorem dX9_put_99 : decode cX9_put 99 = .ok (.aload_n 0, 1) := by decide +kernel
theorem dX9_put_100 : decode cX9_put 100 = .ok (.bipush 6, 2) := by decide +kernel
theorem dX9_put_102 : decode cX9_put 102 = .ok (.invokevirtual 168, 3) := by decide +kernel
theorem dX9_put_105 : decode cX9_put 105 = .ok (.ireturn, 1) := by decide +kernel
theorem dX9_put_106 : decode cX9_put 106 = .ok (.iload 5, 2) := by decide +kernel
theorem dX9_put_108 : decode cX9_put 108 = .ok (.ifCond .eq 11, 3) := by decide +kernel
theorem dX9_put_111 : decode cX9_put 111 = .ok (.aload 4, 2) := by decide +kernel
theorem dX9_put_113 : decode cX9_put 113 = .ok (.getfield 171, 3) := by decide +kernel
theorem dX9_put_116 : decode cX9_put 116 = .ok (.goto 8, 3) := by decide +kernel
theorem dX9_put_119 : decode cX9_put 119 = .ok (.aload 4, 2) := by decide +kernel
theorem dX9_put_121 : decode cX9_put 121 = .ok (.getfield 174, 3) := by decide +kernel
theorem dX9_put_124 : decode cX9_put 124 = .ok (.istore 7, 2) := by decide +kernel
theorem dX9_put_126 : decode cX9_put 126 = .ok (.iload 5, 2) := by decide +kernel
theorem dX9_put_128 : decode cX9_put 128 = .ok (.ifCond .eq 12, 3) := by decide +kernel
theorem dX9_put_131 : decode cX9_put 131 = .ok (.aload 4, 2) := by decide +kernel
theorem dX9_put_133 : decode cX9_put 133 = .ok (.iload_n 3, 1) := by decide +kernel
theorem dX9_put_134 : decode cX9_put 134 = .ok (.putfield 171, 3) := by decide +kernel
theorem dX9_put_137 : decode cX9_put 137 = .ok (.goto 9, 3) := by decide +kernel
theorem dX9_put_140 : decode cX9_put 140 = .ok (.aload 4, 2) := by decide +kernel
theorem dX9_put_142 : decode cX9_put 142 = .ok (.iload_n 3, 1) := by decide +kernel
theorem dX9_put_143 : decode cX9_put 143 = .ok (.putfield 174, 3) := by decide +kernel
theorem dX9_put_146 : decode cX9_put 146 = .ok (.iload 7, 2) := by decide +kernel
theorem dX9_put_148 : decode cX9_put 148 = .ok (.ireturn, 1) := by decide +kernel
theorem dX9_tableOf_0 : decode cX9_tableOf 0 = .ok (.iload_n 1, 1) := by decide +kernel
theorem dX9_tableOf_1 : decode cX9_tableOf 1 = .ok (.iconst 5, 1) := by decide +kernel
theorem dX9_tableOf_2 : decode cX9_tableOf 2 = .ok (.invokestatic 80, 3) := by decide +kernel
theorem dX9_tableOf_5 : decode cX9_tableOf 5 = .ok (.ifCond .ne 9, 3) := by decide +kernel
theorem dX9_tableOf_8 : decode cX9_tableOf 8 = .ok (.aload_n 0, 1) := by decide +kernel
theorem dX9_tableOf_9 : decode cX9_tableOf 9 = .ok (.iconst 1, 1) := by decide +kernel
theorem dX9_tableOf_10 : decode cX9_tableOf 10 = .ok (.invokevirtual 84, 3) := by decide +kernel
theorem dX9_tableOf_13 : decode cX9_tableOf 13 = .ok (.ireturn, 1) := by decide +kernel
theorem dX9_tableOf_14 : decode cX9_tableOf 14 = .ok (.iload_n 2, 1) := by decide +kernel
theorem dX9_tableOf_15 : decode cX9_tableOf 15 = .ok (.tableswitch 66 0 2 #[25, 38, 51], 25) := by decide +kernel
theorem dX9_tableOf_40 : decode cX9_tableOf 40 = .ok (.aload_n 0, 1) := by decide +kernel
theorem dX9_tableOf_41 : decode cX9_tableOf 41 = .ok (.getfield 12, 3) := by decide +kernel
theorem dX9_tableOf_44 : decode cX9_tableOf 44 = .ok (.getfield 145, 3) := by decide +kernel
theorem dX9_tableOf_47 : decode cX9_tableOf 47 = .ok (.iload_n 1, 1) := by decide +kernel
theorem dX9_tableOf_48 : decode cX9_tableOf 48 = .ok (.aaload, 1) := by decide +kernel
theorem dX9_tableOf_49 : decode cX9_tableOf 49 = .ok (.getfield 149, 3) := by decide +kernel
theorem dX9_tableOf_52 : decode cX9_tableOf 52 = .ok (.ireturn, 1) := by decide +kernel
theorem dX9_tableOf_53 : decode cX9_tableOf 53 = .ok (.aload_n 0, 1) := by decide +kernel
theorem dX9_tableOf_54 : decode cX9_tableOf 54 = .ok (.getfield 12, 3) := by decide +kernel
theorem dX9_tableOf_57 : decode cX9_tableOf 57 = .ok (.getfield 145, 3) := by decide +kernel
theorem dX9_tableOf_60 : decode cX9_tableOf 60 = .ok (.iload_n 1, 1) := by decide +kernel
theorem dX9_tableOf_61 : decode cX9_tableOf 61 = .ok (.aaload, 1) := by decide +kernel
theorem dX9_tableOf_62 : decode cX9_tableOf 62 = .ok (.getfield 171, 3) := by decide +kernel
theorem dX9_tableOf_65 : decode cX9_tableOf 65 = .ok (.ireturn, 1) := by decide +kernel
theorem dX9_tableOf_66 : decode cX9_tableOf 66 = .ok (.aload_n 0, 1) := by decide +kernel
theorem dX9_tableOf_67 : decode cX9_tableOf 67 = .ok (.getfield 12, 3) := by decide +kernel
theorem dX9_tableOf_70 : decode cX9_tableOf 70 = .ok (.getfield 145, 3) := by decide +kernel
theorem dX9_tableOf_73 : decode cX9_tableOf 73 = .ok (.iload_n 1, 1) := by decide +kernel
theorem dX9_tableOf_74 : decode cX9_tableOf 74 = .ok (.aaload, 1) := by decide +kernel
theorem dX9_tableOf_75 : decode cX9_tableOf 75 = .ok (.getfield 174, 3) := by decide +kernel
theorem dX9_tableOf_78 : decode cX9_tableOf 78 = .ok (.iconst 1, 1) := by decide +kernel
theorem dX9_tableOf_79 : decode cX9_tableOf 79 = .ok (.iadd, 1) := by decide +kernel
theorem dX9_tableOf_80 : decode cX9_tableOf 80 = .ok (.ireturn, 1) := by decide +kernel
theorem dX9_tableOf_81 : decode cX9_tableOf 81 = .ok (.aload_n 0, 1) := by decide +kernel
theorem dX9_tableOf_82 : decode cX9_tableOf 82 = .ok (.iconst 5, 1) := by decide +kernel
theorem dX9_tableOf_83 : decode cX9_tableOf 83 = .ok (.invokevirtual 84, 3) := by decide +kernel
theorem dX9_tableOf_86 : decode cX9_tableOf 86 = .ok (.ireturn, 1) := by decide +kernel
theorem dX9_lineOf_0 : decode cX9_lineOf 0 = .ok (.iload_n 1, 1) := by decide +kernel
theorem dX9_lineOf_1 : decode cX9_lineOf 1 = .ok (.iconst 5, 1) := by decide +kernel
theorem dX9_lineOf_2 : decode cX9_lineOf 2 = .ok (.invokestatic 80, 3) := by decide +kernel
theorem dX9_lineOf_5 : decode cX9_lineOf 5 = .ok (.ifCond .ne 9, 3) := by decide +kernel
theorem dX9_lineOf_8 : decode cX9_lineOf 8 = .ok (.aload_n 0, 1) := by decide +kernel
theorem dX9_lineOf_9 : decode cX9_lineOf 9 = .ok (.iconst 1, 1) := by decide +kernel
theorem dX9_lineOf_10 : decode cX9_lineOf 10 = .ok (.invokevirtual 84, 3) := by decide +kernel
theorem dX9_lineOf_13 : decode cX9_lineOf 13 = .ok (.ireturn, 1) := by decide +kernel
theorem dX9_lineOf_14 : decode cX9_lineOf 14 = .ok (.iload_n 2, 1) := by decide +kernel
theorem dX9_lineOf_15 : decode cX9_lineOf 15 = .ok (.aload_n 0, 1) := by decide +kernel
theorem dX9_lineOf_16 : decode cX9_lineOf 16 = .ok (.getfield 12, 3) := by decide +kernel
theorem dX9_lineOf_19 : decode cX9_lineOf 19 = .ok (.getfield 145, 3) := by decide +kernel
theorem dX9_lineOf_22 : decode cX9_lineOf 22 = .ok (.iload_n 1, 1) := by decide +kernel
theorem dX9_lineOf_23 : decode cX9_lineOf 23 = .ok (.aaload, 1) := by decide +kernel
theorem dX9_lineOf_24 : decode cX9_lineOf 24 = .ok (.getfield 149, 3) := by decide +kernel
theorem dX9_lineOf_27 : decode cX9_lineOf 27 = .ok (.invokestatic 80, 3) := by decide +kernel
theorem dX9_lineOf_30 : decode cX9_lineOf 30 = .ok (.ifCond .eq 11, 3) := by decide +kernel
theorem dX9_lineOf_33 : decode cX9_lineOf 33 = .ok (.iload_n 3, 1) := by decide +kernel
theorem dX9_lineOf_34 : decode cX9_lineOf 34 = .ok (.iconst 3, 1) := by decide +kernel
theorem dX9_lineOf_35 : decode cX9_lineOf 35 = .ok (.invokestatic 80, 3) := by decide +kernel
theorem dX9_lineOf_38 : decode cX9_lineOf 38 = .ok (.ifCond .ne 9, 3) := by decide +kernel
theorem dX9_lineOf_41 : decode cX9_lineOf 41 = .ok (.aload_n 0, 1) := by decide +kernel
theorem dX9_lineOf_42 : decode cX9_lineOf 42 = .ok (.iconst 5, 1) := by decide +kernel
theorem dX9_lineOf_43 : decode cX9_lineOf 43 = .ok (.invokevirtual 84, 3) := by decide +kernel
theorem dX9_lineOf_46 : decode cX9_lineOf 46 = .ok (.ireturn, 1) := by decide +kernel
theorem dX9_lineOf_47 : decode cX9_lineOf 47 = .ok (.aload_n 0, 1) := by decide +kernel
theorem dX9_lineOf_48 : decode cX9_lineOf 48 = .ok (.getfield 12, 3) := by decide +kernel
theorem dX9_lineOf_51 : decode cX9_lineOf 51 = .ok (.getfield 145, 3) := by decide +kernel
theorem dX9_lineOf_54 : decode cX9_lineOf 54 = .ok (.iload_n 1, 1) := by decide +kernel
theorem dX9_lineOf_55 : decode cX9_lineOf 55 = .ok (.aaload, 1) := by decide +kernel
theorem dX9_lineOf_56 : decode cX9_lineOf 56 = .ok (.iload_n 2, 1) := by decide +kernel
theorem dX9_lineOf_57 : decode cX9_lineOf 57 = .ok (.iload_n 3, 1) := by decide +kernel
theorem dX9_lineOf_58 : decode cX9_lineOf 58 = .ok (.invokevirtual 177, 3) := by decide +kernel
theorem dX9_lineOf_61 : decode cX9_lineOf 61 = .ok (.ireturn, 1) := by decide +kernel
theorem dX9_bucket_0 : decode cX9_bucket 0 = .ok (.iload_n 1, 1) := by decide +kernel
theorem dX9_bucket_1 : decode cX9_bucket 1 = .ok (.bipush 15, 2) := by decide +kernel
theorem dX9_bucket_3 : decode cX9_bucket 3 = .ok (.invokestatic 80, 3) := by decide +kernel
theorem dX9_bucket_6 : decode cX9_bucket 6 = .ok (.ifCond .ne 9, 3) := by decide +kernel
theorem dX9_bucket_9 : decode cX9_bucket 9 = .ok (.aload_n 0, 1) := by decide +kernel
theorem dX9_bucket_10 : decode cX9_bucket 10 = .ok (.iconst 1, 1) := by decide +kernel
theorem dX9_bucket_11 : decode cX9_bucket 11 = .ok (.invokevirtual 84, 3) := by decide +kernel
theorem dX9_bucket_14 : decode cX9_bucket 14 = .ok (.ireturn, 1) := by decide +kernel
theorem dX9_bucket_15 : decode cX9_bucket 15 = .ok (.aload_n 0, 1) := by decide +kernel
theorem dX9_bucket_16 : decode cX9_bucket 16 = .ok (.getfield 28, 3) := by decide +kernel
theorem dX9_bucket_19 : decode cX9_bucket 19 = .ok (.iload_n 1, 1) := by decide +kernel
theorem dX9_bucket_20 : decode cX9_bucket 20 = .ok (.invokevirtual 181, 3) := by decide +kernel
theorem dX9_bucket_23 : decode cX9_bucket 23 = .ok (.astore 4, 2) := by decide +kernel
theorem dX9_bucket_25 : decode cX9_bucket 25 = .ok (.iload_n 2, 1) := by decide +kernel
theorem dX9_bucket_26 : decode cX9_bucket 26 = .ok (.aload 4, 2) := by decide +kernel
theorem dX9_bucket_28 : decode cX9_bucket 28 = .ok (.getfield 185, 3) := by decide +kernel
theorem dX9_bucket_31 : decode cX9_bucket 31 = .ok (.invokestatic 80, 3) := by decide +kernel
theorem dX9_bucket_34 : decode cX9_bucket 34 = .ok (.ifCond .ne 9, 3) := by decide +kernel
theorem dX9_bucket_37 : decode cX9_bucket 37 = .ok (.aload_n 0, 1) := by decide +kernel
theorem dX9_bucket_38 : decode cX9_bucket 38 = .ok (.iconst 5, 1) := by decide +kernel
theorem dX9_bucket_39 : decode cX9_bucket 39 = .ok (.invokevirtual 84, 3) := by decide +kernel
theorem dX9_bucket_42 : decode cX9_bucket 42 = .ok (.ireturn, 1) := by decide +kernel
theorem dX9_bucket_43 : decode cX9_bucket 43 = .ok (.iload_n 3, 1) := by decide +kernel
theorem dX9_bucket_44 : decode cX9_bucket 44 = .ok (.tableswitch 64 0 3 #[32, 40, 48, 56], 32) := by decide +kernel
theorem dX9_bucket_76 : decode cX9_bucket 76 = .ok (.aload 4, 2) := by decide +kernel
theorem dX9_bucket_78 : decode cX9_bucket 78 = .ok (.getfield 188, 3) := by decide +kernel
theorem dX9_bucket_81 : decode cX9_bucket 81 = .ok (.iload_n 2, 1) := by decide +kernel
theorem dX9_bucket_82 : decode cX9_bucket 82 = .ok (.iaload, 1) := by decide +kernel
theorem dX9_bucket_83 : decode cX9_bucket 83 = .ok (.ireturn, 1) := by decide +kernel
theorem dX9_bucket_84 : decode cX9_bucket 84 = .ok (.aload 4, 2) := by decide +kernel
theorem dX9_bucket_86 : decode cX9_bucket 86 = .ok (.getfield 191, 3) := by decide +kernel
theorem dX9_bucket_89 : decode cX9_bucket 89 = .ok (.iload_n 2, 1) := by decide +kernel
theorem dX9_bucket_90 : decode cX9_bucket 90 = .ok (.iaload, 1) := by decide +kernel
theorem dX9_bucket_91 : decode cX9_bucket 91 = .ok (.ireturn, 1) := by decide +kernel
theorem dX9_bucket_92 : decode cX9_bucket 92 = .ok (.aload 4, 2) := by decide +kernel
theorem dX9_bucket_94 : decode cX9_bucket 94 = .ok (.getfield 194, 3) := by decide +kernel
theorem dX9_bucket_97 : decode cX9_bucket 97 = .ok (.iload_n 2, 1) := by decide +kernel
theorem dX9_bucket_98 : decode cX9_bucket 98 = .ok (.iaload, 1) := by decide +kernel
theorem dX9_bucket_99 : decode cX9_bucket 99 = .ok (.ireturn, 1) := by decide +kernel
theorem dX9_bucket_100 : decode cX9_bucket 100 = .ok (.aload 4, 2) := by decide +kernel
theorem dX9_bucket_102 : decode cX9_bucket 102 = .ok (.getfield 197, 3) := by decide +kernel
theorem dX9_bucket_105 : decode cX9_bucket 105 = .ok (.iload_n 2, 1) := by decide +kernel
theorem dX9_bucket_106 : decode cX9_bucket 106 = .ok (.iaload, 1) := by decide +kernel
theorem dX9_bucket_107 : decode cX9_bucket 107 = .ok (.ireturn, 1) := by decide +kernel
theorem dX9_bucket_108 : decode cX9_bucket 108 = .ok (.aload_n 0, 1) := by decide +kernel
theorem dX9_bucket_109 : decode cX9_bucket 109 = .ok (.iconst 5, 1) := by decide +kernel
theorem dX9_bucket_110 : decode cX9_bucket 110 = .ok (.invokevirtual 84, 3) := by decide +kernel
theorem dX9_bucket_113 : decode cX9_bucket 113 = .ok (.ireturn, 1) := by decide +kernel
theorem dX9_different_0 : decode cX9_different 0 = .ok (.iload_n 1, 1) := by decide +kernel
theorem dX9_different_1 : decode cX9_different 1 = .ok (.bipush 15, 2) := by decide +kernel
theorem dX9_different_3 : decode cX9_different 3 = .ok (.invokestatic 80, 3) := by decide +kernel
theorem dX9_different_6 : decode cX9_different 6 = .ok (.ifCond .ne 9, 3) := by decide +kernel
theorem dX9_different_9 : decode cX9_different 9 = .ok (.aload_n 0, 1) := by decide +kernel
theorem dX9_different_10 : decode cX9_different 10 = .ok (.iconst 1, 1) := by decide +kernel
theorem dX9_different_11 : decode cX9_different 11 = .ok (.invokevirtual 84, 3) := by decide +kernel
theorem dX9_different_14 : decode cX9_different 14 = .ok (.ireturn, 1) := by decide +kernel
theorem dX9_different_15 : decode cX9_different 15 = .ok (.aload_n 0, 1) := by decide +kernel
theorem dX9_different_16 : decode cX9_different 16 = .ok (.getfield 28, 3) := by decide +kernel
theorem dX9_different_19 : decode cX9_different 19 = .ok (.iload_n 1, 1) := by decide +kernel
theorem dX9_different_20 : decode cX9_different 20 = .ok (.invokevirtual 181, 3) := by decide +kernel
theorem dX9_different_23 : decode cX9_different 23 = .ok (.invokevirtual 200, 3) := by decide +kernel
theorem dX9_different_26 : decode cX9_different 26 = .ok (.ireturn, 1) := by decide +kernel
theorem dX9_share_0 : decode cX9_share 0 = .ok (.iload_n 1, 1) := by decide +kernel
theorem dX9_share_1 : decode cX9_share 1 = .ok (.bipush 15, 2) := by decide +kernel
theorem dX9_share_3 : decode cX9_share 3 = .ok (.invokestatic 80, 3) := by decide +kernel
theorem dX9_share_6 : decode cX9_share 6 = .ok (.ifCond .ne 9, 3) := by decide +kernel
theorem dX9_share_9 : decode cX9_share 9 = .ok (.aload_n 0, 1) := by decide +kernel
theorem dX9_share_10 : decode cX9_share 10 = .ok (.iconst 1, 1) := by decide +kernel
theorem dX9_share_11 : decode cX9_share 11 = .ok (.invokevirtual 168, 3) := by decide +kernel
theorem dX9_share_14 : decode cX9_share 14 = .ok (.ireturn, 1) := by decide +kernel
theorem dX9_share_15 : decode cX9_share 15 = .ok (.iload_n 2, 1) := by decide +kernel
theorem dX9_share_16 : decode cX9_share 16 = .ok (.iconst 3, 1) := by decide +kernel
theorem dX9_share_17 : decode cX9_share 17 = .ok (.invokestatic 80, 3) := by decide +kernel
theorem dX9_share_20 : decode cX9_share 20 = .ok (.ifCond .eq 12, 3) := by decide +kernel
theorem dX9_share_23 : decode cX9_share 23 = .ok (.iload_n 3, 1) := by decide +kernel
theorem dX9_share_24 : decode cX9_share 24 = .ok (.bipush 100, 2) := by decide +kernel
theorem dX9_share_26 : decode cX9_share 26 = .ok (.invokestatic 80, 3) := by decide +kernel
theorem dX9_share_29 : decode cX9_share 29 = .ok (.ifCond .ne 10, 3) := by decide +kernel
theorem dX9_share_32 : decode cX9_share 32 = .ok (.aload_n 0, 1) := by decide +kernel
theorem dX9_share_33 : decode cX9_share 33 = .ok (.bipush 6, 2) := by decide +kernel
theorem dX9_share_35 : decode cX9_share 35 = .ok (.invokevirtual 168, 3) := by decide +kernel
theorem dX9_share_38 : decode cX9_share 38 = .ok (.ireturn, 1) := by decide +kernel
theorem dX9_share_39 : decode cX9_share 39 = .ok (.aload_n 0, 1) := by decide +kernel
theorem dX9_share_40 : decode cX9_share 40 = .ok (.getfield 28, 3) := by decide +kernel
theorem dX9_share_43 : decode cX9_share 43 = .ok (.iload_n 1, 1) := by decide +kernel
theorem dX9_share_44 : decode cX9_share 44 = .ok (.invokevirtual 181, 3) := by decide +kernel
theorem dX9_share_47 : decode cX9_share 47 = .ok (.iload_n 2, 1) := by decide +kernel
theorem dX9_share_48 : decode cX9_share 48 = .ok (.iload_n 3, 1) := by decide +kernel
theorem dX9_share_49 : decode cX9_share 49 = .ok (.invokevirtual 203, 3) := by decide +kernel
theorem dX9_share_52 : decode cX9_share 52 = .ok (.invokestatic 207, 3) := by decide +kernel
theorem dX9_share_55 : decode cX9_share 55 = .ok (.ireturn, 1) := by decide +kernel
theorem dX9_filter_0 : decode cX9_filter 0 = .ok (.iload_n 1, 1) := by decide +kernel
theorem dX9_filter_1 : decode cX9_filter 1 = .ok (.bipush 15, 2) := by decide +kernel
theorem dX9_filter_3 : decode cX9_filter 3 = .ok (.invokestatic 80, 3) := by decide +kernel
theorem dX9_filter_6 : decode cX9_filter 6 = .ok (.ifCond .ne 9, 3) := by decide +kernel
theorem dX9_filter_9 : decode cX9_filter 9 = .ok (.aload_n 0, 1) := by decide +kernel
theorem dX9_filter_10 : decode cX9_filter 10 = .ok (.iconst 1, 1) := by decide +kernel
theorem dX9_filter_11 : decode cX9_filter 11 = .ok (.invokevirtual 84, 3) := by decide +kernel
theorem dX9_filter_14 : decode cX9_filter 14 = .ok (.ireturn, 1) := by decide +kernel
theorem dX9_filter_15 : decode cX9_filter 15 = .ok (.iload_n 2, 1) := by decide +kernel
theorem dX9_filter_16 : decode cX9_filter 16 = .ok (.iconst 3, 1) := by decide +kernel
theorem dX9_filter_17 : decode cX9_filter 17 = .ok (.invokestatic 80, 3) := by decide +kernel
theorem dX9_filter_20 : decode cX9_filter 20 = .ok (.ifCond .eq 12, 3) := by decide +kernel
theorem dX9_filter_23 : decode cX9_filter 23 = .ok (.iload_n 3, 1) := by decide +kernel
theorem dX9_filter_24 : decode cX9_filter 24 = .ok (.bipush 100, 2) := by decide +kernel
theorem dX9_filter_26 : decode cX9_filter 26 = .ok (.invokestatic 80, 3) := by decide +kernel
theorem dX9_filter_29 : decode cX9_filter 29 = .ok (.ifCond .ne 10, 3) := by decide +kernel
theorem dX9_filter_32 : decode cX9_filter 32 = .ok (.aload_n 0, 1) := by decide +kernel
theorem dX9_filter_33 : decode cX9_filter 33 = .ok (.bipush 6, 2) := by decide +kernel
theorem dX9_filter_35 : decode cX9_filter 35 = .ok (.invokevirtual 84, 3) := by decide +kernel
theorem dX9_filter_38 : decode cX9_filter 38 = .ok (.ireturn, 1) := by decide +kernel
theorem dX9_filter_39 : decode cX9_filter 39 = .ok (.aload_n 0, 1) := by decide +kernel
theorem dX9_filter_40 : decode cX9_filter 40 = .ok (.getfield 12, 3) := by decide +kernel
theorem dX9_filter_43 : decode cX9_filter 43 = .ok (.getfield 211, 3) := by decide +kernel
theorem dX9_filter_46 : decode cX9_filter 46 = .ok (.bipush 8, 2) := by decide +kernel
theorem dX9_filter_48 : decode cX9_filter 48 = .ok (.if_icmp .lt 10, 3) := by decide +kernel
theorem dX9_filter_51 : decode cX9_filter 51 = .ok (.aload_n 0, 1) := by decide +kernel
theorem dX9_filter_52 : decode cX9_filter 52 = .ok (.bipush 7, 2) := by decide +kernel
theorem dX9_filter_54 : decode cX9_filter 54 = .ok (.invokevirtual 84, 3) := by decide +kernel
theorem dX9_filter_57 : decode cX9_filter 57 = .ok (.ireturn, 1) := by decide +kernel
theorem dX9_filter_58 : decode cX9_filter 58 = .ok (.aload_n 0, 1) := by decide +kernel
theorem dX9_filter_59 : decode cX9_filter 59 = .ok (.getfield 12, 3) := by decide +kernel
theorem dX9_filter_62 : decode cX9_filter 62 = .ok (.iload_n 1, 1) := by decide +kernel
theorem dX9_filter_63 : decode cX9_filter 63 = .ok (.iload_n 2, 1) := by decide +kernel
theorem dX9_filter_64 : decode cX9_filter 64 = .ok (.iload_n 3, 1) := by decide +kernel
theorem dX9_filter_65 : decode cX9_filter 65 = .ok (.invokevirtual 214, 3) := by decide +kernel
theorem dX9_filter_68 : decode cX9_filter 68 = .ok (.aload_n 0, 1) := by decide +kernel
theorem dX9_filter_69 : decode cX9_filter 69 = .ok (.getfield 12, 3) := by decide +kernel
theorem dX9_filter_72 : decode cX9_filter 72 = .ok (.getfield 211, 3) := by decide +kernel
theorem dX9_filter_75 : decode cX9_filter 75 = .ok (.iconst 1, 1) := by decide +kernel
theorem dX9_filter_76 : decode cX9_filter 76 = .ok (.isub, 1) := by decide +kernel
theorem dX9_filter_77 : decode cX9_filter 77 = .ok (.ireturn, 1) := by decide +kernel
theorem dX9_join_0 : decode cX9_join 0 = .ok (.iload_n 1, 1) := by decide +kernel
theorem dX9_join_1 : decode cX9_join 1 = .ok (.bipush 15, 2) := by decide +kernel
theorem dX9_join_3 : decode cX9_join 3 = .ok (.invokestatic 80, 3) := by decide +kernel
theorem dX9_join_6 : decode cX9_join 6 = .ok (.ifCond .eq 12, 3) := by decide +kernel
theorem dX9_join_9 : decode cX9_join 9 = .ok (.iload_n 2, 1) := by decide +kernel
theorem dX9_join_10 : decode cX9_join 10 = .ok (.bipush 15, 2) := by decide +kernel
theorem dX9_join_12 : decode cX9_join 12 = .ok (.invokestatic 80, 3) := by decide +kernel
theorem dX9_join_15 : decode cX9_join 15 = .ok (.ifCond .ne 9, 3) := by decide +kernel
theorem dX9_join_18 : decode cX9_join 18 = .ok (.aload_n 0, 1) := by decide +kernel
theorem dX9_join_19 : decode cX9_join 19 = .ok (.iconst 1, 1) := by decide +kernel
theorem dX9_join_20 : decode cX9_join 20 = .ok (.invokevirtual 84, 3) := by decide +kernel
theorem dX9_join_23 : decode cX9_join 23 = .ok (.ireturn, 1) := by decide +kernel
theorem dX9_join_24 : decode cX9_join 24 = .ok (.iload_n 1, 1) := by decide +kernel
theorem dX9_join_25 : decode cX9_join 25 = .ok (.iconst 3, 1) := by decide +kernel
theorem dX9_join_26 : decode cX9_join 26 = .ok (.idiv, 1) := by decide +kernel
theorem dX9_join_27 : decode cX9_join 27 = .ok (.iload_n 2, 1) := by decide +kernel
theorem dX9_join_28 : decode cX9_join 28 = .ok (.iconst 3, 1) := by decide +kernel
theorem dX9_join_29 : decode cX9_join 29 = .ok (.idiv, 1) := by decide +kernel
theorem dX9_join_30 : decode cX9_join 30 = .ok (.if_icmp .ne 10, 3) := by decide +kernel
theorem dX9_join_33 : decode cX9_join 33 = .ok (.aload_n 0, 1) := by decide +kernel
theorem dX9_join_34 : decode cX9_join 34 = .ok (.bipush 6, 2) := by decide +kernel
theorem dX9_join_36 : decode cX9_join 36 = .ok (.invokevirtual 84, 3) := by decide +kernel
theorem dX9_join_39 : decode cX9_join 39 = .ok (.ireturn, 1) := by decide +kernel
theorem dX9_join_40 : decode cX9_join 40 = .ok (.aload_n 0, 1) := by decide +kernel
theorem dX9_join_41 : decode cX9_join 41 = .ok (.getfield 12, 3) := by decide +kernel
theorem dX9_join_44 : decode cX9_join 44 = .ok (.getfield 217, 3) := by decide +kernel
theorem dX9_join_47 : decode cX9_join 47 = .ok (.bipush 8, 2) := by decide +kernel
theorem dX9_join_49 : decode cX9_join 49 = .ok (.if_icmp .lt 10, 3) := by decide +kernel
theorem dX9_join_52 : decode cX9_join 52 = .ok (.aload_n 0, 1) := by decide +kernel
theorem dX9_join_53 : decode cX9_join 53 = .ok (.bipush 7, 2) := by decide +kernel
theorem dX9_join_55 : decode cX9_join 55 = .ok (.invokevirtual 84, 3) := by decide +kernel
theorem dX9_join_58 : decode cX9_join 58 = .ok (.ireturn, 1) := by decide +kernel
theorem dX9_join_59 : decode cX9_join 59 = .ok (.aload_n 0, 1) := by decide +kernel
theorem dX9_join_60 : decode cX9_join 60 = .ok (.getfield 12, 3) := by decide +kernel
theorem dX9_join_63 : decode cX9_join 63 = .ok (.iload_n 1, 1) := by decide +kernel
theorem dX9_join_64 : decode cX9_join 64 = .ok (.iload_n 2, 1) := by decide +kernel
theorem dX9_join_65 : decode cX9_join 65 = .ok (.invokestatic 220, 3) := by decide +kernel
theorem dX9_join_68 : decode cX9_join 68 = .ok (.iload_n 1, 1) := by decide +kernel
theorem dX9_join_69 : decode cX9_join 69 = .ok (.iload_n 2, 1) := by decide +kernel
theorem dX9_join_70 : decode cX9_join 70 = .ok (.invokestatic 225, 3) := by decide +kernel
theorem dX9_join_73 : decode cX9_join 73 = .ok (.invokevirtual 228, 3) := by decide +kernel
theorem dX9_join_76 : decode cX9_join 76 = .ok (.aload_n 0, 1) := by decide +kernel
theorem dX9_join_77 : decode cX9_join 77 = .ok (.getfield 12, 3) := by decide +kernel
theorem dX9_join_80 : decode cX9_join 80 = .ok (.getfield 217, 3) := by decide +kernel
theorem dX9_join_83 : decode cX9_join 83 = .ok (.iconst 1, 1) := by decide +kernel
theorem dX9_join_84 : decode cX9_join 84 = .ok (.isub, 1) := by decide +kernel
theorem dX9_join_85 : decode cX9_join 85 = .ok (.ireturn, 1) := by decide +kernel
theorem dX9_clear_0 : decode cX9_clear 0 = .ok (.aload_n 0, 1) := by decide +kernel
theorem dX9_clear_1 : decode cX9_clear 1 = .ok (.getfield 12, 3) := by decide +kernel
theorem dX9_clear_4 : decode cX9_clear 4 = .ok (.getfield 211, 3) := by decide +kernel
theorem dX9_clear_7 : decode cX9_clear 7 = .ok (.aload_n 0, 1) := by decide +kernel
theorem dX9_clear_8 : decode cX9_clear 8 = .ok (.getfield 12, 3) := by decide +kernel
theorem dX9_clear_11 : decode cX9_clear 11 = .ok (.getfield 217, 3) := by decide +kernel
theorem dX9_clear_14 : decode cX9_clear 14 = .ok (.iadd, 1) := by decide +kernel
theorem dX9_clear_15 : decode cX9_clear 15 = .ok (.istore_n 1, 1) := by decide +kernel
theorem dX9_clear_16 : decode cX9_clear 16 = .ok (.aload_n 0, 1) := by decide +kernel
theorem dX9_clear_17 : decode cX9_clear 17 = .ok (.getfield 12, 3) := by decide +kernel
theorem dX9_clear_20 : decode cX9_clear 20 = .ok (.iconst 0, 1) := by decide +kernel
theorem dX9_clear_21 : decode cX9_clear 21 = .ok (.putfield 211, 3) := by decide +kernel
theorem dX9_clear_24 : decode cX9_clear 24 = .ok (.aload_n 0, 1) := by decide +kernel
theorem dX9_clear_25 : decode cX9_clear 25 = .ok (.getfield 12, 3) := by decide +kernel
theorem dX9_clear_28 : decode cX9_clear 28 = .ok (.iconst 0, 1) := by decide +kernel
theorem dX9_clear_29 : decode cX9_clear 29 = .ok (.putfield 217, 3) := by decide +kernel
theorem dX9_clear_32 : decode cX9_clear 32 = .ok (.iload_n 1, 1) := by decide +kernel
theorem dX9_clear_33 : decode cX9_clear 33 = .ok (.ireturn, 1) := by decide +kernel
theorem dX9_filterOf_0 : decode cX9_filterOf 0 = .ok (.iload_n 1, 1) := by decide +kernel
theorem dX9_filterOf_1 : decode cX9_filterOf 1 = .ok (.aload_n 0, 1) := by decide +kernel
theorem dX9_filterOf_2 : decode cX9_filterOf 2 = .ok (.getfield 12, 3) := by decide +kernel
theorem dX9_filterOf_5 : decode cX9_filterOf 5 = .ok (.getfield 211, 3) := by decide +kernel
theorem dX9_filterOf_8 : decode cX9_filterOf 8 = .ok (.invokestatic 80, 3) := by decide +kernel
theorem dX9_filterOf_11 : decode cX9_filterOf 11 = .ok (.ifCond .ne 9, 3) := by decide +kernel
theorem dX9_filterOf_14 : decode cX9_filterOf 14 = .ok (.aload_n 0, 1) := by decide +kernel
theorem dX9_filterOf_15 : decode cX9_filterOf 15 = .ok (.iconst 5, 1) := by decide +kernel
theorem dX9_filterOf_16 : decode cX9_filterOf 16 = .ok (.invokevirtual 84, 3) := by decide +kernel
theorem dX9_filterOf_19 : decode cX9_filterOf 19 = .ok (.ireturn, 1) := by decide +kernel
theorem dX9_filterOf_20 : decode cX9_filterOf 20 = .ok (.iload_n 2, 1) := by decide +kernel
theorem dX9_filterOf_21 : decode cX9_filterOf 21 = .ok (.tableswitch 57 0 2 #[27, 37, 47], 27) := by decide +kernel
theorem dX9_filterOf_48 : decode cX9_filterOf 48 = .ok (.aload_n 0, 1) := by decide +kernel
theorem dX9_filterOf_49 : decode cX9_filterOf 49 = .ok (.getfield 12, 3) := by decide +kernel
theorem dX9_filterOf_52 : decode cX9_filterOf 52 = .ok (.getfield 231, 3) := by decide +kernel
theorem dX9_filterOf_55 : decode cX9_filterOf 55 = .ok (.iload_n 1, 1) := by decide +kernel
theorem dX9_filterOf_56 : decode cX9_filterOf 56 = .ok (.iaload, 1) := by decide +kernel
theorem dX9_filterOf_57 : decode cX9_filterOf 57 = .ok (.ireturn, 1) := by decide +kernel
theorem dX9_filterOf_58 : decode cX9_filterOf 58 = .ok (.aload_n 0, 1) := by decide +kernel
theorem dX9_filterOf_59 : decode cX9_filterOf 59 = .ok (.getfield 12, 3) := by decide +kernel
theorem dX9_filterOf_62 : decode cX9_filterOf 62 = .ok (.getfield 234, 3) := by decide +kernel
theorem dX9_filterOf_65 : decode cX9_filterOf 65 = .ok (.iload_n 1, 1) := by decide +kernel
theorem dX9_filterOf_66 : decode cX9_filterOf 66 = .ok (.iaload, 1) := by decide +kernel
theorem dX9_filterOf_67 : decode cX9_filterOf 67 = .ok (.ireturn, 1) := by decide +kernel
theorem dX9_filterOf_68 : decode cX9_filterOf 68 = .ok (.aload_n 0, 1) := by decide +kernel
theorem dX9_filterOf_69 : decode cX9_filterOf 69 = .ok (.getfield 12, 3) := by decide +kernel
theorem dX9_filterOf_72 : decode cX9_filterOf 72 = .ok (.getfield 237, 3) := by decide +kernel
theorem dX9_filterOf_75 : decode cX9_filterOf 75 = .ok (.iload_n 1, 1) := by decide +kernel
theorem dX9_filterOf_76 : decode cX9_filterOf 76 = .ok (.iaload, 1) := by decide +kernel
theorem dX9_filterOf_77 : decode cX9_filterOf 77 = .ok (.ireturn, 1) := by decide +kernel
theorem dX9_filterOf_78 : decode cX9_filterOf 78 = .ok (.aload_n 0, 1) := by decide +kernel
theorem dX9_filterOf_79 : decode cX9_filterOf 79 = .ok (.iconst 5, 1) := by decide +kernel
theorem dX9_filterOf_80 : decode cX9_filterOf 80 = .ok (.invokevirtual 84, 3) := by decide +kernel
theorem dX9_filterOf_83 : decode cX9_filterOf 83 = .ok (.ireturn, 1) := by decide +kernel
theorem dX9_joinOf_0 : decode cX9_joinOf 0 = .ok (.iload_n 1, 1) := by decide +kernel
theorem dX9_joinOf_1 : decode cX9_joinOf 1 = .ok (.aload_n 0, 1) := by decide +kernel
theorem dX9_joinOf_2 : decode cX9_joinOf 2 = .ok (.getfield 12, 3) := by decide +kernel
theorem dX9_joinOf_5 : decode cX9_joinOf 5 = .ok (.getfield 217, 3) := by decide +kernel
theorem dX9_joinOf_8 : decode cX9_joinOf 8 = .ok (.invokestatic 80, 3) := by decide +kernel
theorem dX9_joinOf_11 : decode cX9_joinOf 11 = .ok (.ifCond .eq 11, 3) := by decide +kernel
theorem dX9_joinOf_14 : decode cX9_joinOf 14 = .ok (.iload_n 2, 1) := by decide +kernel
theorem dX9_joinOf_15 : decode cX9_joinOf 15 = .ok (.iconst 2, 1) := by decide +kernel
theorem dX9_joinOf_16 : decode cX9_joinOf 16 = .ok (.invokestatic 80, 3) := by decide +kernel
theorem dX9_joinOf_19 : decode cX9_joinOf 19 = .ok (.ifCond .ne 9, 3) := by decide +kernel
theorem dX9_joinOf_22 : decode cX9_joinOf 22 = .ok (.aload_n 0, 1) := by decide +kernel
theorem dX9_joinOf_23 : decode cX9_joinOf 23 = .ok (.iconst 5, 1) := by decide +kernel
theorem dX9_joinOf_24 : decode cX9_joinOf 24 = .ok (.invokevirtual 84, 3) := by decide +kernel
theorem dX9_joinOf_27 : decode cX9_joinOf 27 = .ok (.ireturn, 1) := by decide +kernel
theorem dX9_joinOf_28 : decode cX9_joinOf 28 = .ok (.iload_n 2, 1) := by decide +kernel
theorem dX9_joinOf_29 : decode cX9_joinOf 29 = .ok (.ifCond .ne 15, 3) := by decide +kernel
theorem dX9_joinOf_32 : decode cX9_joinOf 32 = .ok (.aload_n 0, 1) := by decide +kernel
theorem dX9_joinOf_33 : decode cX9_joinOf 33 = .ok (.getfield 12, 3) := by decide +kernel
theorem dX9_joinOf_36 : decode cX9_joinOf 36 = .ok (.getfield 240, 3) := by decide +kernel
theorem dX9_joinOf_39 : decode cX9_joinOf 39 = .ok (.iload_n 1, 1) := by decide +kernel
theorem dX9_joinOf_40 : decode cX9_joinOf 40 = .ok (.iaload, 1) := by decide +kernel
theorem dX9_joinOf_41 : decode cX9_joinOf 41 = .ok (.goto 12, 3) := by decide +kernel
theorem dX9_joinOf_44 : decode cX9_joinOf 44 = .ok (.aload_n 0, 1) := by decide +kernel
theorem dX9_joinOf_45 : decode cX9_joinOf 45 = .ok (.getfield 12, 3) := by decide +kernel
theorem dX9_joinOf_48 : decode cX9_joinOf 48 = .ok (.getfield 243, 3) := by decide +kernel
theorem dX9_joinOf_51 : decode cX9_joinOf 51 = .ok (.iload_n 1, 1) := by decide +kernel
theorem dX9_joinOf_52 : decode cX9_joinOf 52 = .ok (.iaload, 1) := by decide +kernel
theorem dX9_joinOf_53 : decode cX9_joinOf 53 = .ok (.ireturn, 1) := by decide +kernel
theorem dX9_joinShare_0 : decode cX9_joinShare 0 = .ok (.iload_n 1, 1) := by decide +kernel
theorem dX9_joinShare_1 : decode cX9_joinShare 1 = .ok (.aload_n 0, 1) := by decide +kernel
theorem dX9_joinShare_2 : decode cX9_joinShare 2 = .ok (.getfield 12, 3) := by decide +kernel
theorem dX9_joinShare_5 : decode cX9_joinShare 5 = .ok (.getfield 217, 3) := by decide +kernel
theorem dX9_joinShare_8 : decode cX9_joinShare 8 = .ok (.invokestatic 80, 3) := by decide +kernel
theorem dX9_joinShare_11 : decode cX9_joinShare 11 = .ok (.ifCond .ne 9, 3) := by decide +kernel
theorem dX9_joinShare_14 : decode cX9_joinShare 14 = .ok (.aload_n 0, 1) := by decide +kernel
theorem dX9_joinShare_15 : decode cX9_joinShare 15 = .ok (.iconst 1, 1) := by decide +kernel
theorem dX9_joinShare_16 : decode cX9_joinShare 16 = .ok (.invokevirtual 84, 3) := by decide +kernel
theorem dX9_joinShare_19 : decode cX9_joinShare 19 = .ok (.ireturn, 1) := by decide +kernel
theorem dX9_joinShare_20 : decode cX9_joinShare 20 = .ok (.aload_n 0, 1) := by decide +kernel
theorem dX9_joinShare_21 : decode cX9_joinShare 21 = .ok (.getfield 28, 3) := by decide +kernel
theorem dX9_joinShare_24 : decode cX9_joinShare 24 = .ok (.iload_n 1, 1) := by decide +kernel
theorem dX9_joinShare_25 : decode cX9_joinShare 25 = .ok (.invokevirtual 246, 3) := by decide +kernel
theorem dX9_joinShare_28 : decode cX9_joinShare 28 = .ok (.invokestatic 207, 3) := by decide +kernel
theorem dX9_joinShare_31 : decode cX9_joinShare 31 = .ok (.ireturn, 1) := by decide +kernel
theorem dX9_thought_0 : decode cX9_thought 0 = .ok (.iload_n 1, 1) := by decide +kernel
theorem dX9_thought_1 : decode cX9_thought 1 = .ok (.invokestatic 250, 3) := by decide +kernel
theorem dX9_thought_4 : decode cX9_thought 4 = .ok (.ifCond .ne 10, 3) := by decide +kernel
theorem dX9_thought_7 : decode cX9_thought 7 = .ok (.aload_n 0, 1) := by decide +kernel
theorem dX9_thought_8 : decode cX9_thought 8 = .ok (.bipush 6, 2) := by decide +kernel
theorem dX9_thought_10 : decode cX9_thought 10 = .ok (.invokevirtual 84, 3) := by decide +kernel
theorem dX9_thought_13 : decode cX9_thought 13 = .ok (.ireturn, 1) := by decide +kernel
theorem dX9_thought_14 : decode cX9_thought 14 = .ok (.aload_n 0, 1) := by decide +kernel
theorem dX9_thought_15 : decode cX9_thought 15 = .ok (.getfield 28, 3) := by decide +kernel
theorem dX9_thought_18 : decode cX9_thought 18 = .ok (.invokevirtual 253, 3) := by decide +kernel
theorem dX9_thought_21 : decode cX9_thought 21 = .ok (.aload_n 0, 1) := by decide +kernel
theorem dX9_thought_22 : decode cX9_thought 22 = .ok (.getfield 28, 3) := by decide +kernel
theorem dX9_thought_25 : decode cX9_thought 25 = .ok (.iload_n 1, 1) := by decide +kernel
theorem dX9_thought_26 : decode cX9_thought 26 = .ok (.invokevirtual 256, 3) := by decide +kernel
theorem dX9_thought_29 : decode cX9_thought 29 = .ok (.invokestatic 207, 3) := by decide +kernel
theorem dX9_thought_32 : decode cX9_thought 32 = .ok (.ireturn, 1) := by decide +kernel
theorem dX9_sorting_0 : decode cX9_sorting 0 = .ok (.iload_n 1, 1) := by decide +kernel
theorem dX9_sorting_1 : decode cX9_sorting 1 = .ok (.invokestatic 250, 3) := by decide +kernel
theorem dX9_sorting_4 : decode cX9_sorting 4 = .ok (.ifCond .ne 10, 3) := by decide +kernel
theorem dX9_sorting_7 : decode cX9_sorting 7 = .ok (.aload_n 0, 1) := by decide +kernel
theorem dX9_sorting_8 : decode cX9_sorting 8 = .ok (.bipush 6, 2) := by decide +kernel
theorem dX9_sorting_10 : decode cX9_sorting 10 = .ok (.invokevirtual 84, 3) := by decide +kernel
theorem dX9_sorting_13 : decode cX9_sorting 13 = .ok (.ireturn, 1) := by decide +kernel
theorem dX9_sorting_14 : decode cX9_sorting 14 = .ok (.aload_n 0, 1) := by decide +kernel
theorem dX9_sorting_15 : decode cX9_sorting 15 = .ok (.getfield 28, 3) := by decide +kernel
theorem dX9_sorting_18 : decode cX9_sorting 18 = .ok (.invokevirtual 253, 3) := by decide +kernel
theorem dX9_sorting_21 : decode cX9_sorting 21 = .ok (.aload_n 0, 1) := by decide +kernel
theorem dX9_sorting_22 : decode cX9_sorting 22 = .ok (.getfield 28, 3) := by decide +kernel
theorem dX9_sorting_25 : decode cX9_sorting 25 = .ok (.iload_n 1, 1) := by decide +kernel
theorem dX9_sorting_26 : decode cX9_sorting 26 = .ok (.invokevirtual 256, 3) := by decide +kernel
theorem dX9_sorting_29 : decode cX9_sorting 29 = .ok (.invokestatic 259, 3) := by decide +kernel
theorem dX9_sorting_32 : decode cX9_sorting 32 = .ok (.invokestatic 207, 3) := by decide +kernel
theorem dX9_sorting_35 : decode cX9_sorting 35 = .ok (.ireturn, 1) := by decide +kernel
theorem dX9_cost_0 : decode cX9_cost 0 = .ok (.iload_n 1, 1) := by decide +kernel
theorem dX9_cost_1 : decode cX9_cost 1 = .ok (.invokestatic 250, 3) := by decide +kernel
theorem dX9_cost_4 : decode cX9_cost 4 = .ok (.ifCond .eq 10, 3) := by decide +kernel
theorem dX9_cost_7 : decode cX9_cost 7 = .ok (.iload_n 2, 1) := by decide +kernel
theorem dX9_cost_8 : decode cX9_cost 8 = .ok (.invokestatic 263, 3) := by decide +kernel
theorem dX9_cost_11 : decode cX9_cost 11 = .ok (.ifCond .ne 10, 3) := by decide +kernel
theorem dX9_cost_14 : decode cX9_cost 14 = .ok (.aload_n 0, 1) := by decide +kernel
theorem dX9_cost_15 : decode cX9_cost 15 = .ok (.bipush 6, 2) := by decide +kernel
theorem dX9_cost_17 : decode cX9_cost 17 = .ok (.invokevirtual 168, 3) := by decide +kernel
theorem dX9_cost_20 : decode cX9_cost 20 = .ok (.ireturn, 1) := by decide +kernel
theorem dX9_cost_21 : decode cX9_cost 21 = .ok (.aload_n 0, 1) := by decide +kernel
theorem dX9_cost_22 : decode cX9_cost 22 = .ok (.getfield 28, 3) := by decide +kernel
theorem dX9_cost_25 : decode cX9_cost 25 = .ok (.invokevirtual 253, 3) := by decide +kernel
theorem dX9_cost_28 : decode cX9_cost 28 = .ok (.aload_n 0, 1) := by decide +kernel
theorem dX9_cost_29 : decode cX9_cost 29 = .ok (.getfield 37, 3) := by decide +kernel
theorem dX9_cost_32 : decode cX9_cost 32 = .ok (.iload_n 1, 1) := by decide +kernel
theorem dX9_cost_33 : decode cX9_cost 33 = .ok (.invokevirtual 266, 3) := by decide +kernel
theorem dX9_cost_36 : decode cX9_cost 36 = .ok (.iload_n 1, 1) := by decide +kernel
theorem dX9_cost_37 : decode cX9_cost 37 = .ok (.iload_n 2, 1) := by decide +kernel
theorem dX9_cost_38 : decode cX9_cost 38 = .ok (.invokestatic 270, 3) := by decide +kernel
theorem dX9_cost_41 : decode cX9_cost 41 = .ok (.istore_n 3, 1) := by decide +kernel
theorem dX9_cost_42 : decode cX9_cost 42 = .ok (.aload_n 0, 1) := by decide +kernel
theorem dX9_cost_43 : decode cX9_cost 43 = .ok (.getfield 37, 3) := by decide +kernel
theorem dX9_cost_46 : decode cX9_cost 46 = .ok (.getfield 273, 3) := by decide +kernel
theorem dX9_cost_49 : decode cX9_cost 49 = .ok (.iload_n 3, 1) := by decide +kernel
theorem dX9_cost_50 : decode cX9_cost 50 = .ok (.iaload, 1) := by decide +kernel
theorem dX9_cost_51 : decode cX9_cost 51 = .ok (.iconst (-1), 1) := by decide +kernel
theorem dX9_cost_52 : decode cX9_cost 52 = .ok (.if_icmp .ne 7, 3) := by decide +kernel
theorem dX9_cost_55 : decode cX9_cost 55 = .ok (.iconst (-1), 1) := by decide +kernel
theorem dX9_cost_56 : decode cX9_cost 56 = .ok (.goto 15, 3) := by decide +kernel
theorem dX9_cost_59 : decode cX9_cost 59 = .ok (.aload_n 0, 1) := by decide +kernel
theorem dX9_cost_60 : decode cX9_cost 60 = .ok (.getfield 37, 3) := by decide +kernel
theorem dX9_cost_63 : decode cX9_cost 63 = .ok (.getfield 276, 3) := by decide +kernel
theorem dX9_cost_66 : decode cX9_cost 66 = .ok (.iload_n 3, 1) := by decide +kernel
theorem dX9_cost_67 : decode cX9_cost 67 = .ok (.faload, 1) := by decide +kernel
theorem dX9_cost_68 : decode cX9_cost 68 = .ok (.invokestatic 207, 3) := by decide +kernel
theorem dX9_cost_71 : decode cX9_cost 71 = .ok (.ireturn, 1) := by decide +kernel
theorem dX9_plan_0 : decode cX9_plan 0 = .ok (.iload_n 1, 1) := by decide +kernel
theorem dX9_plan_1 : decode cX9_plan 1 = .ok (.invokestatic 250, 3) := by decide +kernel
theorem dX9_plan_4 : decode cX9_plan 4 = .ok (.ifCond .eq 10, 3) := by decide +kernel
theorem dX9_plan_7 : decode cX9_plan 7 = .ok (.iload_n 2, 1) := by decide +kernel
theorem dX9_plan_8 : decode cX9_plan 8 = .ok (.invokestatic 263, 3) := by decide +kernel
theorem dX9_plan_11 : decode cX9_plan 11 = .ok (.ifCond .ne 10, 3) := by decide +kernel
theorem dX9_plan_14 : decode cX9_plan 14 = .ok (.aload_n 0, 1) := by decide +kernel
theorem dX9_plan_15 : decode cX9_plan 15 = .ok (.bipush 6, 2) := by decide +kernel
theorem dX9_plan_17 : decode cX9_plan 17 = .ok (.invokevirtual 84, 3) := by decide +kernel
theorem dX9_plan_20 : decode cX9_plan 20 = .ok (.ireturn, 1) := by decide +kernel
theorem dX9_plan_21 : decode cX9_plan 21 = .ok (.aload_n 0, 1) := by decide +kernel
theorem dX9_plan_22 : decode cX9_plan 22 = .ok (.getfield 28, 3) := by decide +kernel
theorem dX9_plan_25 : decode cX9_plan 25 = .ok (.invokevirtual 253, 3) := by decide +kernel
theorem dX9_plan_28 : decode cX9_plan 28 = .ok (.aload_n 0, 1) := by decide +kernel
theorem dX9_plan_29 : decode cX9_plan 29 = .ok (.getfield 37, 3) := by decide +kernel
theorem dX9_plan_32 : decode cX9_plan 32 = .ok (.iload_n 1, 1) := by decide +kernel
theorem dX9_plan_33 : decode cX9_plan 33 = .ok (.invokevirtual 266, 3) := by decide +kernel
theorem dX9_plan_36 : decode cX9_plan 36 = .ok (.iload_n 1, 1) := by decide +kernel
theorem dX9_plan_37 : decode cX9_plan 37 = .ok (.iload_n 2, 1) := by decide +kernel
theorem dX9_plan_38 : decode cX9_plan 38 = .ok (.invokestatic 270, 3) := by decide +kernel
theorem dX9_plan_41 : decode cX9_plan 41 = .ok (.istore_n 3, 1) := by decide +kernel
theorem dX9_plan_42 : decode cX9_plan 42 = .ok (.aload_n 0, 1) := by decide +kernel
theorem dX9_plan_43 : decode cX9_plan 43 = .ok (.getfield 37, 3) := by decide +kernel
theorem dX9_plan_46 : decode cX9_plan 46 = .ok (.getfield 273, 3) := by decide +kernel
theorem dX9_plan_49 : decode cX9_plan 49 = .ok (.iload_n 3, 1) := by decide +kernel
theorem dX9_plan_50 : decode cX9_plan 50 = .ok (.iaload, 1) := by decide +kernel
theorem dX9_plan_51 : decode cX9_plan 51 = .ok (.iconst (-1), 1) := by decide +kernel
theorem dX9_plan_52 : decode cX9_plan 52 = .ok (.if_icmp .ne 9, 3) := by decide +kernel
theorem dX9_plan_55 : decode cX9_plan 55 = .ok (.aload_n 0, 1) := by decide +kernel
theorem dX9_plan_56 : decode cX9_plan 56 = .ok (.iconst 5, 1) := by decide +kernel
theorem dX9_plan_57 : decode cX9_plan 57 = .ok (.invokevirtual 84, 3) := by decide +kernel
theorem dX9_plan_60 : decode cX9_plan 60 = .ok (.ireturn, 1) := by decide +kernel
theorem dX9_plan_61 : decode cX9_plan 61 = .ok (.aload_n 0, 1) := by decide +kernel
theorem dX9_plan_62 : decode cX9_plan 62 = .ok (.aload_n 0, 1) := by decide +kernel
theorem dX9_plan_63 : decode cX9_plan 63 = .ok (.getfield 37, 3) := by decide +kernel
theorem dX9_plan_66 : decode cX9_plan 66 = .ok (.iload_n 3, 1) := by decide +kernel
theorem dX9_plan_67 : decode cX9_plan 67 = .ok (.aload_n 0, 1) := by decide +kernel
theorem dX9_plan_68 : decode cX9_plan 68 = .ok (.getfield 63, 3) := by decide +kernel
theorem dX9_plan_71 : decode cX9_plan 71 = .ok (.invokevirtual 280, 3) := by decide +kernel
theorem dX9_plan_74 : decode cX9_plan 74 = .ok (.putfield 67, 3) := by decide +kernel
theorem dX9_plan_77 : decode cX9_plan 77 = .ok (.aload_n 0, 1) := by decide +kernel
theorem dX9_plan_78 : decode cX9_plan 78 = .ok (.getfield 67, 3) := by decide +kernel
theorem dX9_plan_81 : decode cX9_plan 81 = .ok (.ireturn, 1) := by decide +kernel
theorem dX9_nodeOf_0 : decode cX9_nodeOf 0 = .ok (.aload_n 0, 1) := by decide +kernel
theorem dX9_nodeOf_1 : decode cX9_nodeOf 1 = .ok (.iload_n 1, 1) := by decide +kernel
theorem dX9_nodeOf_2 : decode cX9_nodeOf 2 = .ok (.invokevirtual 123, 3) := by decide +kernel
theorem dX9_nodeOf_5 : decode cX9_nodeOf 5 = .ok (.ifCond .ne 9, 3) := by decide +kernel
theorem dX9_nodeOf_8 : decode cX9_nodeOf 8 = .ok (.aload_n 0, 1) := by decide +kernel
theorem dX9_nodeOf_9 : decode cX9_nodeOf 9 = .ok (.iconst 5, 1) := by decide +kernel
theorem dX9_nodeOf_10 : decode cX9_nodeOf 10 = .ok (.invokevirtual 84, 3) := by decide +kernel
theorem dX9_nodeOf_13 : decode cX9_nodeOf 13 = .ok (.ireturn, 1) := by decide +kernel
theorem dX9_nodeOf_14 : decode cX9_nodeOf 14 = .ok (.iload_n 2, 1) := by decide +kernel
theorem dX9_nodeOf_15 : decode cX9_nodeOf 15 = .ok (.tableswitch 101 0 5 #[37, 47, 57, 69, 79, 91], 37) := by decide +kernel
theorem dX9_nodeOf_52 : decode cX9_nodeOf 52 = .ok (.aload_n 0, 1) := by decide +kernel
theorem dX9_nodeOf_53 : decode cX9_nodeOf 53 = .ok (.getfield 63, 3) := by decide +kernel
theorem dX9_nodeOf_56 : decode cX9_nodeOf 56 = .ok (.iload_n 1, 1) := by decide +kernel
theorem dX9_nodeOf_57 : decode cX9_nodeOf 57 = .ok (.aaload, 1) := by decide +kernel
theorem dX9_nodeOf_58 : decode cX9_nodeOf 58 = .ok (.getfield 284, 3) := by decide +kernel
theorem dX9_nodeOf_61 : decode cX9_nodeOf 61 = .ok (.ireturn, 1) := by decide +kernel
theorem dX9_nodeOf_62 : decode cX9_nodeOf 62 = .ok (.aload_n 0, 1) := by decide +kernel
theorem dX9_nodeOf_63 : decode cX9_nodeOf 63 = .ok (.getfield 63, 3) := by decide +kernel
theorem dX9_nodeOf_66 : decode cX9_nodeOf 66 = .ok (.iload_n 1, 1) := by decide +kernel
theorem dX9_nodeOf_67 : decode cX9_nodeOf 67 = .ok (.aaload, 1) := by decide +kernel
theorem dX9_nodeOf_68 : decode cX9_nodeOf 68 = .ok (.getfield 286, 3) := by decide +kernel
theorem dX9_nodeOf_71 : decode cX9_nodeOf 71 = .ok (.ireturn, 1) := by decide +kernel
theorem dX9_nodeOf_72 : decode cX9_nodeOf 72 = .ok (.aload_n 0, 1) := by decide +kernel
theorem dX9_nodeOf_73 : decode cX9_nodeOf 73 = .ok (.getfield 63, 3) := by decide +kernel
theorem dX9_nodeOf_76 : decode cX9_nodeOf 76 = .ok (.iload_n 1, 1) := by decide +kernel
theorem dX9_nodeOf_77 : decode cX9_nodeOf 77 = .ok (.aaload, 1) := by decide +kernel
theorem dX9_nodeOf_78 : decode cX9_nodeOf 78 = .ok (.getfield 288, 3) := by decide +kernel
theorem dX9_nodeOf_81 : decode cX9_nodeOf 81 = .ok (.iconst 1, 1) := by decide +kernel
theorem dX9_nodeOf_82 : decode cX9_nodeOf 82 = .ok (.iadd, 1) := by decide +kernel
theorem dX9_nodeOf_83 : decode cX9_nodeOf 83 = .ok (.ireturn, 1) := by decide +kernel
theorem dX9_nodeOf_84 : decode cX9_nodeOf 84 = .ok (.aload_n 0, 1) := by decide +kernel
theorem dX9_nodeOf_85 : decode cX9_nodeOf 85 = .ok (.getfield 63, 3) := by decide +kernel
theorem dX9_nodeOf_88 : decode cX9_nodeOf 88 = .ok (.iload_n 1, 1) := by decide +kernel
theorem dX9_nodeOf_89 : decode cX9_nodeOf 89 = .ok (.aaload, 1) := by decide +kernel
theorem dX9_nodeOf_90 : decode cX9_nodeOf 90 = .ok (.getfield 291, 3) := by decide +kernel
theorem dX9_nodeOf_93 : decode cX9_nodeOf 93 = .ok (.ireturn, 1) := by decide +kernel
theorem dX9_nodeOf_94 : decode cX9_nodeOf 94 = .ok (.aload_n 0, 1) := by decide +kernel
theorem dX9_nodeOf_95 : decode cX9_nodeOf 95 = .ok (.getfield 63, 3) := by decide +kernel
theorem dX9_nodeOf_98 : decode cX9_nodeOf 98 = .ok (.iload_n 1, 1) := by decide +kernel
theorem dX9_nodeOf_99 : decode cX9_nodeOf 99 = .ok (.aaload, 1) := by decide +kernel
theorem dX9_nodeOf_100 : decode cX9_nodeOf 100 = .ok (.getfield 294, 3) := by decide +kernel
theorem dX9_nodeOf_103 : decode cX9_nodeOf 103 = .ok (.iconst 1, 1) := by decide +kernel
theorem dX9_nodeOf_104 : decode cX9_nodeOf 104 = .ok (.iadd, 1) := by decide +kernel
theorem dX9_nodeOf_105 : decode cX9_nodeOf 105 = .ok (.ireturn, 1) := by decide +kernel
theorem dX9_nodeOf_106 : decode cX9_nodeOf 106 = .ok (.aload_n 0, 1) := by decide +kernel
theorem dX9_nodeOf_107 : decode cX9_nodeOf 107 = .ok (.getfield 63, 3) := by decide +kernel
theorem dX9_nodeOf_110 : decode cX9_nodeOf 110 = .ok (.iload_n 1, 1) := by decide +kernel
theorem dX9_nodeOf_111 : decode cX9_nodeOf 111 = .ok (.aaload, 1) := by decide +kernel
theorem dX9_nodeOf_112 : decode cX9_nodeOf 112 = .ok (.getfield 297, 3) := by decide +kernel
theorem dX9_nodeOf_115 : decode cX9_nodeOf 115 = .ok (.ireturn, 1) := by decide +kernel
theorem dX9_nodeOf_116 : decode cX9_nodeOf 116 = .ok (.aload_n 0, 1) := by decide +kernel
theorem dX9_nodeOf_117 : decode cX9_nodeOf 117 = .ok (.iconst 5, 1) := by decide +kernel
theorem dX9_nodeOf_118 : decode cX9_nodeOf 118 = .ok (.invokevirtual 84, 3) := by decide +kernel
theorem dX9_nodeOf_121 : decode cX9_nodeOf 121 = .ok (.ireturn, 1) := by decide +kernel
theorem dX9_really_0 : decode cX9_really 0 = .ok (.iload_n 1, 1) := by decide +kernel
theorem dX9_really_1 : decode cX9_really 1 = .ok (.invokestatic 250, 3) := by decide +kernel
theorem dX9_really_4 : decode cX9_really 4 = .ok (.ifCond .ne 10, 3) := by decide +kernel
theorem dX9_really_7 : decode cX9_really 7 = .ok (.aload_n 0, 1) := by decide +kernel
theorem dX9_really_8 : decode cX9_really 8 = .ok (.bipush 6, 2) := by decide +kernel
theorem dX9_really_10 : decode cX9_really 10 = .ok (.invokevirtual 84, 3) := by decide +kernel
theorem dX9_really_13 : decode cX9_really 13 = .ok (.ireturn, 1) := by decide +kernel
theorem dX9_really_14 : decode cX9_really 14 = .ok (.aload_n 0, 1) := by decide +kernel
theorem dX9_really_15 : decode cX9_really 15 = .ok (.getfield 44, 3) := by decide +kernel
theorem dX9_really_18 : decode cX9_really 18 = .ok (.iload_n 1, 1) := by decide +kernel
theorem dX9_really_19 : decode cX9_really 19 = .ok (.iload_n 1, 1) := by decide +kernel
theorem dX9_really_20 : decode cX9_really 20 = .ok (.invokestatic 299, 3) := by decide +kernel
theorem dX9_really_23 : decode cX9_really 23 = .ok (.invokevirtual 302, 3) := by decide +kernel
theorem dX9_really_26 : decode cX9_really 26 = .ok (.istore_n 2, 1) := by decide +kernel
theorem dX9_really_27 : decode cX9_really 27 = .ok (.iload_n 2, 1) := by decide +kernel
theorem dX9_really_28 : decode cX9_really 28 = .ok (.ldc_w 305, 3) := by decide +kernel
theorem dX9_really_31 : decode cX9_really 31 = .ok (.if_icmp .le 11, 3) := by decide +kernel
theorem dX9_really_34 : decode cX9_really 34 = .ok (.aload_n 0, 1) := by decide +kernel
theorem dX9_really_35 : decode cX9_really 35 = .ok (.iconst 5, 1) := by decide +kernel
theorem dX9_really_36 : decode cX9_really 36 = .ok (.invokevirtual 84, 3) := by decide +kernel
theorem dX9_really_39 : decode cX9_really 39 = .ok (.goto 4, 3) := by decide +kernel
theorem dX9_really_42 : decode cX9_really 42 = .ok (.iload_n 2, 1) := by decide +kernel
theorem dX9_really_43 : decode cX9_really 43 = .ok (.ireturn, 1) := by decide +kernel
theorem dX9_sum_0 : decode cX9_sum 0 = .ok (.iload_n 2, 1) := by decide +kernel
theorem dX9_sum_1 : decode cX9_sum 1 = .ok (.bipush 15, 2) := by decide +kernel
theorem dX9_sum_3 : decode cX9_sum 3 = .ok (.invokestatic 80, 3) := by decide +kernel
theorem dX9_sum_6 : decode cX9_sum 6 = .ok (.ifCond .ne 10, 3) := by decide +kernel
theorem dX9_sum_9 : decode cX9_sum 9 = .ok (.aload_n 0, 1) := by decide +kernel
theorem dX9_sum_10 : decode cX9_sum 10 = .ok (.iconst 1, 1) := by decide +kernel
theorem dX9_sum_11 : decode cX9_sum 11 = .ok (.invokevirtual 84, 3) := by decide +kernel
theorem dX9_sum_14 : decode cX9_sum 14 = .ok (.i2l, 1) := by decide +kernel
theorem dX9_sum_15 : decode cX9_sum 15 = .ok (.lreturn, 1) := by decide +kernel
theorem dX9_sum_16 : decode cX9_sum 16 = .ok (.iload_n 1, 1) := by decide +kernel
theorem dX9_sum_17 : decode cX9_sum 17 = .ok (.invokestatic 250, 3) := by decide +kernel
theorem dX9_sum_20 : decode cX9_sum 20 = .ok (.ifCond .ne 11, 3) := by decide +kernel
theorem dX9_sum_23 : decode cX9_sum 23 = .ok (.aload_n 0, 1) := by decide +kernel
theorem dX9_sum_24 : decode cX9_sum 24 = .ok (.bipush 6, 2) := by decide +kernel
theorem dX9_sum_26 : decode cX9_sum 26 = .ok (.invokevirtual 84, 3) := by decide +kernel
theorem dX9_sum_29 : decode cX9_sum 29 = .ok (.i2l, 1) := by decide +kernel
theorem dX9_sum_30 : decode cX9_sum 30 = .ok (.lreturn, 1) := by decide +kernel
theorem dX9_sum_31 : decode cX9_sum 31 = .ok (.iload_n 1, 1) := by decide +kernel
theorem dX9_sum_32 : decode cX9_sum 32 = .ok (.iload_n 2, 1) := by decide +kernel
theorem dX9_sum_33 : decode cX9_sum 33 = .ok (.invokestatic 306, 3) := by decide +kernel
theorem dX9_sum_36 : decode cX9_sum 36 = .ok (.istore_n 3, 1) := by decide +kernel
theorem dX9_sum_37 : decode cX9_sum 37 = .ok (.aload_n 0, 1) := by decide +kernel
theorem dX9_sum_38 : decode cX9_sum 38 = .ok (.getfield 44, 3) := by decide +kernel
theorem dX9_sum_41 : decode cX9_sum 41 = .ok (.iload_n 1, 1) := by decide +kernel
theorem dX9_sum_42 : decode cX9_sum 42 = .ok (.iload_n 3, 1) := by decide +kernel
theorem dX9_sum_43 : decode cX9_sum 43 = .ok (.ifCond .eq 9, 3) := by decide +kernel
theorem dX9_sum_46 : decode cX9_sum 46 = .ok (.iload_n 2, 1) := by decide +kernel
theorem dX9_sum_47 : decode cX9_sum 47 = .ok (.iconst 3, 1) := by decide +kernel
theorem dX9_sum_48 : decode cX9_sum 48 = .ok (.idiv, 1) := by decide +kernel
theorem dX9_sum_49 : decode cX9_sum 49 = .ok (.goto 7, 3) := by decide +kernel
theorem dX9_sum_52 : decode cX9_sum 52 = .ok (.iload_n 1, 1) := by decide +kernel
theorem dX9_sum_53 : decode cX9_sum 53 = .ok (.invokestatic 299, 3) := by decide +kernel
theorem dX9_sum_56 : decode cX9_sum 56 = .ok (.invokevirtual 302, 3) := by decide +kernel
theorem dX9_sum_59 : decode cX9_sum 59 = .ok (.ldc_w 305, 3) := by decide +kernel
theorem dX9_sum_62 : decode cX9_sum 62 = .ok (.if_icmp .le 10, 3) := by decide +kernel
theorem dX9_sum_65 : decode cX9_sum 65 = .ok (.aload_n 0, 1) := by decide +kernel
theorem dX9_sum_66 : decode cX9_sum 66 = .ok (.iconst 5, 1) := by decide +kernel
theorem dX9_sum_67 : decode cX9_sum 67 = .ok (.invokevirtual 84, 3) := by decide +kernel
theorem dX9_sum_70 : decode cX9_sum 70 = .ok (.i2l, 1) := by decide +kernel
theorem dX9_sum_71 : decode cX9_sum 71 = .ok (.lreturn, 1) := by decide +kernel
theorem dX9_sum_72 : decode cX9_sum 72 = .ok (.iload_n 3, 1) := by decide +kernel
theorem dX9_sum_73 : decode cX9_sum 73 = .ok (.ifCond .eq 14, 3) := by decide +kernel
theorem dX9_sum_76 : decode cX9_sum 76 = .ok (.aload_n 0, 1) := by decide +kernel
theorem dX9_sum_77 : decode cX9_sum 77 = .ok (.getfield 44, 3) := by decide +kernel
theorem dX9_sum_80 : decode cX9_sum 80 = .ok (.iload_n 2, 1) := by decide +kernel
theorem dX9_sum_81 : decode cX9_sum 81 = .ok (.invokevirtual 309, 3) := by decide +kernel
theorem dX9_sum_84 : decode cX9_sum 84 = .ok (.goto 10, 3) := by decide +kernel
theorem dX9_sum_87 : decode cX9_sum 87 = .ok (.aload_n 0, 1) := by decide +kernel
theorem dX9_sum_88 : decode cX9_sum 88 = .ok (.bipush 6, 2) := by decide +kernel
theorem dX9_sum_90 : decode cX9_sum 90 = .ok (.invokevirtual 84, 3) := by decide +kernel
theorem dX9_sum_93 : decode cX9_sum 93 = .ok (.i2l, 1) := by decide +kernel
theorem dX9_sum_94 : decode cX9_sum 94 = .ok (.lreturn, 1) := by decide +kernel
theorem dX9_wrongBy_0 : decode cX9_wrongBy 0 = .ok (.iload_n 1, 1) := by decide +kernel
theorem dX9_wrongBy_1 : decode cX9_wrongBy 1 = .ok (.invokestatic 250, 3) := by decide +kernel
theorem dX9_wrongBy_4 : decode cX9_wrongBy 4 = .ok (.ifCond .ne 10, 3) := by decide +kernel
theorem dX9_wrongBy_7 : decode cX9_wrongBy 7 = .ok (.aload_n 0, 1) := by decide +kernel
theorem dX9_wrongBy_8 : decode cX9_wrongBy 8 = .ok (.bipush 6, 2) := by decide +kernel
theorem dX9_wrongBy_10 : decode cX9_wrongBy 10 = .ok (.invokevirtual 84, 3) := by decide +kernel
theorem dX9_wrongBy_13 : decode cX9_wrongBy 13 = .ok (.ireturn, 1) := by decide +kernel
theorem dX9_wrongBy_14 : decode cX9_wrongBy 14 = .ok (.aload_n 0, 1) := by decide +kernel
theorem dX9_wrongBy_15 : decode cX9_wrongBy 15 = .ok (.getfield 44, 3) := by decide +kernel
theorem dX9_wrongBy_18 : decode cX9_wrongBy 18 = .ok (.iload_n 1, 1) := by decide +kernel
theorem dX9_wrongBy_19 : decode cX9_wrongBy 19 = .ok (.iload_n 1, 1) := by decide +kernel
theorem dX9_wrongBy_20 : decode cX9_wrongBy 20 = .ok (.invokestatic 299, 3) := by decide +kernel
theorem dX9_wrongBy_23 : decode cX9_wrongBy 23 = .ok (.invokevirtual 302, 3) := by decide +kernel
theorem dX9_wrongBy_26 : decode cX9_wrongBy 26 = .ok (.istore_n 2, 1) := by decide +kernel
theorem dX9_wrongBy_27 : decode cX9_wrongBy 27 = .ok (.iload_n 2, 1) := by decide +kernel
theorem dX9_wrongBy_28 : decode cX9_wrongBy 28 = .ok (.ldc_w 305, 3) := by decide +kernel
theorem dX9_wrongBy_31 : decode cX9_wrongBy 31 = .ok (.if_icmp .le 9, 3) := by decide +kernel
theorem dX9_wrongBy_34 : decode cX9_wrongBy 34 = .ok (.aload_n 0, 1) := by decide +kernel
theorem dX9_wrongBy_35 : decode cX9_wrongBy 35 = .ok (.iconst 5, 1) := by decide +kernel
theorem dX9_wrongBy_36 : decode cX9_wrongBy 36 = .ok (.invokevirtual 84, 3) := by decide +kernel
theorem dX9_wrongBy_39 : decode cX9_wrongBy 39 = .ok (.ireturn, 1) := by decide +kernel
theorem dX9_wrongBy_40 : decode cX9_wrongBy 40 = .ok (.aload_n 0, 1) := by decide +kernel
theorem dX9_wrongBy_41 : decode cX9_wrongBy 41 = .ok (.getfield 28, 3) := by decide +kernel
theorem dX9_wrongBy_44 : decode cX9_wrongBy 44 = .ok (.invokevirtual 253, 3) := by decide +kernel
theorem dX9_wrongBy_47 : decode cX9_wrongBy 47 = .ok (.aload_n 0, 1) := by decide +kernel
theorem dX9_wrongBy_48 : decode cX9_wrongBy 48 = .ok (.getfield 28, 3) := by decide +kernel
theorem dX9_wrongBy_51 : decode cX9_wrongBy 51 = .ok (.iload_n 1, 1) := by decide +kernel
theorem dX9_wrongBy_52 : decode cX9_wrongBy 52 = .ok (.invokevirtual 256, 3) := by decide +kernel
theorem dX9_wrongBy_55 : decode cX9_wrongBy 55 = .ok (.iload_n 2, 1) := by decide +kernel
theorem dX9_wrongBy_56 : decode cX9_wrongBy 56 = .ok (.i2f, 1) := by decide +kernel
theorem dX9_wrongBy_57 : decode cX9_wrongBy 57 = .ok (.invokestatic 313, 3) := by decide +kernel
theorem dX9_wrongBy_60 : decode cX9_wrongBy 60 = .ok (.invokestatic 207, 3) := by decide +kernel
theorem dX9_wrongBy_63 : decode cX9_wrongBy 63 = .ok (.ireturn, 1) := by decide +kernel
theorem dX9_judge_0 : decode cX9_judge 0 = .ok (.aload_n 0, 1) := by decide +kernel
theorem dX9_judge_1 : decode cX9_judge 1 = .ok (.iload_n 1, 1) := by decide +kernel
theorem dX9_judge_2 : decode cX9_judge 2 = .ok (.invokevirtual 92, 3) := by decide +kernel
theorem dX9_judge_5 : decode cX9_judge 5 = .ok (.istore_n 3, 1) := by decide +kernel
theorem dX9_judge_6 : decode cX9_judge 6 = .ok (.iload_n 3, 1) := by decide +kernel
theorem dX9_judge_7 : decode cX9_judge 7 = .ok (.ifCond .eq 9, 3) := by decide +kernel
theorem dX9_judge_10 : decode cX9_judge 10 = .ok (.aload_n 0, 1) := by decide +kernel
theorem dX9_judge_11 : decode cX9_judge 11 = .ok (.iload_n 3, 1) := by decide +kernel
theorem dX9_judge_12 : decode cX9_judge 12 = .ok (.invokevirtual 168, 3) := by decide +kernel
theorem dX9_judge_15 : decode cX9_judge 15 = .ok (.ireturn, 1) := by decide +kernel
theorem dX9_judge_16 : decode cX9_judge 16 = .ok (.iload_n 2, 1) := by decide +kernel
theorem dX9_judge_17 : decode cX9_judge 17 = .ok (.ifCond .ge 9, 3) := by decide +kernel
theorem dX9_judge_20 : decode cX9_judge 20 = .ok (.aload_n 0, 1) := by decide +kernel
theorem dX9_judge_21 : decode cX9_judge 21 = .ok (.iconst 4, 1) := by decide +kernel
theorem dX9_judge_22 : decode cX9_judge 22 = .ok (.invokevirtual 168, 3) := by decide +kernel
theorem dX9_judge_25 : decode cX9_judge 25 = .ok (.ireturn, 1) := by decide +kernel
theorem dX9_judge_26 : decode cX9_judge 26 = .ok (.iload_n 2, 1) := by decide +kernel
theorem dX9_judge_27 : decode cX9_judge 27 = .ok (.aload_n 0, 1) := by decide +kernel
theorem dX9_judge_28 : decode cX9_judge 28 = .ok (.getfield 57, 3) := by decide +kernel
theorem dX9_judge_31 : decode cX9_judge 31 = .ok (.iload_n 1, 1) := by decide +kernel
theorem dX9_judge_32 : decode cX9_judge 32 = .ok (.aaload, 1) := by decide +kernel
theorem dX9_judge_33 : decode cX9_judge 33 = .ok (.getfield 95, 3) := by decide +kernel
theorem dX9_judge_36 : decode cX9_judge 36 = .ok (.if_icmp .gt 10, 3) := by decide +kernel
theorem dX9_judge_39 : decode cX9_judge 39 = .ok (.aload_n 0, 1) := by decide +kernel
theorem dX9_judge_40 : decode cX9_judge 40 = .ok (.getfield 67, 3) := by decide +kernel
theorem dX9_judge_43 : decode cX9_judge 43 = .ok (.ifCond .ne 9, 3) := by decide +kernel
theorem dX9_judge_46 : decode cX9_judge 46 = .ok (.aload_n 0, 1) := by decide +kernel
theorem dX9_judge_47 : decode cX9_judge 47 = .ok (.iconst 5, 1) := by decide +kernel
theorem dX9_judge_48 : decode cX9_judge 48 = .ok (.invokevirtual 168, 3) := by decide +kernel
theorem dX9_judge_51 : decode cX9_judge 51 = .ok (.ireturn, 1) := by decide +kernel
theorem dX9_judge_52 : decode cX9_judge 52 = .ok (.iload_n 2, 1) := by decide +kernel
theorem dX9_judge_53 : decode cX9_judge 53 = .ok (.bipush 40, 2) := by decide +kernel
theorem dX9_judge_55 : decode cX9_judge 55 = .ok (.if_icmp .le 10, 3) := by decide +kernel
theorem dX9_judge_58 : decode cX9_judge 58 = .ok (.aload_n 0, 1) := by decide +kernel
theorem dX9_judge_59 : decode cX9_judge 59 = .ok (.bipush 6, 2) := by decide +kernel
theorem dX9_judge_61 : decode cX9_judge 61 = .ok (.invokevirtual 168, 3) := by decide +kernel
theorem dX9_judge_64 : decode cX9_judge 64 = .ok (.ireturn, 1) := by decide +kernel
theorem dX9_judge_65 : decode cX9_judge 65 = .ok (.iconst 0, 1) := by decide +kernel
theorem dX9_judge_66 : decode cX9_judge 66 = .ok (.istore 4, 2) := by decide +kernel
theorem dX9_judge_68 : decode cX9_judge 68 = .ok (.iload 4, 2) := by decide +kernel
theorem dX9_judge_70 : decode cX9_judge 70 = .ok (.iload_n 2, 1) := by decide +kernel
theorem dX9_judge_71 : decode cX9_judge 71 = .ok (.if_icmp .ge 45, 3) := by decide +kernel
theorem dX9_judge_74 : decode cX9_judge 74 = .ok (.aload_n 0, 1) := by decide +kernel
theorem dX9_judge_75 : decode cX9_judge 75 = .ok (.iload 4, 2) := by decide +kernel
theorem dX9_judge_77 : decode cX9_judge 77 = .ok (.invokevirtual 123, 3) := by decide +kernel
theorem dX9_judge_80 : decode cX9_judge 80 = .ok (.ifCond .eq 27, 3) := by decide +kernel
theorem dX9_judge_83 : decode cX9_judge 83 = .ok (.aload_n 0, 1) := by decide +kernel
theorem dX9_judge_84 : decode cX9_judge 84 = .ok (.getfield 57, 3) := by decide +kernel
theorem dX9_judge_87 : decode cX9_judge 87 = .ok (.iload_n 1, 1) := by decide +kernel
theorem dX9_judge_88 : decode cX9_judge 88 = .ok (.aaload, 1) := by decide +kernel
theorem dX9_judge_89 : decode cX9_judge 89 = .ok (.iload 4, 2) := by decide +kernel
theorem dX9_judge_91 : decode cX9_judge 91 = .ok (.invokevirtual 317, 3) := by decide +kernel
theorem dX9_judge_94 : decode cX9_judge 94 = .ok (.aload_n 0, 1) := by decide +kernel
theorem dX9_judge_95 : decode cX9_judge 95 = .ok (.getfield 63, 3) := by decide +kernel
theorem dX9_judge_98 : decode cX9_judge 98 = .ok (.iload 4, 2) := by decide +kernel
theorem dX9_judge_100 : decode cX9_judge 100 = .ok (.aaload, 1) := by decide +kernel
theorem dX9_judge_101 : decode cX9_judge 101 = .ok (.getfield 284, 3) := by decide +kernel
theorem dX9_judge_104 : decode cX9_judge 104 = .ok (.if_icmp .eq 6, 3) := by decide +kernel
theorem dX9_judge_107 : decode cX9_judge 107 = .ok (.iload 4, 2) := by decide +kernel
theorem dX9_judge_109 : decode cX9_judge 109 = .ok (.ireturn, 1) := by decide +kernel
theorem dX9_judge_110 : decode cX9_judge 110 = .ok (.iinc 4 1, 3) := by decide +kernel
theorem dX9_judge_113 : decode cX9_judge 113 = .ok (.goto (-45), 3) := by decide +kernel
theorem dX9_judge_116 : decode cX9_judge 116 = .ok (.iload_n 2, 1) := by decide +kernel
theorem dX9_judge_117 : decode cX9_judge 117 = .ok (.aload_n 0, 1) := by decide +kernel
theorem dX9_judge_118 : decode cX9_judge 118 = .ok (.getfield 67, 3) := by decide +kernel
theorem dX9_judge_121 : decode cX9_judge 121 = .ok (.if_icmp .ge 7, 3) := by decide +kernel
theorem dX9_judge_124 : decode cX9_judge 124 = .ok (.iload_n 2, 1) := by decide +kernel
theorem dX9_judge_125 : decode cX9_judge 125 = .ok (.goto 4, 3) := by decide +kernel
theorem dX9_judge_128 : decode cX9_judge 128 = .ok (.iconst (-1), 1) := by decide +kernel
theorem dX9_judge_129 : decode cX9_judge 129 = .ok (.ireturn, 1) := by decide +kernel
theorem dX9_drawn_0 : decode cX9_drawn 0 = .ok (.iload_n 1, 1) := by decide +kernel
theorem dX9_drawn_1 : decode cX9_drawn 1 = .ok (.iconst 1, 1) := by decide +kernel
theorem dX9_drawn_2 : decode cX9_drawn 2 = .ok (.if_icmp .lt 9, 3) := by decide +kernel
theorem dX9_drawn_5 : decode cX9_drawn 5 = .ok (.iload_n 1, 1) := by decide +kernel
theorem dX9_drawn_6 : decode cX9_drawn 6 = .ok (.bipush 40, 2) := by decide +kernel
theorem dX9_drawn_8 : decode cX9_drawn 8 = .ok (.if_icmp .le 10, 3) := by decide +kernel
theorem dX9_drawn_11 : decode cX9_drawn 11 = .ok (.aload_n 0, 1) := by decide +kernel
theorem dX9_drawn_12 : decode cX9_drawn 12 = .ok (.bipush 6, 2) := by decide +kernel
theorem dX9_drawn_14 : decode cX9_drawn 14 = .ok (.invokevirtual 84, 3) := by decide +kernel
theorem dX9_drawn_17 : decode cX9_drawn 17 = .ok (.ireturn, 1) := by decide +kernel
theorem dX9_drawn_18 : decode cX9_drawn 18 = .ok (.iconst 0, 1) := by decide +kernel
theorem dX9_drawn_19 : decode cX9_drawn 19 = .ok (.istore_n 2, 1) := by decide +kernel
theorem dX9_drawn_20 : decode cX9_drawn 20 = .ok (.iconst 0, 1) := by decide +kernel
theorem dX9_drawn_21 : decode cX9_drawn 21 = .ok (.istore_n 3, 1) := by decide +kernel
theorem dX9_drawn_22 : decode cX9_drawn 22 = .ok (.iload_n 3, 1) := by decide +kernel
theorem dX9_drawn_23 : decode cX9_drawn 23 = .ok (.iload_n 1, 1) := by decide +kernel
theorem dX9_drawn_24 : decode cX9_drawn 24 = .ok (.if_icmp .ge 22, 3) := by decide +kernel
theorem dX9_drawn_27 : decode cX9_drawn 27 = .ok (.aload_n 0, 1) := by decide +kernel
theorem dX9_drawn_28 : decode cX9_drawn 28 = .ok (.getfield 12, 3) := by decide +kernel
theorem dX9_drawn_31 : decode cX9_drawn 31 = .ok (.invokevirtual 320, 3) := by decide +kernel
theorem dX9_drawn_34 : decode cX9_drawn 34 = .ok (.ifCond .eq 6, 3) := by decide +kernel
theorem dX9_drawn_37 : decode cX9_drawn 37 = .ok (.iinc 2 1, 3) := by decide +kernel
theorem dX9_drawn_40 : decode cX9_drawn 40 = .ok (.iinc 3 1, 3) := by decide +kernel
theorem dX9_drawn_43 : decode cX9_drawn 43 = .ok (.goto (-21), 3) := by decide +kernel
theorem dX9_drawn_46 : decode cX9_drawn 46 = .ok (.iload_n 2, 1) := by decide +kernel
theorem dX9_drawn_47 : decode cX9_drawn 47 = .ok (.ireturn, 1) := by decide +kernel
theorem dX9_seed_0 : decode cX9_seed 0 = .ok (.aload_n 0, 1) := by decide +kernel
theorem dX9_seed_1 : decode cX9_seed 1 = .ok (.getfield 12, 3) := by decide +kernel
theorem dX9_seed_4 : decode cX9_seed 4 = .ok (.getfield 324, 3) := by decide +kernel
theorem dX9_seed_7 : decode cX9_seed 7 = .ok (.istore_n 2, 1) := by decide +kernel
theorem dX9_seed_8 : decode cX9_seed 8 = .ok (.aload_n 0, 1) := by decide +kernel
theorem dX9_seed_9 : decode cX9_seed 9 = .ok (.getfield 12, 3) := by decide +kernel
theorem dX9_seed_12 : decode cX9_seed 12 = .ok (.iload_n 1, 1) := by decide +kernel
theorem dX9_seed_13 : decode cX9_seed 13 = .ok (.putfield 324, 3) := by decide +kernel
theorem dX9_seed_16 : decode cX9_seed 16 = .ok (.iload_n 2, 1) := by decide +kernel
theorem dX9_seed_17 : decode cX9_seed 17 = .ok (.ireturn, 1) := by decide +kernel
theorem dX9_image_0 : decode cX9_image 0 = .ok (.aload_n 0, 1) := by decide +kernel
theorem dX9_image_1 : decode cX9_image 1 = .ok (.getfield 16, 3) := by decide +kernel
theorem dX9_image_4 : decode cX9_image 4 = .ok (.aload_n 0, 1) := by decide +kernel
theorem dX9_image_5 : decode cX9_image 5 = .ok (.getfield 12, 3) := by decide +kernel
theorem dX9_image_8 : decode cX9_image 8 = .ok (.invokevirtual 327, 3) := by decide +kernel
theorem dX9_image_11 : decode cX9_image 11 = .ok (.aload_n 0, 1) := by decide +kernel
theorem dX9_image_12 : decode cX9_image 12 = .ok (.iconst 1, 1) := by decide +kernel
theorem dX9_image_13 : decode cX9_image 13 = .ok (.putfield 19, 3) := by decide +kernel
theorem dX9_image_16 : decode cX9_image 16 = .ok (.aload_n 0, 1) := by decide +kernel
theorem dX9_image_17 : decode cX9_image 17 = .ok (.getfield 12, 3) := by decide +kernel
theorem dX9_image_20 : decode cX9_image 20 = .ok (.invokevirtual 330, 3) := by decide +kernel
theorem dX9_image_23 : decode cX9_image 23 = .ok (.ireturn, 1) := by decide +kernel
theorem dX9_restore_0 : decode cX9_restore 0 = .ok (.aload_n 0, 1) := by decide +kernel
theorem dX9_restore_1 : decode cX9_restore 1 = .ok (.getfield 19, 3) := by decide +kernel
theorem dX9_restore_4 : decode cX9_restore 4 = .ok (.ifCond .ne 10, 3) := by decide +kernel
theorem dX9_restore_7 : decode cX9_restore 7 = .ok (.aload_n 0, 1) := by decide +kernel
theorem dX9_restore_8 : decode cX9_restore 8 = .ok (.bipush 6, 2) := by decide +kernel
theorem dX9_restore_10 : decode cX9_restore 10 = .ok (.invokevirtual 84, 3) := by decide +kernel
theorem dX9_restore_13 : decode cX9_restore 13 = .ok (.ireturn, 1) := by decide +kernel
theorem dX9_restore_14 : decode cX9_restore 14 = .ok (.aload_n 0, 1) := by decide +kernel
theorem dX9_restore_15 : decode cX9_restore 15 = .ok (.getfield 12, 3) := by decide +kernel
theorem dX9_restore_18 : decode cX9_restore 18 = .ok (.aload_n 0, 1) := by decide +kernel
theorem dX9_restore_19 : decode cX9_restore 19 = .ok (.getfield 16, 3) := by decide +kernel
theorem dX9_restore_22 : decode cX9_restore 22 = .ok (.invokevirtual 327, 3) := by decide +kernel
theorem dX9_restore_25 : decode cX9_restore 25 = .ok (.aload_n 0, 1) := by decide +kernel
theorem dX9_restore_26 : decode cX9_restore 26 = .ok (.getfield 12, 3) := by decide +kernel
theorem dX9_restore_29 : decode cX9_restore 29 = .ok (.invokevirtual 330, 3) := by decide +kernel
theorem dX9_restore_32 : decode cX9_restore 32 = .ok (.ireturn, 1) := by decide +kernel
theorem dX9_status_0 : decode cX9_status 0 = .ok (.iload_n 1, 1) := by decide +kernel
theorem dX9_status_1 : decode cX9_status 1 = .ok (.bipush 10, 2) := by decide +kernel
theorem dX9_status_3 : decode cX9_status 3 = .ok (.if_icmp .le 19, 3) := by decide +kernel
theorem dX9_status_6 : decode cX9_status 6 = .ok (.iload_n 1, 1) := by decide +kernel
theorem dX9_status_7 : decode cX9_status 7 = .ok (.bipush 17, 2) := by decide +kernel
theorem dX9_status_9 : decode cX9_status 9 = .ok (.if_icmp .gt 13, 3) := by decide +kernel
theorem dX9_status_12 : decode cX9_status 12 = .ok (.aload_n 0, 1) := by decide +kernel
theorem dX9_status_13 : decode cX9_status 13 = .ok (.getfield 74, 3) := by decide +kernel
theorem dX9_status_16 : decode cX9_status 16 = .ok (.iload_n 1, 1) := by decide +kernel
theorem dX9_status_17 : decode cX9_status 17 = .ok (.bipush 10, 2) := by decide +kernel
theorem dX9_status_19 : decode cX9_status 19 = .ok (.isub, 1) := by decide +kernel
theorem dX9_status_20 : decode cX9_status 20 = .ok (.iaload, 1) := by decide +kernel
theorem dX9_status_21 : decode cX9_status 21 = .ok (.ireturn, 1) := by decide +kernel
theorem dX9_status_22 : decode cX9_status 22 = .ok (.iload_n 1, 1) := by decide +kernel
theorem dX9_status_23 : decode cX9_status 23 = .ok (.tableswitch 70 0 4 #[33, 41, 49, 57, 62], 33) := by decide +kernel
theorem dX9_status_56 : decode cX9_status 56 = .ok (.aload_n 0, 1) := by decide +kernel
theorem dX9_status_57 : decode cX9_status 57 = .ok (.getfield 12, 3) := by decide +kernel
theorem dX9_status_60 : decode cX9_status 60 = .ok (.invokevirtual 330, 3) := by decide +kernel
theorem dX9_status_63 : decode cX9_status 63 = .ok (.ireturn, 1) := by decide +kernel
theorem dX9_status_64 : decode cX9_status 64 = .ok (.aload_n 0, 1) := by decide +kernel
theorem dX9_status_65 : decode cX9_status 65 = .ok (.getfield 12, 3) := by decide +kernel
theorem dX9_status_68 : decode cX9_status 68 = .ok (.getfield 211, 3) := by decide +kernel
theorem dX9_status_71 : decode cX9_status 71 = .ok (.ireturn, 1) := by decide +kernel
theorem dX9_status_72 : decode cX9_status 72 = .ok (.aload_n 0, 1) := by decide +kernel
theorem dX9_status_73 : decode cX9_status 73 = .ok (.getfield 12, 3) := by decide +kernel
theorem dX9_status_76 : decode cX9_status 76 = .ok (.getfield 217, 3) := by decide +kernel
theorem dX9_status_79 : decode cX9_status 79 = .ok (.ireturn, 1) := by decide +kernel
theorem dX9_status_80 : decode cX9_status 80 = .ok (.aload_n 0, 1) := by decide +kernel
theorem dX9_status_81 : decode cX9_status 81 = .ok (.getfield 67, 3) := by decide +kernel
theorem dX9_status_84 : decode cX9_status 84 = .ok (.ireturn, 1) := by decide +kernel
theorem dX9_status_85 : decode cX9_status 85 = .ok (.aload_n 0, 1) := by decide +kernel
theorem dX9_status_86 : decode cX9_status 86 = .ok (.getfield 12, 3) := by decide +kernel
theorem dX9_status_89 : decode cX9_status 89 = .ok (.getfield 324, 3) := by decide +kernel
theorem dX9_status_92 : decode cX9_status 92 = .ok (.ireturn, 1) := by decide +kernel
theorem dX9_status_93 : decode cX9_status 93 = .ok (.iconst (-1), 1) := by decide +kernel
theorem dX9_status_94 : decode cX9_status 94 = .ok (.ireturn, 1) := by decide +kernel
theorem dX9_refuse_0 : decode cX9_refuse 0 = .ok (.aload_n 0, 1) := by decide +kernel
theorem dX9_refuse_1 : decode cX9_refuse 1 = .ok (.getfield 74, 3) := by decide +kernel
theorem dX9_refuse_4 : decode cX9_refuse 4 = .ok (.iload_n 1, 1) := by decide +kernel
theorem dX9_refuse_5 : decode cX9_refuse 5 = .ok (.dup2, 1) := by decide +kernel
theorem dX9_refuse_6 : decode cX9_refuse 6 = .ok (.iaload, 1) := by decide +kernel
theorem dX9_refuse_7 : decode cX9_refuse 7 = .ok (.iconst 1, 1) := by decide +kernel
theorem dX9_refuse_8 : decode cX9_refuse 8 = .ok (.iadd, 1) := by decide +kernel
theorem dX9_refuse_9 : decode cX9_refuse 9 = .ok (.iastore, 1) := by decide +kernel
theorem dX9_refuse_10 : decode cX9_refuse 10 = .ok (.iload_n 1, 1) := by decide +kernel
theorem dX9_refuse_11 : decode cX9_refuse 11 = .ok (.ineg, 1) := by decide +kernel
theorem dX9_refuse_12 : decode cX9_refuse 12 = .ok (.ireturn, 1) := by decide +kernel
theorem dX9_refuseTenLower_0 : decode cX9_refuseTenLower 0 = .ok (.aload_n 0, 1) := by decide +kernel
theorem dX9_refuseTenLower_1 : decode cX9_refuseTenLower 1 = .ok (.iload_n 1, 1) := by decide +kernel
theorem dX9_refuseTenLower_2 : decode cX9_refuseTenLower 2 = .ok (.invokevirtual 84, 3) := by decide +kernel
theorem dX9_refuseTenLower_5 : decode cX9_refuseTenLower 5 = .ok (.bipush 10, 2) := by decide +kernel
theorem dX9_refuseTenLower_7 : decode cX9_refuseTenLower 7 = .ok (.isub, 1) := by decide +kernel
theorem dX9_refuseTenLower_8 : decode cX9_refuseTenLower 8 = .ok (.ireturn, 1) := by decide +kernel
theorem dX9_whyNoRow_0 : decode cX9_whyNoRow 0 = .ok (.iload_n 1, 1) := by decide +kernel
theorem dX9_whyNoRow_1 : decode cX9_whyNoRow 1 = .ok (.bipush 8, 2) := by decide +kernel
theorem dX9_whyNoRow_3 : decode cX9_whyNoRow 3 = .ok (.invokestatic 80, 3) := by decide +kernel
theorem dX9_whyNoRow_6 : decode cX9_whyNoRow 6 = .ok (.ifCond .ne 5, 3) := by decide +kernel
theorem dX9_whyNoRow_9 : decode cX9_whyNoRow 9 = .ok (.iconst 1, 1) := by decide +kernel
theorem dX9_whyNoRow_10 : decode cX9_whyNoRow 10 = .ok (.ireturn, 1) := by decide +kernel
theorem dX9_whyNoRow_11 : decode cX9_whyNoRow 11 = .ok (.aload_n 0, 1) := by decide +kernel
theorem dX9_whyNoRow_12 : decode cX9_whyNoRow 12 = .ok (.getfield 57, 3) := by decide +kernel
theorem dX9_whyNoRow_15 : decode cX9_whyNoRow 15 = .ok (.iload_n 1, 1) := by decide +kernel
theorem dX9_whyNoRow_16 : decode cX9_whyNoRow 16 = .ok (.aaload, 1) := by decide +kernel
theorem dX9_whyNoRow_17 : decode cX9_whyNoRow 17 = .ok (.getfield 102, 3) := by decide +kernel
theorem dX9_whyNoRow_20 : decode cX9_whyNoRow 20 = .ok (.iconst 2, 1) := by decide +kernel
theorem dX9_whyNoRow_21 : decode cX9_whyNoRow 21 = .ok (.if_icmp .ne 5, 3) := by decide +kernel
theorem dX9_whyNoRow_24 : decode cX9_whyNoRow 24 = .ok (.iconst 2, 1) := by decide +kernel
theorem dX9_whyNoRow_25 : decode cX9_whyNoRow 25 = .ok (.ireturn, 1) := by decide +kernel
theorem dX9_whyNoRow_26 : decode cX9_whyNoRow 26 = .ok (.aload_n 0, 1) := by decide +kernel
theorem dX9_whyNoRow_27 : decode cX9_whyNoRow 27 = .ok (.getfield 57, 3) := by decide +kernel
theorem dX9_whyNoRow_30 : decode cX9_whyNoRow 30 = .ok (.iload_n 1, 1) := by decide +kernel
theorem dX9_whyNoRow_31 : decode cX9_whyNoRow 31 = .ok (.aaload, 1) := by decide +kernel
theorem dX9_whyNoRow_32 : decode cX9_whyNoRow 32 = .ok (.getfield 102, 3) := by decide +kernel
theorem dX9_whyNoRow_35 : decode cX9_whyNoRow 35 = .ok (.ifCond .ne 7, 3) := by decide +kernel
theorem dX9_whyNoRow_38 : decode cX9_whyNoRow 38 = .ok (.iconst 3, 1) := by decide +kernel
theorem dX9_whyNoRow_39 : decode cX9_whyNoRow 39 = .ok (.goto 4, 3) := by decide +kernel
theorem dX9_whyNoRow_42 : decode cX9_whyNoRow 42 = .ok (.iconst 0, 1) := by decide +kernel
theorem dX9_whyNoRow_43 : decode cX9_whyNoRow 43 = .ok (.ireturn, 1) := by decide +kernel
theorem dX9_isNode_0 : decode cX9_isNode 0 = .ok (.iload_n 1, 1) := by decide +kernel
theorem dX9_isNode_1 : decode cX9_isNode 1 = .ok (.ifCond .lt 21, 3) := by decide +kernel
theorem dX9_isNode_4 : decode cX9_isNode 4 = .ok (.iload_n 1, 1) := by decide +kernel
theorem dX9_isNode_5 : decode cX9_isNode 5 = .ok (.aload_n 0, 1) := by decide +kernel
theorem dX9_isNode_6 : decode cX9_isNode 6 = .ok (.getfield 67, 3) := by decide +kernel
theorem dX9_isNode_9 : decode cX9_isNode 9 = .ok (.if_icmp .ge 13, 3) := by decide +kernel
theorem dX9_isNode_12 : decode cX9_isNode 12 = .ok (.iload_n 1, 1) := by decide +kernel
theorem dX9_isNode_13 : decode cX9_isNode 13 = .ok (.bipush 18, 2) := by decide +kernel
theorem dX9_isNode_15 : decode cX9_isNode 15 = .ok (.if_icmp .ge 7, 3) := by decide +kernel
theorem dX9_isNode_18 : decode cX9_isNode 18 = .ok (.iconst 1, 1) := by decide +kernel
theorem dX9_isNode_19 : decode cX9_isNode 19 = .ok (.goto 4, 3) := by decide +kernel
theorem dX9_isNode_22 : decode cX9_isNode 22 = .ok (.iconst 0, 1) := by decide +kernel
theorem dX9_isNode_23 : decode cX9_isNode 23 = .ok (.ireturn, 1) := by decide +kernel
theorem dX9_areRowsOfTwoSorts_0 : decode cX9_areRowsOfTwoSorts 0 = .ok (.aload_n 0, 1) := by decide +kernel
theorem dX9_areRowsOfTwoSorts_1 : decode cX9_areRowsOfTwoSorts 1 = .ok (.getfield 102, 3) := by decide +kernel
theorem dX9_areRowsOfTwoSorts_4 : decode cX9_areRowsOfTwoSorts 4 = .ok (.iconst 1, 1) := by decide +kernel
theorem dX9_areRowsOfTwoSorts_5 : decode cX9_areRowsOfTwoSorts 5 = .ok (.if_icmp .ne 26, 3) := by decide +kernel
theorem dX9_areRowsOfTwoSorts_8 : decode cX9_areRowsOfTwoSorts 8 = .ok (.aload_n 1, 1) := by decide +kernel
theorem dX9_areRowsOfTwoSorts_9 : decode cX9_areRowsOfTwoSorts 9 = .ok (.getfield 102, 3) := by decide +kernel
theorem dX9_areRowsOfTwoSorts_12 : decode cX9_areRowsOfTwoSorts 12 = .ok (.iconst 1, 1) := by decide +kernel
theorem dX9_areRowsOfTwoSorts_13 : decode cX9_areRowsOfTwoSorts 13 = .ok (.if_icmp .ne 18, 3) := by decide +kernel
theorem dX9_areRowsOfTwoSorts_16 : decode cX9_areRowsOfTwoSorts 16 = .ok (.aload_n 0, 1) := by decide +kernel
theorem dX9_areRowsOfTwoSorts_17 : decode cX9_areRowsOfTwoSorts 17 = .ok (.getfield 333, 3) := by decide +kernel
theorem dX9_areRowsOfTwoSorts_20 : decode cX9_areRowsOfTwoSorts 20 = .ok (.aload_n 1, 1) := by decide +kernel
theorem dX9_areRowsOfTwoSorts_21 : decode cX9_areRowsOfTwoSorts 21 = .ok (.getfield 333, 3) := by decide +kernel
theorem dX9_areRowsOfTwoSorts_24 : decode cX9_areRowsOfTwoSorts 24 = .ok (.if_icmp .eq 7, 3) := by decide +kernel
theorem dX9_areRowsOfTwoSorts_27 : decode cX9_areRowsOfTwoSorts 27 = .ok (.iconst 1, 1) := by decide +kernel
theorem dX9_areRowsOfTwoSorts_28 : decode cX9_areRowsOfTwoSorts 28 = .ok (.goto 4, 3) := by decide +kernel
theorem dX9_areRowsOfTwoSorts_31 : decode cX9_areRowsOfTwoSorts 31 = .ok (.iconst 0, 1) := by decide +kernel
theorem dX9_areRowsOfTwoSorts_32 : decode cX9_areRowsOfTwoSorts 32 = .ok (.ireturn, 1) := by decide +kernel
theorem dX9_hasElements_0 : decode cX9_hasElements 0 = .ok (.iload_n 1, 1) := by decide +kernel
theorem dX9_hasElements_1 : decode cX9_hasElements 1 = .ok (.ifCond .lt 25, 3) := by decide +kernel
theorem dX9_hasElements_4 : decode cX9_hasElements 4 = .ok (.iload_n 1, 1) := by decide +kernel
theorem dX9_hasElements_5 : decode cX9_hasElements 5 = .ok (.aload_n 0, 1) := by decide +kernel
theorem dX9_hasElements_6 : decode cX9_hasElements 6 = .ok (.getfield 95, 3) := by decide +kernel
theorem dX9_hasElements_9 : decode cX9_hasElements 9 = .ok (.if_icmp .gt 17, 3) := by decide +kernel
theorem dX9_hasElements_12 : decode cX9_hasElements 12 = .ok (.iload_n 2, 1) := by decide +kernel
theorem dX9_hasElements_13 : decode cX9_hasElements 13 = .ok (.aload_n 0, 1) := by decide +kernel
theorem dX9_hasElements_14 : decode cX9_hasElements 14 = .ok (.getfield 95, 3) := by decide +kernel
theorem dX9_hasElements_17 : decode cX9_hasElements 17 = .ok (.iload_n 1, 1) := by decide +kernel
theorem dX9_hasElements_18 : decode cX9_hasElements 18 = .ok (.isub, 1) := by decide +kernel
theorem dX9_hasElements_19 : decode cX9_hasElements 19 = .ok (.if_icmp .gt 7, 3) := by decide +kernel
theorem dX9_hasElements_22 : decode cX9_hasElements 22 = .ok (.iconst 1, 1) := by decide +kernel
theorem dX9_hasElements_23 : decode cX9_hasElements 23 = .ok (.goto 4, 3) := by decide +kernel
theorem dX9_hasElements_26 : decode cX9_hasElements 26 = .ok (.iconst 0, 1) := by decide +kernel
theorem dX9_hasElements_27 : decode cX9_hasElements 27 = .ok (.ireturn, 1) := by decide +kernel
theorem dX9_isBelow_0 : decode cX9_isBelow 0 = .ok (.iload_n 0, 1) := by decide +kernel
theorem dX9_isBelow_1 : decode cX9_isBelow 1 = .ok (.ifCond .lt 12, 3) := by decide +kernel
theorem dX9_isBelow_4 : decode cX9_isBelow 4 = .ok (.iload_n 0, 1) := by decide +kernel
theorem dX9_isBelow_5 : decode cX9_isBelow 5 = .ok (.iload_n 1, 1) := by decide +kernel
theorem dX9_isBelow_6 : decode cX9_isBelow 6 = .ok (.if_icmp .ge 7, 3) := by decide +kernel
theorem dX9_isBelow_9 : decode cX9_isBelow 9 = .ok (.iconst 1, 1) := by decide +kernel
theorem dX9_isBelow_10 : decode cX9_isBelow 10 = .ok (.goto 4, 3) := by decide +kernel
theorem dX9_isBelow_13 : decode cX9_isBelow 13 = .ok (.iconst 0, 1) := by decide +kernel
theorem dX9_isBelow_14 : decode cX9_isBelow 14 = .ok (.ireturn, 1) := by decide +kernel
theorem dX9_isSet_0 : decode cX9_isSet 0 = .ok (.iload_n 0, 1) := by decide +kernel
theorem dX9_isSet_1 : decode cX9_isSet 1 = .ok (.ifCond .le 13, 3) := by decide +kernel
theorem dX9_isSet_4 : decode cX9_isSet 4 = .ok (.iload_n 0, 1) := by decide +kernel
theorem dX9_isSet_5 : decode cX9_isSet 5 = .ok (.bipush 32, 2) := by decide +kernel
theorem dX9_isSet_7 : decode cX9_isSet 7 = .ok (.if_icmp .ge 7, 3) := by decide +kernel
theorem dX9_isSet_10 : decode cX9_isSet 10 = .ok (.iconst 1, 1) := by decide +kernel
theorem dX9_isSet_11 : decode cX9_isSet 11 = .ok (.goto 4, 3) := by decide +kernel
theorem dX9_isSet_14 : decode cX9_isSet 14 = .ok (.iconst 0, 1) := by decide +kernel
theorem dX9_isSet_15 : decode cX9_isSet 15 = .ok (.ireturn, 1) := by decide +kernel
theorem dX9_isOrder_0 : decode cX9_isOrder 0 = .ok (.iload_n 0, 1) := by decide +kernel
theorem dX9_isOrder_1 : decode cX9_isOrder 1 = .ok (.iconst (-1), 1) := by decide +kernel
theorem dX9_isOrder_2 : decode cX9_isOrder 2 = .ok (.if_icmp .eq 12, 3) := by decide +kernel
theorem dX9_isOrder_5 : decode cX9_isOrder 5 = .ok (.iload_n 0, 1) := by decide +kernel
theorem dX9_isOrder_6 : decode cX9_isOrder 6 = .ok (.bipush 15, 2) := by decide +kernel
theorem dX9_isOrder_8 : decode cX9_isOrder 8 = .ok (.invokestatic 80, 3) := by decide +kernel
theorem dX9_isOrder_11 : decode cX9_isOrder 11 = .ok (.ifCond .eq 7, 3) := by decide +kernel
theorem dX9_isOrder_14 : decode cX9_isOrder 14 = .ok (.iconst 1, 1) := by decide +kernel
theorem dX9_isOrder_15 : decode cX9_isOrder 15 = .ok (.goto 4, 3) := by decide +kernel
theorem dX9_isOrder_18 : decode cX9_isOrder 18 = .ok (.iconst 0, 1) := by decide +kernel
theorem dX9_isOrder_19 : decode cX9_isOrder 19 = .ok (.ireturn, 1) := by decide +kernel
theorem dX9_isWithin_0 : decode cX9_isWithin 0 = .ok (.iload_n 0, 1) := by decide +kernel
theorem dX9_isWithin_1 : decode cX9_isWithin 1 = .ok (.iload_n 1, 1) := by decide +kernel
theorem dX9_isWithin_2 : decode cX9_isWithin 2 = .ok (.iconst 3, 1) := by decide +kernel
theorem dX9_isWithin_3 : decode cX9_isWithin 3 = .ok (.idiv, 1) := by decide +kernel
theorem dX9_isWithin_4 : decode cX9_isWithin 4 = .ok (.ishr, 1) := by decide +kernel
theorem dX9_isWithin_5 : decode cX9_isWithin 5 = .ok (.iconst 1, 1) := by decide +kernel
theorem dX9_isWithin_6 : decode cX9_isWithin 6 = .ok (.iand, 1) := by decide +kernel
theorem dX9_isWithin_7 : decode cX9_isWithin 7 = .ok (.iconst 1, 1) := by decide +kernel
theorem dX9_isWithin_8 : decode cX9_isWithin 8 = .ok (.if_icmp .ne 7, 3) := by decide +kernel
theorem dX9_isWithin_11 : decode cX9_isWithin 11 = .ok (.iconst 1, 1) := by decide +kernel
theorem dX9_isWithin_12 : decode cX9_isWithin 12 = .ok (.goto 4, 3) := by decide +kernel
theorem dX9_isWithin_15 : decode cX9_isWithin 15 = .ok (.iconst 0, 1) := by decide +kernel
theorem dX9_isWithin_16 : decode cX9_isWithin 16 = .ok (.ireturn, 1) := by decide +kernel
theorem dX9_leastOf_0 : decode cX9_leastOf 0 = .ok (.iconst 0, 1) := by decide +kernel
theorem dX9_leastOf_1 : decode cX9_leastOf 1 = .ok (.istore_n 1, 1) := by decide +kernel
theorem dX9_leastOf_2 : decode cX9_leastOf 2 = .ok (.iload_n 1, 1) := by decide +kernel
theorem dX9_leastOf_3 : decode cX9_leastOf 3 = .ok (.iconst 4, 1) := by decide +kernel
theorem dX9_leastOf_4 : decode cX9_leastOf 4 = .ok (.if_icmp .ge 17, 3) := by decide +kernel
theorem dX9_leastOf_7 : decode cX9_leastOf 7 = .ok (.iload_n 0, 1) := by decide +kernel
theorem dX9_leastOf_8 : decode cX9_leastOf 8 = .ok (.iload_n 1, 1) := by decide +kernel
theorem dX9_leastOf_9 : decode cX9_leastOf 9 = .ok (.ishr, 1) := by decide +kernel
theorem dX9_leastOf_10 : decode cX9_leastOf 10 = .ok (.iconst 1, 1) := by decide +kernel
theorem dX9_leastOf_11 : decode cX9_leastOf 11 = .ok (.iand, 1) := by decide +kernel
theorem dX9_leastOf_12 : decode cX9_leastOf 12 = .ok (.ifCond .ne 9, 3) := by decide +kernel
theorem dX9_leastOf_15 : decode cX9_leastOf 15 = .ok (.iinc 1 1, 3) := by decide +kernel
theorem dX9_leastOf_18 : decode cX9_leastOf 18 = .ok (.goto (-16), 3) := by decide +kernel
theorem dX9_leastOf_21 : decode cX9_leastOf 21 = .ok (.iload_n 1, 1) := by decide +kernel
theorem dX9_leastOf_22 : decode cX9_leastOf 22 = .ok (.ireturn, 1) := by decide +kernel
theorem dX9_cellOf_0 : decode cX9_cellOf 0 = .ok (.iload_n 0, 1) := by decide +kernel
theorem dX9_cellOf_1 : decode cX9_cellOf 1 = .ok (.bipush 16, 2) := by decide +kernel
theorem dX9_cellOf_3 : decode cX9_cellOf 3 = .ok (.imul, 1) := by decide +kernel
theorem dX9_cellOf_4 : decode cX9_cellOf 4 = .ok (.iload_n 1, 1) := by decide +kernel
theorem dX9_cellOf_5 : decode cX9_cellOf 5 = .ok (.iadd, 1) := by decide +kernel
theorem dX9_cellOf_6 : decode cX9_cellOf 6 = .ok (.iconst 1, 1) := by decide +kernel
theorem dX9_cellOf_7 : decode cX9_cellOf 7 = .ok (.iadd, 1) := by decide +kernel
theorem dX9_cellOf_8 : decode cX9_cellOf 8 = .ok (.ireturn, 1) := by decide +kernel
theorem dX9_costOfSorting_0 : decode cX9_costOfSorting 0 = .ok (.fload_n 0, 1) := by decide +kernel
theorem dX9_costOfSorting_1 : decode cX9_costOfSorting 1 = .ok (.f2i, 1) := by decide +kernel
theorem dX9_costOfSorting_2 : decode cX9_costOfSorting 2 = .ok (.istore_n 1, 1) := by decide +kernel
theorem dX9_costOfSorting_3 : decode cX9_costOfSorting 3 = .ok (.iconst 0, 1) := by decide +kernel
theorem dX9_costOfSorting_4 : decode cX9_costOfSorting 4 = .ok (.istore_n 2, 1) := by decide +kernel
theorem dX9_costOfSorting_5 : decode cX9_costOfSorting 5 = .ok (.iload_n 2, 1) := by decide +kernel
theorem dX9_costOfSorting_6 : decode cX9_costOfSorting 6 = .ok (.bipush 31, 2) := by decide +kernel
theorem dX9_costOfSorting_8 : decode cX9_costOfSorting 8 = .ok (.if_icmp .ge 15, 3) := by decide +kernel
theorem dX9_costOfSorting_11 : decode cX9_costOfSorting 11 = .ok (.iload_n 1, 1) := by decide +kernel
theorem dX9_costOfSorting_12 : decode cX9_costOfSorting 12 = .ok (.iload_n 2, 1) := by decide +kernel
theorem dX9_costOfSorting_13 : decode cX9_costOfSorting 13 = .ok (.ishr, 1) := by decide +kernel
theorem dX9_costOfSorting_14 : decode cX9_costOfSorting 14 = .ok (.ifCond .le 9, 3) := by decide +kernel
theorem dX9_costOfSorting_17 : decode cX9_costOfSorting 17 = .ok (.iinc 2 1, 3) := by decide +kernel
theorem dX9_costOfSorting_20 : decode cX9_costOfSorting 20 = .ok (.goto (-15), 3) := by decide +kernel
theorem dX9_costOfSorting_23 : decode cX9_costOfSorting 23 = .ok (.fload_n 0, 1) := by decide +kernel
theorem dX9_costOfSorting_24 : decode cX9_costOfSorting 24 = .ok (.iload_n 2, 1) := by decide +kernel
theorem dX9_costOfSorting_25 : decode cX9_costOfSorting 25 = .ok (.i2f, 1) := by decide +kernel
theorem dX9_costOfSorting_26 : decode cX9_costOfSorting 26 = .ok (.fmul, 1) := by decide +kernel
theorem dX9_costOfSorting_27 : decode cX9_costOfSorting 27 = .ok (.freturn, 1) := by decide +kernel
theorem dX9_errorOf_0 : decode cX9_errorOf 0 = .ok (.fload_n 0, 1) := by decide +kernel
theorem dX9_errorOf_1 : decode cX9_errorOf 1 = .ok (.fconst 0, 1) := by decide +kernel
theorem dX9_errorOf_2 : decode cX9_errorOf 2 = .ok (.fcmp .l, 1) := by decide +kernel
theorem dX9_errorOf_3 : decode cX9_errorOf 3 = .ok (.ifCond .ne 11, 3) := by decide +kernel
theorem dX9_errorOf_6 : decode cX9_errorOf 6 = .ok (.fload_n 1, 1) := by decide +kernel
theorem dX9_errorOf_7 : decode cX9_errorOf 7 = .ok (.fconst 0, 1) := by decide +kernel
theorem dX9_errorOf_8 : decode cX9_errorOf 8 = .ok (.fcmp .l, 1) := by decide +kernel
theorem dX9_errorOf_9 : decode cX9_errorOf 9 = .ok (.ifCond .ne 5, 3) := by decide +kernel
theorem dX9_errorOf_12 : decode cX9_errorOf 12 = .ok (.fconst 1, 1) := by decide +kernel
theorem dX9_errorOf_13 : decode cX9_errorOf 13 = .ok (.freturn, 1) := by decide +kernel
theorem dX9_errorOf_14 : decode cX9_errorOf 14 = .ok (.fload_n 0, 1) := by decide +kernel
theorem dX9_errorOf_15 : decode cX9_errorOf 15 = .ok (.fconst 0, 1) := by decide +kernel
theorem dX9_errorOf_16 : decode cX9_errorOf 16 = .ok (.fcmp .l, 1) := by decide +kernel
theorem dX9_errorOf_17 : decode cX9_errorOf 17 = .ok (.ifCond .eq 9, 3) := by decide +kernel
theorem dX9_errorOf_20 : decode cX9_errorOf 20 = .ok (.fload_n 1, 1) := by decide +kernel
theorem dX9_errorOf_21 : decode cX9_errorOf 21 = .ok (.fconst 0, 1) := by decide +kernel
theorem dX9_errorOf_22 : decode cX9_errorOf 22 = .ok (.fcmp .l, 1) := by decide +kernel
theorem dX9_errorOf_23 : decode cX9_errorOf 23 = .ok (.ifCond .ne 5, 3) := by decide +kernel
theorem dX9_errorOf_26 : decode cX9_errorOf 26 = .ok (.fconst 0, 1) := by decide +kernel
theorem dX9_errorOf_27 : decode cX9_errorOf 27 = .ok (.freturn, 1) := by decide +kernel
theorem dX9_errorOf_28 : decode cX9_errorOf 28 = .ok (.fload_n 0, 1) := by decide +kernel
theorem dX9_errorOf_29 : decode cX9_errorOf 29 = .ok (.fload_n 1, 1) := by decide +kernel
theorem dX9_errorOf_30 : decode cX9_errorOf 30 = .ok (.fdiv, 1) := by decide +kernel
theorem dX9_errorOf_31 : decode cX9_errorOf 31 = .ok (.fstore_n 2, 1) := by decide +kernel
theorem dX9_errorOf_32 : decode cX9_errorOf 32 = .ok (.fload_n 1, 1) := by decide +kernel
theorem dX9_errorOf_33 : decode cX9_errorOf 33 = .ok (.fload_n 0, 1) := by decide +kernel
theorem dX9_errorOf_34 : decode cX9_errorOf 34 = .ok (.fdiv, 1) := by decide +kernel
theorem dX9_errorOf_35 : decode cX9_errorOf 35 = .ok (.fstore_n 3, 1) := by decide +kernel
theorem dX9_errorOf_36 : decode cX9_errorOf 36 = .ok (.fload_n 2, 1) := by decide +kernel
theorem dX9_errorOf_37 : decode cX9_errorOf 37 = .ok (.fload_n 3, 1) := by decide +kernel
theorem dX9_errorOf_38 : decode cX9_errorOf 38 = .ok (.fcmp .l, 1) := by decide +kernel
theorem dX9_errorOf_39 : decode cX9_errorOf 39 = .ok (.ifCond .lt 7, 3) := by decide +kernel
theorem dX9_errorOf_42 : decode cX9_errorOf 42 = .ok (.fload_n 2, 1) := by decide +kernel
theorem dX9_errorOf_43 : decode cX9_errorOf 43 = .ok (.goto 4, 3) := by decide +kernel
theorem dX9_errorOf_46 : decode cX9_errorOf 46 = .ok (.fload_n 3, 1) := by decide +kernel
theorem dX9_errorOf_47 : decode cX9_errorOf 47 = .ok (.freturn, 1) := by decide +kernel
theorem dX9_bitsOf_0 : decode cX9_bitsOf 0 = .ok (.fload_n 0, 1) := by decide +kernel
theorem dX9_bitsOf_1 : decode cX9_bitsOf 1 = .ok (.f2d, 1) := by decide +kernel
theorem dX9_bitsOf_2 : decode cX9_bitsOf 2 = .ok (.dstore_n 1, 1) := by decide +kernel
theorem dX9_bitsOf_3 : decode cX9_bitsOf 3 = .ok (.iconst 0, 1) := by decide +kernel
theorem dX9_bitsOf_4 : decode cX9_bitsOf 4 = .ok (.istore_n 3, 1) := by decide +kernel
theorem dX9_bitsOf_5 : decode cX9_bitsOf 5 = .ok (.dload_n 1, 1) := by decide +kernel
theorem dX9_bitsOf_6 : decode cX9_bitsOf 6 = .ok (.ldc2_w 336, 3) := by decide +kernel
theorem dX9_bitsOf_9 : decode cX9_bitsOf 9 = .ok (.dcmp .l, 1) := by decide +kernel
theorem dX9_bitsOf_10 : decode cX9_bitsOf 10 = .ok (.ifCond .lt 22, 3) := by decide +kernel
theorem dX9_bitsOf_13 : decode cX9_bitsOf 13 = .ok (.iload_n 3, 1) := by decide +kernel
theorem dX9_bitsOf_14 : decode cX9_bitsOf 14 = .ok (.sipush 128, 3) := by decide +kernel
theorem dX9_bitsOf_17 : decode cX9_bitsOf 17 = .ok (.if_icmp .ge 15, 3) := by decide +kernel
theorem dX9_bitsOf_20 : decode cX9_bitsOf 20 = .ok (.dload_n 1, 1) := by decide +kernel
theorem dX9_bitsOf_21 : decode cX9_bitsOf 21 = .ok (.ldc2_w 336, 3) := by decide +kernel
theorem dX9_bitsOf_24 : decode cX9_bitsOf 24 = .ok (.ddiv, 1) := by decide +kernel
theorem dX9_bitsOf_25 : decode cX9_bitsOf 25 = .ok (.dstore_n 1, 1) := by decide +kernel
theorem dX9_bitsOf_26 : decode cX9_bitsOf 26 = .ok (.iinc 3 1, 3) := by decide +kernel
theorem dX9_bitsOf_29 : decode cX9_bitsOf 29 = .ok (.goto (-24), 3) := by decide +kernel
theorem dX9_bitsOf_32 : decode cX9_bitsOf 32 = .ok (.iload_n 3, 1) := by decide +kernel
theorem dX9_bitsOf_33 : decode cX9_bitsOf 33 = .ok (.sipush 128, 3) := by decide +kernel
theorem dX9_bitsOf_36 : decode cX9_bitsOf 36 = .ok (.if_icmp .ne 7, 3) := by decide +kernel
theorem dX9_bitsOf_39 : decode cX9_bitsOf 39 = .ok (.ldc_w 338, 3) := by decide +kernel
theorem dX9_bitsOf_42 : decode cX9_bitsOf 42 = .ok (.ireturn, 1) := by decide +kernel
theorem dX9_bitsOf_43 : decode cX9_bitsOf 43 = .ok (.dload_n 1, 1) := by decide +kernel
theorem dX9_bitsOf_44 : decode cX9_bitsOf 44 = .ok (.dconst 1, 1) := by decide +kernel
theorem dX9_bitsOf_45 : decode cX9_bitsOf 45 = .ok (.dcmp .g, 1) := by decide +kernel
theorem dX9_bitsOf_46 : decode cX9_bitsOf 46 = .ok (.ifCond .ge 21, 3) := by decide +kernel
theorem dX9_bitsOf_49 : decode cX9_bitsOf 49 = .ok (.iload_n 3, 1) := by decide +kernel
theorem dX9_bitsOf_50 : decode cX9_bitsOf 50 = .ok (.bipush (-126), 2) := by decide +kernel
theorem dX9_bitsOf_52 : decode cX9_bitsOf 52 = .ok (.if_icmp .le 15, 3) := by decide +kernel
theorem dX9_bitsOf_55 : decode cX9_bitsOf 55 = .ok (.dload_n 1, 1) := by decide +kernel
theorem dX9_bitsOf_56 : decode cX9_bitsOf 56 = .ok (.ldc2_w 336, 3) := by decide +kernel
theorem dX9_bitsOf_59 : decode cX9_bitsOf 59 = .ok (.dmul, 1) := by decide +kernel
theorem dX9_bitsOf_60 : decode cX9_bitsOf 60 = .ok (.dstore_n 1, 1) := by decide +kernel
theorem dX9_bitsOf_61 : decode cX9_bitsOf 61 = .ok (.iinc 3 (-1), 3) := by decide +kernel
theorem dX9_bitsOf_64 : decode cX9_bitsOf 64 = .ok (.goto (-21), 3) := by decide +kernel
theorem dX9_bitsOf_67 : decode cX9_bitsOf 67 = .ok (.dload_n 1, 1) := by decide +kernel
theorem dX9_bitsOf_68 : decode cX9_bitsOf 68 = .ok (.ldc2_w 339, 3) := by decide +kernel
theorem dX9_bitsOf_71 : decode cX9_bitsOf 71 = .ok (.dmul, 1) := by decide +kernel
theorem dX9_bitsOf_72 : decode cX9_bitsOf 72 = .ok (.d2i, 1) := by decide +kernel
theorem dX9_bitsOf_73 : decode cX9_bitsOf 73 = .ok (.istore 4, 2) := by decide +kernel
theorem dX9_bitsOf_75 : decode cX9_bitsOf 75 = .ok (.dload_n 1, 1) := by decide +kernel
theorem dX9_bitsOf_76 : decode cX9_bitsOf 76 = .ok (.dconst 1, 1) := by decide +kernel
theorem dX9_bitsOf_77 : decode cX9_bitsOf 77 = .ok (.dcmp .g, 1) := by decide +kernel
theorem dX9_bitsOf_78 : decode cX9_bitsOf 78 = .ok (.ifCond .ge 8, 3) := by decide +kernel
theorem dX9_bitsOf_81 : decode cX9_bitsOf 81 = .ok (.iload 4, 2) := by decide +kernel
theorem dX9_bitsOf_83 : decode cX9_bitsOf 83 = .ok (.goto 17, 3) := by decide +kernel
theorem dX9_bitsOf_86 : decode cX9_bitsOf 86 = .ok (.iload_n 3, 1) := by decide +kernel
theorem dX9_bitsOf_87 : decode cX9_bitsOf 87 = .ok (.bipush 127, 2) := by decide +kernel
theorem dX9_bitsOf_89 : decode cX9_bitsOf 89 = .ok (.iadd, 1) := by decide +kernel
theorem dX9_bitsOf_90 : decode cX9_bitsOf 90 = .ok (.bipush 23, 2) := by decide +kernel
theorem dX9_bitsOf_92 : decode cX9_bitsOf 92 = .ok (.ishl, 1) := by decide +kernel
theorem dX9_bitsOf_93 : decode cX9_bitsOf 93 = .ok (.iload 4, 2) := by decide +kernel
theorem dX9_bitsOf_95 : decode cX9_bitsOf 95 = .ok (.ldc_w 341, 3) := by decide +kernel
theorem dX9_bitsOf_98 : decode cX9_bitsOf 98 = .ok (.isub, 1) := by decide +kernel
theorem dX9_bitsOf_99 : decode cX9_bitsOf 99 = .ok (.iadd, 1) := by decide +kernel
theorem dX9_bitsOf_100 : decode cX9_bitsOf 100 = .ok (.ireturn, 1) := by decide +kernel
theorem dX10_init_0 : decode cX10_init 0 = .ok (.aload_n 0, 1) := by decide +kernel
theorem dX10_init_1 : decode cX10_init 1 = .ok (.invokespecial 1, 3) := by decide +kernel
theorem dX10_init_4 : decode cX10_init 4 = .ok (.aload_n 0, 1) := by decide +kernel
theorem dX10_init_5 : decode cX10_init 5 = .ok (.bipush 8, 2) := by decide +kernel
theorem dX10_init_7 : decode cX10_init 7 = .ok (.newarray .int, 2) := by decide +kernel
theorem dX10_init_9 : decode cX10_init 9 = .ok (.putfield 7, 3) := by decide +kernel
theorem dX10_init_12 : decode cX10_init 12 = .ok (.aload_n 0, 1) := by decide +kernel
theorem dX10_init_13 : decode cX10_init 13 = .ok (.iconst 5, 1) := by decide +kernel
theorem dX10_init_14 : decode cX10_init 14 = .ok (.newarray .int, 2) := by decide +kernel
theorem dX10_init_16 : decode cX10_init 16 = .ok (.putfield 13, 3) := by decide +kernel
theorem dX10_init_19 : decode cX10_init 19 = .ok (.aload_n 0, 1) := by decide +kernel
theorem dX10_init_20 : decode cX10_init 20 = .ok (.sipush 240, 3) := by decide +kernel
theorem dX10_init_23 : decode cX10_init 23 = .ok (.newarray .int, 2) := by decide +kernel
theorem dX10_init_25 : decode cX10_init 25 = .ok (.putfield 16, 3) := by decide +kernel
theorem dX10_init_28 : decode cX10_init 28 = .ok (.aload_n 0, 1) := by decide +kernel
theorem dX10_init_29 : decode cX10_init 29 = .ok (.iconst 5, 1) := by decide +kernel
theorem dX10_init_30 : decode cX10_init 30 = .ok (.newarray .int, 2) := by decide +kernel
theorem dX10_init_32 : decode cX10_init 32 = .ok (.putfield 19, 3) := by decide +kernel
theorem dX10_init_35 : decode cX10_init 35 = .ok (.aload_n 0, 1) := by decide +kernel
theorem dX10_init_36 : decode cX10_init 36 = .ok (.iconst 5, 1) := by decide +kernel
theorem dX10_init_37 : decode cX10_init 37 = .ok (.newarray .int, 2) := by decide +kernel
theorem dX10_init_39 : decode cX10_init 39 = .ok (.putfield 22, 3) := by decide +kernel
theorem dX10_init_42 : decode cX10_init 42 = .ok (.aload_n 0, 1) := by decide +kernel
theorem dX10_init_43 : decode cX10_init 43 = .ok (.bipush 8, 2) := by decide +kernel
theorem dX10_init_45 : decode cX10_init 45 = .ok (.newarray .int, 2) := by decide +kernel
theorem dX10_init_47 : decode cX10_init 47 = .ok (.putfield 25, 3) := by decide +kernel
theorem dX10_init_50 : decode cX10_init 50 = .ok (.aload_n 0, 1) := by decide +kernel
theorem dX10_init_51 : decode cX10_init 51 = .ok (.bipush 8, 2) := by decide +kernel
theorem dX10_init_53 : decode cX10_init 53 = .ok (.newarray .int, 2) := by decide +kernel
theorem dX10_init_55 : decode cX10_init 55 = .ok (.putfield 28, 3) := by decide +kernel
theorem dX10_init_58 : decode cX10_init 58 = .ok (.aload_n 0, 1) := by decide +kernel
theorem dX10_init_59 : decode cX10_init 59 = .ok (.bipush 8, 2) := by decide +kernel
theorem dX10_init_61 : decode cX10_init 61 = .ok (.newarray .int, 2) := by decide +kernel
theorem dX10_init_63 : decode cX10_init 63 = .ok (.putfield 31, 3) := by decide +kernel
theorem dX10_init_66 : decode cX10_init 66 = .ok (.aload_n 0, 1) := by decide +kernel
theorem dX10_init_67 : decode cX10_init 67 = .ok (.bipush 8, 2) := by decide +kernel
theorem dX10_init_69 : decode cX10_init 69 = .ok (.newarray .int, 2) := by decide +kernel
theorem dX10_init_71 : decode cX10_init 71 = .ok (.putfield 34, 3) := by decide +kernel
theorem dX10_init_74 : decode cX10_init 74 = .ok (.aload_n 0, 1) := by decide +kernel
theorem dX10_init_75 : decode cX10_init 75 = .ok (.bipush 8, 2) := by decide +kernel
theorem dX10_init_77 : decode cX10_init 77 = .ok (.newarray .int, 2) := by decide +kernel
theorem dX10_init_79 : decode cX10_init 79 = .ok (.putfield 37, 3) := by decide +kernel
theorem dX10_init_82 : decode cX10_init 82 = .ok (.aload_n 0, 1) := by decide +kernel
theorem dX10_init_83 : decode cX10_init 83 = .ok (.bipush 16, 2) := by decide +kernel
theorem dX10_init_85 : decode cX10_init 85 = .ok (.newarray .int, 2) := by decide +kernel
theorem dX10_init_87 : decode cX10_init 87 = .ok (.putfield 40, 3) := by decide +kernel
theorem dX10_init_90 : decode cX10_init 90 = .ok (.aload_n 0, 1) := by decide +kernel
theorem dX10_init_91 : decode cX10_init 91 = .ok (.bipush 8, 2) := by decide +kernel
theorem dX10_init_93 : decode cX10_init 93 = .ok (.newarray .int, 2) := by decide +kernel
theorem dX10_init_95 : decode cX10_init 95 = .ok (.putfield 43, 3) := by decide +kernel
theorem dX10_init_98 : decode cX10_init 98 = .ok (.aload_n 0, 1) := by decide +kernel
theorem dX10_init_99 : decode cX10_init 99 = .ok (.bipush 8, 2) := by decide +kernel
theorem dX10_init_101 : decode cX10_init 101 = .ok (.newarray .int, 2) := by decide +kernel
theorem dX10_init_103 : decode cX10_init 103 = .ok (.putfield 46, 3) := by decide +kernel
theorem dX10_init_106 : decode cX10_init 106 = .ok (.aload_n 0, 1) := by decide +kernel
theorem dX10_init_107 : decode cX10_init 107 = .ok (.bipush 8, 2) := by decide +kernel
theorem dX10_init_109 : decode cX10_init 109 = .ok (.newarray .int, 2) := by decide +kernel
theorem dX10_init_111 : decode cX10_init 111 = .ok (.putfield 49, 3) := by decide +kernel
theorem dX10_init_114 : decode cX10_init 114 = .ok (.aload_n 0, 1) := by decide +kernel
theorem dX10_init_115 : decode cX10_init 115 = .ok (.bipush 8, 2) := by decide +kernel
theorem dX10_init_117 : decode cX10_init 117 = .ok (.newarray .int, 2) := by decide +kernel
theorem dX10_init_119 : decode cX10_init 119 = .ok (.putfield 52, 3) := by decide +kernel
theorem dX10_init_122 : decode cX10_init 122 = .ok (.aload_n 0, 1) := by decide +kernel
theorem dX10_init_123 : decode cX10_init 123 = .ok (.bipush 32, 2) := by decide +kernel
theorem dX10_init_125 : decode cX10_init 125 = .ok (.newarray .float, 2) := by decide +kernel
theorem dX10_init_127 : decode cX10_init 127 = .ok (.putfield 55, 3) := by decide +kernel
theorem dX10_init_130 : decode cX10_init 130 = .ok (.aload_n 0, 1) := by decide +kernel
theorem dX10_init_131 : decode cX10_init 131 = .ok (.sipush 512, 3) := by decide +kernel
theorem dX10_init_134 : decode cX10_init 134 = .ok (.newarray .float, 2) := by decide +kernel
theorem dX10_init_136 : decode cX10_init 136 = .ok (.putfield 59, 3) := by decide +kernel
theorem dX10_init_139 : decode cX10_init 139 = .ok (.aload_n 0, 1) := by decide +kernel
theorem dX10_init_140 : decode cX10_init 140 = .ok (.sipush 512, 3) := by decide +kernel
theorem dX10_init_143 : decode cX10_init 143 = .ok (.newarray .int, 2) := by decide +kernel
theorem dX10_init_145 : decode cX10_init 145 = .ok (.putfield 62, 3) := by decide +kernel
theorem dX10_init_148 : decode cX10_init 148 = .ok (.aload_n 0, 1) := by decide +kernel
theorem dX10_init_149 : decode cX10_init 149 = .ok (.sipush 512, 3) := by decide +kernel
theorem dX10_init_152 : decode cX10_init 152 = .ok (.newarray .int, 2) := by decide +kernel
theorem dX10_init_154 : decode cX10_init 154 = .ok (.putfield 65, 3) := by decide +kernel
theorem dX10_init_157 : decode cX10_init 157 = .ok (.aload_n 0, 1) := by decide +kernel
theorem dX10_init_158 : decode cX10_init 158 = .ok (.sipush 512, 3) := by decide +kernel
theorem dX10_init_161 : decode cX10_init 161 = .ok (.newarray .int, 2) := by decide +kernel
theorem dX10_init_163 : decode cX10_init 163 = .ok (.putfield 68, 3) := by decide +kernel
theorem dX10_init_166 : decode cX10_init 166 = .ok (.aload_n 0, 1) := by decide +kernel
theorem dX10_init_167 : decode cX10_init 167 = .ok (.bipush 64, 2) := by decide +kernel
theorem dX10_init_169 : decode cX10_init 169 = .ok (.newarray .int, 2) := by decide +kernel
theorem dX10_init_171 : decode cX10_init 171 = .ok (.putfield 71, 3) := by decide +kernel
theorem dX10_init_174 : decode cX10_init 174 = .ok (.aload_n 0, 1) := by decide +kernel
theorem dX10_init_175 : decode cX10_init 175 = .ok (.bipush 64, 2) := by decide +kernel
theorem dX10_init_177 : decode cX10_init 177 = .ok (.newarray .int, 2) := by decide +kernel
theorem dX10_init_179 : decode cX10_init 179 = .ok (.putfield 74, 3) := by decide +kernel
theorem dX10_init_182 : decode cX10_init 182 = .ok (.aload_n 0, 1) := by decide +kernel
theorem dX10_init_183 : decode cX10_init 183 = .ok (.bipush 64, 2) := by decide +kernel
theorem dX10_init_185 : decode cX10_init 185 = .ok (.newarray .int, 2) := by decide +kernel
theorem dX10_init_187 : decode cX10_init 187 = .ok (.putfield 77, 3) := by decide +kernel
theorem dX10_init_190 : decode cX10_init 190 = .ok (.aload_n 0, 1) := by decide +kernel
theorem dX10_init_191 : decode cX10_init 191 = .ok (.bipush 64, 2) := by decide +kernel
theorem dX10_init_193 : decode cX10_init 193 = .ok (.newarray .int, 2) := by decide +kernel
theorem dX10_init_195 : decode cX10_init 195 = .ok (.putfield 80, 3) := by decide +kernel
theorem dX10_init_198 : decode cX10_init 198 = .ok (.aload_n 0, 1) := by decide +kernel
theorem dX10_init_199 : decode cX10_init 199 = .ok (.bipush 64, 2) := by decide +kernel
theorem dX10_init_201 : decode cX10_init 201 = .ok (.newarray .int, 2) := by decide +kernel
theorem dX10_init_203 : decode cX10_init 203 = .ok (.putfield 83, 3) := by decide +kernel
theorem dX10_init_206 : decode cX10_init 206 = .ok (.aload_n 0, 1) := by decide +kernel
theorem dX10_init_207 : decode cX10_init 207 = .ok (.bipush 64, 2) := by decide +kernel
theorem dX10_init_209 : decode cX10_init 209 = .ok (.newarray .int, 2) := by decide +kernel
theorem dX10_init_211 : decode cX10_init 211 = .ok (.putfield 86, 3) := by decide +kernel
theorem dX10_init_214 : decode cX10_init 214 = .ok (.aload_n 0, 1) := by decide +kernel
theorem dX10_init_215 : decode cX10_init 215 = .ok (.bipush 64, 2) := by decide +kernel
theorem dX10_init_217 : decode cX10_init 217 = .ok (.newarray .int, 2) := by decide +kernel
theorem dX10_init_219 : decode cX10_init 219 = .ok (.putfield 89, 3) := by decide +kernel
theorem dX10_init_222 : decode cX10_init 222 = .ok (.aload_n 0, 1) := by decide +kernel
theorem dX10_init_223 : decode cX10_init 223 = .ok (.bipush 64, 2) := by decide +kernel
theorem dX10_init_225 : decode cX10_init 225 = .ok (.newarray .int, 2) := by decide +kernel
theorem dX10_init_227 : decode cX10_init 227 = .ok (.putfield 92, 3) := by decide +kernel
theorem dX10_init_230 : decode cX10_init 230 = .ok (.aload_n 0, 1) := by decide +kernel
theorem dX10_init_231 : decode cX10_init 231 = .ok (.bipush 64, 2) := by decide +kernel
theorem dX10_init_233 : decode cX10_init 233 = .ok (.newarray .int, 2) := by decide +kernel
theorem dX10_init_235 : decode cX10_init 235 = .ok (.putfield 95, 3) := by decide +kernel
theorem dX10_init_238 : decode cX10_init 238 = .ok (.aload_n 0, 1) := by decide +kernel
theorem dX10_init_239 : decode cX10_init 239 = .ok (.iconst 5, 1) := by decide +kernel
theorem dX10_init_240 : decode cX10_init 240 = .ok (.newarray .int, 2) := by decide +kernel
theorem dX10_init_242 : decode cX10_init 242 = .ok (.putfield 98, 3) := by decide +kernel
theorem dX10_init_245 : decode cX10_init 245 = .ok (.aload_n 0, 1) := by decide +kernel
theorem dX10_init_246 : decode cX10_init 246 = .ok (.bipush 8, 2) := by decide +kernel
theorem dX10_init_248 : decode cX10_init 248 = .ok (.newarray .int, 2) := by decide +kernel
theorem dX10_init_250 : decode cX10_init 250 = .ok (.putfield 101, 3) := by decide +kernel
theorem dX10_init_253 : decode cX10_init 253 = .ok (.aload_n 0, 1) := by decide +kernel
theorem dX10_init_254 : decode cX10_init 254 = .ok (.bipush 8, 2) := by decide +kernel
theorem dX10_init_256 : decode cX10_init 256 = .ok (.newarray .int, 2) := by decide +kernel
theorem dX10_init_258 : decode cX10_init 258 = .ok (.putfield 104, 3) := by decide +kernel
theorem dX10_init_261 : decode cX10_init 261 = .ok (.aload_n 0, 1) := by decide +kernel
theorem dX10_init_262 : decode cX10_init 262 = .ok (.bipush 8, 2) := by decide +kernel
theorem dX10_init_264 : decode cX10_init 264 = .ok (.newarray .int, 2) := by decide +kernel
theorem dX10_init_266 : decode cX10_init 266 = .ok (.putfield 107, 3) := by decide +kernel
theorem dX10_init_269 : decode cX10_init 269 = .ok (.aload_n 0, 1) := by decide +kernel
theorem dX10_init_270 : decode cX10_init 270 = .ok (.bipush 8, 2) := by decide +kernel
theorem dX10_init_272 : decode cX10_init 272 = .ok (.newarray .int, 2) := by decide +kernel
theorem dX10_init_274 : decode cX10_init 274 = .ok (.putfield 110, 3) := by decide +kernel
theorem dX10_init_277 : decode cX10_init 277 = .ok (.aload_n 0, 1) := by decide +kernel
theorem dX10_init_278 : decode cX10_init 278 = .ok (.bipush 8, 2) := by decide +kernel
theorem dX10_init_280 : decode cX10_init 280 = .ok (.newarray .int, 2) := by decide +kernel
theorem dX10_init_282 : decode cX10_init 282 = .ok (.putfield 113, 3) := by decide +kernel
theorem dX10_init_285 : decode cX10_init 285 = .ok (.aload_n 0, 1) := by decide +kernel
theorem dX10_init_286 : decode cX10_init 286 = .ok (.sipush 1280, 3) := by decide +kernel
theorem dX10_init_289 : decode cX10_init 289 = .ok (.newarray .long, 2) := by decide +kernel
theorem dX10_init_291 : decode cX10_init 291 = .ok (.putfield 116, 3) := by decide +kernel
theorem dX10_init_294 : decode cX10_init 294 = .ok (.aload_n 0, 1) := by decide +kernel
theorem dX10_init_295 : decode cX10_init 295 = .ok (.bipush 80, 2) := by decide +kernel
theorem dX10_init_297 : decode cX10_init 297 = .ok (.newarray .int, 2) := by decide +kernel
theorem dX10_init_299 : decode cX10_init 299 = .ok (.putfield 120, 3) := by decide +kernel
theorem dX10_init_302 : decode cX10_init 302 = .ok (.aload_n 0, 1) := by decide +kernel
theorem dX10_init_303 : decode cX10_init 303 = .ok (.bipush 80, 2) := by decide +kernel
theorem dX10_init_305 : decode cX10_init 305 = .ok (.newarray .int, 2) := by decide +kernel
theorem dX10_init_307 : decode cX10_init 307 = .ok (.putfield 123, 3) := by decide +kernel
theorem dX10_init_310 : decode cX10_init 310 = .ok (.aload_n 0, 1) := by decide +kernel
theorem dX10_init_311 : decode cX10_init 311 = .ok (.bipush 80, 2) := by decide +kernel
theorem dX10_init_313 : decode cX10_init 313 = .ok (.newarray .int, 2) := by decide +kernel
theorem dX10_init_315 : decode cX10_init 315 = .ok (.putfield 126, 3) := by decide +kernel
theorem dX10_init_318 : decode cX10_init 318 = .ok (.aload_n 0, 1) := by decide +kernel
theorem dX10_init_319 : decode cX10_init 319 = .ok (.bipush 80, 2) := by decide +kernel
theorem dX10_init_321 : decode cX10_init 321 = .ok (.newarray .int, 2) := by decide +kernel
theorem dX10_init_323 : decode cX10_init 323 = .ok (.putfield 129, 3) := by decide +kernel
theorem dX10_init_326 : decode cX10_init 326 = .ok (.aload_n 0, 1) := by decide +kernel
theorem dX10_init_327 : decode cX10_init 327 = .ok (.iconst 5, 1) := by decide +kernel
theorem dX10_init_328 : decode cX10_init 328 = .ok (.newarray .int, 2) := by decide +kernel
theorem dX10_init_330 : decode cX10_init 330 = .ok (.putfield 132, 3) := by decide +kernel
theorem dX10_init_333 : decode cX10_init 333 = .ok (.aload_n 0, 1) := by decide +kernel
theorem dX10_init_334 : decode cX10_init 334 = .ok (.iconst (-1), 1) := by decide +kernel
theorem dX10_init_335 : decode cX10_init 335 = .ok (.putfield 135, 3) := by decide +kernel
theorem dX10_init_338 : decode cX10_init 338 = .ok (.aload_n 0, 1) := by decide +kernel
theorem dX10_init_339 : decode cX10_init 339 = .ok (.sipush 310, 3) := by decide +kernel
theorem dX10_init_342 : decode cX10_init 342 = .ok (.newarray .int, 2) := by decide +kernel
theorem dX10_init_344 : decode cX10_init 344 = .ok (.putfield 139, 3) := by decide +kernel
theorem dX10_init_347 : decode cX10_init 347 = .ok (.aload_n 0, 1) := by decide +kernel
theorem dX10_init_348 : decode cX10_init 348 = .ok (.iconst 1, 1) := by decide +kernel
theorem dX10_init_349 : decode cX10_init 349 = .ok (.putfield 142, 3) := by decide +kernel
theorem dX10_init_352 : decode cX10_init 352 = .ok (.iconst 0, 1) := by decide +kernel
theorem dX10_init_353 : decode cX10_init 353 = .ok (.istore_n 1, 1) := by decide +kernel
theorem dX10_init_354 : decode cX10_init 354 = .ok (.iload_n 1, 1) := by decide +kernel
theorem dX10_init_355 : decode cX10_init 355 = .ok (.iconst 5, 1) := by decide +kernel
theorem dX10_init_356 : decode cX10_init 356 = .ok (.if_icmp .ge 23, 3) := by decide +kernel
theorem dX10_init_359 : decode cX10_init 359 = .ok (.aload_n 0, 1) := by decide +kernel
theorem dX10_init_360 : decode cX10_init 360 = .ok (.getfield 19, 3) := by decide +kernel
theorem dX10_init_363 : decode cX10_init 363 = .ok (.iload_n 1, 1) := by decide +kernel
theorem dX10_init_364 : decode cX10_init 364 = .ok (.iconst 4, 1) := by decide +kernel
theorem dX10_init_365 : decode cX10_init 365 = .ok (.iastore, 1) := by decide +kernel
theorem dX10_init_366 : decode cX10_init 366 = .ok (.aload_n 0, 1) := by decide +kernel
theorem dX10_init_367 : decode cX10_init 367 = .ok (.getfield 22, 3) := by decide +kernel
theorem dX10_init_370 : decode cX10_init 370 = .ok (.iload_n 1, 1) := by decide +kernel
theorem dX10_init_371 : decode cX10_init 371 = .ok (.iconst (-1), 1) := by decide +kernel
theorem dX10_init_372 : decode cX10_init 372 = .ok (.iastore, 1) := by decide +kernel
theorem dX10_init_373 : decode cX10_init 373 = .ok (.iinc 1 1, 3) := by decide +kernel
theorem dX10_init_376 : decode cX10_init 376 = .ok (.goto (-22), 3) := by decide +kernel
theorem dX10_init_379 : decode cX10_init 379 = .ok (.return_, 1) := by decide +kernel
theorem dX10_no_0 : decode cX10_no 0 = .ok (.aload_n 0, 1) := by decide +kernel
theorem dX10_no_1 : decode cX10_no 1 = .ok (.getfield 7, 3) := by decide +kernel
theorem dX10_no_4 : decode cX10_no 4 = .ok (.iload_n 1, 1) := by decide +kernel
theorem dX10_no_5 : decode cX10_no 5 = .ok (.ineg, 1) := by decide +kernel
theorem dX10_no_6 : decode cX10_no 6 = .ok (.dup2, 1) := by decide +kernel
theorem dX10_no_7 : decode cX10_no 7 = .ok (.iaload, 1) := by decide +kernel
theorem dX10_no_8 : decode cX10_no 8 = .ok (.iconst 1, 1) := by decide +kernel
theorem dX10_no_9 : decode cX10_no 9 = .ok (.iadd, 1) := by decide +kernel
theorem dX10_no_10 : decode cX10_no 10 = .ok (.iastore, 1) := by decide +kernel
theorem dX10_no_11 : decode cX10_no 11 = .ok (.iload_n 1, 1) := by decide +kernel
theorem dX10_no_12 : decode cX10_no 12 = .ok (.ireturn, 1) := by decide +kernel
theorem dX10_isIn_0 : decode cX10_isIn 0 = .ok (.iload_n 0, 1) := by decide +kernel
theorem dX10_isIn_1 : decode cX10_isIn 1 = .ok (.iload_n 1, 1) := by decide +kernel
theorem dX10_isIn_2 : decode cX10_isIn 2 = .ok (.if_icmp .lt 12, 3) := by decide +kernel
theorem dX10_isIn_5 : decode cX10_isIn 5 = .ok (.iload_n 0, 1) := by decide +kernel
theorem dX10_isIn_6 : decode cX10_isIn 6 = .ok (.iload_n 2, 1) := by decide +kernel
theorem dX10_isIn_7 : decode cX10_isIn 7 = .ok (.if_icmp .gt 7, 3) := by decide +kernel
theorem dX10_isIn_10 : decode cX10_isIn 10 = .ok (.iconst 1, 1) := by decide +kernel
theorem dX10_isIn_11 : decode cX10_isIn 11 = .ok (.goto 4, 3) := by decide +kernel
theorem dX10_isIn_14 : decode cX10_isIn 14 = .ok (.iconst 0, 1) := by decide +kernel
theorem dX10_isIn_15 : decode cX10_isIn 15 = .ok (.ireturn, 1) := by decide +kernel
theorem dX10_has_0 : decode cX10_has 0 = .ok (.iload_n 0, 1) := by decide +kernel
theorem dX10_has_1 : decode cX10_has 1 = .ok (.iload_n 1, 1) := by decide +kernel
theorem dX10_has_2 : decode cX10_has 2 = .ok (.ishr, 1) := by decide +kernel
theorem dX10_has_3 : decode cX10_has 3 = .ok (.iconst 1, 1) := by decide +kernel
theorem dX10_has_4 : decode cX10_has 4 = .ok (.iand, 1) := by decide +kernel
theorem dX10_has_5 : decode cX10_has 5 = .ok (.iconst 1, 1) := by decide +kernel
theorem dX10_has_6 : decode cX10_has 6 = .ok (.if_icmp .ne 7, 3) := by decide +kernel
theorem dX10_has_9 : decode cX10_has 9 = .ok (.iconst 1, 1) := by decide +kernel
theorem dX10_has_10 : decode cX10_has 10 = .ok (.goto 4, 3) := by decide +kernel
theorem dX10_has_13 : decode cX10_has 13 = .ok (.iconst 0, 1) := by decide +kernel
theorem dX10_has_14 : decode cX10_has 14 = .ok (.ireturn, 1) := by decide +kernel
theorem dX10_isTable_0 : decode cX10_isTable 0 = .ok (.iload_n 0, 1) := by decide +kernel
theorem dX10_isTable_1 : decode cX10_isTable 1 = .ok (.iconst 0, 1) := by decide +kernel
theorem dX10_isTable_2 : decode cX10_isTable 2 = .ok (.iconst 4, 1) := by decide +kernel
theorem dX10_isTable_3 : decode cX10_isTable 3 = .ok (.invokestatic 145, 3) := by decide +kernel
theorem dX10_isTable_6 : decode cX10_isTable 6 = .ok (.ireturn, 1) := by decide +kernel
theorem dX10_isPlace_0 : decode cX10_isPlace 0 = .ok (.iload_n 0, 1) := by decide +kernel
theorem dX10_isPlace_1 : decode cX10_isPlace 1 = .ok (.iconst 0, 1) := by decide +kernel
theorem dX10_isPlace_2 : decode cX10_isPlace 2 = .ok (.bipush 14, 2) := by decide +kernel
theorem dX10_isPlace_4 : decode cX10_isPlace 4 = .ok (.invokestatic 145, 3) := by decide +kernel
theorem dX10_isPlace_7 : decode cX10_isPlace 7 = .ok (.ireturn, 1) := by decide +kernel
theorem dX10_isSet_0 : decode cX10_isSet 0 = .ok (.iload_n 0, 1) := by decide +kernel
theorem dX10_isSet_1 : decode cX10_isSet 1 = .ok (.iconst 1, 1) := by decide +kernel
theorem dX10_isSet_2 : decode cX10_isSet 2 = .ok (.bipush 31, 2) := by decide +kernel
theorem dX10_isSet_4 : decode cX10_isSet 4 = .ok (.invokestatic 145, 3) := by decide +kernel
theorem dX10_isSet_7 : decode cX10_isSet 7 = .ok (.ireturn, 1) := by decide +kernel
theorem dX10_isOrder_0 : decode cX10_isOrder 0 = .ok (.iload_n 0, 1) := by decide +kernel
theorem dX10_isOrder_1 : decode cX10_isOrder 1 = .ok (.iconst (-1), 1) := by decide +kernel
theorem dX10_isOrder_2 : decode cX10_isOrder 2 = .ok (.bipush 14, 2) := by decide +kernel
theorem dX10_isOrder_4 : decode cX10_isOrder 4 = .ok (.invokestatic 145, 3) := by decide +kernel
theorem dX10_isOrder_7 : decode cX10_isOrder 7 = .ok (.ireturn, 1) := by decide +kernel
theorem dX10_valueAt_0 : decode cX10_valueAt 0 = .ok (.aload_n 0, 1) := by decide +kernel
theorem dX10_valueAt_1 : decode cX10_valueAt 1 = .ok (.getfield 16, 3) := by decide +kernel
theorem dX10_valueAt_4 : decode cX10_valueAt 4 = .ok (.bipush 48, 2) := by decide +kernel
theorem dX10_valueAt_6 : decode cX10_valueAt 6 = .ok (.iload_n 1, 1) := by decide +kernel
theorem dX10_valueAt_7 : decode cX10_valueAt 7 = .ok (.iconst 3, 1) := by decide +kernel
theorem dX10_valueAt_8 : decode cX10_valueAt 8 = .ok (.idiv, 1) := by decide +kernel
theorem dX10_valueAt_9 : decode cX10_valueAt 9 = .ok (.imul, 1) := by decide +kernel
theorem dX10_valueAt_10 : decode cX10_valueAt 10 = .ok (.iconst 3, 1) := by decide +kernel
theorem dX10_valueAt_11 : decode cX10_valueAt 11 = .ok (.iload_n 2, 1) := by decide +kernel
theorem dX10_valueAt_12 : decode cX10_valueAt 12 = .ok (.imul, 1) := by decide +kernel
theorem dX10_valueAt_13 : decode cX10_valueAt 13 = .ok (.iadd, 1) := by decide +kernel
theorem dX10_valueAt_14 : decode cX10_valueAt 14 = .ok (.iload_n 1, 1) := by decide +kernel
theorem dX10_valueAt_15 : decode cX10_valueAt 15 = .ok (.iconst 3, 1) := by decide +kernel
theorem dX10_valueAt_16 : decode cX10_valueAt 16 = .ok (.irem, 1) := by decide +kernel
theorem dX10_valueAt_17 : decode cX10_valueAt 17 = .ok (.iadd, 1) := by decide +kernel
theorem dX10_valueAt_18 : decode cX10_valueAt 18 = .ok (.iaload, 1) := by decide +kernel
theorem dX10_valueAt_19 : decode cX10_valueAt 19 = .ok (.ireturn, 1) := by decide +kernel
theorem dX10_putsLine_0 : decode cX10_putsLine 0 = .ok (.bipush 48, 2) := by decide +kernel
theorem dX10_putsLine_2 : decode cX10_putsLine 2 = .ok (.iload_n 1, 1) := by decide +kernel
theorem dX10_putsLine_3 : decode cX10_putsLine 3 = .ok (.imul, 1) := by decide +kernel
theorem dX10_putsLine_4 : decode cX10_putsLine 4 = .ok (.iconst 3, 1) := by decide +kernel
theorem dX10_putsLine_5 : decode cX10_putsLine 5 = .ok (.aload_n 0, 1) := by decide +kernel
theorem dX10_putsLine_6 : decode cX10_putsLine 6 = .ok (.getfield 13, 3) := by decide +kernel
theorem dX10_putsLine_9 : decode cX10_putsLine 9 = .ok (.iload_n 1, 1) := by decide +kernel
theorem dX10_putsLine_10 : decode cX10_putsLine 10 = .ok (.iaload, 1) := by decide +kernel
theorem dX10_putsLine_11 : decode cX10_putsLine 11 = .ok (.imul, 1) := by decide +kernel
theorem dX10_putsLine_12 : decode cX10_putsLine 12 = .ok (.iadd, 1) := by decide +kernel
theorem dX10_putsLine_13 : decode cX10_putsLine 13 = .ok (.istore 5, 2) := by decide +kernel
theorem dX10_putsLine_15 : decode cX10_putsLine 15 = .ok (.aload_n 0, 1) := by decide +kernel
theorem dX10_putsLine_16 : decode cX10_putsLine 16 = .ok (.getfield 16, 3) := by decide +kernel
theorem dX10_putsLine_19 : decode cX10_putsLine 19 = .ok (.iload 5, 2) := by decide +kernel
theorem dX10_putsLine_21 : decode cX10_putsLine 21 = .ok (.iload_n 2, 1) := by decide +kernel
theorem dX10_putsLine_22 : decode cX10_putsLine 22 = .ok (.iastore, 1) := by decide +kernel
theorem dX10_putsLine_23 : decode cX10_putsLine 23 = .ok (.aload_n 0, 1) := by decide +kernel
theorem dX10_putsLine_24 : decode cX10_putsLine 24 = .ok (.getfield 16, 3) := by decide +kernel
theorem dX10_putsLine_27 : decode cX10_putsLine 27 = .ok (.iload 5, 2) := by decide +kernel
theorem dX10_putsLine_29 : decode cX10_putsLine 29 = .ok (.iconst 1, 1) := by decide +kernel
theorem dX10_putsLine_30 : decode cX10_putsLine 30 = .ok (.iadd, 1) := by decide +kernel
theorem dX10_putsLine_31 : decode cX10_putsLine 31 = .ok (.iload_n 3, 1) := by decide +kernel
theorem dX10_putsLine_32 : decode cX10_putsLine 32 = .ok (.iastore, 1) := by decide +kernel
theorem dX10_putsLine_33 : decode cX10_putsLine 33 = .ok (.aload_n 0, 1) := by decide +kernel
theorem dX10_putsLine_34 : decode cX10_putsLine 34 = .ok (.getfield 16, 3) := by decide +kernel
theorem dX10_putsLine_37 : decode cX10_putsLine 37 = .ok (.iload 5, 2) := by decide +kernel
theorem dX10_putsLine_39 : decode cX10_putsLine 39 = .ok (.iconst 2, 1) := by decide +kernel
theorem dX10_putsLine_40 : decode cX10_putsLine 40 = .ok (.iadd, 1) := by decide +kernel
theorem dX10_putsLine_41 : decode cX10_putsLine 41 = .ok (.iload 4, 2) := by decide +kernel
theorem dX10_putsLine_43 : decode cX10_putsLine 43 = .ok (.iastore, 1) := by decide +kernel
theorem dX10_putsLine_44 : decode cX10_putsLine 44 = .ok (.aload_n 0, 1) := by decide +kernel
theorem dX10_putsLine_45 : decode cX10_putsLine 45 = .ok (.getfield 13, 3) := by decide +kernel
theorem dX10_putsLine_48 : decode cX10_putsLine 48 = .ok (.iload_n 1, 1) := by decide +kernel
theorem dX10_putsLine_49 : decode cX10_putsLine 49 = .ok (.dup2, 1) := by decide +kernel
theorem dX10_putsLine_50 : decode cX10_putsLine 50 = .ok (.iaload, 1) := by decide +kernel
theorem dX10_putsLine_51 : decode cX10_putsLine 51 = .ok (.iconst 1, 1) := by decide +kernel
theorem dX10_putsLine_52 : decode cX10_putsLine 52 = .ok (.iadd, 1) := by decide +kernel
theorem dX10_putsLine_53 : decode cX10_putsLine 53 = .ok (.iastore, 1) := by decide +kernel
theorem dX10_putsLine_54 : decode cX10_putsLine 54 = .ok (.return_, 1) := by decide +kernel
theorem dX10_allLines_0 : decode cX10_allLines 0 = .ok (.iconst 0, 1) := by decide +kernel
theorem dX10_allLines_1 : decode cX10_allLines 1 = .ok (.istore_n 1, 1) := by decide +kernel
theorem dX10_allLines_2 : decode cX10_allLines 2 = .ok (.iconst 0, 1) := by decide +kernel
theorem dX10_allLines_3 : decode cX10_allLines 3 = .ok (.istore_n 2, 1) := by decide +kernel
theorem dX10_allLines_4 : decode cX10_allLines 4 = .ok (.iload_n 2, 1) := by decide +kernel
theorem dX10_allLines_5 : decode cX10_allLines 5 = .ok (.iconst 5, 1) := by decide +kernel
theorem dX10_allLines_6 : decode cX10_allLines 6 = .ok (.if_icmp .ge 18, 3) := by decide +kernel
theorem dX10_allLines_9 : decode cX10_allLines 9 = .ok (.iload_n 1, 1) := by decide +kernel
theorem dX10_allLines_10 : decode cX10_allLines 10 = .ok (.aload_n 0, 1) := by decide +kernel
theorem dX10_allLines_11 : decode cX10_allLines 11 = .ok (.getfield 13, 3) := by decide +kernel
theorem dX10_allLines_14 : decode cX10_allLines 14 = .ok (.iload_n 2, 1) := by decide +kernel
theorem dX10_allLines_15 : decode cX10_allLines 15 = .ok (.iaload, 1) := by decide +kernel
theorem dX10_allLines_16 : decode cX10_allLines 16 = .ok (.iadd, 1) := by decide +kernel
theorem dX10_allLines_17 : decode cX10_allLines 17 = .ok (.istore_n 1, 1) := by decide +kernel
theorem dX10_allLines_18 : decode cX10_allLines 18 = .ok (.iinc 2 1, 3) := by decide +kernel
theorem dX10_allLines_21 : decode cX10_allLines 21 = .ok (.goto (-17), 3) := by decide +kernel
theorem dX10_allLines_24 : decode cX10_allLines 24 = .ok (.iload_n 1, 1) := by decide +kernel
theorem dX10_allLines_25 : decode cX10_allLines 25 = .ok (.ireturn, 1) := by decide +kernel
theorem dX10_sorts_0 : decode cX10_sorts 0 = .ok (.aload_n 0, 1) := by decide +kernel
theorem dX10_sorts_1 : decode cX10_sorts 1 = .ok (.getfield 13, 3) := by decide +kernel
theorem dX10_sorts_4 : decode cX10_sorts 4 = .ok (.iload_n 1, 1) := by decide +kernel
theorem dX10_sorts_5 : decode cX10_sorts 5 = .ok (.iconst 3, 1) := by decide +kernel
theorem dX10_sorts_6 : decode cX10_sorts 6 = .ok (.idiv, 1) := by decide +kernel
theorem dX10_sorts_7 : decode cX10_sorts 7 = .ok (.iaload, 1) := by decide +kernel
theorem dX10_sorts_8 : decode cX10_sorts 8 = .ok (.istore_n 2, 1) := by decide +kernel
theorem dX10_sorts_9 : decode cX10_sorts 9 = .ok (.iconst 0, 1) := by decide +kernel
theorem dX10_sorts_10 : decode cX10_sorts 10 = .ok (.istore_n 3, 1) := by decide +kernel
theorem dX10_sorts_11 : decode cX10_sorts 11 = .ok (.iload_n 3, 1) := by decide +kernel
theorem dX10_sorts_12 : decode cX10_sorts 12 = .ok (.iload_n 2, 1) := by decide +kernel
theorem dX10_sorts_13 : decode cX10_sorts 13 = .ok (.if_icmp .ge 70, 3) := by decide +kernel
theorem dX10_sorts_16 : decode cX10_sorts 16 = .ok (.aload_n 0, 1) := by decide +kernel
theorem dX10_sorts_17 : decode cX10_sorts 17 = .ok (.iload_n 1, 1) := by decide +kernel
theorem dX10_sorts_18 : decode cX10_sorts 18 = .ok (.iload_n 3, 1) := by decide +kernel
theorem dX10_sorts_19 : decode cX10_sorts 19 = .ok (.invokevirtual 149, 3) := by decide +kernel
theorem dX10_sorts_22 : decode cX10_sorts 22 = .ok (.istore 4, 2) := by decide +kernel
theorem dX10_sorts_24 : decode cX10_sorts 24 = .ok (.iload_n 3, 1) := by decide +kernel
theorem dX10_sorts_25 : decode cX10_sorts 25 = .ok (.istore 5, 2) := by decide +kernel
theorem dX10_sorts_27 : decode cX10_sorts 27 = .ok (.iload 5, 2) := by decide +kernel
theorem dX10_sorts_29 : decode cX10_sorts 29 = .ok (.ifCond .le 39, 3) := by decide +kernel
theorem dX10_sorts_32 : decode cX10_sorts 32 = .ok (.aload_n 0, 1) := by decide +kernel
theorem dX10_sorts_33 : decode cX10_sorts 33 = .ok (.getfield 40, 3) := by decide +kernel
theorem dX10_sorts_36 : decode cX10_sorts 36 = .ok (.iload 5, 2) := by decide +kernel
theorem dX10_sorts_38 : decode cX10_sorts 38 = .ok (.iconst 1, 1) := by decide +kernel
theorem dX10_sorts_39 : decode cX10_sorts 39 = .ok (.isub, 1) := by decide +kernel
theorem dX10_sorts_40 : decode cX10_sorts 40 = .ok (.iaload, 1) := by decide +kernel
theorem dX10_sorts_41 : decode cX10_sorts 41 = .ok (.iload 4, 2) := by decide +kernel
theorem dX10_sorts_43 : decode cX10_sorts 43 = .ok (.if_icmp .le 25, 3) := by decide +kernel
theorem dX10_sorts_46 : decode cX10_sorts 46 = .ok (.aload_n 0, 1) := by decide +kernel
theorem dX10_sorts_47 : decode cX10_sorts 47 = .ok (.getfield 40, 3) := by decide +kernel
theorem dX10_sorts_50 : decode cX10_sorts 50 = .ok (.iload 5, 2) := by decide +kernel
theorem dX10_sorts_52 : decode cX10_sorts 52 = .ok (.aload_n 0, 1) := by decide +kernel
theorem dX10_sorts_53 : decode cX10_sorts 53 = .ok (.getfield 40, 3) := by decide +kernel
theorem dX10_sorts_56 : decode cX10_sorts 56 = .ok (.iload 5, 2) := by decide +kernel
theorem dX10_sorts_58 : decode cX10_sorts 58 = .ok (.iconst 1, 1) := by decide +kernel
theorem dX10_sorts_59 : decode cX10_sorts 59 = .ok (.isub, 1) := by decide +kernel
theorem dX10_sorts_60 : decode cX10_sorts 60 = .ok (.iaload, 1) := by decide +kernel
theorem dX10_sorts_61 : decode cX10_sorts 61 = .ok (.iastore, 1) := by decide +kernel
theorem dX10_sorts_62 : decode cX10_sorts 62 = .ok (.iinc 5 (-1), 3) := by decide +kernel
theorem dX10_sorts_65 : decode cX10_sorts 65 = .ok (.goto (-38), 3) := by decide +kernel
theorem dX10_sorts_68 : decode cX10_sorts 68 = .ok (.aload_n 0, 1) := by decide +kernel
theorem dX10_sorts_69 : decode cX10_sorts 69 = .ok (.getfield 40, 3) := by decide +kernel
theorem dX10_sorts_72 : decode cX10_sorts 72 = .ok (.iload 5, 2) := by decide +kernel
theorem dX10_sorts_74 : decode cX10_sorts 74 = .ok (.iload 4, 2) := by decide +kernel
theorem dX10_sorts_76 : decode cX10_sorts 76 = .ok (.iastore, 1) := by decide +kernel
theorem dX10_sorts_77 : decode cX10_sorts 77 = .ok (.iinc 3 1, 3) := by decide +kernel
theorem dX10_sorts_80 : decode cX10_sorts 80 = .ok (.goto (-69), 3) := by decide +kernel
theorem dX10_sorts_83 : decode cX10_sorts 83 = .ok (.iload_n 2, 1) := by decide +kernel
theorem dX10_sorts_84 : decode cX10_sorts 84 = .ok (.ireturn, 1) := by decide +kernel
theorem dX10_differentFrom_0 : decode cX10_differentFrom 0 = .ok (.iconst 0, 1) := by decide +kernel
theorem dX10_differentFrom_1 : decode cX10_differentFrom 1 = .ok (.istore_n 3, 1) := by decide +kernel
theorem dX10_differentFrom_2 : decode cX10_differentFrom 2 = .ok (.iload_n 1, 1) := by decide +kernel
theorem dX10_differentFrom_3 : decode cX10_differentFrom 3 = .ok (.istore 4, 2) := by decide +kernel
theorem dX10_differentFrom_5 : decode cX10_differentFrom 5 = .ok (.iload 4, 2) := by decide +kernel
theorem dX10_differentFrom_7 : decode cX10_differentFrom 7 = .ok (.iload_n 2, 1) := by decide +kernel
theorem dX10_differentFrom_8 : decode cX10_differentFrom 8 = .ok (.if_icmp .ge 42, 3) := by decide +kernel
theorem dX10_differentFrom_11 : decode cX10_differentFrom 11 = .ok (.iload_n 3, 1) := by decide +kernel
theorem dX10_differentFrom_12 : decode cX10_differentFrom 12 = .ok (.iload 4, 2) := by decide +kernel
theorem dX10_differentFrom_14 : decode cX10_differentFrom 14 = .ok (.iload_n 1, 1) := by decide +kernel
theorem dX10_differentFrom_15 : decode cX10_differentFrom 15 = .ok (.if_icmp .eq 22, 3) := by decide +kernel
theorem dX10_differentFrom_18 : decode cX10_differentFrom 18 = .ok (.aload_n 0, 1) := by decide +kernel
theorem dX10_differentFrom_19 : decode cX10_differentFrom 19 = .ok (.getfield 40, 3) := by decide +kernel
theorem dX10_differentFrom_22 : decode cX10_differentFrom 22 = .ok (.iload 4, 2) := by decide +kernel
theorem dX10_differentFrom_24 : decode cX10_differentFrom 24 = .ok (.iaload, 1) := by decide +kernel
theorem dX10_differentFrom_25 : decode cX10_differentFrom 25 = .ok (.aload_n 0, 1) := by decide +kernel
theorem dX10_differentFrom_26 : decode cX10_differentFrom 26 = .ok (.getfield 40, 3) := by decide +kernel
theorem dX10_differentFrom_29 : decode cX10_differentFrom 29 = .ok (.iload 4, 2) := by decide +kernel
theorem dX10_differentFrom_31 : decode cX10_differentFrom 31 = .ok (.iconst 1, 1) := by decide +kernel
theorem dX10_differentFrom_32 : decode cX10_differentFrom 32 = .ok (.isub, 1) := by decide +kernel
theorem dX10_differentFrom_33 : decode cX10_differentFrom 33 = .ok (.iaload, 1) := by decide +kernel
theorem dX10_differentFrom_34 : decode cX10_differentFrom 34 = .ok (.if_icmp .eq 7, 3) := by decide +kernel
theorem dX10_differentFrom_37 : decode cX10_differentFrom 37 = .ok (.iconst 1, 1) := by decide +kernel
theorem dX10_differentFrom_38 : decode cX10_differentFrom 38 = .ok (.goto 4, 3) := by decide +kernel
theorem dX10_differentFrom_41 : decode cX10_differentFrom 41 = .ok (.iconst 0, 1) := by decide +kernel
theorem dX10_differentFrom_42 : decode cX10_differentFrom 42 = .ok (.iadd, 1) := by decide +kernel
theorem dX10_differentFrom_43 : decode cX10_differentFrom 43 = .ok (.istore_n 3, 1) := by decide +kernel
theorem dX10_differentFrom_44 : decode cX10_differentFrom 44 = .ok (.iinc 4 1, 3) := by decide +kernel
theorem dX10_differentFrom_47 : decode cX10_differentFrom 47 = .ok (.goto (-42), 3) := by decide +kernel
theorem dX10_differentFrom_50 : decode cX10_differentFrom 50 = .ok (.iload_n 3, 1) := by decide +kernel
theorem dX10_differentFrom_51 : decode cX10_differentFrom 51 = .ok (.ireturn, 1) := by decide +kernel
theorem dX10_findBuckets_0 : decode cX10_findBuckets 0 = .ok (.aload_n 0, 1) := by decide +kernel
theorem dX10_findBuckets_1 : decode cX10_findBuckets 1 = .ok (.iload_n 1, 1) := by decide +kernel
theorem dX10_findBuckets_2 : decode cX10_findBuckets 2 = .ok (.invokevirtual 153, 3) := by decide +kernel
theorem dX10_findBuckets_5 : decode cX10_findBuckets 5 = .ok (.istore_n 2, 1) := by decide +kernel
theorem dX10_findBuckets_6 : decode cX10_findBuckets 6 = .ok (.aload_n 0, 1) := by decide +kernel
theorem dX10_findBuckets_7 : decode cX10_findBuckets 7 = .ok (.getfield 19, 3) := by decide +kernel
theorem dX10_findBuckets_10 : decode cX10_findBuckets 10 = .ok (.iload_n 1, 1) := by decide +kernel
theorem dX10_findBuckets_11 : decode cX10_findBuckets 11 = .ok (.iconst 3, 1) := by decide +kernel
theorem dX10_findBuckets_12 : decode cX10_findBuckets 12 = .ok (.idiv, 1) := by decide +kernel
theorem dX10_findBuckets_13 : decode cX10_findBuckets 13 = .ok (.iaload, 1) := by decide +kernel
theorem dX10_findBuckets_14 : decode cX10_findBuckets 14 = .ok (.istore_n 3, 1) := by decide +kernel
theorem dX10_findBuckets_15 : decode cX10_findBuckets 15 = .ok (.aload_n 0, 1) := by decide +kernel
theorem dX10_findBuckets_16 : decode cX10_findBuckets 16 = .ok (.iconst 0, 1) := by decide +kernel
theorem dX10_findBuckets_17 : decode cX10_findBuckets 17 = .ok (.putfield 157, 3) := by decide +kernel
theorem dX10_findBuckets_20 : decode cX10_findBuckets 20 = .ok (.iconst 0, 1) := by decide +kernel
theorem dX10_findBuckets_21 : decode cX10_findBuckets 21 = .ok (.istore 4, 2) := by decide +kernel
theorem dX10_findBuckets_23 : decode cX10_findBuckets 23 = .ok (.iload 4, 2) := by decide +kernel
theorem dX10_findBuckets_25 : decode cX10_findBuckets 25 = .ok (.iload_n 3, 1) := by decide +kernel
theorem dX10_findBuckets_26 : decode cX10_findBuckets 26 = .ok (.if_icmp .ge 112, 3) := by decide +kernel
theorem dX10_findBuckets_29 : decode cX10_findBuckets 29 = .ok (.iload 4, 2) := by decide +kernel
theorem dX10_findBuckets_31 : decode cX10_findBuckets 31 = .ok (.iload_n 2, 1) := by decide +kernel
theorem dX10_findBuckets_32 : decode cX10_findBuckets 32 = .ok (.imul, 1) := by decide +kernel
theorem dX10_findBuckets_33 : decode cX10_findBuckets 33 = .ok (.iload_n 3, 1) := by decide +kernel
theorem dX10_findBuckets_34 : decode cX10_findBuckets 34 = .ok (.idiv, 1) := by decide +kernel
theorem dX10_findBuckets_35 : decode cX10_findBuckets 35 = .ok (.istore 5, 2) := by decide +kernel
theorem dX10_findBuckets_37 : decode cX10_findBuckets 37 = .ok (.iload 4, 2) := by decide +kernel
theorem dX10_findBuckets_39 : decode cX10_findBuckets 39 = .ok (.iconst 1, 1) := by decide +kernel
theorem dX10_findBuckets_40 : decode cX10_findBuckets 40 = .ok (.iadd, 1) := by decide +kernel
theorem dX10_findBuckets_41 : decode cX10_findBuckets 41 = .ok (.iload_n 2, 1) := by decide +kernel
theorem dX10_findBuckets_42 : decode cX10_findBuckets 42 = .ok (.imul, 1) := by decide +kernel
theorem dX10_findBuckets_43 : decode cX10_findBuckets 43 = .ok (.iload_n 3, 1) := by decide +kernel
theorem dX10_findBuckets_44 : decode cX10_findBuckets 44 = .ok (.idiv, 1) := by decide +kernel
theorem dX10_findBuckets_45 : decode cX10_findBuckets 45 = .ok (.istore 6, 2) := by decide +kernel
theorem dX10_findBuckets_47 : decode cX10_findBuckets 47 = .ok (.iload 5, 2) := by decide +kernel
theorem dX10_findBuckets_49 : decode cX10_findBuckets 49 = .ok (.iload 6, 2) := by decide +kernel
theorem dX10_findBuckets_51 : decode cX10_findBuckets 51 = .ok (.if_icmp .ne 6, 3) := by decide +kernel
theorem dX10_findBuckets_54 : decode cX10_findBuckets 54 = .ok (.goto 78, 3) := by decide +kernel
theorem dX10_findBuckets_57 : decode cX10_findBuckets 57 = .ok (.aload_n 0, 1) := by decide +kernel
theorem dX10_findBuckets_58 : decode cX10_findBuckets 58 = .ok (.getfield 43, 3) := by decide +kernel
theorem dX10_findBuckets_61 : decode cX10_findBuckets 61 = .ok (.aload_n 0, 1) := by decide +kernel
theorem dX10_findBuckets_62 : decode cX10_findBuckets 62 = .ok (.getfield 157, 3) := by decide +kernel
theorem dX10_findBuckets_65 : decode cX10_findBuckets 65 = .ok (.aload_n 0, 1) := by decide +kernel
theorem dX10_findBuckets_66 : decode cX10_findBuckets 66 = .ok (.getfield 40, 3) := by decide +kernel
theorem dX10_findBuckets_69 : decode cX10_findBuckets 69 = .ok (.iload 5, 2) := by decide +kernel
theorem dX10_findBuckets_71 : decode cX10_findBuckets 71 = .ok (.iaload, 1) := by decide +kernel
theorem dX10_findBuckets_72 : decode cX10_findBuckets 72 = .ok (.iastore, 1) := by decide +kernel
theorem dX10_findBuckets_73 : decode cX10_findBuckets 73 = .ok (.aload_n 0, 1) := by decide +kernel
theorem dX10_findBuckets_74 : decode cX10_findBuckets 74 = .ok (.getfield 46, 3) := by decide +kernel
theorem dX10_findBuckets_77 : decode cX10_findBuckets 77 = .ok (.aload_n 0, 1) := by decide +kernel
theorem dX10_findBuckets_78 : decode cX10_findBuckets 78 = .ok (.getfield 157, 3) := by decide +kernel
theorem dX10_findBuckets_81 : decode cX10_findBuckets 81 = .ok (.aload_n 0, 1) := by decide +kernel
theorem dX10_findBuckets_82 : decode cX10_findBuckets 82 = .ok (.getfield 40, 3) := by decide +kernel
theorem dX10_findBuckets_85 : decode cX10_findBuckets 85 = .ok (.iload 6, 2) := by decide +kernel
theorem dX10_findBuckets_87 : decode cX10_findBuckets 87 = .ok (.iconst 1, 1) := by decide +kernel
theorem dX10_findBuckets_88 : decode cX10_findBuckets 88 = .ok (.isub, 1) := by decide +kernel
theorem dX10_findBuckets_89 : decode cX10_findBuckets 89 = .ok (.iaload, 1) := by decide +kernel
theorem dX10_findBuckets_90 : decode cX10_findBuckets 90 = .ok (.iastore, 1) := by decide +kernel
theorem dX10_findBuckets_91 : decode cX10_findBuckets 91 = .ok (.aload_n 0, 1) := by decide +kernel
theorem dX10_findBuckets_92 : decode cX10_findBuckets 92 = .ok (.getfield 49, 3) := by decide +kernel
theorem dX10_findBuckets_95 : decode cX10_findBuckets 95 = .ok (.aload_n 0, 1) := by decide +kernel
theorem dX10_findBuckets_96 : decode cX10_findBuckets 96 = .ok (.getfield 157, 3) := by decide +kernel
theorem dX10_findBuckets_99 : decode cX10_findBuckets 99 = .ok (.iload 6, 2) := by decide +kernel
theorem dX10_findBuckets_101 : decode cX10_findBuckets 101 = .ok (.iload 5, 2) := by decide +kernel
theorem dX10_findBuckets_103 : decode cX10_findBuckets 103 = .ok (.isub, 1) := by decide +kernel
theorem dX10_findBuckets_104 : decode cX10_findBuckets 104 = .ok (.iastore, 1) := by decide +kernel
theorem dX10_findBuckets_105 : decode cX10_findBuckets 105 = .ok (.aload_n 0, 1) := by decide +kernel
theorem dX10_findBuckets_106 : decode cX10_findBuckets 106 = .ok (.getfield 52, 3) := by decide +kernel
theorem dX10_findBuckets_109 : decode cX10_findBuckets 109 = .ok (.aload_n 0, 1) := by decide +kernel
theorem dX10_findBuckets_110 : decode cX10_findBuckets 110 = .ok (.getfield 157, 3) := by decide +kernel
theorem dX10_findBuckets_113 : decode cX10_findBuckets 113 = .ok (.aload_n 0, 1) := by decide +kernel
theorem dX10_findBuckets_114 : decode cX10_findBuckets 114 = .ok (.iload 5, 2) := by decide +kernel
theorem dX10_findBuckets_116 : decode cX10_findBuckets 116 = .ok (.iload 6, 2) := by decide +kernel
theorem dX10_findBuckets_118 : decode cX10_findBuckets 118 = .ok (.invokevirtual 160, 3) := by decide +kernel
theorem dX10_findBuckets_121 : decode cX10_findBuckets 121 = .ok (.iastore, 1) := by decide +kernel
theorem dX10_findBuckets_122 : decode cX10_findBuckets 122 = .ok (.aload_n 0, 1) := by decide +kernel
theorem dX10_findBuckets_123 : decode cX10_findBuckets 123 = .ok (.dup, 1) := by decide +kernel
theorem dX10_findBuckets_124 : decode cX10_findBuckets 124 = .ok (.getfield 157, 3) := by decide +kernel
theorem dX10_findBuckets_127 : decode cX10_findBuckets 127 = .ok (.iconst 1, 1) := by decide +kernel
theorem dX10_findBuckets_128 : decode cX10_findBuckets 128 = .ok (.iadd, 1) := by decide +kernel
theorem dX10_findBuckets_129 : decode cX10_findBuckets 129 = .ok (.putfield 157, 3) := by decide +kernel
theorem dX10_findBuckets_132 : decode cX10_findBuckets 132 = .ok (.iinc 4 1, 3) := by decide +kernel
theorem dX10_findBuckets_135 : decode cX10_findBuckets 135 = .ok (.goto (-112), 3) := by decide +kernel
theorem dX10_findBuckets_138 : decode cX10_findBuckets 138 = .ok (.return_, 1) := by decide +kernel
theorem dX10_differentOf_0 : decode cX10_differentOf 0 = .ok (.aload_n 0, 1) := by decide +kernel
theorem dX10_differentOf_1 : decode cX10_differentOf 1 = .ok (.iconst 0, 1) := by decide +kernel
theorem dX10_differentOf_2 : decode cX10_differentOf 2 = .ok (.aload_n 0, 1) := by decide +kernel
theorem dX10_differentOf_3 : decode cX10_differentOf 3 = .ok (.iload_n 1, 1) := by decide +kernel
theorem dX10_differentOf_4 : decode cX10_differentOf 4 = .ok (.invokevirtual 153, 3) := by decide +kernel
theorem dX10_differentOf_7 : decode cX10_differentOf 7 = .ok (.invokevirtual 160, 3) := by decide +kernel
theorem dX10_differentOf_10 : decode cX10_differentOf 10 = .ok (.ireturn, 1) := by decide +kernel
theorem dX10_less_0 : decode cX10_less 0 = .ok (.fconst 0, 1) := by decide +kernel
theorem dX10_less_1 : decode cX10_less 1 = .ok (.fstore_n 3, 1) := by decide +kernel
theorem dX10_less_2 : decode cX10_less 2 = .ok (.iconst 0, 1) := by decide +kernel
theorem dX10_less_3 : decode cX10_less 3 = .ok (.istore 4, 2) := by decide +kernel
theorem dX10_less_5 : decode cX10_less 5 = .ok (.iload 4, 2) := by decide +kernel
theorem dX10_less_7 : decode cX10_less 7 = .ok (.aload_n 0, 1) := by decide +kernel
theorem dX10_less_8 : decode cX10_less 8 = .ok (.getfield 157, 3) := by decide +kernel
theorem dX10_less_11 : decode cX10_less 11 = .ok (.if_icmp .ge 84, 3) := by decide +kernel
theorem dX10_less_14 : decode cX10_less 14 = .ok (.aload_n 0, 1) := by decide +kernel
theorem dX10_less_15 : decode cX10_less 15 = .ok (.getfield 49, 3) := by decide +kernel
theorem dX10_less_18 : decode cX10_less 18 = .ok (.iload 4, 2) := by decide +kernel
theorem dX10_less_20 : decode cX10_less 20 = .ok (.iaload, 1) := by decide +kernel
theorem dX10_less_21 : decode cX10_less 21 = .ok (.i2f, 1) := by decide +kernel
theorem dX10_less_22 : decode cX10_less 22 = .ok (.fstore 5, 2) := by decide +kernel
theorem dX10_less_24 : decode cX10_less 24 = .ok (.iload_n 2, 1) := by decide +kernel
theorem dX10_less_25 : decode cX10_less 25 = .ok (.aload_n 0, 1) := by decide +kernel
theorem dX10_less_26 : decode cX10_less 26 = .ok (.getfield 46, 3) := by decide +kernel
theorem dX10_less_29 : decode cX10_less 29 = .ok (.iload 4, 2) := by decide +kernel
theorem dX10_less_31 : decode cX10_less 31 = .ok (.iaload, 1) := by decide +kernel
theorem dX10_less_32 : decode cX10_less 32 = .ok (.if_icmp .le 11, 3) := by decide +kernel
theorem dX10_less_35 : decode cX10_less 35 = .ok (.fload_n 3, 1) := by decide +kernel
theorem dX10_less_36 : decode cX10_less 36 = .ok (.fload 5, 2) := by decide +kernel
theorem dX10_less_38 : decode cX10_less 38 = .ok (.fadd, 1) := by decide +kernel
theorem dX10_less_39 : decode cX10_less 39 = .ok (.fstore_n 3, 1) := by decide +kernel
theorem dX10_less_40 : decode cX10_less 40 = .ok (.goto 49, 3) := by decide +kernel
theorem dX10_less_43 : decode cX10_less 43 = .ok (.iload_n 2, 1) := by decide +kernel
theorem dX10_less_44 : decode cX10_less 44 = .ok (.aload_n 0, 1) := by decide +kernel
theorem dX10_less_45 : decode cX10_less 45 = .ok (.getfield 43, 3) := by decide +kernel
theorem dX10_less_48 : decode cX10_less 48 = .ok (.iload 4, 2) := by decide +kernel
theorem dX10_less_50 : decode cX10_less 50 = .ok (.iaload, 1) := by decide +kernel
theorem dX10_less_51 : decode cX10_less 51 = .ok (.if_icmp .le 38, 3) := by decide +kernel
theorem dX10_less_54 : decode cX10_less 54 = .ok (.fload_n 3, 1) := by decide +kernel
theorem dX10_less_55 : decode cX10_less 55 = .ok (.fload 5, 2) := by decide +kernel
theorem dX10_less_57 : decode cX10_less 57 = .ok (.iload_n 2, 1) := by decide +kernel
theorem dX10_less_58 : decode cX10_less 58 = .ok (.aload_n 0, 1) := by decide +kernel
theorem dX10_less_59 : decode cX10_less 59 = .ok (.getfield 43, 3) := by decide +kernel
theorem dX10_less_62 : decode cX10_less 62 = .ok (.iload 4, 2) := by decide +kernel
theorem dX10_less_64 : decode cX10_less 64 = .ok (.iaload, 1) := by decide +kernel
theorem dX10_less_65 : decode cX10_less 65 = .ok (.isub, 1) := by decide +kernel
theorem dX10_less_66 : decode cX10_less 66 = .ok (.i2f, 1) := by decide +kernel
theorem dX10_less_67 : decode cX10_less 67 = .ok (.aload_n 0, 1) := by decide +kernel
theorem dX10_less_68 : decode cX10_less 68 = .ok (.getfield 46, 3) := by decide +kernel
theorem dX10_less_71 : decode cX10_less 71 = .ok (.iload 4, 2) := by decide +kernel
theorem dX10_less_73 : decode cX10_less 73 = .ok (.iaload, 1) := by decide +kernel
theorem dX10_less_74 : decode cX10_less 74 = .ok (.aload_n 0, 1) := by decide +kernel
theorem dX10_less_75 : decode cX10_less 75 = .ok (.getfield 43, 3) := by decide +kernel
theorem dX10_less_78 : decode cX10_less 78 = .ok (.iload 4, 2) := by decide +kernel
theorem dX10_less_80 : decode cX10_less 80 = .ok (.iaload, 1) := by decide +kernel
theorem dX10_less_81 : decode cX10_less 81 = .ok (.isub, 1) := by decide +kernel
theorem dX10_less_82 : decode cX10_less 82 = .ok (.iconst 1, 1) := by decide +kernel
theorem dX10_less_83 : decode cX10_less 83 = .ok (.iadd, 1) := by decide +kernel
theorem dX10_less_84 : decode cX10_less 84 = .ok (.i2f, 1) := by decide +kernel
theorem dX10_less_85 : decode cX10_less 85 = .ok (.fdiv, 1) := by decide +kernel
theorem dX10_less_86 : decode cX10_less 86 = .ok (.fmul, 1) := by decide +kernel
theorem dX10_less_87 : decode cX10_less 87 = .ok (.fadd, 1) := by decide +kernel
theorem dX10_less_88 : decode cX10_less 88 = .ok (.fstore_n 3, 1) := by decide +kernel
theorem dX10_less_89 : decode cX10_less 89 = .ok (.iinc 4 1, 3) := by decide +kernel
theorem dX10_less_92 : decode cX10_less 92 = .ok (.goto (-87), 3) := by decide +kernel
theorem dX10_less_95 : decode cX10_less 95 = .ok (.fload_n 3, 1) := by decide +kernel
theorem dX10_less_96 : decode cX10_less 96 = .ok (.aload_n 0, 1) := by decide +kernel
theorem dX10_less_97 : decode cX10_less 97 = .ok (.getfield 13, 3) := by decide +kernel
theorem dX10_less_100 : decode cX10_less 100 = .ok (.iload_n 1, 1) := by decide +kernel
theorem dX10_less_101 : decode cX10_less 101 = .ok (.iconst 3, 1) := by decide +kernel
theorem dX10_less_102 : decode cX10_less 102 = .ok (.idiv, 1) := by decide +kernel
theorem dX10_less_103 : decode cX10_less 103 = .ok (.iaload, 1) := by decide +kernel
theorem dX10_less_104 : decode cX10_less 104 = .ok (.i2f, 1) := by decide +kernel
theorem dX10_less_105 : decode cX10_less 105 = .ok (.fdiv, 1) := by decide +kernel
theorem dX10_less_106 : decode cX10_less 106 = .ok (.freturn, 1) := by decide +kernel
theorem dX10_equal_0 : decode cX10_equal 0 = .ok (.fconst 0, 1) := by decide +kernel
theorem dX10_equal_1 : decode cX10_equal 1 = .ok (.fstore_n 3, 1) := by decide +kernel
theorem dX10_equal_2 : decode cX10_equal 2 = .ok (.iconst 0, 1) := by decide +kernel
theorem dX10_equal_3 : decode cX10_equal 3 = .ok (.istore 4, 2) := by decide +kernel
theorem dX10_equal_5 : decode cX10_equal 5 = .ok (.iload 4, 2) := by decide +kernel
theorem dX10_equal_7 : decode cX10_equal 7 = .ok (.aload_n 0, 1) := by decide +kernel
theorem dX10_equal_8 : decode cX10_equal 8 = .ok (.getfield 157, 3) := by decide +kernel
theorem dX10_equal_11 : decode cX10_equal 11 = .ok (.if_icmp .ge 50, 3) := by decide +kernel
theorem dX10_equal_14 : decode cX10_equal 14 = .ok (.iload_n 2, 1) := by decide +kernel
theorem dX10_equal_15 : decode cX10_equal 15 = .ok (.aload_n 0, 1) := by decide +kernel
theorem dX10_equal_16 : decode cX10_equal 16 = .ok (.getfield 43, 3) := by decide +kernel
theorem dX10_equal_19 : decode cX10_equal 19 = .ok (.iload 4, 2) := by decide +kernel
theorem dX10_equal_21 : decode cX10_equal 21 = .ok (.iaload, 1) := by decide +kernel
theorem dX10_equal_22 : decode cX10_equal 22 = .ok (.aload_n 0, 1) := by decide +kernel
theorem dX10_equal_23 : decode cX10_equal 23 = .ok (.getfield 46, 3) := by decide +kernel
theorem dX10_equal_26 : decode cX10_equal 26 = .ok (.iload 4, 2) := by decide +kernel
theorem dX10_equal_28 : decode cX10_equal 28 = .ok (.iaload, 1) := by decide +kernel
theorem dX10_equal_29 : decode cX10_equal 29 = .ok (.invokestatic 145, 3) := by decide +kernel
theorem dX10_equal_32 : decode cX10_equal 32 = .ok (.ifCond .eq 23, 3) := by decide +kernel
theorem dX10_equal_35 : decode cX10_equal 35 = .ok (.fload_n 3, 1) := by decide +kernel
theorem dX10_equal_36 : decode cX10_equal 36 = .ok (.aload_n 0, 1) := by decide +kernel
theorem dX10_equal_37 : decode cX10_equal 37 = .ok (.getfield 49, 3) := by decide +kernel
theorem dX10_equal_40 : decode cX10_equal 40 = .ok (.iload 4, 2) := by decide +kernel
theorem dX10_equal_42 : decode cX10_equal 42 = .ok (.iaload, 1) := by decide +kernel
theorem dX10_equal_43 : decode cX10_equal 43 = .ok (.i2f, 1) := by decide +kernel
theorem dX10_equal_44 : decode cX10_equal 44 = .ok (.aload_n 0, 1) := by decide +kernel
theorem dX10_equal_45 : decode cX10_equal 45 = .ok (.getfield 52, 3) := by decide +kernel
theorem dX10_equal_48 : decode cX10_equal 48 = .ok (.iload 4, 2) := by decide +kernel
theorem dX10_equal_50 : decode cX10_equal 50 = .ok (.iaload, 1) := by decide +kernel
theorem dX10_equal_51 : decode cX10_equal 51 = .ok (.i2f, 1) := by decide +kernel
theorem dX10_equal_52 : decode cX10_equal 52 = .ok (.fdiv, 1) := by decide +kernel
theorem dX10_equal_53 : decode cX10_equal 53 = .ok (.fadd, 1) := by decide +kernel
theorem dX10_equal_54 : decode cX10_equal 54 = .ok (.fstore_n 3, 1) := by decide +kernel
theorem dX10_equal_55 : decode cX10_equal 55 = .ok (.iinc 4 1, 3) := by decide +kernel
theorem dX10_equal_58 : decode cX10_equal 58 = .ok (.goto (-53), 3) := by decide +kernel
theorem dX10_equal_61 : decode cX10_equal 61 = .ok (.fload_n 3, 1) := by decide +kernel
theorem dX10_equal_62 : decode cX10_equal 62 = .ok (.aload_n 0, 1) := by decide +kernel
theorem dX10_equal_63 : decode cX10_equal 63 = .ok (.getfield 13, 3) := by decide +kernel
theorem dX10_equal_66 : decode cX10_equal 66 = .ok (.iload_n 1, 1) := by decide +kernel
theorem dX10_equal_67 : decode cX10_equal 67 = .ok (.iconst 3, 1) := by decide +kernel
theorem dX10_equal_68 : decode cX10_equal 68 = .ok (.idiv, 1) := by decide +kernel
theorem dX10_equal_69 : decode cX10_equal 69 = .ok (.iaload, 1) := by decide +kernel
theorem dX10_equal_70 : decode cX10_equal 70 = .ok (.i2f, 1) := by decide +kernel
theorem dX10_equal_71 : decode cX10_equal 71 = .ok (.fdiv, 1) := by decide +kernel
theorem dX10_equal_72 : decode cX10_equal 72 = .ok (.freturn, 1) := by decide +kernel
theorem dX10_shareOf_0 : decode cX10_shareOf 0 = .ok (.aload_n 0, 1) := by decide +kernel
theorem dX10_shareOf_1 : decode cX10_shareOf 1 = .ok (.getfield 13, 3) := by decide +kernel
theorem dX10_shareOf_4 : decode cX10_shareOf 4 = .ok (.iload_n 1, 1) := by decide +kernel
theorem dX10_shareOf_5 : decode cX10_shareOf 5 = .ok (.iconst 3, 1) := by decide +kernel
theorem dX10_shareOf_6 : decode cX10_shareOf 6 = .ok (.idiv, 1) := by decide +kernel
theorem dX10_shareOf_7 : decode cX10_shareOf 7 = .ok (.iaload, 1) := by decide +kernel
theorem dX10_shareOf_8 : decode cX10_shareOf 8 = .ok (.ifCond .ne 5, 3) := by decide +kernel
theorem dX10_shareOf_11 : decode cX10_shareOf 11 = .ok (.fconst 0, 1) := by decide +kernel
theorem dX10_shareOf_12 : decode cX10_shareOf 12 = .ok (.freturn, 1) := by decide +kernel
theorem dX10_shareOf_13 : decode cX10_shareOf 13 = .ok (.aload_n 0, 1) := by decide +kernel
theorem dX10_shareOf_14 : decode cX10_shareOf 14 = .ok (.iload_n 1, 1) := by decide +kernel
theorem dX10_shareOf_15 : decode cX10_shareOf 15 = .ok (.invokevirtual 163, 3) := by decide +kernel
theorem dX10_shareOf_18 : decode cX10_shareOf 18 = .ok (.iload_n 2, 1) := by decide +kernel
theorem dX10_shareOf_19 : decode cX10_shareOf 19 = .ok (.ifCond .ne 10, 3) := by decide +kernel
theorem dX10_shareOf_22 : decode cX10_shareOf 22 = .ok (.aload_n 0, 1) := by decide +kernel
theorem dX10_shareOf_23 : decode cX10_shareOf 23 = .ok (.iload_n 1, 1) := by decide +kernel
theorem dX10_shareOf_24 : decode cX10_shareOf 24 = .ok (.iload_n 3, 1) := by decide +kernel
theorem dX10_shareOf_25 : decode cX10_shareOf 25 = .ok (.invokevirtual 167, 3) := by decide +kernel
theorem dX10_shareOf_28 : decode cX10_shareOf 28 = .ok (.freturn, 1) := by decide +kernel
theorem dX10_shareOf_29 : decode cX10_shareOf 29 = .ok (.iload_n 2, 1) := by decide +kernel
theorem dX10_shareOf_30 : decode cX10_shareOf 30 = .ok (.iconst 1, 1) := by decide +kernel
theorem dX10_shareOf_31 : decode cX10_shareOf 31 = .ok (.if_icmp .ne 10, 3) := by decide +kernel
theorem dX10_shareOf_34 : decode cX10_shareOf 34 = .ok (.aload_n 0, 1) := by decide +kernel
theorem dX10_shareOf_35 : decode cX10_shareOf 35 = .ok (.iload_n 1, 1) := by decide +kernel
theorem dX10_shareOf_36 : decode cX10_shareOf 36 = .ok (.iload_n 3, 1) := by decide +kernel
theorem dX10_shareOf_37 : decode cX10_shareOf 37 = .ok (.invokevirtual 171, 3) := by decide +kernel
theorem dX10_shareOf_40 : decode cX10_shareOf 40 = .ok (.freturn, 1) := by decide +kernel
theorem dX10_shareOf_41 : decode cX10_shareOf 41 = .ok (.fconst 1, 1) := by decide +kernel
theorem dX10_shareOf_42 : decode cX10_shareOf 42 = .ok (.aload_n 0, 1) := by decide +kernel
theorem dX10_shareOf_43 : decode cX10_shareOf 43 = .ok (.iload_n 1, 1) := by decide +kernel
theorem dX10_shareOf_44 : decode cX10_shareOf 44 = .ok (.iload_n 3, 1) := by decide +kernel
theorem dX10_shareOf_45 : decode cX10_shareOf 45 = .ok (.invokevirtual 167, 3) := by decide +kernel
theorem dX10_shareOf_48 : decode cX10_shareOf 48 = .ok (.aload_n 0, 1) := by decide +kernel
theorem dX10_shareOf_49 : decode cX10_shareOf 49 = .ok (.iload_n 1, 1) := by decide +kernel
theorem dX10_shareOf_50 : decode cX10_shareOf 50 = .ok (.iload_n 3, 1) := by decide +kernel
theorem dX10_shareOf_51 : decode cX10_shareOf 51 = .ok (.invokevirtual 171, 3) := by decide +kernel
theorem dX10_shareOf_54 : decode cX10_shareOf 54 = .ok (.fadd, 1) := by decide +kernel
theorem dX10_shareOf_55 : decode cX10_shareOf 55 = .ok (.fsub, 1) := by decide +kernel
theorem dX10_shareOf_56 : decode cX10_shareOf 56 = .ok (.fstore 4, 2) := by decide +kernel
theorem dX10_shareOf_58 : decode cX10_shareOf 58 = .ok (.fload 4, 2) := by decide +kernel
theorem dX10_shareOf_60 : decode cX10_shareOf 60 = .ok (.fconst 0, 1) := by decide +kernel
theorem dX10_shareOf_61 : decode cX10_shareOf 61 = .ok (.fcmp .g, 1) := by decide +kernel
theorem dX10_shareOf_62 : decode cX10_shareOf 62 = .ok (.ifCond .ge 7, 3) := by decide +kernel
theorem dX10_shareOf_65 : decode cX10_shareOf 65 = .ok (.fconst 0, 1) := by decide +kernel
theorem dX10_shareOf_66 : decode cX10_shareOf 66 = .ok (.goto 5, 3) := by decide +kernel
theorem dX10_shareOf_69 : decode cX10_shareOf 69 = .ok (.fload 4, 2) := by decide +kernel
theorem dX10_shareOf_71 : decode cX10_shareOf 71 = .ok (.freturn, 1) := by decide +kernel
theorem dX10_thoughtOfTable_0 : decode cX10_thoughtOfTable 0 = .ok (.aload_n 0, 1) := by decide +kernel
theorem dX10_thoughtOfTable_1 : decode cX10_thoughtOfTable 1 = .ok (.getfield 13, 3) := by decide +kernel
theorem dX10_thoughtOfTable_4 : decode cX10_thoughtOfTable 4 = .ok (.iload_n 1, 1) := by decide +kernel
theorem dX10_thoughtOfTable_5 : decode cX10_thoughtOfTable 5 = .ok (.iaload, 1) := by decide +kernel
theorem dX10_thoughtOfTable_6 : decode cX10_thoughtOfTable 6 = .ok (.i2f, 1) := by decide +kernel
theorem dX10_thoughtOfTable_7 : decode cX10_thoughtOfTable 7 = .ok (.fstore_n 2, 1) := by decide +kernel
theorem dX10_thoughtOfTable_8 : decode cX10_thoughtOfTable 8 = .ok (.iconst 0, 1) := by decide +kernel
theorem dX10_thoughtOfTable_9 : decode cX10_thoughtOfTable 9 = .ok (.istore_n 3, 1) := by decide +kernel
theorem dX10_thoughtOfTable_10 : decode cX10_thoughtOfTable 10 = .ok (.iload_n 3, 1) := by decide +kernel
theorem dX10_thoughtOfTable_11 : decode cX10_thoughtOfTable 11 = .ok (.aload_n 0, 1) := by decide +kernel
theorem dX10_thoughtOfTable_12 : decode cX10_thoughtOfTable 12 = .ok (.getfield 174, 3) := by decide +kernel
theorem dX10_thoughtOfTable_15 : decode cX10_thoughtOfTable 15 = .ok (.if_icmp .ge 46, 3) := by decide +kernel
theorem dX10_thoughtOfTable_18 : decode cX10_thoughtOfTable 18 = .ok (.aload_n 0, 1) := by decide +kernel
theorem dX10_thoughtOfTable_19 : decode cX10_thoughtOfTable 19 = .ok (.getfield 25, 3) := by decide +kernel
theorem dX10_thoughtOfTable_22 : decode cX10_thoughtOfTable 22 = .ok (.iload_n 3, 1) := by decide +kernel
theorem dX10_thoughtOfTable_23 : decode cX10_thoughtOfTable 23 = .ok (.iaload, 1) := by decide +kernel
theorem dX10_thoughtOfTable_24 : decode cX10_thoughtOfTable 24 = .ok (.iconst 3, 1) := by decide +kernel
theorem dX10_thoughtOfTable_25 : decode cX10_thoughtOfTable 25 = .ok (.idiv, 1) := by decide +kernel
theorem dX10_thoughtOfTable_26 : decode cX10_thoughtOfTable 26 = .ok (.iload_n 1, 1) := by decide +kernel
theorem dX10_thoughtOfTable_27 : decode cX10_thoughtOfTable 27 = .ok (.if_icmp .ne 28, 3) := by decide +kernel
theorem dX10_thoughtOfTable_30 : decode cX10_thoughtOfTable 30 = .ok (.fload_n 2, 1) := by decide +kernel
theorem dX10_thoughtOfTable_31 : decode cX10_thoughtOfTable 31 = .ok (.aload_n 0, 1) := by decide +kernel
theorem dX10_thoughtOfTable_32 : decode cX10_thoughtOfTable 32 = .ok (.aload_n 0, 1) := by decide +kernel
theorem dX10_thoughtOfTable_33 : decode cX10_thoughtOfTable 33 = .ok (.getfield 25, 3) := by decide +kernel
theorem dX10_thoughtOfTable_36 : decode cX10_thoughtOfTable 36 = .ok (.iload_n 3, 1) := by decide +kernel
theorem dX10_thoughtOfTable_37 : decode cX10_thoughtOfTable 37 = .ok (.iaload, 1) := by decide +kernel
theorem dX10_thoughtOfTable_38 : decode cX10_thoughtOfTable 38 = .ok (.aload_n 0, 1) := by decide +kernel
theorem dX10_thoughtOfTable_39 : decode cX10_thoughtOfTable 39 = .ok (.getfield 28, 3) := by decide +kernel
theorem dX10_thoughtOfTable_42 : decode cX10_thoughtOfTable 42 = .ok (.iload_n 3, 1) := by decide +kernel
theorem dX10_thoughtOfTable_43 : decode cX10_thoughtOfTable 43 = .ok (.iaload, 1) := by decide +kernel
theorem dX10_thoughtOfTable_44 : decode cX10_thoughtOfTable 44 = .ok (.aload_n 0, 1) := by decide +kernel
theorem dX10_thoughtOfTable_45 : decode cX10_thoughtOfTable 45 = .ok (.getfield 31, 3) := by decide +kernel
theorem dX10_thoughtOfTable_48 : decode cX10_thoughtOfTable 48 = .ok (.iload_n 3, 1) := by decide +kernel
theorem dX10_thoughtOfTable_49 : decode cX10_thoughtOfTable 49 = .ok (.iaload, 1) := by decide +kernel
theorem dX10_thoughtOfTable_50 : decode cX10_thoughtOfTable 50 = .ok (.invokevirtual 177, 3) := by decide +kernel
theorem dX10_thoughtOfTable_53 : decode cX10_thoughtOfTable 53 = .ok (.fmul, 1) := by decide +kernel
theorem dX10_thoughtOfTable_54 : decode cX10_thoughtOfTable 54 = .ok (.fstore_n 2, 1) := by decide +kernel
theorem dX10_thoughtOfTable_55 : decode cX10_thoughtOfTable 55 = .ok (.iinc 3 1, 3) := by decide +kernel
theorem dX10_thoughtOfTable_58 : decode cX10_thoughtOfTable 58 = .ok (.goto (-48), 3) := by decide +kernel
theorem dX10_thoughtOfTable_61 : decode cX10_thoughtOfTable 61 = .ok (.fload_n 2, 1) := by decide +kernel
theorem dX10_thoughtOfTable_62 : decode cX10_thoughtOfTable 62 = .ok (.freturn, 1) := by decide +kernel
theorem dX10_shareOfJoin_0 : decode cX10_shareOfJoin 0 = .ok (.aload_n 0, 1) := by decide +kernel
theorem dX10_shareOfJoin_1 : decode cX10_shareOfJoin 1 = .ok (.aload_n 0, 1) := by decide +kernel
theorem dX10_shareOfJoin_2 : decode cX10_shareOfJoin 2 = .ok (.getfield 34, 3) := by decide +kernel
theorem dX10_shareOfJoin_5 : decode cX10_shareOfJoin 5 = .ok (.iload_n 1, 1) := by decide +kernel
theorem dX10_shareOfJoin_6 : decode cX10_shareOfJoin 6 = .ok (.iaload, 1) := by decide +kernel
theorem dX10_shareOfJoin_7 : decode cX10_shareOfJoin 7 = .ok (.invokevirtual 181, 3) := by decide +kernel
theorem dX10_shareOfJoin_10 : decode cX10_shareOfJoin 10 = .ok (.istore_n 2, 1) := by decide +kernel
theorem dX10_shareOfJoin_11 : decode cX10_shareOfJoin 11 = .ok (.aload_n 0, 1) := by decide +kernel
theorem dX10_shareOfJoin_12 : decode cX10_shareOfJoin 12 = .ok (.aload_n 0, 1) := by decide +kernel
theorem dX10_shareOfJoin_13 : decode cX10_shareOfJoin 13 = .ok (.getfield 37, 3) := by decide +kernel
theorem dX10_shareOfJoin_16 : decode cX10_shareOfJoin 16 = .ok (.iload_n 1, 1) := by decide +kernel
theorem dX10_shareOfJoin_17 : decode cX10_shareOfJoin 17 = .ok (.iaload, 1) := by decide +kernel
theorem dX10_shareOfJoin_18 : decode cX10_shareOfJoin 18 = .ok (.invokevirtual 181, 3) := by decide +kernel
theorem dX10_shareOfJoin_21 : decode cX10_shareOfJoin 21 = .ok (.istore_n 3, 1) := by decide +kernel
theorem dX10_shareOfJoin_22 : decode cX10_shareOfJoin 22 = .ok (.iload_n 2, 1) := by decide +kernel
theorem dX10_shareOfJoin_23 : decode cX10_shareOfJoin 23 = .ok (.iload_n 3, 1) := by decide +kernel
theorem dX10_shareOfJoin_24 : decode cX10_shareOfJoin 24 = .ok (.if_icmp .le 7, 3) := by decide +kernel
theorem dX10_shareOfJoin_27 : decode cX10_shareOfJoin 27 = .ok (.iload_n 2, 1) := by decide +kernel
theorem dX10_shareOfJoin_28 : decode cX10_shareOfJoin 28 = .ok (.goto 4, 3) := by decide +kernel
theorem dX10_shareOfJoin_31 : decode cX10_shareOfJoin 31 = .ok (.iload_n 3, 1) := by decide +kernel
theorem dX10_shareOfJoin_32 : decode cX10_shareOfJoin 32 = .ok (.istore 4, 2) := by decide +kernel
theorem dX10_shareOfJoin_34 : decode cX10_shareOfJoin 34 = .ok (.iload 4, 2) := by decide +kernel
theorem dX10_shareOfJoin_36 : decode cX10_shareOfJoin 36 = .ok (.ifCond .ne 7, 3) := by decide +kernel
theorem dX10_shareOfJoin_39 : decode cX10_shareOfJoin 39 = .ok (.fconst 0, 1) := by decide +kernel
theorem dX10_shareOfJoin_40 : decode cX10_shareOfJoin 40 = .ok (.goto 8, 3) := by decide +kernel
theorem dX10_shareOfJoin_43 : decode cX10_shareOfJoin 43 = .ok (.fconst 1, 1) := by decide +kernel
theorem dX10_shareOfJoin_44 : decode cX10_shareOfJoin 44 = .ok (.iload 4, 2) := by decide +kernel
theorem dX10_shareOfJoin_46 : decode cX10_shareOfJoin 46 = .ok (.i2f, 1) := by decide +kernel
theorem dX10_shareOfJoin_47 : decode cX10_shareOfJoin 47 = .ok (.fdiv, 1) := by decide +kernel
theorem dX10_shareOfJoin_48 : decode cX10_shareOfJoin 48 = .ok (.freturn, 1) := by decide +kernel
theorem dX10_isWithin_0 : decode cX10_isWithin 0 = .ok (.iload_n 2, 1) := by decide +kernel
theorem dX10_isWithin_1 : decode cX10_isWithin 1 = .ok (.aload_n 0, 1) := by decide +kernel
theorem dX10_isWithin_2 : decode cX10_isWithin 2 = .ok (.getfield 34, 3) := by decide +kernel
theorem dX10_isWithin_5 : decode cX10_isWithin 5 = .ok (.iload_n 1, 1) := by decide +kernel
theorem dX10_isWithin_6 : decode cX10_isWithin 6 = .ok (.iaload, 1) := by decide +kernel
theorem dX10_isWithin_7 : decode cX10_isWithin 7 = .ok (.iconst 3, 1) := by decide +kernel
theorem dX10_isWithin_8 : decode cX10_isWithin 8 = .ok (.idiv, 1) := by decide +kernel
theorem dX10_isWithin_9 : decode cX10_isWithin 9 = .ok (.invokestatic 184, 3) := by decide +kernel
theorem dX10_isWithin_12 : decode cX10_isWithin 12 = .ok (.ifCond .eq 22, 3) := by decide +kernel
theorem dX10_isWithin_15 : decode cX10_isWithin 15 = .ok (.iload_n 2, 1) := by decide +kernel
theorem dX10_isWithin_16 : decode cX10_isWithin 16 = .ok (.aload_n 0, 1) := by decide +kernel
theorem dX10_isWithin_17 : decode cX10_isWithin 17 = .ok (.getfield 37, 3) := by decide +kernel
theorem dX10_isWithin_20 : decode cX10_isWithin 20 = .ok (.iload_n 1, 1) := by decide +kernel
theorem dX10_isWithin_21 : decode cX10_isWithin 21 = .ok (.iaload, 1) := by decide +kernel
theorem dX10_isWithin_22 : decode cX10_isWithin 22 = .ok (.iconst 3, 1) := by decide +kernel
theorem dX10_isWithin_23 : decode cX10_isWithin 23 = .ok (.idiv, 1) := by decide +kernel
theorem dX10_isWithin_24 : decode cX10_isWithin 24 = .ok (.invokestatic 184, 3) := by decide +kernel
theorem dX10_isWithin_27 : decode cX10_isWithin 27 = .ok (.ifCond .eq 7, 3) := by decide +kernel
theorem dX10_isWithin_30 : decode cX10_isWithin 30 = .ok (.iconst 1, 1) := by decide +kernel
theorem dX10_isWithin_31 : decode cX10_isWithin 31 = .ok (.goto 4, 3) := by decide +kernel
theorem dX10_isWithin_34 : decode cX10_isWithin 34 = .ok (.iconst 0, 1) := by decide +kernel
theorem dX10_isWithin_35 : decode cX10_isWithin 35 = .ok (.ireturn, 1) := by decide +kernel
theorem dX10_thoughtOf_0 : decode cX10_thoughtOf 0 = .ok (.fconst 1, 1) := by decide +kernel
theorem dX10_thoughtOf_1 : decode cX10_thoughtOf 1 = .ok (.fstore_n 2, 1) := by decide +kernel
theorem dX10_thoughtOf_2 : decode cX10_thoughtOf 2 = .ok (.iconst 0, 1) := by decide +kernel
theorem dX10_thoughtOf_3 : decode cX10_thoughtOf 3 = .ok (.istore_n 3, 1) := by decide +kernel
theorem dX10_thoughtOf_4 : decode cX10_thoughtOf 4 = .ok (.iload_n 3, 1) := by decide +kernel
theorem dX10_thoughtOf_5 : decode cX10_thoughtOf 5 = .ok (.iconst 5, 1) := by decide +kernel
theorem dX10_thoughtOf_6 : decode cX10_thoughtOf 6 = .ok (.if_icmp .ge 25, 3) := by decide +kernel
theorem dX10_thoughtOf_9 : decode cX10_thoughtOf 9 = .ok (.iload_n 1, 1) := by decide +kernel
theorem dX10_thoughtOf_10 : decode cX10_thoughtOf 10 = .ok (.iload_n 3, 1) := by decide +kernel
theorem dX10_thoughtOf_11 : decode cX10_thoughtOf 11 = .ok (.invokestatic 184, 3) := by decide +kernel
theorem dX10_thoughtOf_14 : decode cX10_thoughtOf 14 = .ok (.ifCond .eq 11, 3) := by decide +kernel
theorem dX10_thoughtOf_17 : decode cX10_thoughtOf 17 = .ok (.fload_n 2, 1) := by decide +kernel
theorem dX10_thoughtOf_18 : decode cX10_thoughtOf 18 = .ok (.aload_n 0, 1) := by decide +kernel
theorem dX10_thoughtOf_19 : decode cX10_thoughtOf 19 = .ok (.iload_n 3, 1) := by decide +kernel
theorem dX10_thoughtOf_20 : decode cX10_thoughtOf 20 = .ok (.invokevirtual 188, 3) := by decide +kernel
theorem dX10_thoughtOf_23 : decode cX10_thoughtOf 23 = .ok (.fmul, 1) := by decide +kernel
theorem dX10_thoughtOf_24 : decode cX10_thoughtOf 24 = .ok (.fstore_n 2, 1) := by decide +kernel
theorem dX10_thoughtOf_25 : decode cX10_thoughtOf 25 = .ok (.iinc 3 1, 3) := by decide +kernel
theorem dX10_thoughtOf_28 : decode cX10_thoughtOf 28 = .ok (.goto (-24), 3) := by decide +kernel
theorem dX10_thoughtOf_31 : decode cX10_thoughtOf 31 = .ok (.iconst 0, 1) := by decide +kernel
theorem dX10_thoughtOf_32 : decode cX10_thoughtOf 32 = .ok (.istore_n 3, 1) := by decide +kernel
theorem dX10_thoughtOf_33 : decode cX10_thoughtOf 33 = .ok (.iload_n 3, 1) := by decide +kernel
theorem dX10_thoughtOf_34 : decode cX10_thoughtOf 34 = .ok (.aload_n 0, 1) := by decide +kernel
theorem dX10_thoughtOf_35 : decode cX10_thoughtOf 35 = .ok (.getfield 192, 3) := by decide +kernel
theorem dX10_thoughtOf_38 : decode cX10_thoughtOf 38 = .ok (.if_icmp .ge 26, 3) := by decide +kernel
theorem dX10_thoughtOf_41 : decode cX10_thoughtOf 41 = .ok (.aload_n 0, 1) := by decide +kernel
theorem dX10_thoughtOf_42 : decode cX10_thoughtOf 42 = .ok (.iload_n 3, 1) := by decide +kernel
theorem dX10_thoughtOf_43 : decode cX10_thoughtOf 43 = .ok (.iload_n 1, 1) := by decide +kernel
theorem dX10_thoughtOf_44 : decode cX10_thoughtOf 44 = .ok (.invokevirtual 195, 3) := by decide +kernel
theorem dX10_thoughtOf_47 : decode cX10_thoughtOf 47 = .ok (.ifCond .eq 11, 3) := by decide +kernel
theorem dX10_thoughtOf_50 : decode cX10_thoughtOf 50 = .ok (.fload_n 2, 1) := by decide +kernel
theorem dX10_thoughtOf_51 : decode cX10_thoughtOf 51 = .ok (.aload_n 0, 1) := by decide +kernel
theorem dX10_thoughtOf_52 : decode cX10_thoughtOf 52 = .ok (.iload_n 3, 1) := by decide +kernel
theorem dX10_thoughtOf_53 : decode cX10_thoughtOf 53 = .ok (.invokevirtual 198, 3) := by decide +kernel
theorem dX10_thoughtOf_56 : decode cX10_thoughtOf 56 = .ok (.fmul, 1) := by decide +kernel
theorem dX10_thoughtOf_57 : decode cX10_thoughtOf 57 = .ok (.fstore_n 2, 1) := by decide +kernel
theorem dX10_thoughtOf_58 : decode cX10_thoughtOf 58 = .ok (.iinc 3 1, 3) := by decide +kernel
theorem dX10_thoughtOf_61 : decode cX10_thoughtOf 61 = .ok (.goto (-28), 3) := by decide +kernel
theorem dX10_thoughtOf_64 : decode cX10_thoughtOf 64 = .ok (.fload_n 2, 1) := by decide +kernel
theorem dX10_thoughtOf_65 : decode cX10_thoughtOf 65 = .ok (.freturn, 1) := by decide +kernel
theorem dX10_sortingOf_0 : decode cX10_sortingOf 0 = .ok (.aload_n 0, 1) := by decide +kernel
theorem dX10_sortingOf_1 : decode cX10_sortingOf 1 = .ok (.iload_n 1, 1) := by decide +kernel
theorem dX10_sortingOf_2 : decode cX10_sortingOf 2 = .ok (.invokevirtual 201, 3) := by decide +kernel
theorem dX10_sortingOf_5 : decode cX10_sortingOf 5 = .ok (.fstore_n 2, 1) := by decide +kernel
theorem dX10_sortingOf_6 : decode cX10_sortingOf 6 = .ok (.iconst 0, 1) := by decide +kernel
theorem dX10_sortingOf_7 : decode cX10_sortingOf 7 = .ok (.istore_n 3, 1) := by decide +kernel
theorem dX10_sortingOf_8 : decode cX10_sortingOf 8 = .ok (.fload_n 2, 1) := by decide +kernel
theorem dX10_sortingOf_9 : decode cX10_sortingOf 9 = .ok (.f2i, 1) := by decide +kernel
theorem dX10_sortingOf_10 : decode cX10_sortingOf 10 = .ok (.istore 4, 2) := by decide +kernel
theorem dX10_sortingOf_12 : decode cX10_sortingOf 12 = .ok (.iload 4, 2) := by decide +kernel
theorem dX10_sortingOf_14 : decode cX10_sortingOf 14 = .ok (.ifCond .le 15, 3) := by decide +kernel
theorem dX10_sortingOf_17 : decode cX10_sortingOf 17 = .ok (.iinc 3 1, 3) := by decide +kernel
theorem dX10_sortingOf_20 : decode cX10_sortingOf 20 = .ok (.iload 4, 2) := by decide +kernel
theorem dX10_sortingOf_22 : decode cX10_sortingOf 22 = .ok (.iconst 2, 1) := by decide +kernel
theorem dX10_sortingOf_23 : decode cX10_sortingOf 23 = .ok (.idiv, 1) := by decide +kernel
theorem dX10_sortingOf_24 : decode cX10_sortingOf 24 = .ok (.istore 4, 2) := by decide +kernel
theorem dX10_sortingOf_26 : decode cX10_sortingOf 26 = .ok (.goto (-14), 3) := by decide +kernel
theorem dX10_sortingOf_29 : decode cX10_sortingOf 29 = .ok (.fload_n 2, 1) := by decide +kernel
theorem dX10_sortingOf_30 : decode cX10_sortingOf 30 = .ok (.iload_n 3, 1) := by decide +kernel
theorem dX10_sortingOf_31 : decode cX10_sortingOf 31 = .ok (.i2f, 1) := by decide +kernel
theorem dX10_sortingOf_32 : decode cX10_sortingOf 32 = .ok (.fmul, 1) := by decide +kernel
theorem dX10_sortingOf_33 : decode cX10_sortingOf 33 = .ok (.freturn, 1) := by decide +kernel
theorem dX10_offers_0 : decode cX10_offers 0 = .ok (.bipush 16, 2) := by decide +kernel
theorem dX10_offers_2 : decode cX10_offers 2 = .ok (.aload_n 0, 1) := by decide +kernel
theorem dX10_offers_3 : decode cX10_offers 3 = .ok (.getfield 204, 3) := by decide +kernel
theorem dX10_offers_6 : decode cX10_offers 6 = .ok (.imul, 1) := by decide +kernel
theorem dX10_offers_7 : decode cX10_offers 7 = .ok (.aload_n 0, 1) := by decide +kernel
theorem dX10_offers_8 : decode cX10_offers 8 = .ok (.getfield 207, 3) := by decide +kernel
theorem dX10_offers_11 : decode cX10_offers 11 = .ok (.iadd, 1) := by decide +kernel
theorem dX10_offers_12 : decode cX10_offers 12 = .ok (.istore 5, 2) := by decide +kernel
theorem dX10_offers_14 : decode cX10_offers 14 = .ok (.aload_n 0, 1) := by decide +kernel
theorem dX10_offers_15 : decode cX10_offers 15 = .ok (.getfield 62, 3) := by decide +kernel
theorem dX10_offers_18 : decode cX10_offers 18 = .ok (.iload 5, 2) := by decide +kernel
theorem dX10_offers_20 : decode cX10_offers 20 = .ok (.iaload, 1) := by decide +kernel
theorem dX10_offers_21 : decode cX10_offers 21 = .ok (.ifCond .lt 16, 3) := by decide +kernel
theorem dX10_offers_24 : decode cX10_offers 24 = .ok (.fload_n 2, 1) := by decide +kernel
theorem dX10_offers_25 : decode cX10_offers 25 = .ok (.aload_n 0, 1) := by decide +kernel
theorem dX10_offers_26 : decode cX10_offers 26 = .ok (.getfield 59, 3) := by decide +kernel
theorem dX10_offers_29 : decode cX10_offers 29 = .ok (.iload 5, 2) := by decide +kernel
theorem dX10_offers_31 : decode cX10_offers 31 = .ok (.faload, 1) := by decide +kernel
theorem dX10_offers_32 : decode cX10_offers 32 = .ok (.fcmp .l, 1) := by decide +kernel
theorem dX10_offers_33 : decode cX10_offers 33 = .ok (.ifCond .lt 4, 3) := by decide +kernel
theorem dX10_offers_36 : decode cX10_offers 36 = .ok (.return_, 1) := by decide +kernel
theorem dX10_offers_37 : decode cX10_offers 37 = .ok (.aload_n 0, 1) := by decide +kernel
theorem dX10_offers_38 : decode cX10_offers 38 = .ok (.getfield 62, 3) := by decide +kernel
theorem dX10_offers_41 : decode cX10_offers 41 = .ok (.iload 5, 2) := by decide +kernel
theorem dX10_offers_43 : decode cX10_offers 43 = .ok (.iload_n 1, 1) := by decide +kernel
theorem dX10_offers_44 : decode cX10_offers 44 = .ok (.iastore, 1) := by decide +kernel
theorem dX10_offers_45 : decode cX10_offers 45 = .ok (.aload_n 0, 1) := by decide +kernel
theorem dX10_offers_46 : decode cX10_offers 46 = .ok (.getfield 59, 3) := by decide +kernel
theorem dX10_offers_49 : decode cX10_offers 49 = .ok (.iload 5, 2) := by decide +kernel
theorem dX10_offers_51 : decode cX10_offers 51 = .ok (.fload_n 2, 1) := by decide +kernel
theorem dX10_offers_52 : decode cX10_offers 52 = .ok (.fastore, 1) := by decide +kernel
theorem dX10_offers_53 : decode cX10_offers 53 = .ok (.aload_n 0, 1) := by decide +kernel
theorem dX10_offers_54 : decode cX10_offers 54 = .ok (.getfield 65, 3) := by decide +kernel
theorem dX10_offers_57 : decode cX10_offers 57 = .ok (.iload 5, 2) := by decide +kernel
theorem dX10_offers_59 : decode cX10_offers 59 = .ok (.iload_n 3, 1) := by decide +kernel
theorem dX10_offers_60 : decode cX10_offers 60 = .ok (.iastore, 1) := by decide +kernel
theorem dX10_offers_61 : decode cX10_offers 61 = .ok (.aload_n 0, 1) := by decide +kernel
theorem dX10_offers_62 : decode cX10_offers 62 = .ok (.getfield 68, 3) := by decide +kernel
theorem dX10_offers_65 : decode cX10_offers 65 = .ok (.iload 5, 2) := by decide +kernel
theorem dX10_offers_67 : decode cX10_offers 67 = .ok (.iload 4, 2) := by decide +kernel
theorem dX10_offers_69 : decode cX10_offers 69 = .ok (.iastore, 1) := by decide +kernel
theorem dX10_offers_70 : decode cX10_offers 70 = .ok (.return_, 1) := by decide +kernel
theorem dX10_isBest_0 : decode cX10_isBest 0 = .ok (.aload_n 0, 1) := by decide +kernel
theorem dX10_isBest_1 : decode cX10_isBest 1 = .ok (.getfield 62, 3) := by decide +kernel
theorem dX10_isBest_4 : decode cX10_isBest 4 = .ok (.bipush 16, 2) := by decide +kernel
theorem dX10_isBest_6 : decode cX10_isBest 6 = .ok (.iload_n 1, 1) := by decide +kernel
theorem dX10_isBest_7 : decode cX10_isBest 7 = .ok (.imul, 1) := by decide +kernel
theorem dX10_isBest_8 : decode cX10_isBest 8 = .ok (.iload_n 2, 1) := by decide +kernel
theorem dX10_isBest_9 : decode cX10_isBest 9 = .ok (.iadd, 1) := by decide +kernel
theorem dX10_isBest_10 : decode cX10_isBest 10 = .ok (.iaload, 1) := by decide +kernel
theorem dX10_isBest_11 : decode cX10_isBest 11 = .ok (.ifCond .lt 7, 3) := by decide +kernel
theorem dX10_isBest_14 : decode cX10_isBest 14 = .ok (.iconst 1, 1) := by decide +kernel
theorem dX10_isBest_15 : decode cX10_isBest 15 = .ok (.goto 4, 3) := by decide +kernel
theorem dX10_isBest_18 : decode cX10_isBest 18 = .ok (.iconst 0, 1) := by decide +kernel
theorem dX10_isBest_19 : decode cX10_isBest 19 = .ok (.ireturn, 1) := by decide +kernel
theorem dX10_best_0 : decode cX10_best 0 = .ok (.aload_n 0, 1) := by decide +kernel
theorem dX10_best_1 : decode cX10_best 1 = .ok (.getfield 59, 3) := by decide +kernel
theorem dX10_best_4 : decode cX10_best 4 = .ok (.bipush 16, 2) := by decide +kernel
theorem dX10_best_6 : decode cX10_best 6 = .ok (.iload_n 1, 1) := by decide +kernel
theorem dX10_best_7 : decode cX10_best 7 = .ok (.imul, 1) := by decide +kernel
theorem dX10_best_8 : decode cX10_best 8 = .ok (.iload_n 2, 1) := by decide +kernel
theorem dX10_best_9 : decode cX10_best 9 = .ok (.iadd, 1) := by decide +kernel
theorem dX10_best_10 : decode cX10_best 10 = .ok (.faload, 1) := by decide +kernel
theorem dX10_best_11 : decode cX10_best 11 = .ok (.freturn, 1) := by decide +kernel
theorem dX10_joinBetween_0 : decode cX10_joinBetween 0 = .ok (.iconst 0, 1) := by decide +kernel
theorem dX10_joinBetween_1 : decode cX10_joinBetween 1 = .ok (.istore_n 3, 1) := by decide +kernel
theorem dX10_joinBetween_2 : decode cX10_joinBetween 2 = .ok (.iload_n 3, 1) := by decide +kernel
theorem dX10_joinBetween_3 : decode cX10_joinBetween 3 = .ok (.aload_n 0, 1) := by decide +kernel
theorem dX10_joinBetween_4 : decode cX10_joinBetween 4 = .ok (.getfield 192, 3) := by decide +kernel
theorem dX10_joinBetween_7 : decode cX10_joinBetween 7 = .ok (.if_icmp .ge 67, 3) := by decide +kernel
theorem dX10_joinBetween_10 : decode cX10_joinBetween 10 = .ok (.aload_n 0, 1) := by decide +kernel
theorem dX10_joinBetween_11 : decode cX10_joinBetween 11 = .ok (.getfield 34, 3) := by decide +kernel
theorem dX10_joinBetween_14 : decode cX10_joinBetween 14 = .ok (.iload_n 3, 1) := by decide +kernel
theorem dX10_joinBetween_15 : decode cX10_joinBetween 15 = .ok (.iaload, 1) := by decide +kernel
theorem dX10_joinBetween_16 : decode cX10_joinBetween 16 = .ok (.iconst 3, 1) := by decide +kernel
theorem dX10_joinBetween_17 : decode cX10_joinBetween 17 = .ok (.idiv, 1) := by decide +kernel
theorem dX10_joinBetween_18 : decode cX10_joinBetween 18 = .ok (.istore 4, 2) := by decide +kernel
theorem dX10_joinBetween_20 : decode cX10_joinBetween 20 = .ok (.aload_n 0, 1) := by decide +kernel
theorem dX10_joinBetween_21 : decode cX10_joinBetween 21 = .ok (.getfield 37, 3) := by decide +kernel
theorem dX10_joinBetween_24 : decode cX10_joinBetween 24 = .ok (.iload_n 3, 1) := by decide +kernel
theorem dX10_joinBetween_25 : decode cX10_joinBetween 25 = .ok (.iaload, 1) := by decide +kernel
theorem dX10_joinBetween_26 : decode cX10_joinBetween 26 = .ok (.iconst 3, 1) := by decide +kernel
theorem dX10_joinBetween_27 : decode cX10_joinBetween 27 = .ok (.idiv, 1) := by decide +kernel
theorem dX10_joinBetween_28 : decode cX10_joinBetween 28 = .ok (.istore 5, 2) := by decide +kernel
theorem dX10_joinBetween_30 : decode cX10_joinBetween 30 = .ok (.iload_n 1, 1) := by decide +kernel
theorem dX10_joinBetween_31 : decode cX10_joinBetween 31 = .ok (.iload 4, 2) := by decide +kernel
theorem dX10_joinBetween_33 : decode cX10_joinBetween 33 = .ok (.invokestatic 184, 3) := by decide +kernel
theorem dX10_joinBetween_36 : decode cX10_joinBetween 36 = .ok (.ifCond .eq 12, 3) := by decide +kernel
theorem dX10_joinBetween_39 : decode cX10_joinBetween 39 = .ok (.iload_n 2, 1) := by decide +kernel
theorem dX10_joinBetween_40 : decode cX10_joinBetween 40 = .ok (.iload 5, 2) := by decide +kernel
theorem dX10_joinBetween_42 : decode cX10_joinBetween 42 = .ok (.invokestatic 184, 3) := by decide +kernel
theorem dX10_joinBetween_45 : decode cX10_joinBetween 45 = .ok (.ifCond .ne 21, 3) := by decide +kernel
theorem dX10_joinBetween_48 : decode cX10_joinBetween 48 = .ok (.iload_n 1, 1) := by decide +kernel
theorem dX10_joinBetween_49 : decode cX10_joinBetween 49 = .ok (.iload 5, 2) := by decide +kernel
theorem dX10_joinBetween_51 : decode cX10_joinBetween 51 = .ok (.invokestatic 184, 3) := by decide +kernel
theorem dX10_joinBetween_54 : decode cX10_joinBetween 54 = .ok (.ifCond .eq 14, 3) := by decide +kernel
theorem dX10_joinBetween_57 : decode cX10_joinBetween 57 = .ok (.iload_n 2, 1) := by decide +kernel
theorem dX10_joinBetween_58 : decode cX10_joinBetween 58 = .ok (.iload 4, 2) := by decide +kernel
theorem dX10_joinBetween_60 : decode cX10_joinBetween 60 = .ok (.invokestatic 184, 3) := by decide +kernel
theorem dX10_joinBetween_63 : decode cX10_joinBetween 63 = .ok (.ifCond .eq 5, 3) := by decide +kernel
theorem dX10_joinBetween_66 : decode cX10_joinBetween 66 = .ok (.iload_n 3, 1) := by decide +kernel
theorem dX10_joinBetween_67 : decode cX10_joinBetween 67 = .ok (.ireturn, 1) := by decide +kernel
theorem dX10_joinBetween_68 : decode cX10_joinBetween 68 = .ok (.iinc 3 1, 3) := by decide +kernel
theorem dX10_joinBetween_71 : decode cX10_joinBetween 71 = .ok (.goto (-69), 3) := by decide +kernel
theorem dX10_joinBetween_74 : decode cX10_joinBetween 74 = .ok (.iconst (-1), 1) := by decide +kernel
theorem dX10_joinBetween_75 : decode cX10_joinBetween 75 = .ok (.ireturn, 1) := by decide +kernel
theorem dX10_placeIn_0 : decode cX10_placeIn 0 = .ok (.iload_n 2, 1) := by decide +kernel
theorem dX10_placeIn_1 : decode cX10_placeIn 1 = .ok (.aload_n 0, 1) := by decide +kernel
theorem dX10_placeIn_2 : decode cX10_placeIn 2 = .ok (.getfield 34, 3) := by decide +kernel
theorem dX10_placeIn_5 : decode cX10_placeIn 5 = .ok (.iload_n 1, 1) := by decide +kernel
theorem dX10_placeIn_6 : decode cX10_placeIn 6 = .ok (.iaload, 1) := by decide +kernel
theorem dX10_placeIn_7 : decode cX10_placeIn 7 = .ok (.iconst 3, 1) := by decide +kernel
theorem dX10_placeIn_8 : decode cX10_placeIn 8 = .ok (.idiv, 1) := by decide +kernel
theorem dX10_placeIn_9 : decode cX10_placeIn 9 = .ok (.invokestatic 184, 3) := by decide +kernel
theorem dX10_placeIn_12 : decode cX10_placeIn 12 = .ok (.ifCond .eq 12, 3) := by decide +kernel
theorem dX10_placeIn_15 : decode cX10_placeIn 15 = .ok (.aload_n 0, 1) := by decide +kernel
theorem dX10_placeIn_16 : decode cX10_placeIn 16 = .ok (.getfield 34, 3) := by decide +kernel
theorem dX10_placeIn_19 : decode cX10_placeIn 19 = .ok (.iload_n 1, 1) := by decide +kernel
theorem dX10_placeIn_20 : decode cX10_placeIn 20 = .ok (.iaload, 1) := by decide +kernel
theorem dX10_placeIn_21 : decode cX10_placeIn 21 = .ok (.goto 9, 3) := by decide +kernel
theorem dX10_placeIn_24 : decode cX10_placeIn 24 = .ok (.aload_n 0, 1) := by decide +kernel
theorem dX10_placeIn_25 : decode cX10_placeIn 25 = .ok (.getfield 37, 3) := by decide +kernel
theorem dX10_placeIn_28 : decode cX10_placeIn 28 = .ok (.iload_n 1, 1) := by decide +kernel
theorem dX10_placeIn_29 : decode cX10_placeIn 29 = .ok (.iaload, 1) := by decide +kernel
theorem dX10_placeIn_30 : decode cX10_placeIn 30 = .ok (.ireturn, 1) := by decide +kernel
theorem dX10_isPlaceIn_0 : decode cX10_isPlaceIn 0 = .ok (.iload_n 1, 1) := by decide +kernel
theorem dX10_isPlaceIn_1 : decode cX10_isPlaceIn 1 = .ok (.ifCond .le 19, 3) := by decide +kernel
theorem dX10_isPlaceIn_4 : decode cX10_isPlaceIn 4 = .ok (.iload_n 2, 1) := by decide +kernel
theorem dX10_isPlaceIn_5 : decode cX10_isPlaceIn 5 = .ok (.iload_n 1, 1) := by decide +kernel
theorem dX10_isPlaceIn_6 : decode cX10_isPlaceIn 6 = .ok (.iconst 1, 1) := by decide +kernel
theorem dX10_isPlaceIn_7 : decode cX10_isPlaceIn 7 = .ok (.isub, 1) := by decide +kernel
theorem dX10_isPlaceIn_8 : decode cX10_isPlaceIn 8 = .ok (.iconst 3, 1) := by decide +kernel
theorem dX10_isPlaceIn_9 : decode cX10_isPlaceIn 9 = .ok (.idiv, 1) := by decide +kernel
theorem dX10_isPlaceIn_10 : decode cX10_isPlaceIn 10 = .ok (.invokestatic 184, 3) := by decide +kernel
theorem dX10_isPlaceIn_13 : decode cX10_isPlaceIn 13 = .ok (.ifCond .eq 7, 3) := by decide +kernel
theorem dX10_isPlaceIn_16 : decode cX10_isPlaceIn 16 = .ok (.iconst 1, 1) := by decide +kernel
theorem dX10_isPlaceIn_17 : decode cX10_isPlaceIn 17 = .ok (.goto 4, 3) := by decide +kernel
theorem dX10_isPlaceIn_20 : decode cX10_isPlaceIn 20 = .ok (.iconst 0, 1) := by decide +kernel
theorem dX10_isPlaceIn_21 : decode cX10_isPlaceIn 21 = .ok (.ireturn, 1) := by decide +kernel
theorem dX10_offersLoop_0 : decode cX10_offersLoop 0 = .ok (.aload_n 0, 1) := by decide +kernel
theorem dX10_offersLoop_1 : decode cX10_offersLoop 1 = .ok (.getfield 207, 3) := by decide +kernel
theorem dX10_offersLoop_4 : decode cX10_offersLoop 4 = .ok (.ifCond .eq 15, 3) := by decide +kernel
theorem dX10_offersLoop_7 : decode cX10_offersLoop 7 = .ok (.aload_n 0, 1) := by decide +kernel
theorem dX10_offersLoop_8 : decode cX10_offersLoop 8 = .ok (.aload_n 0, 1) := by decide +kernel
theorem dX10_offersLoop_9 : decode cX10_offersLoop 9 = .ok (.getfield 207, 3) := by decide +kernel
theorem dX10_offersLoop_12 : decode cX10_offersLoop 12 = .ok (.iload_n 1, 1) := by decide +kernel
theorem dX10_offersLoop_13 : decode cX10_offersLoop 13 = .ok (.invokevirtual 210, 3) := by decide +kernel
theorem dX10_offersLoop_16 : decode cX10_offersLoop 16 = .ok (.ifCond .eq 7, 3) := by decide +kernel
theorem dX10_offersLoop_19 : decode cX10_offersLoop 19 = .ok (.iconst 1, 1) := by decide +kernel
theorem dX10_offersLoop_20 : decode cX10_offersLoop 20 = .ok (.goto 4, 3) := by decide +kernel
theorem dX10_offersLoop_23 : decode cX10_offersLoop 23 = .ok (.iconst 0, 1) := by decide +kernel
theorem dX10_offersLoop_24 : decode cX10_offersLoop 24 = .ok (.istore 4, 2) := by decide +kernel
theorem dX10_offersLoop_26 : decode cX10_offersLoop 26 = .ok (.iload 4, 2) := by decide +kernel
theorem dX10_offersLoop_28 : decode cX10_offersLoop 28 = .ok (.ifCond .eq 54, 3) := by decide +kernel
theorem dX10_offersLoop_31 : decode cX10_offersLoop 31 = .ok (.aload_n 0, 1) := by decide +kernel
theorem dX10_offersLoop_32 : decode cX10_offersLoop 32 = .ok (.iload_n 1, 1) := by decide +kernel
theorem dX10_offersLoop_33 : decode cX10_offersLoop 33 = .ok (.aload_n 0, 1) := by decide +kernel
theorem dX10_offersLoop_34 : decode cX10_offersLoop 34 = .ok (.getfield 207, 3) := by decide +kernel
theorem dX10_offersLoop_37 : decode cX10_offersLoop 37 = .ok (.invokevirtual 213, 3) := by decide +kernel
theorem dX10_offersLoop_40 : decode cX10_offersLoop 40 = .ok (.ifCond .eq 42, 3) := by decide +kernel
theorem dX10_offersLoop_43 : decode cX10_offersLoop 43 = .ok (.aload_n 0, 1) := by decide +kernel
theorem dX10_offersLoop_44 : decode cX10_offersLoop 44 = .ok (.iload_n 2, 1) := by decide +kernel
theorem dX10_offersLoop_45 : decode cX10_offersLoop 45 = .ok (.iconst 0, 1) := by decide +kernel
theorem dX10_offersLoop_46 : decode cX10_offersLoop 46 = .ok (.invokevirtual 213, 3) := by decide +kernel
theorem dX10_offersLoop_49 : decode cX10_offersLoop 49 = .ok (.ifCond .eq 33, 3) := by decide +kernel
theorem dX10_offersLoop_52 : decode cX10_offersLoop 52 = .ok (.aload_n 0, 1) := by decide +kernel
theorem dX10_offersLoop_53 : decode cX10_offersLoop 53 = .ok (.iconst 2, 1) := by decide +kernel
theorem dX10_offersLoop_54 : decode cX10_offersLoop 54 = .ok (.aload_n 0, 1) := by decide +kernel
theorem dX10_offersLoop_55 : decode cX10_offersLoop 55 = .ok (.iload_n 1, 1) := by decide +kernel
theorem dX10_offersLoop_56 : decode cX10_offersLoop 56 = .ok (.aload_n 0, 1) := by decide +kernel
theorem dX10_offersLoop_57 : decode cX10_offersLoop 57 = .ok (.getfield 207, 3) := by decide +kernel
theorem dX10_offersLoop_60 : decode cX10_offersLoop 60 = .ok (.invokevirtual 216, 3) := by decide +kernel
theorem dX10_offersLoop_63 : decode cX10_offersLoop 63 = .ok (.aload_n 0, 1) := by decide +kernel
theorem dX10_offersLoop_64 : decode cX10_offersLoop 64 = .ok (.getfield 55, 3) := by decide +kernel
theorem dX10_offersLoop_67 : decode cX10_offersLoop 67 = .ok (.iload_n 1, 1) := by decide +kernel
theorem dX10_offersLoop_68 : decode cX10_offersLoop 68 = .ok (.faload, 1) := by decide +kernel
theorem dX10_offersLoop_69 : decode cX10_offersLoop 69 = .ok (.aload_n 0, 1) := by decide +kernel
theorem dX10_offersLoop_70 : decode cX10_offersLoop 70 = .ok (.iload_n 2, 1) := by decide +kernel
theorem dX10_offersLoop_71 : decode cX10_offersLoop 71 = .ok (.iconst 0, 1) := by decide +kernel
theorem dX10_offersLoop_72 : decode cX10_offersLoop 72 = .ok (.invokevirtual 216, 3) := by decide +kernel
theorem dX10_offersLoop_75 : decode cX10_offersLoop 75 = .ok (.fmul, 1) := by decide +kernel
theorem dX10_offersLoop_76 : decode cX10_offersLoop 76 = .ok (.fadd, 1) := by decide +kernel
theorem dX10_offersLoop_77 : decode cX10_offersLoop 77 = .ok (.iload_n 1, 1) := by decide +kernel
theorem dX10_offersLoop_78 : decode cX10_offersLoop 78 = .ok (.iload_n 3, 1) := by decide +kernel
theorem dX10_offersLoop_79 : decode cX10_offersLoop 79 = .ok (.invokevirtual 219, 3) := by decide +kernel
theorem dX10_offersLoop_82 : decode cX10_offersLoop 82 = .ok (.return_, 1) := by decide +kernel
theorem dX10_offersMerge_0 : decode cX10_offersMerge 0 = .ok (.aload_n 0, 1) := by decide +kernel
theorem dX10_offersMerge_1 : decode cX10_offersMerge 1 = .ok (.iload_n 3, 1) := by decide +kernel
theorem dX10_offersMerge_2 : decode cX10_offersMerge 2 = .ok (.iload_n 1, 1) := by decide +kernel
theorem dX10_offersMerge_3 : decode cX10_offersMerge 3 = .ok (.invokevirtual 223, 3) := by decide +kernel
theorem dX10_offersMerge_6 : decode cX10_offersMerge 6 = .ok (.iconst 1, 1) := by decide +kernel
theorem dX10_offersMerge_7 : decode cX10_offersMerge 7 = .ok (.iadd, 1) := by decide +kernel
theorem dX10_offersMerge_8 : decode cX10_offersMerge 8 = .ok (.istore 4, 2) := by decide +kernel
theorem dX10_offersMerge_10 : decode cX10_offersMerge 10 = .ok (.aload_n 0, 1) := by decide +kernel
theorem dX10_offersMerge_11 : decode cX10_offersMerge 11 = .ok (.iload_n 3, 1) := by decide +kernel
theorem dX10_offersMerge_12 : decode cX10_offersMerge 12 = .ok (.iload_n 2, 1) := by decide +kernel
theorem dX10_offersMerge_13 : decode cX10_offersMerge 13 = .ok (.invokevirtual 223, 3) := by decide +kernel
theorem dX10_offersMerge_16 : decode cX10_offersMerge 16 = .ok (.iconst 1, 1) := by decide +kernel
theorem dX10_offersMerge_17 : decode cX10_offersMerge 17 = .ok (.iadd, 1) := by decide +kernel
theorem dX10_offersMerge_18 : decode cX10_offersMerge 18 = .ok (.istore 5, 2) := by decide +kernel
theorem dX10_offersMerge_20 : decode cX10_offersMerge 20 = .ok (.aload_n 0, 1) := by decide +kernel
theorem dX10_offersMerge_21 : decode cX10_offersMerge 21 = .ok (.getfield 207, 3) := by decide +kernel
theorem dX10_offersMerge_24 : decode cX10_offersMerge 24 = .ok (.ifCond .eq 12, 3) := by decide +kernel
theorem dX10_offersMerge_27 : decode cX10_offersMerge 27 = .ok (.aload_n 0, 1) := by decide +kernel
theorem dX10_offersMerge_28 : decode cX10_offersMerge 28 = .ok (.getfield 207, 3) := by decide +kernel
theorem dX10_offersMerge_31 : decode cX10_offersMerge 31 = .ok (.iload 4, 2) := by decide +kernel
theorem dX10_offersMerge_33 : decode cX10_offersMerge 33 = .ok (.if_icmp .ne 23, 3) := by decide +kernel
theorem dX10_offersMerge_36 : decode cX10_offersMerge 36 = .ok (.aload_n 0, 1) := by decide +kernel
theorem dX10_offersMerge_37 : decode cX10_offersMerge 37 = .ok (.iload_n 1, 1) := by decide +kernel
theorem dX10_offersMerge_38 : decode cX10_offersMerge 38 = .ok (.iload 4, 2) := by decide +kernel
theorem dX10_offersMerge_40 : decode cX10_offersMerge 40 = .ok (.invokevirtual 213, 3) := by decide +kernel
theorem dX10_offersMerge_43 : decode cX10_offersMerge 43 = .ok (.ifCond .eq 13, 3) := by decide +kernel
theorem dX10_offersMerge_46 : decode cX10_offersMerge 46 = .ok (.aload_n 0, 1) := by decide +kernel
theorem dX10_offersMerge_47 : decode cX10_offersMerge 47 = .ok (.iload_n 2, 1) := by decide +kernel
theorem dX10_offersMerge_48 : decode cX10_offersMerge 48 = .ok (.iload 5, 2) := by decide +kernel
theorem dX10_offersMerge_50 : decode cX10_offersMerge 50 = .ok (.invokevirtual 213, 3) := by decide +kernel
theorem dX10_offersMerge_53 : decode cX10_offersMerge 53 = .ok (.ifCond .ne 4, 3) := by decide +kernel
theorem dX10_offersMerge_56 : decode cX10_offersMerge 56 = .ok (.return_, 1) := by decide +kernel
theorem dX10_offersMerge_57 : decode cX10_offersMerge 57 = .ok (.aload_n 0, 1) := by decide +kernel
theorem dX10_offersMerge_58 : decode cX10_offersMerge 58 = .ok (.iconst 3, 1) := by decide +kernel
theorem dX10_offersMerge_59 : decode cX10_offersMerge 59 = .ok (.aload_n 0, 1) := by decide +kernel
theorem dX10_offersMerge_60 : decode cX10_offersMerge 60 = .ok (.iload_n 1, 1) := by decide +kernel
theorem dX10_offersMerge_61 : decode cX10_offersMerge 61 = .ok (.iload 4, 2) := by decide +kernel
theorem dX10_offersMerge_63 : decode cX10_offersMerge 63 = .ok (.invokevirtual 216, 3) := by decide +kernel
theorem dX10_offersMerge_66 : decode cX10_offersMerge 66 = .ok (.aload_n 0, 1) := by decide +kernel
theorem dX10_offersMerge_67 : decode cX10_offersMerge 67 = .ok (.iload_n 2, 1) := by decide +kernel
theorem dX10_offersMerge_68 : decode cX10_offersMerge 68 = .ok (.iload 5, 2) := by decide +kernel
theorem dX10_offersMerge_70 : decode cX10_offersMerge 70 = .ok (.invokevirtual 216, 3) := by decide +kernel
theorem dX10_offersMerge_73 : decode cX10_offersMerge 73 = .ok (.fadd, 1) := by decide +kernel
theorem dX10_offersMerge_74 : decode cX10_offersMerge 74 = .ok (.aload_n 0, 1) := by decide +kernel
theorem dX10_offersMerge_75 : decode cX10_offersMerge 75 = .ok (.getfield 55, 3) := by decide +kernel
theorem dX10_offersMerge_78 : decode cX10_offersMerge 78 = .ok (.iload_n 1, 1) := by decide +kernel
theorem dX10_offersMerge_79 : decode cX10_offersMerge 79 = .ok (.faload, 1) := by decide +kernel
theorem dX10_offersMerge_80 : decode cX10_offersMerge 80 = .ok (.aload_n 0, 1) := by decide +kernel
theorem dX10_offersMerge_81 : decode cX10_offersMerge 81 = .ok (.getfield 55, 3) := by decide +kernel
theorem dX10_offersMerge_84 : decode cX10_offersMerge 84 = .ok (.iload_n 2, 1) := by decide +kernel
theorem dX10_offersMerge_85 : decode cX10_offersMerge 85 = .ok (.faload, 1) := by decide +kernel
theorem dX10_offersMerge_86 : decode cX10_offersMerge 86 = .ok (.fadd, 1) := by decide +kernel
theorem dX10_offersMerge_87 : decode cX10_offersMerge 87 = .ok (.aload_n 0, 1) := by decide +kernel
theorem dX10_offersMerge_88 : decode cX10_offersMerge 88 = .ok (.getfield 55, 3) := by decide +kernel
theorem dX10_offersMerge_91 : decode cX10_offersMerge 91 = .ok (.aload_n 0, 1) := by decide +kernel
theorem dX10_offersMerge_92 : decode cX10_offersMerge 92 = .ok (.getfield 204, 3) := by decide +kernel
theorem dX10_offersMerge_95 : decode cX10_offersMerge 95 = .ok (.faload, 1) := by decide +kernel
theorem dX10_offersMerge_96 : decode cX10_offersMerge 96 = .ok (.fadd, 1) := by decide +kernel
theorem dX10_offersMerge_97 : decode cX10_offersMerge 97 = .ok (.fadd, 1) := by decide +kernel
theorem dX10_offersMerge_98 : decode cX10_offersMerge 98 = .ok (.iload_n 1, 1) := by decide +kernel
theorem dX10_offersMerge_99 : decode cX10_offersMerge 99 = .ok (.iload_n 3, 1) := by decide +kernel
theorem dX10_offersMerge_100 : decode cX10_offersMerge 100 = .ok (.invokevirtual 219, 3) := by decide +kernel
theorem dX10_offersMerge_103 : decode cX10_offersMerge 103 = .ok (.return_, 1) := by decide +kernel
theorem dX10_offersSplit_0 : decode cX10_offersSplit 0 = .ok (.aload_n 0, 1) := by decide +kernel
theorem dX10_offersSplit_1 : decode cX10_offersSplit 1 = .ok (.getfield 204, 3) := by decide +kernel
theorem dX10_offersSplit_4 : decode cX10_offersSplit 4 = .ok (.iload_n 1, 1) := by decide +kernel
theorem dX10_offersSplit_5 : decode cX10_offersSplit 5 = .ok (.iconst (-1), 1) := by decide +kernel
theorem dX10_offersSplit_6 : decode cX10_offersSplit 6 = .ok (.ixor, 1) := by decide +kernel
theorem dX10_offersSplit_7 : decode cX10_offersSplit 7 = .ok (.iand, 1) := by decide +kernel
theorem dX10_offersSplit_8 : decode cX10_offersSplit 8 = .ok (.istore_n 2, 1) := by decide +kernel
theorem dX10_offersSplit_9 : decode cX10_offersSplit 9 = .ok (.aload_n 0, 1) := by decide +kernel
theorem dX10_offersSplit_10 : decode cX10_offersSplit 10 = .ok (.iload_n 1, 1) := by decide +kernel
theorem dX10_offersSplit_11 : decode cX10_offersSplit 11 = .ok (.iload_n 2, 1) := by decide +kernel
theorem dX10_offersSplit_12 : decode cX10_offersSplit 12 = .ok (.invokevirtual 226, 3) := by decide +kernel
theorem dX10_offersSplit_15 : decode cX10_offersSplit 15 = .ok (.istore_n 3, 1) := by decide +kernel
theorem dX10_offersSplit_16 : decode cX10_offersSplit 16 = .ok (.iload_n 3, 1) := by decide +kernel
theorem dX10_offersSplit_17 : decode cX10_offersSplit 17 = .ok (.ifCond .ge 4, 3) := by decide +kernel
theorem dX10_offersSplit_20 : decode cX10_offersSplit 20 = .ok (.return_, 1) := by decide +kernel
theorem dX10_offersSplit_21 : decode cX10_offersSplit 21 = .ok (.aload_n 0, 1) := by decide +kernel
theorem dX10_offersSplit_22 : decode cX10_offersSplit 22 = .ok (.getfield 207, 3) := by decide +kernel
theorem dX10_offersSplit_25 : decode cX10_offersSplit 25 = .ok (.ifCond .ne 67, 3) := by decide +kernel
theorem dX10_offersSplit_28 : decode cX10_offersSplit 28 = .ok (.aload_n 0, 1) := by decide +kernel
theorem dX10_offersSplit_29 : decode cX10_offersSplit 29 = .ok (.iload_n 1, 1) := by decide +kernel
theorem dX10_offersSplit_30 : decode cX10_offersSplit 30 = .ok (.iconst 0, 1) := by decide +kernel
theorem dX10_offersSplit_31 : decode cX10_offersSplit 31 = .ok (.invokevirtual 213, 3) := by decide +kernel
theorem dX10_offersSplit_34 : decode cX10_offersSplit 34 = .ok (.ifCond .eq 58, 3) := by decide +kernel
theorem dX10_offersSplit_37 : decode cX10_offersSplit 37 = .ok (.aload_n 0, 1) := by decide +kernel
theorem dX10_offersSplit_38 : decode cX10_offersSplit 38 = .ok (.iload_n 2, 1) := by decide +kernel
theorem dX10_offersSplit_39 : decode cX10_offersSplit 39 = .ok (.iconst 0, 1) := by decide +kernel
theorem dX10_offersSplit_40 : decode cX10_offersSplit 40 = .ok (.invokevirtual 213, 3) := by decide +kernel
theorem dX10_offersSplit_43 : decode cX10_offersSplit 43 = .ok (.ifCond .eq 49, 3) := by decide +kernel
theorem dX10_offersSplit_46 : decode cX10_offersSplit 46 = .ok (.aload_n 0, 1) := by decide +kernel
theorem dX10_offersSplit_47 : decode cX10_offersSplit 47 = .ok (.iconst 1, 1) := by decide +kernel
theorem dX10_offersSplit_48 : decode cX10_offersSplit 48 = .ok (.aload_n 0, 1) := by decide +kernel
theorem dX10_offersSplit_49 : decode cX10_offersSplit 49 = .ok (.iload_n 1, 1) := by decide +kernel
theorem dX10_offersSplit_50 : decode cX10_offersSplit 50 = .ok (.iconst 0, 1) := by decide +kernel
theorem dX10_offersSplit_51 : decode cX10_offersSplit 51 = .ok (.invokevirtual 216, 3) := by decide +kernel
theorem dX10_offersSplit_54 : decode cX10_offersSplit 54 = .ok (.aload_n 0, 1) := by decide +kernel
theorem dX10_offersSplit_55 : decode cX10_offersSplit 55 = .ok (.iload_n 2, 1) := by decide +kernel
theorem dX10_offersSplit_56 : decode cX10_offersSplit 56 = .ok (.iconst 0, 1) := by decide +kernel
theorem dX10_offersSplit_57 : decode cX10_offersSplit 57 = .ok (.invokevirtual 216, 3) := by decide +kernel
theorem dX10_offersSplit_60 : decode cX10_offersSplit 60 = .ok (.fadd, 1) := by decide +kernel
theorem dX10_offersSplit_61 : decode cX10_offersSplit 61 = .ok (.aload_n 0, 1) := by decide +kernel
theorem dX10_offersSplit_62 : decode cX10_offersSplit 62 = .ok (.getfield 55, 3) := by decide +kernel
theorem dX10_offersSplit_65 : decode cX10_offersSplit 65 = .ok (.iload_n 1, 1) := by decide +kernel
theorem dX10_offersSplit_66 : decode cX10_offersSplit 66 = .ok (.faload, 1) := by decide +kernel
theorem dX10_offersSplit_67 : decode cX10_offersSplit 67 = .ok (.fconst 2, 1) := by decide +kernel
theorem dX10_offersSplit_68 : decode cX10_offersSplit 68 = .ok (.aload_n 0, 1) := by decide +kernel
theorem dX10_offersSplit_69 : decode cX10_offersSplit 69 = .ok (.getfield 55, 3) := by decide +kernel
theorem dX10_offersSplit_72 : decode cX10_offersSplit 72 = .ok (.iload_n 2, 1) := by decide +kernel
theorem dX10_offersSplit_73 : decode cX10_offersSplit 73 = .ok (.faload, 1) := by decide +kernel
theorem dX10_offersSplit_74 : decode cX10_offersSplit 74 = .ok (.fmul, 1) := by decide +kernel
theorem dX10_offersSplit_75 : decode cX10_offersSplit 75 = .ok (.fadd, 1) := by decide +kernel
theorem dX10_offersSplit_76 : decode cX10_offersSplit 76 = .ok (.aload_n 0, 1) := by decide +kernel
theorem dX10_offersSplit_77 : decode cX10_offersSplit 77 = .ok (.getfield 55, 3) := by decide +kernel
theorem dX10_offersSplit_80 : decode cX10_offersSplit 80 = .ok (.aload_n 0, 1) := by decide +kernel
theorem dX10_offersSplit_81 : decode cX10_offersSplit 81 = .ok (.getfield 204, 3) := by decide +kernel
theorem dX10_offersSplit_84 : decode cX10_offersSplit 84 = .ok (.faload, 1) := by decide +kernel
theorem dX10_offersSplit_85 : decode cX10_offersSplit 85 = .ok (.fadd, 1) := by decide +kernel
theorem dX10_offersSplit_86 : decode cX10_offersSplit 86 = .ok (.fadd, 1) := by decide +kernel
theorem dX10_offersSplit_87 : decode cX10_offersSplit 87 = .ok (.iload_n 1, 1) := by decide +kernel
theorem dX10_offersSplit_88 : decode cX10_offersSplit 88 = .ok (.iload_n 3, 1) := by decide +kernel
theorem dX10_offersSplit_89 : decode cX10_offersSplit 89 = .ok (.invokevirtual 219, 3) := by decide +kernel
theorem dX10_offersSplit_92 : decode cX10_offersSplit 92 = .ok (.aload_n 0, 1) := by decide +kernel
theorem dX10_offersSplit_93 : decode cX10_offersSplit 93 = .ok (.iload_n 1, 1) := by decide +kernel
theorem dX10_offersSplit_94 : decode cX10_offersSplit 94 = .ok (.iload_n 2, 1) := by decide +kernel
theorem dX10_offersSplit_95 : decode cX10_offersSplit 95 = .ok (.iload_n 3, 1) := by decide +kernel
theorem dX10_offersSplit_96 : decode cX10_offersSplit 96 = .ok (.invokevirtual 229, 3) := by decide +kernel
theorem dX10_offersSplit_99 : decode cX10_offersSplit 99 = .ok (.aload_n 0, 1) := by decide +kernel
theorem dX10_offersSplit_100 : decode cX10_offersSplit 100 = .ok (.iload_n 1, 1) := by decide +kernel
theorem dX10_offersSplit_101 : decode cX10_offersSplit 101 = .ok (.iload_n 2, 1) := by decide +kernel
theorem dX10_offersSplit_102 : decode cX10_offersSplit 102 = .ok (.iload_n 3, 1) := by decide +kernel
theorem dX10_offersSplit_103 : decode cX10_offersSplit 103 = .ok (.invokevirtual 233, 3) := by decide +kernel
theorem dX10_offersSplit_106 : decode cX10_offersSplit 106 = .ok (.return_, 1) := by decide +kernel
theorem dX10_onlyOf_0 : decode cX10_onlyOf 0 = .ok (.iconst 0, 1) := by decide +kernel
theorem dX10_onlyOf_1 : decode cX10_onlyOf 1 = .ok (.istore_n 1, 1) := by decide +kernel
theorem dX10_onlyOf_2 : decode cX10_onlyOf 2 = .ok (.iload_n 1, 1) := by decide +kernel
theorem dX10_onlyOf_3 : decode cX10_onlyOf 3 = .ok (.iconst 5, 1) := by decide +kernel
theorem dX10_onlyOf_4 : decode cX10_onlyOf 4 = .ok (.if_icmp .ge 18, 3) := by decide +kernel
theorem dX10_onlyOf_7 : decode cX10_onlyOf 7 = .ok (.iload_n 0, 1) := by decide +kernel
theorem dX10_onlyOf_8 : decode cX10_onlyOf 8 = .ok (.iconst 1, 1) := by decide +kernel
theorem dX10_onlyOf_9 : decode cX10_onlyOf 9 = .ok (.iload_n 1, 1) := by decide +kernel
theorem dX10_onlyOf_10 : decode cX10_onlyOf 10 = .ok (.ishl, 1) := by decide +kernel
theorem dX10_onlyOf_11 : decode cX10_onlyOf 11 = .ok (.if_icmp .ne 5, 3) := by decide +kernel
theorem dX10_onlyOf_14 : decode cX10_onlyOf 14 = .ok (.iload_n 1, 1) := by decide +kernel
theorem dX10_onlyOf_15 : decode cX10_onlyOf 15 = .ok (.ireturn, 1) := by decide +kernel
theorem dX10_onlyOf_16 : decode cX10_onlyOf 16 = .ok (.iinc 1 1, 3) := by decide +kernel
theorem dX10_onlyOf_19 : decode cX10_onlyOf 19 = .ok (.goto (-17), 3) := by decide +kernel
theorem dX10_onlyOf_22 : decode cX10_onlyOf 22 = .ok (.iconst (-1), 1) := by decide +kernel
theorem dX10_onlyOf_23 : decode cX10_onlyOf 23 = .ok (.ireturn, 1) := by decide +kernel
theorem dX10_offersAll_0 : decode cX10_offersAll 0 = .ok (.aload_n 0, 1) := by decide +kernel
theorem dX10_offersAll_1 : decode cX10_offersAll 1 = .ok (.getfield 204, 3) := by decide +kernel
theorem dX10_offersAll_4 : decode cX10_offersAll 4 = .ok (.invokestatic 236, 3) := by decide +kernel
theorem dX10_offersAll_7 : decode cX10_offersAll 7 = .ok (.istore_n 1, 1) := by decide +kernel
theorem dX10_offersAll_8 : decode cX10_offersAll 8 = .ok (.iload_n 1, 1) := by decide +kernel
theorem dX10_offersAll_9 : decode cX10_offersAll 9 = .ok (.ifCond .lt 61, 3) := by decide +kernel
theorem dX10_offersAll_12 : decode cX10_offersAll 12 = .ok (.aload_n 0, 1) := by decide +kernel
theorem dX10_offersAll_13 : decode cX10_offersAll 13 = .ok (.getfield 22, 3) := by decide +kernel
theorem dX10_offersAll_16 : decode cX10_offersAll 16 = .ok (.iload_n 1, 1) := by decide +kernel
theorem dX10_offersAll_17 : decode cX10_offersAll 17 = .ok (.iaload, 1) := by decide +kernel
theorem dX10_offersAll_18 : decode cX10_offersAll 18 = .ok (.ifCond .ge 7, 3) := by decide +kernel
theorem dX10_offersAll_21 : decode cX10_offersAll 21 = .ok (.iconst 0, 1) := by decide +kernel
theorem dX10_offersAll_22 : decode cX10_offersAll 22 = .ok (.goto 15, 3) := by decide +kernel
theorem dX10_offersAll_25 : decode cX10_offersAll 25 = .ok (.iconst 3, 1) := by decide +kernel
theorem dX10_offersAll_26 : decode cX10_offersAll 26 = .ok (.iload_n 1, 1) := by decide +kernel
theorem dX10_offersAll_27 : decode cX10_offersAll 27 = .ok (.imul, 1) := by decide +kernel
theorem dX10_offersAll_28 : decode cX10_offersAll 28 = .ok (.aload_n 0, 1) := by decide +kernel
theorem dX10_offersAll_29 : decode cX10_offersAll 29 = .ok (.getfield 22, 3) := by decide +kernel
theorem dX10_offersAll_32 : decode cX10_offersAll 32 = .ok (.iload_n 1, 1) := by decide +kernel
theorem dX10_offersAll_33 : decode cX10_offersAll 33 = .ok (.iaload, 1) := by decide +kernel
theorem dX10_offersAll_34 : decode cX10_offersAll 34 = .ok (.iadd, 1) := by decide +kernel
theorem dX10_offersAll_35 : decode cX10_offersAll 35 = .ok (.iconst 1, 1) := by decide +kernel
theorem dX10_offersAll_36 : decode cX10_offersAll 36 = .ok (.iadd, 1) := by decide +kernel
theorem dX10_offersAll_37 : decode cX10_offersAll 37 = .ok (.istore_n 2, 1) := by decide +kernel
theorem dX10_offersAll_38 : decode cX10_offersAll 38 = .ok (.aload_n 0, 1) := by decide +kernel
theorem dX10_offersAll_39 : decode cX10_offersAll 39 = .ok (.getfield 207, 3) := by decide +kernel
theorem dX10_offersAll_42 : decode cX10_offersAll 42 = .ok (.ifCond .eq 11, 3) := by decide +kernel
theorem dX10_offersAll_45 : decode cX10_offersAll 45 = .ok (.aload_n 0, 1) := by decide +kernel
theorem dX10_offersAll_46 : decode cX10_offersAll 46 = .ok (.getfield 207, 3) := by decide +kernel
theorem dX10_offersAll_49 : decode cX10_offersAll 49 = .ok (.iload_n 2, 1) := by decide +kernel
theorem dX10_offersAll_50 : decode cX10_offersAll 50 = .ok (.if_icmp .ne 17, 3) := by decide +kernel
theorem dX10_offersAll_53 : decode cX10_offersAll 53 = .ok (.aload_n 0, 1) := by decide +kernel
theorem dX10_offersAll_54 : decode cX10_offersAll 54 = .ok (.iconst 0, 1) := by decide +kernel
theorem dX10_offersAll_55 : decode cX10_offersAll 55 = .ok (.aload_n 0, 1) := by decide +kernel
theorem dX10_offersAll_56 : decode cX10_offersAll 56 = .ok (.getfield 13, 3) := by decide +kernel
theorem dX10_offersAll_59 : decode cX10_offersAll 59 = .ok (.iload_n 1, 1) := by decide +kernel
theorem dX10_offersAll_60 : decode cX10_offersAll 60 = .ok (.iaload, 1) := by decide +kernel
theorem dX10_offersAll_61 : decode cX10_offersAll 61 = .ok (.i2f, 1) := by decide +kernel
theorem dX10_offersAll_62 : decode cX10_offersAll 62 = .ok (.iconst 0, 1) := by decide +kernel
theorem dX10_offersAll_63 : decode cX10_offersAll 63 = .ok (.iconst (-1), 1) := by decide +kernel
theorem dX10_offersAll_64 : decode cX10_offersAll 64 = .ok (.invokevirtual 219, 3) := by decide +kernel
theorem dX10_offersAll_67 : decode cX10_offersAll 67 = .ok (.goto 35, 3) := by decide +kernel
theorem dX10_offersAll_70 : decode cX10_offersAll 70 = .ok (.iconst 1, 1) := by decide +kernel
theorem dX10_offersAll_71 : decode cX10_offersAll 71 = .ok (.istore_n 2, 1) := by decide +kernel
theorem dX10_offersAll_72 : decode cX10_offersAll 72 = .ok (.iload_n 2, 1) := by decide +kernel
theorem dX10_offersAll_73 : decode cX10_offersAll 73 = .ok (.aload_n 0, 1) := by decide +kernel
theorem dX10_offersAll_74 : decode cX10_offersAll 74 = .ok (.getfield 204, 3) := by decide +kernel
theorem dX10_offersAll_77 : decode cX10_offersAll 77 = .ok (.if_icmp .ge 25, 3) := by decide +kernel
theorem dX10_offersAll_80 : decode cX10_offersAll 80 = .ok (.iload_n 2, 1) := by decide +kernel
theorem dX10_offersAll_81 : decode cX10_offersAll 81 = .ok (.aload_n 0, 1) := by decide +kernel
theorem dX10_offersAll_82 : decode cX10_offersAll 82 = .ok (.getfield 204, 3) := by decide +kernel
theorem dX10_offersAll_85 : decode cX10_offersAll 85 = .ok (.iconst (-1), 1) := by decide +kernel
theorem dX10_offersAll_86 : decode cX10_offersAll 86 = .ok (.ixor, 1) := by decide +kernel
theorem dX10_offersAll_87 : decode cX10_offersAll 87 = .ok (.iand, 1) := by decide +kernel
theorem dX10_offersAll_88 : decode cX10_offersAll 88 = .ok (.ifCond .ne 8, 3) := by decide +kernel
theorem dX10_offersAll_91 : decode cX10_offersAll 91 = .ok (.aload_n 0, 1) := by decide +kernel
theorem dX10_offersAll_92 : decode cX10_offersAll 92 = .ok (.iload_n 2, 1) := by decide +kernel
theorem dX10_offersAll_93 : decode cX10_offersAll 93 = .ok (.invokevirtual 239, 3) := by decide +kernel
theorem dX10_offersAll_96 : decode cX10_offersAll 96 = .ok (.iinc 2 1, 3) := by decide +kernel
theorem dX10_offersAll_99 : decode cX10_offersAll 99 = .ok (.goto (-27), 3) := by decide +kernel
theorem dX10_offersAll_102 : decode cX10_offersAll 102 = .ok (.aload_n 0, 1) := by decide +kernel
theorem dX10_offersAll_103 : decode cX10_offersAll 103 = .ok (.aload_n 0, 1) := by decide +kernel
theorem dX10_offersAll_104 : decode cX10_offersAll 104 = .ok (.getfield 207, 3) := by decide +kernel
theorem dX10_offersAll_107 : decode cX10_offersAll 107 = .ok (.aload_n 0, 1) := by decide +kernel
theorem dX10_offersAll_108 : decode cX10_offersAll 108 = .ok (.getfield 204, 3) := by decide +kernel
theorem dX10_offersAll_111 : decode cX10_offersAll 111 = .ok (.invokevirtual 210, 3) := by decide +kernel
theorem dX10_offersAll_114 : decode cX10_offersAll 114 = .ok (.ifCond .eq 40, 3) := by decide +kernel
theorem dX10_offersAll_117 : decode cX10_offersAll 117 = .ok (.aload_n 0, 1) := by decide +kernel
theorem dX10_offersAll_118 : decode cX10_offersAll 118 = .ok (.aload_n 0, 1) := by decide +kernel
theorem dX10_offersAll_119 : decode cX10_offersAll 119 = .ok (.getfield 204, 3) := by decide +kernel
theorem dX10_offersAll_122 : decode cX10_offersAll 122 = .ok (.iconst 0, 1) := by decide +kernel
theorem dX10_offersAll_123 : decode cX10_offersAll 123 = .ok (.invokevirtual 213, 3) := by decide +kernel
theorem dX10_offersAll_126 : decode cX10_offersAll 126 = .ok (.ifCond .eq 28, 3) := by decide +kernel
theorem dX10_offersAll_129 : decode cX10_offersAll 129 = .ok (.aload_n 0, 1) := by decide +kernel
theorem dX10_offersAll_130 : decode cX10_offersAll 130 = .ok (.iconst 4, 1) := by decide +kernel
theorem dX10_offersAll_131 : decode cX10_offersAll 131 = .ok (.aload_n 0, 1) := by decide +kernel
theorem dX10_offersAll_132 : decode cX10_offersAll 132 = .ok (.aload_n 0, 1) := by decide +kernel
theorem dX10_offersAll_133 : decode cX10_offersAll 133 = .ok (.getfield 204, 3) := by decide +kernel
theorem dX10_offersAll_136 : decode cX10_offersAll 136 = .ok (.iconst 0, 1) := by decide +kernel
theorem dX10_offersAll_137 : decode cX10_offersAll 137 = .ok (.invokevirtual 216, 3) := by decide +kernel
theorem dX10_offersAll_140 : decode cX10_offersAll 140 = .ok (.aload_n 0, 1) := by decide +kernel
theorem dX10_offersAll_141 : decode cX10_offersAll 141 = .ok (.aload_n 0, 1) := by decide +kernel
theorem dX10_offersAll_142 : decode cX10_offersAll 142 = .ok (.getfield 204, 3) := by decide +kernel
theorem dX10_offersAll_145 : decode cX10_offersAll 145 = .ok (.invokevirtual 242, 3) := by decide +kernel
theorem dX10_offersAll_148 : decode cX10_offersAll 148 = .ok (.fadd, 1) := by decide +kernel
theorem dX10_offersAll_149 : decode cX10_offersAll 149 = .ok (.iconst 0, 1) := by decide +kernel
theorem dX10_offersAll_150 : decode cX10_offersAll 150 = .ok (.iconst (-1), 1) := by decide +kernel
theorem dX10_offersAll_151 : decode cX10_offersAll 151 = .ok (.invokevirtual 219, 3) := by decide +kernel
theorem dX10_offersAll_154 : decode cX10_offersAll 154 = .ok (.return_, 1) := by decide +kernel
theorem dX10_findBest_0 : decode cX10_findBest 0 = .ok (.iconst 0, 1) := by decide +kernel
theorem dX10_findBest_1 : decode cX10_findBest 1 = .ok (.istore_n 1, 1) := by decide +kernel
theorem dX10_findBest_2 : decode cX10_findBest 2 = .ok (.iload_n 1, 1) := by decide +kernel
theorem dX10_findBest_3 : decode cX10_findBest 3 = .ok (.sipush 512, 3) := by decide +kernel
theorem dX10_findBest_6 : decode cX10_findBest 6 = .ok (.if_icmp .ge 16, 3) := by decide +kernel
theorem dX10_findBest_9 : decode cX10_findBest 9 = .ok (.aload_n 0, 1) := by decide +kernel
theorem dX10_findBest_10 : decode cX10_findBest 10 = .ok (.getfield 62, 3) := by decide +kernel
theorem dX10_findBest_13 : decode cX10_findBest 13 = .ok (.iload_n 1, 1) := by decide +kernel
theorem dX10_findBest_14 : decode cX10_findBest 14 = .ok (.iconst (-1), 1) := by decide +kernel
theorem dX10_findBest_15 : decode cX10_findBest 15 = .ok (.iastore, 1) := by decide +kernel
theorem dX10_findBest_16 : decode cX10_findBest 16 = .ok (.iinc 1 1, 3) := by decide +kernel
theorem dX10_findBest_19 : decode cX10_findBest 19 = .ok (.goto (-17), 3) := by decide +kernel
theorem dX10_findBest_22 : decode cX10_findBest 22 = .ok (.iconst 1, 1) := by decide +kernel
theorem dX10_findBest_23 : decode cX10_findBest 23 = .ok (.istore_n 1, 1) := by decide +kernel
theorem dX10_findBest_24 : decode cX10_findBest 24 = .ok (.iload_n 1, 1) := by decide +kernel
theorem dX10_findBest_25 : decode cX10_findBest 25 = .ok (.bipush 31, 2) := by decide +kernel
theorem dX10_findBest_27 : decode cX10_findBest 27 = .ok (.if_icmp .gt 20, 3) := by decide +kernel
theorem dX10_findBest_30 : decode cX10_findBest 30 = .ok (.aload_n 0, 1) := by decide +kernel
theorem dX10_findBest_31 : decode cX10_findBest 31 = .ok (.getfield 55, 3) := by decide +kernel
theorem dX10_findBest_34 : decode cX10_findBest 34 = .ok (.iload_n 1, 1) := by decide +kernel
theorem dX10_findBest_35 : decode cX10_findBest 35 = .ok (.aload_n 0, 1) := by decide +kernel
theorem dX10_findBest_36 : decode cX10_findBest 36 = .ok (.iload_n 1, 1) := by decide +kernel
theorem dX10_findBest_37 : decode cX10_findBest 37 = .ok (.invokevirtual 201, 3) := by decide +kernel
theorem dX10_findBest_40 : decode cX10_findBest 40 = .ok (.fastore, 1) := by decide +kernel
theorem dX10_findBest_41 : decode cX10_findBest 41 = .ok (.iinc 1 1, 3) := by decide +kernel
theorem dX10_findBest_44 : decode cX10_findBest 44 = .ok (.goto (-20), 3) := by decide +kernel
theorem dX10_findBest_47 : decode cX10_findBest 47 = .ok (.aload_n 0, 1) := by decide +kernel
theorem dX10_findBest_48 : decode cX10_findBest 48 = .ok (.iconst 1, 1) := by decide +kernel
theorem dX10_findBest_49 : decode cX10_findBest 49 = .ok (.putfield 204, 3) := by decide +kernel
theorem dX10_findBest_52 : decode cX10_findBest 52 = .ok (.aload_n 0, 1) := by decide +kernel
theorem dX10_findBest_53 : decode cX10_findBest 53 = .ok (.getfield 204, 3) := by decide +kernel
theorem dX10_findBest_56 : decode cX10_findBest 56 = .ok (.bipush 31, 2) := by decide +kernel
theorem dX10_findBest_58 : decode cX10_findBest 58 = .ok (.if_icmp .gt 47, 3) := by decide +kernel
theorem dX10_findBest_61 : decode cX10_findBest 61 = .ok (.aload_n 0, 1) := by decide +kernel
theorem dX10_findBest_62 : decode cX10_findBest 62 = .ok (.iconst 0, 1) := by decide +kernel
theorem dX10_findBest_63 : decode cX10_findBest 63 = .ok (.putfield 207, 3) := by decide +kernel
theorem dX10_findBest_66 : decode cX10_findBest 66 = .ok (.aload_n 0, 1) := by decide +kernel
theorem dX10_findBest_67 : decode cX10_findBest 67 = .ok (.getfield 207, 3) := by decide +kernel
theorem dX10_findBest_70 : decode cX10_findBest 70 = .ok (.bipush 16, 2) := by decide +kernel
theorem dX10_findBest_72 : decode cX10_findBest 72 = .ok (.if_icmp .ge 20, 3) := by decide +kernel
theorem dX10_findBest_75 : decode cX10_findBest 75 = .ok (.aload_n 0, 1) := by decide +kernel
theorem dX10_findBest_76 : decode cX10_findBest 76 = .ok (.invokevirtual 245, 3) := by decide +kernel
theorem dX10_findBest_79 : decode cX10_findBest 79 = .ok (.aload_n 0, 1) := by decide +kernel
theorem dX10_findBest_80 : decode cX10_findBest 80 = .ok (.dup, 1) := by decide +kernel
theorem dX10_findBest_81 : decode cX10_findBest 81 = .ok (.getfield 207, 3) := by decide +kernel
theorem dX10_findBest_84 : decode cX10_findBest 84 = .ok (.iconst 1, 1) := by decide +kernel
theorem dX10_findBest_85 : decode cX10_findBest 85 = .ok (.iadd, 1) := by decide +kernel
theorem dX10_findBest_86 : decode cX10_findBest 86 = .ok (.putfield 207, 3) := by decide +kernel
theorem dX10_findBest_89 : decode cX10_findBest 89 = .ok (.goto (-23), 3) := by decide +kernel
theorem dX10_findBest_92 : decode cX10_findBest 92 = .ok (.aload_n 0, 1) := by decide +kernel
theorem dX10_findBest_93 : decode cX10_findBest 93 = .ok (.dup, 1) := by decide +kernel
theorem dX10_findBest_94 : decode cX10_findBest 94 = .ok (.getfield 204, 3) := by decide +kernel
theorem dX10_findBest_97 : decode cX10_findBest 97 = .ok (.iconst 1, 1) := by decide +kernel
theorem dX10_findBest_98 : decode cX10_findBest 98 = .ok (.iadd, 1) := by decide +kernel
theorem dX10_findBest_99 : decode cX10_findBest 99 = .ok (.putfield 204, 3) := by decide +kernel
theorem dX10_findBest_102 : decode cX10_findBest 102 = .ok (.goto (-50), 3) := by decide +kernel
theorem dX10_findBest_105 : decode cX10_findBest 105 = .ok (.return_, 1) := by decide +kernel
theorem dX10_opens_0 : decode cX10_opens 0 = .ok (.aload_n 0, 1) := by decide +kernel
theorem dX10_opens_1 : decode cX10_opens 1 = .ok (.getfield 92, 3) := by decide +kernel
theorem dX10_opens_4 : decode cX10_opens 4 = .ok (.aload_n 0, 1) := by decide +kernel
theorem dX10_opens_5 : decode cX10_opens 5 = .ok (.getfield 248, 3) := by decide +kernel
theorem dX10_opens_8 : decode cX10_opens 8 = .ok (.iload_n 1, 1) := by decide +kernel
theorem dX10_opens_9 : decode cX10_opens 9 = .ok (.iastore, 1) := by decide +kernel
theorem dX10_opens_10 : decode cX10_opens 10 = .ok (.aload_n 0, 1) := by decide +kernel
theorem dX10_opens_11 : decode cX10_opens 11 = .ok (.getfield 95, 3) := by decide +kernel
theorem dX10_opens_14 : decode cX10_opens 14 = .ok (.aload_n 0, 1) := by decide +kernel
theorem dX10_opens_15 : decode cX10_opens 15 = .ok (.getfield 248, 3) := by decide +kernel
theorem dX10_opens_18 : decode cX10_opens 18 = .ok (.iload_n 2, 1) := by decide +kernel
theorem dX10_opens_19 : decode cX10_opens 19 = .ok (.iastore, 1) := by decide +kernel
theorem dX10_opens_20 : decode cX10_opens 20 = .ok (.aload_n 0, 1) := by decide +kernel
theorem dX10_opens_21 : decode cX10_opens 21 = .ok (.dup, 1) := by decide +kernel
theorem dX10_opens_22 : decode cX10_opens 22 = .ok (.getfield 248, 3) := by decide +kernel
theorem dX10_opens_25 : decode cX10_opens 25 = .ok (.iconst 1, 1) := by decide +kernel
theorem dX10_opens_26 : decode cX10_opens 26 = .ok (.iadd, 1) := by decide +kernel
theorem dX10_opens_27 : decode cX10_opens 27 = .ok (.putfield 248, 3) := by decide +kernel
theorem dX10_opens_30 : decode cX10_opens 30 = .ok (.return_, 1) := by decide +kernel
theorem dX10_opensBelow_0 : decode cX10_opensBelow 0 = .ok (.iload_n 1, 1) := by decide +kernel
theorem dX10_opensBelow_1 : decode cX10_opensBelow 1 = .ok (.bipush 16, 2) := by decide +kernel
theorem dX10_opensBelow_3 : decode cX10_opensBelow 3 = .ok (.idiv, 1) := by decide +kernel
theorem dX10_opensBelow_4 : decode cX10_opensBelow 4 = .ok (.istore_n 2, 1) := by decide +kernel
theorem dX10_opensBelow_5 : decode cX10_opensBelow 5 = .ok (.iload_n 1, 1) := by decide +kernel
theorem dX10_opensBelow_6 : decode cX10_opensBelow 6 = .ok (.bipush 16, 2) := by decide +kernel
theorem dX10_opensBelow_8 : decode cX10_opensBelow 8 = .ok (.irem, 1) := by decide +kernel
theorem dX10_opensBelow_9 : decode cX10_opensBelow 9 = .ok (.istore_n 3, 1) := by decide +kernel
theorem dX10_opensBelow_10 : decode cX10_opensBelow 10 = .ok (.aload_n 0, 1) := by decide +kernel
theorem dX10_opensBelow_11 : decode cX10_opensBelow 11 = .ok (.getfield 65, 3) := by decide +kernel
theorem dX10_opensBelow_14 : decode cX10_opensBelow 14 = .ok (.iload_n 1, 1) := by decide +kernel
theorem dX10_opensBelow_15 : decode cX10_opensBelow 15 = .ok (.iaload, 1) := by decide +kernel
theorem dX10_opensBelow_16 : decode cX10_opensBelow 16 = .ok (.istore 4, 2) := by decide +kernel
theorem dX10_opensBelow_18 : decode cX10_opensBelow 18 = .ok (.iload_n 2, 1) := by decide +kernel
theorem dX10_opensBelow_19 : decode cX10_opensBelow 19 = .ok (.iload 4, 2) := by decide +kernel
theorem dX10_opensBelow_21 : decode cX10_opensBelow 21 = .ok (.iconst (-1), 1) := by decide +kernel
theorem dX10_opensBelow_22 : decode cX10_opensBelow 22 = .ok (.ixor, 1) := by decide +kernel
theorem dX10_opensBelow_23 : decode cX10_opensBelow 23 = .ok (.iand, 1) := by decide +kernel
theorem dX10_opensBelow_24 : decode cX10_opensBelow 24 = .ok (.istore 5, 2) := by decide +kernel
theorem dX10_opensBelow_26 : decode cX10_opensBelow 26 = .ok (.aload_n 0, 1) := by decide +kernel
theorem dX10_opensBelow_27 : decode cX10_opensBelow 27 = .ok (.getfield 68, 3) := by decide +kernel
theorem dX10_opensBelow_30 : decode cX10_opensBelow 30 = .ok (.iload_n 1, 1) := by decide +kernel
theorem dX10_opensBelow_31 : decode cX10_opensBelow 31 = .ok (.iaload, 1) := by decide +kernel
theorem dX10_opensBelow_32 : decode cX10_opensBelow 32 = .ok (.istore 6, 2) := by decide +kernel
theorem dX10_opensBelow_34 : decode cX10_opensBelow 34 = .ok (.aload_n 0, 1) := by decide +kernel
theorem dX10_opensBelow_35 : decode cX10_opensBelow 35 = .ok (.getfield 62, 3) := by decide +kernel
theorem dX10_opensBelow_38 : decode cX10_opensBelow 38 = .ok (.iload_n 1, 1) := by decide +kernel
theorem dX10_opensBelow_39 : decode cX10_opensBelow 39 = .ok (.iaload, 1) := by decide +kernel
theorem dX10_opensBelow_40 : decode cX10_opensBelow 40 = .ok (.tableswitch 110 1 4 #[32, 49, 66, 101], 32) := by decide +kernel
theorem dX10_opensBelow_72 : decode cX10_opensBelow 72 = .ok (.aload_n 0, 1) := by decide +kernel
theorem dX10_opensBelow_73 : decode cX10_opensBelow 73 = .ok (.iload 5, 2) := by decide +kernel
theorem dX10_opensBelow_75 : decode cX10_opensBelow 75 = .ok (.iconst 0, 1) := by decide +kernel
theorem dX10_opensBelow_76 : decode cX10_opensBelow 76 = .ok (.invokevirtual 251, 3) := by decide +kernel
theorem dX10_opensBelow_79 : decode cX10_opensBelow 79 = .ok (.aload_n 0, 1) := by decide +kernel
theorem dX10_opensBelow_80 : decode cX10_opensBelow 80 = .ok (.iload 4, 2) := by decide +kernel
theorem dX10_opensBelow_82 : decode cX10_opensBelow 82 = .ok (.iconst 0, 1) := by decide +kernel
theorem dX10_opensBelow_83 : decode cX10_opensBelow 83 = .ok (.invokevirtual 251, 3) := by decide +kernel
theorem dX10_opensBelow_86 : decode cX10_opensBelow 86 = .ok (.goto 64, 3) := by decide +kernel
theorem dX10_opensBelow_89 : decode cX10_opensBelow 89 = .ok (.aload_n 0, 1) := by decide +kernel
theorem dX10_opensBelow_90 : decode cX10_opensBelow 90 = .ok (.iload 5, 2) := by decide +kernel
theorem dX10_opensBelow_92 : decode cX10_opensBelow 92 = .ok (.iconst 0, 1) := by decide +kernel
theorem dX10_opensBelow_93 : decode cX10_opensBelow 93 = .ok (.invokevirtual 251, 3) := by decide +kernel
theorem dX10_opensBelow_96 : decode cX10_opensBelow 96 = .ok (.aload_n 0, 1) := by decide +kernel
theorem dX10_opensBelow_97 : decode cX10_opensBelow 97 = .ok (.iload 4, 2) := by decide +kernel
theorem dX10_opensBelow_99 : decode cX10_opensBelow 99 = .ok (.iload_n 3, 1) := by decide +kernel
theorem dX10_opensBelow_100 : decode cX10_opensBelow 100 = .ok (.invokevirtual 251, 3) := by decide +kernel
theorem dX10_opensBelow_103 : decode cX10_opensBelow 103 = .ok (.goto 47, 3) := by decide +kernel
theorem dX10_opensBelow_106 : decode cX10_opensBelow 106 = .ok (.aload_n 0, 1) := by decide +kernel
theorem dX10_opensBelow_107 : decode cX10_opensBelow 107 = .ok (.iload 5, 2) := by decide +kernel
theorem dX10_opensBelow_109 : decode cX10_opensBelow 109 = .ok (.aload_n 0, 1) := by decide +kernel
theorem dX10_opensBelow_110 : decode cX10_opensBelow 110 = .ok (.iload 6, 2) := by decide +kernel
theorem dX10_opensBelow_112 : decode cX10_opensBelow 112 = .ok (.iload 5, 2) := by decide +kernel
theorem dX10_opensBelow_114 : decode cX10_opensBelow 114 = .ok (.invokevirtual 223, 3) := by decide +kernel
theorem dX10_opensBelow_117 : decode cX10_opensBelow 117 = .ok (.iconst 1, 1) := by decide +kernel
theorem dX10_opensBelow_118 : decode cX10_opensBelow 118 = .ok (.iadd, 1) := by decide +kernel
theorem dX10_opensBelow_119 : decode cX10_opensBelow 119 = .ok (.invokevirtual 251, 3) := by decide +kernel
theorem dX10_opensBelow_122 : decode cX10_opensBelow 122 = .ok (.aload_n 0, 1) := by decide +kernel
theorem dX10_opensBelow_123 : decode cX10_opensBelow 123 = .ok (.iload 4, 2) := by decide +kernel
theorem dX10_opensBelow_125 : decode cX10_opensBelow 125 = .ok (.aload_n 0, 1) := by decide +kernel
theorem dX10_opensBelow_126 : decode cX10_opensBelow 126 = .ok (.iload 6, 2) := by decide +kernel
theorem dX10_opensBelow_128 : decode cX10_opensBelow 128 = .ok (.iload 4, 2) := by decide +kernel
theorem dX10_opensBelow_130 : decode cX10_opensBelow 130 = .ok (.invokevirtual 223, 3) := by decide +kernel
theorem dX10_opensBelow_133 : decode cX10_opensBelow 133 = .ok (.iconst 1, 1) := by decide +kernel
theorem dX10_opensBelow_134 : decode cX10_opensBelow 134 = .ok (.iadd, 1) := by decide +kernel
theorem dX10_opensBelow_135 : decode cX10_opensBelow 135 = .ok (.invokevirtual 251, 3) := by decide +kernel
theorem dX10_opensBelow_138 : decode cX10_opensBelow 138 = .ok (.goto 12, 3) := by decide +kernel
theorem dX10_opensBelow_141 : decode cX10_opensBelow 141 = .ok (.aload_n 0, 1) := by decide +kernel
theorem dX10_opensBelow_142 : decode cX10_opensBelow 142 = .ok (.iload_n 2, 1) := by decide +kernel
theorem dX10_opensBelow_143 : decode cX10_opensBelow 143 = .ok (.iconst 0, 1) := by decide +kernel
theorem dX10_opensBelow_144 : decode cX10_opensBelow 144 = .ok (.invokevirtual 251, 3) := by decide +kernel
theorem dX10_opensBelow_147 : decode cX10_opensBelow 147 = .ok (.goto 3, 3) := by decide +kernel
theorem dX10_opensBelow_150 : decode cX10_opensBelow 150 = .ok (.return_, 1) := by decide +kernel
theorem dX10_aboutOf_0 : decode cX10_aboutOf 0 = .ok (.iload_n 1, 1) := by decide +kernel
theorem dX10_aboutOf_1 : decode cX10_aboutOf 1 = .ok (.bipush 16, 2) := by decide +kernel
theorem dX10_aboutOf_3 : decode cX10_aboutOf 3 = .ok (.idiv, 1) := by decide +kernel
theorem dX10_aboutOf_4 : decode cX10_aboutOf 4 = .ok (.istore_n 2, 1) := by decide +kernel
theorem dX10_aboutOf_5 : decode cX10_aboutOf 5 = .ok (.aload_n 0, 1) := by decide +kernel
theorem dX10_aboutOf_6 : decode cX10_aboutOf 6 = .ok (.getfield 62, 3) := by decide +kernel
theorem dX10_aboutOf_9 : decode cX10_aboutOf 9 = .ok (.iload_n 1, 1) := by decide +kernel
theorem dX10_aboutOf_10 : decode cX10_aboutOf 10 = .ok (.iaload, 1) := by decide +kernel
theorem dX10_aboutOf_11 : decode cX10_aboutOf 11 = .ok (.istore_n 3, 1) := by decide +kernel
theorem dX10_aboutOf_12 : decode cX10_aboutOf 12 = .ok (.iload_n 3, 1) := by decide +kernel
theorem dX10_aboutOf_13 : decode cX10_aboutOf 13 = .ok (.ifCond .ne 8, 3) := by decide +kernel
theorem dX10_aboutOf_16 : decode cX10_aboutOf 16 = .ok (.iload_n 2, 1) := by decide +kernel
theorem dX10_aboutOf_17 : decode cX10_aboutOf 17 = .ok (.invokestatic 236, 3) := by decide +kernel
theorem dX10_aboutOf_20 : decode cX10_aboutOf 20 = .ok (.ireturn, 1) := by decide +kernel
theorem dX10_aboutOf_21 : decode cX10_aboutOf 21 = .ok (.iload_n 3, 1) := by decide +kernel
theorem dX10_aboutOf_22 : decode cX10_aboutOf 22 = .ok (.iconst 4, 1) := by decide +kernel
theorem dX10_aboutOf_23 : decode cX10_aboutOf 23 = .ok (.if_icmp .ne 10, 3) := by decide +kernel
theorem dX10_aboutOf_26 : decode cX10_aboutOf 26 = .ok (.iload_n 1, 1) := by decide +kernel
theorem dX10_aboutOf_27 : decode cX10_aboutOf 27 = .ok (.bipush 16, 2) := by decide +kernel
theorem dX10_aboutOf_29 : decode cX10_aboutOf 29 = .ok (.irem, 1) := by decide +kernel
theorem dX10_aboutOf_30 : decode cX10_aboutOf 30 = .ok (.iconst 1, 1) := by decide +kernel
theorem dX10_aboutOf_31 : decode cX10_aboutOf 31 = .ok (.isub, 1) := by decide +kernel
theorem dX10_aboutOf_32 : decode cX10_aboutOf 32 = .ok (.ireturn, 1) := by decide +kernel
theorem dX10_aboutOf_33 : decode cX10_aboutOf 33 = .ok (.iload_n 3, 1) := by decide +kernel
theorem dX10_aboutOf_34 : decode cX10_aboutOf 34 = .ok (.iconst 3, 1) := by decide +kernel
theorem dX10_aboutOf_35 : decode cX10_aboutOf 35 = .ok (.if_icmp .ne 26, 3) := by decide +kernel
theorem dX10_aboutOf_38 : decode cX10_aboutOf 38 = .ok (.aload_n 0, 1) := by decide +kernel
theorem dX10_aboutOf_39 : decode cX10_aboutOf 39 = .ok (.aload_n 0, 1) := by decide +kernel
theorem dX10_aboutOf_40 : decode cX10_aboutOf 40 = .ok (.getfield 68, 3) := by decide +kernel
theorem dX10_aboutOf_43 : decode cX10_aboutOf 43 = .ok (.iload_n 1, 1) := by decide +kernel
theorem dX10_aboutOf_44 : decode cX10_aboutOf 44 = .ok (.iaload, 1) := by decide +kernel
theorem dX10_aboutOf_45 : decode cX10_aboutOf 45 = .ok (.iload_n 2, 1) := by decide +kernel
theorem dX10_aboutOf_46 : decode cX10_aboutOf 46 = .ok (.aload_n 0, 1) := by decide +kernel
theorem dX10_aboutOf_47 : decode cX10_aboutOf 47 = .ok (.getfield 65, 3) := by decide +kernel
theorem dX10_aboutOf_50 : decode cX10_aboutOf 50 = .ok (.iload_n 1, 1) := by decide +kernel
theorem dX10_aboutOf_51 : decode cX10_aboutOf 51 = .ok (.iaload, 1) := by decide +kernel
theorem dX10_aboutOf_52 : decode cX10_aboutOf 52 = .ok (.iconst (-1), 1) := by decide +kernel
theorem dX10_aboutOf_53 : decode cX10_aboutOf 53 = .ok (.ixor, 1) := by decide +kernel
theorem dX10_aboutOf_54 : decode cX10_aboutOf 54 = .ok (.iand, 1) := by decide +kernel
theorem dX10_aboutOf_55 : decode cX10_aboutOf 55 = .ok (.invokevirtual 223, 3) := by decide +kernel
theorem dX10_aboutOf_58 : decode cX10_aboutOf 58 = .ok (.goto 4, 3) := by decide +kernel
theorem dX10_aboutOf_61 : decode cX10_aboutOf 61 = .ok (.iconst (-1), 1) := by decide +kernel
theorem dX10_aboutOf_62 : decode cX10_aboutOf 62 = .ok (.ireturn, 1) := by decide +kernel
theorem dX10_putsNode_0 : decode cX10_putsNode 0 = .ok (.aload_n 0, 1) := by decide +kernel
theorem dX10_putsNode_1 : decode cX10_putsNode 1 = .ok (.getfield 71, 3) := by decide +kernel
theorem dX10_putsNode_4 : decode cX10_putsNode 4 = .ok (.aload_n 0, 1) := by decide +kernel
theorem dX10_putsNode_5 : decode cX10_putsNode 5 = .ok (.getfield 255, 3) := by decide +kernel
theorem dX10_putsNode_8 : decode cX10_putsNode 8 = .ok (.aload_n 0, 1) := by decide +kernel
theorem dX10_putsNode_9 : decode cX10_putsNode 9 = .ok (.getfield 62, 3) := by decide +kernel
theorem dX10_putsNode_12 : decode cX10_putsNode 12 = .ok (.iload_n 1, 1) := by decide +kernel
theorem dX10_putsNode_13 : decode cX10_putsNode 13 = .ok (.iaload, 1) := by decide +kernel
theorem dX10_putsNode_14 : decode cX10_putsNode 14 = .ok (.iastore, 1) := by decide +kernel
theorem dX10_putsNode_15 : decode cX10_putsNode 15 = .ok (.aload_n 0, 1) := by decide +kernel
theorem dX10_putsNode_16 : decode cX10_putsNode 16 = .ok (.getfield 74, 3) := by decide +kernel
theorem dX10_putsNode_19 : decode cX10_putsNode 19 = .ok (.aload_n 0, 1) := by decide +kernel
theorem dX10_putsNode_20 : decode cX10_putsNode 20 = .ok (.getfield 255, 3) := by decide +kernel
theorem dX10_putsNode_23 : decode cX10_putsNode 23 = .ok (.iload_n 1, 1) := by decide +kernel
theorem dX10_putsNode_24 : decode cX10_putsNode 24 = .ok (.bipush 16, 2) := by decide +kernel
theorem dX10_putsNode_26 : decode cX10_putsNode 26 = .ok (.idiv, 1) := by decide +kernel
theorem dX10_putsNode_27 : decode cX10_putsNode 27 = .ok (.iastore, 1) := by decide +kernel
theorem dX10_putsNode_28 : decode cX10_putsNode 28 = .ok (.aload_n 0, 1) := by decide +kernel
theorem dX10_putsNode_29 : decode cX10_putsNode 29 = .ok (.getfield 77, 3) := by decide +kernel
theorem dX10_putsNode_32 : decode cX10_putsNode 32 = .ok (.aload_n 0, 1) := by decide +kernel
theorem dX10_putsNode_33 : decode cX10_putsNode 33 = .ok (.getfield 255, 3) := by decide +kernel
theorem dX10_putsNode_36 : decode cX10_putsNode 36 = .ok (.iload_n 1, 1) := by decide +kernel
theorem dX10_putsNode_37 : decode cX10_putsNode 37 = .ok (.bipush 16, 2) := by decide +kernel
theorem dX10_putsNode_39 : decode cX10_putsNode 39 = .ok (.irem, 1) := by decide +kernel
theorem dX10_putsNode_40 : decode cX10_putsNode 40 = .ok (.iastore, 1) := by decide +kernel
theorem dX10_putsNode_41 : decode cX10_putsNode 41 = .ok (.aload_n 0, 1) := by decide +kernel
theorem dX10_putsNode_42 : decode cX10_putsNode 42 = .ok (.getfield 80, 3) := by decide +kernel
theorem dX10_putsNode_45 : decode cX10_putsNode 45 = .ok (.aload_n 0, 1) := by decide +kernel
theorem dX10_putsNode_46 : decode cX10_putsNode 46 = .ok (.getfield 255, 3) := by decide +kernel
theorem dX10_putsNode_49 : decode cX10_putsNode 49 = .ok (.aload_n 0, 1) := by decide +kernel
theorem dX10_putsNode_50 : decode cX10_putsNode 50 = .ok (.getfield 59, 3) := by decide +kernel
theorem dX10_putsNode_53 : decode cX10_putsNode 53 = .ok (.iload_n 1, 1) := by decide +kernel
theorem dX10_putsNode_54 : decode cX10_putsNode 54 = .ok (.faload, 1) := by decide +kernel
theorem dX10_putsNode_55 : decode cX10_putsNode 55 = .ok (.invokestatic 258, 3) := by decide +kernel
theorem dX10_putsNode_58 : decode cX10_putsNode 58 = .ok (.iastore, 1) := by decide +kernel
theorem dX10_putsNode_59 : decode cX10_putsNode 59 = .ok (.aload_n 0, 1) := by decide +kernel
theorem dX10_putsNode_60 : decode cX10_putsNode 60 = .ok (.getfield 83, 3) := by decide +kernel
theorem dX10_putsNode_63 : decode cX10_putsNode 63 = .ok (.aload_n 0, 1) := by decide +kernel
theorem dX10_putsNode_64 : decode cX10_putsNode 64 = .ok (.getfield 255, 3) := by decide +kernel
theorem dX10_putsNode_67 : decode cX10_putsNode 67 = .ok (.aload_n 0, 1) := by decide +kernel
theorem dX10_putsNode_68 : decode cX10_putsNode 68 = .ok (.getfield 68, 3) := by decide +kernel
theorem dX10_putsNode_71 : decode cX10_putsNode 71 = .ok (.iload_n 1, 1) := by decide +kernel
theorem dX10_putsNode_72 : decode cX10_putsNode 72 = .ok (.iaload, 1) := by decide +kernel
theorem dX10_putsNode_73 : decode cX10_putsNode 73 = .ok (.iastore, 1) := by decide +kernel
theorem dX10_putsNode_74 : decode cX10_putsNode 74 = .ok (.aload_n 0, 1) := by decide +kernel
theorem dX10_putsNode_75 : decode cX10_putsNode 75 = .ok (.getfield 89, 3) := by decide +kernel
theorem dX10_putsNode_78 : decode cX10_putsNode 78 = .ok (.aload_n 0, 1) := by decide +kernel
theorem dX10_putsNode_79 : decode cX10_putsNode 79 = .ok (.getfield 255, 3) := by decide +kernel
theorem dX10_putsNode_82 : decode cX10_putsNode 82 = .ok (.aload_n 0, 1) := by decide +kernel
theorem dX10_putsNode_83 : decode cX10_putsNode 83 = .ok (.iload_n 1, 1) := by decide +kernel
theorem dX10_putsNode_84 : decode cX10_putsNode 84 = .ok (.invokevirtual 264, 3) := by decide +kernel
theorem dX10_putsNode_87 : decode cX10_putsNode 87 = .ok (.iastore, 1) := by decide +kernel
theorem dX10_putsNode_88 : decode cX10_putsNode 88 = .ok (.aload_n 0, 1) := by decide +kernel
theorem dX10_putsNode_89 : decode cX10_putsNode 89 = .ok (.dup, 1) := by decide +kernel
theorem dX10_putsNode_90 : decode cX10_putsNode 90 = .ok (.getfield 255, 3) := by decide +kernel
theorem dX10_putsNode_93 : decode cX10_putsNode 93 = .ok (.iconst 1, 1) := by decide +kernel
theorem dX10_putsNode_94 : decode cX10_putsNode 94 = .ok (.iadd, 1) := by decide +kernel
theorem dX10_putsNode_95 : decode cX10_putsNode 95 = .ok (.putfield 255, 3) := by decide +kernel
theorem dX10_putsNode_98 : decode cX10_putsNode 98 = .ok (.return_, 1) := by decide +kernel
theorem dX10_findSizes_0 : decode cX10_findSizes 0 = .ok (.aload_n 0, 1) := by decide +kernel
theorem dX10_findSizes_1 : decode cX10_findSizes 1 = .ok (.getfield 255, 3) := by decide +kernel
theorem dX10_findSizes_4 : decode cX10_findSizes 4 = .ok (.iconst 1, 1) := by decide +kernel
theorem dX10_findSizes_5 : decode cX10_findSizes 5 = .ok (.isub, 1) := by decide +kernel
theorem dX10_findSizes_6 : decode cX10_findSizes 6 = .ok (.istore_n 1, 1) := by decide +kernel
theorem dX10_findSizes_7 : decode cX10_findSizes 7 = .ok (.iload_n 1, 1) := by decide +kernel
theorem dX10_findSizes_8 : decode cX10_findSizes 8 = .ok (.ifCond .lt 63, 3) := by decide +kernel
theorem dX10_findSizes_11 : decode cX10_findSizes 11 = .ok (.iconst 1, 1) := by decide +kernel
theorem dX10_findSizes_12 : decode cX10_findSizes 12 = .ok (.istore_n 2, 1) := by decide +kernel
theorem dX10_findSizes_13 : decode cX10_findSizes 13 = .ok (.aload_n 0, 1) := by decide +kernel
theorem dX10_findSizes_14 : decode cX10_findSizes 14 = .ok (.getfield 71, 3) := by decide +kernel
theorem dX10_findSizes_17 : decode cX10_findSizes 17 = .ok (.iload_n 1, 1) := by decide +kernel
theorem dX10_findSizes_18 : decode cX10_findSizes 18 = .ok (.iaload, 1) := by decide +kernel
theorem dX10_findSizes_19 : decode cX10_findSizes 19 = .ok (.ifCond .eq 14, 3) := by decide +kernel
theorem dX10_findSizes_22 : decode cX10_findSizes 22 = .ok (.iload_n 2, 1) := by decide +kernel
theorem dX10_findSizes_23 : decode cX10_findSizes 23 = .ok (.aload_n 0, 1) := by decide +kernel
theorem dX10_findSizes_24 : decode cX10_findSizes 24 = .ok (.getfield 86, 3) := by decide +kernel
theorem dX10_findSizes_27 : decode cX10_findSizes 27 = .ok (.iload_n 1, 1) := by decide +kernel
theorem dX10_findSizes_28 : decode cX10_findSizes 28 = .ok (.iconst 1, 1) := by decide +kernel
theorem dX10_findSizes_29 : decode cX10_findSizes 29 = .ok (.iadd, 1) := by decide +kernel
theorem dX10_findSizes_30 : decode cX10_findSizes 30 = .ok (.iaload, 1) := by decide +kernel
theorem dX10_findSizes_31 : decode cX10_findSizes 31 = .ok (.iadd, 1) := by decide +kernel
theorem dX10_findSizes_32 : decode cX10_findSizes 32 = .ok (.istore_n 2, 1) := by decide +kernel
theorem dX10_findSizes_33 : decode cX10_findSizes 33 = .ok (.aload_n 0, 1) := by decide +kernel
theorem dX10_findSizes_34 : decode cX10_findSizes 34 = .ok (.getfield 71, 3) := by decide +kernel
theorem dX10_findSizes_37 : decode cX10_findSizes 37 = .ok (.iload_n 1, 1) := by decide +kernel
theorem dX10_findSizes_38 : decode cX10_findSizes 38 = .ok (.iaload, 1) := by decide +kernel
theorem dX10_findSizes_39 : decode cX10_findSizes 39 = .ok (.iconst 1, 1) := by decide +kernel
theorem dX10_findSizes_40 : decode cX10_findSizes 40 = .ok (.iconst 3, 1) := by decide +kernel
theorem dX10_findSizes_41 : decode cX10_findSizes 41 = .ok (.invokestatic 145, 3) := by decide +kernel
theorem dX10_findSizes_44 : decode cX10_findSizes 44 = .ok (.ifCond .eq 14, 3) := by decide +kernel
theorem dX10_findSizes_47 : decode cX10_findSizes 47 = .ok (.iload_n 2, 1) := by decide +kernel
theorem dX10_findSizes_48 : decode cX10_findSizes 48 = .ok (.aload_n 0, 1) := by decide +kernel
theorem dX10_findSizes_49 : decode cX10_findSizes 49 = .ok (.getfield 86, 3) := by decide +kernel
theorem dX10_findSizes_52 : decode cX10_findSizes 52 = .ok (.iload_n 1, 1) := by decide +kernel
theorem dX10_findSizes_53 : decode cX10_findSizes 53 = .ok (.iload_n 2, 1) := by decide +kernel
theorem dX10_findSizes_54 : decode cX10_findSizes 54 = .ok (.iadd, 1) := by decide +kernel
theorem dX10_findSizes_55 : decode cX10_findSizes 55 = .ok (.iaload, 1) := by decide +kernel
theorem dX10_findSizes_56 : decode cX10_findSizes 56 = .ok (.iadd, 1) := by decide +kernel
theorem dX10_findSizes_57 : decode cX10_findSizes 57 = .ok (.istore_n 2, 1) := by decide +kernel
theorem dX10_findSizes_58 : decode cX10_findSizes 58 = .ok (.aload_n 0, 1) := by decide +kernel
theorem dX10_findSizes_59 : decode cX10_findSizes 59 = .ok (.getfield 86, 3) := by decide +kernel
theorem dX10_findSizes_62 : decode cX10_findSizes 62 = .ok (.iload_n 1, 1) := by decide +kernel
theorem dX10_findSizes_63 : decode cX10_findSizes 63 = .ok (.iload_n 2, 1) := by decide +kernel
theorem dX10_findSizes_64 : decode cX10_findSizes 64 = .ok (.iastore, 1) := by decide +kernel
theorem dX10_findSizes_65 : decode cX10_findSizes 65 = .ok (.iinc 1 (-1), 3) := by decide +kernel
theorem dX10_findSizes_68 : decode cX10_findSizes 68 = .ok (.goto (-61), 3) := by decide +kernel
theorem dX10_findSizes_71 : decode cX10_findSizes 71 = .ok (.return_, 1) := by decide +kernel
theorem dX10_plan_0 : decode cX10_plan 0 = .ok (.iload_n 1, 1) := by decide +kernel
theorem dX10_plan_1 : decode cX10_plan 1 = .ok (.invokestatic 267, 3) := by decide +kernel
theorem dX10_plan_4 : decode cX10_plan 4 = .ok (.ifCond .eq 10, 3) := by decide +kernel
theorem dX10_plan_7 : decode cX10_plan 7 = .ok (.iload_n 2, 1) := by decide +kernel
theorem dX10_plan_8 : decode cX10_plan 8 = .ok (.invokestatic 271, 3) := by decide +kernel
theorem dX10_plan_11 : decode cX10_plan 11 = .ok (.ifCond .ne 10, 3) := by decide +kernel
theorem dX10_plan_14 : decode cX10_plan 14 = .ok (.aload_n 0, 1) := by decide +kernel
theorem dX10_plan_15 : decode cX10_plan 15 = .ok (.bipush (-6), 2) := by decide +kernel
theorem dX10_plan_17 : decode cX10_plan 17 = .ok (.invokevirtual 274, 3) := by decide +kernel
theorem dX10_plan_20 : decode cX10_plan 20 = .ok (.ireturn, 1) := by decide +kernel
theorem dX10_plan_21 : decode cX10_plan 21 = .ok (.aload_n 0, 1) := by decide +kernel
theorem dX10_plan_22 : decode cX10_plan 22 = .ok (.invokevirtual 277, 3) := by decide +kernel
theorem dX10_plan_25 : decode cX10_plan 25 = .ok (.aload_n 0, 1) := by decide +kernel
theorem dX10_plan_26 : decode cX10_plan 26 = .ok (.iload_n 1, 1) := by decide +kernel
theorem dX10_plan_27 : decode cX10_plan 27 = .ok (.iload_n 2, 1) := by decide +kernel
theorem dX10_plan_28 : decode cX10_plan 28 = .ok (.iconst 1, 1) := by decide +kernel
theorem dX10_plan_29 : decode cX10_plan 29 = .ok (.iadd, 1) := by decide +kernel
theorem dX10_plan_30 : decode cX10_plan 30 = .ok (.invokevirtual 213, 3) := by decide +kernel
theorem dX10_plan_33 : decode cX10_plan 33 = .ok (.ifCond .ne 10, 3) := by decide +kernel
theorem dX10_plan_36 : decode cX10_plan 36 = .ok (.aload_n 0, 1) := by decide +kernel
theorem dX10_plan_37 : decode cX10_plan 37 = .ok (.bipush (-5), 2) := by decide +kernel
theorem dX10_plan_39 : decode cX10_plan 39 = .ok (.invokevirtual 274, 3) := by decide +kernel
theorem dX10_plan_42 : decode cX10_plan 42 = .ok (.ireturn, 1) := by decide +kernel
theorem dX10_plan_43 : decode cX10_plan 43 = .ok (.aload_n 0, 1) := by decide +kernel
theorem dX10_plan_44 : decode cX10_plan 44 = .ok (.iconst 0, 1) := by decide +kernel
theorem dX10_plan_45 : decode cX10_plan 45 = .ok (.putfield 255, 3) := by decide +kernel
theorem dX10_plan_48 : decode cX10_plan 48 = .ok (.aload_n 0, 1) := by decide +kernel
theorem dX10_plan_49 : decode cX10_plan 49 = .ok (.iconst 0, 1) := by decide +kernel
theorem dX10_plan_50 : decode cX10_plan 50 = .ok (.putfield 248, 3) := by decide +kernel
theorem dX10_plan_53 : decode cX10_plan 53 = .ok (.aload_n 0, 1) := by decide +kernel
theorem dX10_plan_54 : decode cX10_plan 54 = .ok (.iload_n 1, 1) := by decide +kernel
theorem dX10_plan_55 : decode cX10_plan 55 = .ok (.iload_n 2, 1) := by decide +kernel
theorem dX10_plan_56 : decode cX10_plan 56 = .ok (.iconst 1, 1) := by decide +kernel
theorem dX10_plan_57 : decode cX10_plan 57 = .ok (.iadd, 1) := by decide +kernel
theorem dX10_plan_58 : decode cX10_plan 58 = .ok (.invokevirtual 251, 3) := by decide +kernel
theorem dX10_plan_61 : decode cX10_plan 61 = .ok (.aload_n 0, 1) := by decide +kernel
theorem dX10_plan_62 : decode cX10_plan 62 = .ok (.getfield 248, 3) := by decide +kernel
theorem dX10_plan_65 : decode cX10_plan 65 = .ok (.ifCond .le 49, 3) := by decide +kernel
theorem dX10_plan_68 : decode cX10_plan 68 = .ok (.aload_n 0, 1) := by decide +kernel
theorem dX10_plan_69 : decode cX10_plan 69 = .ok (.dup, 1) := by decide +kernel
theorem dX10_plan_70 : decode cX10_plan 70 = .ok (.getfield 248, 3) := by decide +kernel
theorem dX10_plan_73 : decode cX10_plan 73 = .ok (.iconst 1, 1) := by decide +kernel
theorem dX10_plan_74 : decode cX10_plan 74 = .ok (.isub, 1) := by decide +kernel
theorem dX10_plan_75 : decode cX10_plan 75 = .ok (.putfield 248, 3) := by decide +kernel
theorem dX10_plan_78 : decode cX10_plan 78 = .ok (.bipush 16, 2) := by decide +kernel
theorem dX10_plan_80 : decode cX10_plan 80 = .ok (.aload_n 0, 1) := by decide +kernel
theorem dX10_plan_81 : decode cX10_plan 81 = .ok (.getfield 92, 3) := by decide +kernel
theorem dX10_plan_84 : decode cX10_plan 84 = .ok (.aload_n 0, 1) := by decide +kernel
theorem dX10_plan_85 : decode cX10_plan 85 = .ok (.getfield 248, 3) := by decide +kernel
theorem dX10_plan_88 : decode cX10_plan 88 = .ok (.iaload, 1) := by decide +kernel
theorem dX10_plan_89 : decode cX10_plan 89 = .ok (.imul, 1) := by decide +kernel
theorem dX10_plan_90 : decode cX10_plan 90 = .ok (.aload_n 0, 1) := by decide +kernel
theorem dX10_plan_91 : decode cX10_plan 91 = .ok (.getfield 95, 3) := by decide +kernel
theorem dX10_plan_94 : decode cX10_plan 94 = .ok (.aload_n 0, 1) := by decide +kernel
theorem dX10_plan_95 : decode cX10_plan 95 = .ok (.getfield 248, 3) := by decide +kernel
theorem dX10_plan_98 : decode cX10_plan 98 = .ok (.iaload, 1) := by decide +kernel
theorem dX10_plan_99 : decode cX10_plan 99 = .ok (.iadd, 1) := by decide +kernel
theorem dX10_plan_100 : decode cX10_plan 100 = .ok (.istore_n 3, 1) := by decide +kernel
theorem dX10_plan_101 : decode cX10_plan 101 = .ok (.aload_n 0, 1) := by decide +kernel
theorem dX10_plan_102 : decode cX10_plan 102 = .ok (.iload_n 3, 1) := by decide +kernel
theorem dX10_plan_103 : decode cX10_plan 103 = .ok (.invokevirtual 280, 3) := by decide +kernel
theorem dX10_plan_106 : decode cX10_plan 106 = .ok (.aload_n 0, 1) := by decide +kernel
theorem dX10_plan_107 : decode cX10_plan 107 = .ok (.iload_n 3, 1) := by decide +kernel
theorem dX10_plan_108 : decode cX10_plan 108 = .ok (.invokevirtual 283, 3) := by decide +kernel
theorem dX10_plan_111 : decode cX10_plan 111 = .ok (.goto (-50), 3) := by decide +kernel
theorem dX10_plan_114 : decode cX10_plan 114 = .ok (.aload_n 0, 1) := by decide +kernel
theorem dX10_plan_115 : decode cX10_plan 115 = .ok (.invokevirtual 286, 3) := by decide +kernel
theorem dX10_plan_118 : decode cX10_plan 118 = .ok (.aload_n 0, 1) := by decide +kernel
theorem dX10_plan_119 : decode cX10_plan 119 = .ok (.getfield 255, 3) := by decide +kernel
theorem dX10_plan_122 : decode cX10_plan 122 = .ok (.ireturn, 1) := by decide +kernel
theorem dX10_cost_0 : decode cX10_cost 0 = .ok (.iload_n 1, 1) := by decide +kernel
theorem dX10_cost_1 : decode cX10_cost 1 = .ok (.invokestatic 267, 3) := by decide +kernel
theorem dX10_cost_4 : decode cX10_cost 4 = .ok (.ifCond .eq 10, 3) := by decide +kernel
theorem dX10_cost_7 : decode cX10_cost 7 = .ok (.iload_n 2, 1) := by decide +kernel
theorem dX10_cost_8 : decode cX10_cost 8 = .ok (.invokestatic 271, 3) := by decide +kernel
theorem dX10_cost_11 : decode cX10_cost 11 = .ok (.ifCond .ne 13, 3) := by decide +kernel
theorem dX10_cost_14 : decode cX10_cost 14 = .ok (.aload_n 0, 1) := by decide +kernel
theorem dX10_cost_15 : decode cX10_cost 15 = .ok (.bipush (-6), 2) := by decide +kernel
theorem dX10_cost_17 : decode cX10_cost 17 = .ok (.invokevirtual 274, 3) := by decide +kernel
theorem dX10_cost_20 : decode cX10_cost 20 = .ok (.bipush 10, 2) := by decide +kernel
theorem dX10_cost_22 : decode cX10_cost 22 = .ok (.isub, 1) := by decide +kernel
theorem dX10_cost_23 : decode cX10_cost 23 = .ok (.ireturn, 1) := by decide +kernel
theorem dX10_cost_24 : decode cX10_cost 24 = .ok (.aload_n 0, 1) := by decide +kernel
theorem dX10_cost_25 : decode cX10_cost 25 = .ok (.invokevirtual 277, 3) := by decide +kernel
theorem dX10_cost_28 : decode cX10_cost 28 = .ok (.aload_n 0, 1) := by decide +kernel
theorem dX10_cost_29 : decode cX10_cost 29 = .ok (.iload_n 1, 1) := by decide +kernel
theorem dX10_cost_30 : decode cX10_cost 30 = .ok (.iload_n 2, 1) := by decide +kernel
theorem dX10_cost_31 : decode cX10_cost 31 = .ok (.iconst 1, 1) := by decide +kernel
theorem dX10_cost_32 : decode cX10_cost 32 = .ok (.iadd, 1) := by decide +kernel
theorem dX10_cost_33 : decode cX10_cost 33 = .ok (.invokevirtual 213, 3) := by decide +kernel
theorem dX10_cost_36 : decode cX10_cost 36 = .ok (.ifCond .eq 17, 3) := by decide +kernel
theorem dX10_cost_39 : decode cX10_cost 39 = .ok (.aload_n 0, 1) := by decide +kernel
theorem dX10_cost_40 : decode cX10_cost 40 = .ok (.iload_n 1, 1) := by decide +kernel
theorem dX10_cost_41 : decode cX10_cost 41 = .ok (.iload_n 2, 1) := by decide +kernel
theorem dX10_cost_42 : decode cX10_cost 42 = .ok (.iconst 1, 1) := by decide +kernel
theorem dX10_cost_43 : decode cX10_cost 43 = .ok (.iadd, 1) := by decide +kernel
theorem dX10_cost_44 : decode cX10_cost 44 = .ok (.invokevirtual 216, 3) := by decide +kernel
theorem dX10_cost_47 : decode cX10_cost 47 = .ok (.invokestatic 258, 3) := by decide +kernel
theorem dX10_cost_50 : decode cX10_cost 50 = .ok (.goto 4, 3) := by decide +kernel
theorem dX10_cost_53 : decode cX10_cost 53 = .ok (.iconst (-1), 1) := by decide +kernel
theorem dX10_cost_54 : decode cX10_cost 54 = .ok (.ireturn, 1) := by decide +kernel
theorem dX10_nodeOf_0 : decode cX10_nodeOf 0 = .ok (.iload_n 1, 1) := by decide +kernel
theorem dX10_nodeOf_1 : decode cX10_nodeOf 1 = .ok (.iconst 0, 1) := by decide +kernel
theorem dX10_nodeOf_2 : decode cX10_nodeOf 2 = .ok (.aload_n 0, 1) := by decide +kernel
theorem dX10_nodeOf_3 : decode cX10_nodeOf 3 = .ok (.getfield 255, 3) := by decide +kernel
theorem dX10_nodeOf_6 : decode cX10_nodeOf 6 = .ok (.iconst 1, 1) := by decide +kernel
theorem dX10_nodeOf_7 : decode cX10_nodeOf 7 = .ok (.isub, 1) := by decide +kernel
theorem dX10_nodeOf_8 : decode cX10_nodeOf 8 = .ok (.invokestatic 145, 3) := by decide +kernel
theorem dX10_nodeOf_11 : decode cX10_nodeOf 11 = .ok (.ifCond .eq 12, 3) := by decide +kernel
theorem dX10_nodeOf_14 : decode cX10_nodeOf 14 = .ok (.iload_n 2, 1) := by decide +kernel
theorem dX10_nodeOf_15 : decode cX10_nodeOf 15 = .ok (.iconst 0, 1) := by decide +kernel
theorem dX10_nodeOf_16 : decode cX10_nodeOf 16 = .ok (.iconst 5, 1) := by decide +kernel
theorem dX10_nodeOf_17 : decode cX10_nodeOf 17 = .ok (.invokestatic 145, 3) := by decide +kernel
theorem dX10_nodeOf_20 : decode cX10_nodeOf 20 = .ok (.ifCond .ne 10, 3) := by decide +kernel
theorem dX10_nodeOf_23 : decode cX10_nodeOf 23 = .ok (.aload_n 0, 1) := by decide +kernel
theorem dX10_nodeOf_24 : decode cX10_nodeOf 24 = .ok (.bipush (-5), 2) := by decide +kernel
theorem dX10_nodeOf_26 : decode cX10_nodeOf 26 = .ok (.invokevirtual 274, 3) := by decide +kernel
theorem dX10_nodeOf_29 : decode cX10_nodeOf 29 = .ok (.ireturn, 1) := by decide +kernel
theorem dX10_nodeOf_30 : decode cX10_nodeOf 30 = .ok (.iload_n 2, 1) := by decide +kernel
theorem dX10_nodeOf_31 : decode cX10_nodeOf 31 = .ok (.tableswitch 70 0 4 #[33, 40, 47, 54, 61], 33) := by decide +kernel
theorem dX10_nodeOf_64 : decode cX10_nodeOf 64 = .ok (.aload_n 0, 1) := by decide +kernel
theorem dX10_nodeOf_65 : decode cX10_nodeOf 65 = .ok (.getfield 71, 3) := by decide +kernel
theorem dX10_nodeOf_68 : decode cX10_nodeOf 68 = .ok (.iload_n 1, 1) := by decide +kernel
theorem dX10_nodeOf_69 : decode cX10_nodeOf 69 = .ok (.iaload, 1) := by decide +kernel
theorem dX10_nodeOf_70 : decode cX10_nodeOf 70 = .ok (.ireturn, 1) := by decide +kernel
theorem dX10_nodeOf_71 : decode cX10_nodeOf 71 = .ok (.aload_n 0, 1) := by decide +kernel
theorem dX10_nodeOf_72 : decode cX10_nodeOf 72 = .ok (.getfield 74, 3) := by decide +kernel
theorem dX10_nodeOf_75 : decode cX10_nodeOf 75 = .ok (.iload_n 1, 1) := by decide +kernel
theorem dX10_nodeOf_76 : decode cX10_nodeOf 76 = .ok (.iaload, 1) := by decide +kernel
theorem dX10_nodeOf_77 : decode cX10_nodeOf 77 = .ok (.ireturn, 1) := by decide +kernel
theorem dX10_nodeOf_78 : decode cX10_nodeOf 78 = .ok (.aload_n 0, 1) := by decide +kernel
theorem dX10_nodeOf_79 : decode cX10_nodeOf 79 = .ok (.getfield 77, 3) := by decide +kernel
theorem dX10_nodeOf_82 : decode cX10_nodeOf 82 = .ok (.iload_n 1, 1) := by decide +kernel
theorem dX10_nodeOf_83 : decode cX10_nodeOf 83 = .ok (.iaload, 1) := by decide +kernel
theorem dX10_nodeOf_84 : decode cX10_nodeOf 84 = .ok (.ireturn, 1) := by decide +kernel
theorem dX10_nodeOf_85 : decode cX10_nodeOf 85 = .ok (.aload_n 0, 1) := by decide +kernel
theorem dX10_nodeOf_86 : decode cX10_nodeOf 86 = .ok (.getfield 80, 3) := by decide +kernel
theorem dX10_nodeOf_89 : decode cX10_nodeOf 89 = .ok (.iload_n 1, 1) := by decide +kernel
theorem dX10_nodeOf_90 : decode cX10_nodeOf 90 = .ok (.iaload, 1) := by decide +kernel
theorem dX10_nodeOf_91 : decode cX10_nodeOf 91 = .ok (.ireturn, 1) := by decide +kernel
theorem dX10_nodeOf_92 : decode cX10_nodeOf 92 = .ok (.aload_n 0, 1) := by decide +kernel
theorem dX10_nodeOf_93 : decode cX10_nodeOf 93 = .ok (.getfield 83, 3) := by decide +kernel
theorem dX10_nodeOf_96 : decode cX10_nodeOf 96 = .ok (.iload_n 1, 1) := by decide +kernel
theorem dX10_nodeOf_97 : decode cX10_nodeOf 97 = .ok (.iaload, 1) := by decide +kernel
theorem dX10_nodeOf_98 : decode cX10_nodeOf 98 = .ok (.iconst 1, 1) := by decide +kernel
theorem dX10_nodeOf_99 : decode cX10_nodeOf 99 = .ok (.iadd, 1) := by decide +kernel
theorem dX10_nodeOf_100 : decode cX10_nodeOf 100 = .ok (.ireturn, 1) := by decide +kernel
theorem dX10_nodeOf_101 : decode cX10_nodeOf 101 = .ok (.aload_n 0, 1) := by decide +kernel
theorem dX10_nodeOf_102 : decode cX10_nodeOf 102 = .ok (.getfield 86, 3) := by decide +kernel
theorem dX10_nodeOf_105 : decode cX10_nodeOf 105 = .ok (.iload_n 1, 1) := by decide +kernel
theorem dX10_nodeOf_106 : decode cX10_nodeOf 106 = .ok (.iaload, 1) := by decide +kernel
theorem dX10_nodeOf_107 : decode cX10_nodeOf 107 = .ok (.ireturn, 1) := by decide +kernel
theorem dX10_passesFilters_0 : decode cX10_passesFilters 0 = .ok (.iconst 0, 1) := by decide +kernel
theorem dX10_passesFilters_1 : decode cX10_passesFilters 1 = .ok (.istore_n 2, 1) := by decide +kernel
theorem dX10_passesFilters_2 : decode cX10_passesFilters 2 = .ok (.iload_n 2, 1) := by decide +kernel
theorem dX10_passesFilters_3 : decode cX10_passesFilters 3 = .ok (.aload_n 0, 1) := by decide +kernel
theorem dX10_passesFilters_4 : decode cX10_passesFilters 4 = .ok (.getfield 174, 3) := by decide +kernel
theorem dX10_passesFilters_7 : decode cX10_passesFilters 7 = .ok (.if_icmp .ge 94, 3) := by decide +kernel
theorem dX10_passesFilters_10 : decode cX10_passesFilters 10 = .ok (.aload_n 0, 1) := by decide +kernel
theorem dX10_passesFilters_11 : decode cX10_passesFilters 11 = .ok (.getfield 25, 3) := by decide +kernel
theorem dX10_passesFilters_14 : decode cX10_passesFilters 14 = .ok (.iload_n 2, 1) := by decide +kernel
theorem dX10_passesFilters_15 : decode cX10_passesFilters 15 = .ok (.iaload, 1) := by decide +kernel
theorem dX10_passesFilters_16 : decode cX10_passesFilters 16 = .ok (.iconst 3, 1) := by decide +kernel
theorem dX10_passesFilters_17 : decode cX10_passesFilters 17 = .ok (.idiv, 1) := by decide +kernel
theorem dX10_passesFilters_18 : decode cX10_passesFilters 18 = .ok (.iload_n 1, 1) := by decide +kernel
theorem dX10_passesFilters_19 : decode cX10_passesFilters 19 = .ok (.if_icmp .eq 6, 3) := by decide +kernel
theorem dX10_passesFilters_22 : decode cX10_passesFilters 22 = .ok (.goto 73, 3) := by decide +kernel
theorem dX10_passesFilters_25 : decode cX10_passesFilters 25 = .ok (.aload_n 0, 1) := by decide +kernel
theorem dX10_passesFilters_26 : decode cX10_passesFilters 26 = .ok (.aload_n 0, 1) := by decide +kernel
theorem dX10_passesFilters_27 : decode cX10_passesFilters 27 = .ok (.getfield 25, 3) := by decide +kernel
theorem dX10_passesFilters_30 : decode cX10_passesFilters 30 = .ok (.iload_n 2, 1) := by decide +kernel
theorem dX10_passesFilters_31 : decode cX10_passesFilters 31 = .ok (.iaload, 1) := by decide +kernel
theorem dX10_passesFilters_32 : decode cX10_passesFilters 32 = .ok (.aload_n 0, 1) := by decide +kernel
theorem dX10_passesFilters_33 : decode cX10_passesFilters 33 = .ok (.getfield 98, 3) := by decide +kernel
theorem dX10_passesFilters_36 : decode cX10_passesFilters 36 = .ok (.iload_n 1, 1) := by decide +kernel
theorem dX10_passesFilters_37 : decode cX10_passesFilters 37 = .ok (.iaload, 1) := by decide +kernel
theorem dX10_passesFilters_38 : decode cX10_passesFilters 38 = .ok (.invokevirtual 149, 3) := by decide +kernel
theorem dX10_passesFilters_41 : decode cX10_passesFilters 41 = .ok (.istore_n 3, 1) := by decide +kernel
theorem dX10_passesFilters_42 : decode cX10_passesFilters 42 = .ok (.aload_n 0, 1) := by decide +kernel
theorem dX10_passesFilters_43 : decode cX10_passesFilters 43 = .ok (.getfield 31, 3) := by decide +kernel
theorem dX10_passesFilters_46 : decode cX10_passesFilters 46 = .ok (.iload_n 2, 1) := by decide +kernel
theorem dX10_passesFilters_47 : decode cX10_passesFilters 47 = .ok (.iaload, 1) := by decide +kernel
theorem dX10_passesFilters_48 : decode cX10_passesFilters 48 = .ok (.istore 4, 2) := by decide +kernel
theorem dX10_passesFilters_50 : decode cX10_passesFilters 50 = .ok (.aload_n 0, 1) := by decide +kernel
theorem dX10_passesFilters_51 : decode cX10_passesFilters 51 = .ok (.getfield 28, 3) := by decide +kernel
theorem dX10_passesFilters_54 : decode cX10_passesFilters 54 = .ok (.iload_n 2, 1) := by decide +kernel
theorem dX10_passesFilters_55 : decode cX10_passesFilters 55 = .ok (.iaload, 1) := by decide +kernel
theorem dX10_passesFilters_56 : decode cX10_passesFilters 56 = .ok (.ifCond .ne 12, 3) := by decide +kernel
theorem dX10_passesFilters_59 : decode cX10_passesFilters 59 = .ok (.iload_n 3, 1) := by decide +kernel
theorem dX10_passesFilters_60 : decode cX10_passesFilters 60 = .ok (.iload 4, 2) := by decide +kernel
theorem dX10_passesFilters_62 : decode cX10_passesFilters 62 = .ok (.if_icmp .lt 33, 3) := by decide +kernel
theorem dX10_passesFilters_65 : decode cX10_passesFilters 65 = .ok (.goto 28, 3) := by decide +kernel
theorem dX10_passesFilters_68 : decode cX10_passesFilters 68 = .ok (.aload_n 0, 1) := by decide +kernel
theorem dX10_passesFilters_69 : decode cX10_passesFilters 69 = .ok (.getfield 28, 3) := by decide +kernel
theorem dX10_passesFilters_72 : decode cX10_passesFilters 72 = .ok (.iload_n 2, 1) := by decide +kernel
theorem dX10_passesFilters_73 : decode cX10_passesFilters 73 = .ok (.iaload, 1) := by decide +kernel
theorem dX10_passesFilters_74 : decode cX10_passesFilters 74 = .ok (.iconst 1, 1) := by decide +kernel
theorem dX10_passesFilters_75 : decode cX10_passesFilters 75 = .ok (.if_icmp .ne 12, 3) := by decide +kernel
theorem dX10_passesFilters_78 : decode cX10_passesFilters 78 = .ok (.iload_n 3, 1) := by decide +kernel
theorem dX10_passesFilters_79 : decode cX10_passesFilters 79 = .ok (.iload 4, 2) := by decide +kernel
theorem dX10_passesFilters_81 : decode cX10_passesFilters 81 = .ok (.if_icmp .eq 14, 3) := by decide +kernel
theorem dX10_passesFilters_84 : decode cX10_passesFilters 84 = .ok (.goto 9, 3) := by decide +kernel
theorem dX10_passesFilters_87 : decode cX10_passesFilters 87 = .ok (.iload_n 3, 1) := by decide +kernel
theorem dX10_passesFilters_88 : decode cX10_passesFilters 88 = .ok (.iload 4, 2) := by decide +kernel
theorem dX10_passesFilters_90 : decode cX10_passesFilters 90 = .ok (.if_icmp .gt 5, 3) := by decide +kernel
theorem dX10_passesFilters_93 : decode cX10_passesFilters 93 = .ok (.iconst 0, 1) := by decide +kernel
theorem dX10_passesFilters_94 : decode cX10_passesFilters 94 = .ok (.ireturn, 1) := by decide +kernel
theorem dX10_passesFilters_95 : decode cX10_passesFilters 95 = .ok (.iinc 2 1, 3) := by decide +kernel
theorem dX10_passesFilters_98 : decode cX10_passesFilters 98 = .ok (.goto (-96), 3) := by decide +kernel
theorem dX10_passesFilters_101 : decode cX10_passesFilters 101 = .ok (.iconst 1, 1) := by decide +kernel
theorem dX10_passesFilters_102 : decode cX10_passesFilters 102 = .ok (.ireturn, 1) := by decide +kernel
theorem dX10_passesJoins_0 : decode cX10_passesJoins 0 = .ok (.iconst 0, 1) := by decide +kernel
theorem dX10_passesJoins_1 : decode cX10_passesJoins 1 = .ok (.istore_n 3, 1) := by decide +kernel
theorem dX10_passesJoins_2 : decode cX10_passesJoins 2 = .ok (.iload_n 3, 1) := by decide +kernel
theorem dX10_passesJoins_3 : decode cX10_passesJoins 3 = .ok (.aload_n 0, 1) := by decide +kernel
theorem dX10_passesJoins_4 : decode cX10_passesJoins 4 = .ok (.getfield 192, 3) := by decide +kernel
theorem dX10_passesJoins_7 : decode cX10_passesJoins 7 = .ok (.if_icmp .ge 83, 3) := by decide +kernel
theorem dX10_passesJoins_10 : decode cX10_passesJoins 10 = .ok (.aload_n 0, 1) := by decide +kernel
theorem dX10_passesJoins_11 : decode cX10_passesJoins 11 = .ok (.getfield 37, 3) := by decide +kernel
theorem dX10_passesJoins_14 : decode cX10_passesJoins 14 = .ok (.iload_n 3, 1) := by decide +kernel
theorem dX10_passesJoins_15 : decode cX10_passesJoins 15 = .ok (.iaload, 1) := by decide +kernel
theorem dX10_passesJoins_16 : decode cX10_passesJoins 16 = .ok (.iconst 3, 1) := by decide +kernel
theorem dX10_passesJoins_17 : decode cX10_passesJoins 17 = .ok (.idiv, 1) := by decide +kernel
theorem dX10_passesJoins_18 : decode cX10_passesJoins 18 = .ok (.iload_n 1, 1) := by decide +kernel
theorem dX10_passesJoins_19 : decode cX10_passesJoins 19 = .ok (.if_icmp .ne 65, 3) := by decide +kernel
theorem dX10_passesJoins_22 : decode cX10_passesJoins 22 = .ok (.iload_n 2, 1) := by decide +kernel
theorem dX10_passesJoins_23 : decode cX10_passesJoins 23 = .ok (.aload_n 0, 1) := by decide +kernel
theorem dX10_passesJoins_24 : decode cX10_passesJoins 24 = .ok (.getfield 34, 3) := by decide +kernel
theorem dX10_passesJoins_27 : decode cX10_passesJoins 27 = .ok (.iload_n 3, 1) := by decide +kernel
theorem dX10_passesJoins_28 : decode cX10_passesJoins 28 = .ok (.iaload, 1) := by decide +kernel
theorem dX10_passesJoins_29 : decode cX10_passesJoins 29 = .ok (.iconst 3, 1) := by decide +kernel
theorem dX10_passesJoins_30 : decode cX10_passesJoins 30 = .ok (.idiv, 1) := by decide +kernel
theorem dX10_passesJoins_31 : decode cX10_passesJoins 31 = .ok (.invokestatic 184, 3) := by decide +kernel
theorem dX10_passesJoins_34 : decode cX10_passesJoins 34 = .ok (.ifCond .ne 6, 3) := by decide +kernel
theorem dX10_passesJoins_37 : decode cX10_passesJoins 37 = .ok (.goto 47, 3) := by decide +kernel
theorem dX10_passesJoins_40 : decode cX10_passesJoins 40 = .ok (.aload_n 0, 1) := by decide +kernel
theorem dX10_passesJoins_41 : decode cX10_passesJoins 41 = .ok (.aload_n 0, 1) := by decide +kernel
theorem dX10_passesJoins_42 : decode cX10_passesJoins 42 = .ok (.getfield 34, 3) := by decide +kernel
theorem dX10_passesJoins_45 : decode cX10_passesJoins 45 = .ok (.iload_n 3, 1) := by decide +kernel
theorem dX10_passesJoins_46 : decode cX10_passesJoins 46 = .ok (.iaload, 1) := by decide +kernel
theorem dX10_passesJoins_47 : decode cX10_passesJoins 47 = .ok (.aload_n 0, 1) := by decide +kernel
theorem dX10_passesJoins_48 : decode cX10_passesJoins 48 = .ok (.getfield 98, 3) := by decide +kernel
theorem dX10_passesJoins_51 : decode cX10_passesJoins 51 = .ok (.aload_n 0, 1) := by decide +kernel
theorem dX10_passesJoins_52 : decode cX10_passesJoins 52 = .ok (.getfield 34, 3) := by decide +kernel
theorem dX10_passesJoins_55 : decode cX10_passesJoins 55 = .ok (.iload_n 3, 1) := by decide +kernel
theorem dX10_passesJoins_56 : decode cX10_passesJoins 56 = .ok (.iaload, 1) := by decide +kernel
theorem dX10_passesJoins_57 : decode cX10_passesJoins 57 = .ok (.iconst 3, 1) := by decide +kernel
theorem dX10_passesJoins_58 : decode cX10_passesJoins 58 = .ok (.idiv, 1) := by decide +kernel
theorem dX10_passesJoins_59 : decode cX10_passesJoins 59 = .ok (.iaload, 1) := by decide +kernel
theorem dX10_passesJoins_60 : decode cX10_passesJoins 60 = .ok (.invokevirtual 149, 3) := by decide +kernel
theorem dX10_passesJoins_63 : decode cX10_passesJoins 63 = .ok (.aload_n 0, 1) := by decide +kernel
theorem dX10_passesJoins_64 : decode cX10_passesJoins 64 = .ok (.aload_n 0, 1) := by decide +kernel
theorem dX10_passesJoins_65 : decode cX10_passesJoins 65 = .ok (.getfield 37, 3) := by decide +kernel
theorem dX10_passesJoins_68 : decode cX10_passesJoins 68 = .ok (.iload_n 3, 1) := by decide +kernel
theorem dX10_passesJoins_69 : decode cX10_passesJoins 69 = .ok (.iaload, 1) := by decide +kernel
theorem dX10_passesJoins_70 : decode cX10_passesJoins 70 = .ok (.aload_n 0, 1) := by decide +kernel
theorem dX10_passesJoins_71 : decode cX10_passesJoins 71 = .ok (.getfield 98, 3) := by decide +kernel
theorem dX10_passesJoins_74 : decode cX10_passesJoins 74 = .ok (.iload_n 1, 1) := by decide +kernel
theorem dX10_passesJoins_75 : decode cX10_passesJoins 75 = .ok (.iaload, 1) := by decide +kernel
theorem dX10_passesJoins_76 : decode cX10_passesJoins 76 = .ok (.invokevirtual 149, 3) := by decide +kernel
theorem dX10_passesJoins_79 : decode cX10_passesJoins 79 = .ok (.if_icmp .eq 5, 3) := by decide +kernel
theorem dX10_passesJoins_82 : decode cX10_passesJoins 82 = .ok (.iconst 0, 1) := by decide +kernel
theorem dX10_passesJoins_83 : decode cX10_passesJoins 83 = .ok (.ireturn, 1) := by decide +kernel
theorem dX10_passesJoins_84 : decode cX10_passesJoins 84 = .ok (.iinc 3 1, 3) := by decide +kernel
theorem dX10_passesJoins_87 : decode cX10_passesJoins 87 = .ok (.goto (-85), 3) := by decide +kernel
theorem dX10_passesJoins_90 : decode cX10_passesJoins 90 = .ok (.iconst 1, 1) := by decide +kernel
theorem dX10_passesJoins_91 : decode cX10_passesJoins 91 = .ok (.ireturn, 1) := by decide +kernel
theorem dX10_nextOf_0 : decode cX10_nextOf 0 = .ok (.iload_n 1, 1) := by decide +kernel
theorem dX10_nextOf_1 : decode cX10_nextOf 1 = .ok (.iconst 1, 1) := by decide +kernel
theorem dX10_nextOf_2 : decode cX10_nextOf 2 = .ok (.iadd, 1) := by decide +kernel
theorem dX10_nextOf_3 : decode cX10_nextOf 3 = .ok (.istore_n 2, 1) := by decide +kernel
theorem dX10_nextOf_4 : decode cX10_nextOf 4 = .ok (.iload_n 2, 1) := by decide +kernel
theorem dX10_nextOf_5 : decode cX10_nextOf 5 = .ok (.iconst 5, 1) := by decide +kernel
theorem dX10_nextOf_6 : decode cX10_nextOf 6 = .ok (.if_icmp .ge 17, 3) := by decide +kernel
theorem dX10_nextOf_9 : decode cX10_nextOf 9 = .ok (.iload_n 0, 1) := by decide +kernel
theorem dX10_nextOf_10 : decode cX10_nextOf 10 = .ok (.iload_n 2, 1) := by decide +kernel
theorem dX10_nextOf_11 : decode cX10_nextOf 11 = .ok (.invokestatic 184, 3) := by decide +kernel
theorem dX10_nextOf_14 : decode cX10_nextOf 14 = .ok (.ifCond .ne 9, 3) := by decide +kernel
theorem dX10_nextOf_17 : decode cX10_nextOf 17 = .ok (.iinc 2 1, 3) := by decide +kernel
theorem dX10_nextOf_20 : decode cX10_nextOf 20 = .ok (.goto (-16), 3) := by decide +kernel
theorem dX10_nextOf_23 : decode cX10_nextOf 23 = .ok (.iload_n 2, 1) := by decide +kernel
theorem dX10_nextOf_24 : decode cX10_nextOf 24 = .ok (.ireturn, 1) := by decide +kernel
theorem dX10_aheadOf_0 : decode cX10_aheadOf 0 = .ok (.iload_n 1, 1) := by decide +kernel
theorem dX10_aheadOf_1 : decode cX10_aheadOf 1 = .ok (.iconst 1, 1) := by decide +kernel
theorem dX10_aheadOf_2 : decode cX10_aheadOf 2 = .ok (.isub, 1) := by decide +kernel
theorem dX10_aheadOf_3 : decode cX10_aheadOf 3 = .ok (.istore_n 2, 1) := by decide +kernel
theorem dX10_aheadOf_4 : decode cX10_aheadOf 4 = .ok (.iload_n 2, 1) := by decide +kernel
theorem dX10_aheadOf_5 : decode cX10_aheadOf 5 = .ok (.ifCond .lt 17, 3) := by decide +kernel
theorem dX10_aheadOf_8 : decode cX10_aheadOf 8 = .ok (.iload_n 0, 1) := by decide +kernel
theorem dX10_aheadOf_9 : decode cX10_aheadOf 9 = .ok (.iload_n 2, 1) := by decide +kernel
theorem dX10_aheadOf_10 : decode cX10_aheadOf 10 = .ok (.invokestatic 184, 3) := by decide +kernel
theorem dX10_aheadOf_13 : decode cX10_aheadOf 13 = .ok (.ifCond .ne 9, 3) := by decide +kernel
theorem dX10_aheadOf_16 : decode cX10_aheadOf 16 = .ok (.iinc 2 (-1), 3) := by decide +kernel
theorem dX10_aheadOf_19 : decode cX10_aheadOf 19 = .ok (.goto (-15), 3) := by decide +kernel
theorem dX10_aheadOf_22 : decode cX10_aheadOf 22 = .ok (.iload_n 2, 1) := by decide +kernel
theorem dX10_aheadOf_23 : decode cX10_aheadOf 23 = .ok (.ireturn, 1) := by decide +kernel
theorem dX10_findReally_0 : decode cX10_findReally 0 = .ok (.aload_n 0, 1) := by decide +kernel
theorem dX10_findReally_1 : decode cX10_findReally 1 = .ok (.iconst 0, 1) := by decide +kernel
theorem dX10_findReally_2 : decode cX10_findReally 2 = .ok (.putfield 289, 3) := by decide +kernel
theorem dX10_findReally_5 : decode cX10_findReally 5 = .ok (.aload_n 0, 1) := by decide +kernel
theorem dX10_findReally_6 : decode cX10_findReally 6 = .ok (.lconst 0, 1) := by decide +kernel
theorem dX10_findReally_7 : decode cX10_findReally 7 = .ok (.putfield 292, 3) := by decide +kernel
theorem dX10_findReally_10 : decode cX10_findReally 10 = .ok (.iload_n 1, 1) := by decide +kernel
theorem dX10_findReally_11 : decode cX10_findReally 11 = .ok (.iconst (-1), 1) := by decide +kernel
theorem dX10_findReally_12 : decode cX10_findReally 12 = .ok (.invokestatic 296, 3) := by decide +kernel
theorem dX10_findReally_15 : decode cX10_findReally 15 = .ok (.istore_n 3, 1) := by decide +kernel
theorem dX10_findReally_16 : decode cX10_findReally 16 = .ok (.aload_n 0, 1) := by decide +kernel
theorem dX10_findReally_17 : decode cX10_findReally 17 = .ok (.getfield 98, 3) := by decide +kernel
theorem dX10_findReally_20 : decode cX10_findReally 20 = .ok (.iload_n 3, 1) := by decide +kernel
theorem dX10_findReally_21 : decode cX10_findReally 21 = .ok (.iconst (-1), 1) := by decide +kernel
theorem dX10_findReally_22 : decode cX10_findReally 22 = .ok (.iastore, 1) := by decide +kernel
theorem dX10_findReally_23 : decode cX10_findReally 23 = .ok (.iload_n 3, 1) := by decide +kernel
theorem dX10_findReally_24 : decode cX10_findReally 24 = .ok (.ifCond .lt 130, 3) := by decide +kernel
theorem dX10_findReally_27 : decode cX10_findReally 27 = .ok (.aload_n 0, 1) := by decide +kernel
theorem dX10_findReally_28 : decode cX10_findReally 28 = .ok (.getfield 289, 3) := by decide +kernel
theorem dX10_findReally_31 : decode cX10_findReally 31 = .ok (.ldc_w 299, 3) := by decide +kernel
theorem dX10_findReally_34 : decode cX10_findReally 34 = .ok (.if_icmp .gt 120, 3) := by decide +kernel
theorem dX10_findReally_37 : decode cX10_findReally 37 = .ok (.aload_n 0, 1) := by decide +kernel
theorem dX10_findReally_38 : decode cX10_findReally 38 = .ok (.getfield 98, 3) := by decide +kernel
theorem dX10_findReally_41 : decode cX10_findReally 41 = .ok (.iload_n 3, 1) := by decide +kernel
theorem dX10_findReally_42 : decode cX10_findReally 42 = .ok (.dup2, 1) := by decide +kernel
theorem dX10_findReally_43 : decode cX10_findReally 43 = .ok (.iaload, 1) := by decide +kernel
theorem dX10_findReally_44 : decode cX10_findReally 44 = .ok (.iconst 1, 1) := by decide +kernel
theorem dX10_findReally_45 : decode cX10_findReally 45 = .ok (.iadd, 1) := by decide +kernel
theorem dX10_findReally_46 : decode cX10_findReally 46 = .ok (.iastore, 1) := by decide +kernel
theorem dX10_findReally_47 : decode cX10_findReally 47 = .ok (.aload_n 0, 1) := by decide +kernel
theorem dX10_findReally_48 : decode cX10_findReally 48 = .ok (.getfield 98, 3) := by decide +kernel
theorem dX10_findReally_51 : decode cX10_findReally 51 = .ok (.iload_n 3, 1) := by decide +kernel
theorem dX10_findReally_52 : decode cX10_findReally 52 = .ok (.iaload, 1) := by decide +kernel
theorem dX10_findReally_53 : decode cX10_findReally 53 = .ok (.aload_n 0, 1) := by decide +kernel
theorem dX10_findReally_54 : decode cX10_findReally 54 = .ok (.getfield 13, 3) := by decide +kernel
theorem dX10_findReally_57 : decode cX10_findReally 57 = .ok (.iload_n 3, 1) := by decide +kernel
theorem dX10_findReally_58 : decode cX10_findReally 58 = .ok (.iaload, 1) := by decide +kernel
theorem dX10_findReally_59 : decode cX10_findReally 59 = .ok (.if_icmp .lt 12, 3) := by decide +kernel
theorem dX10_findReally_62 : decode cX10_findReally 62 = .ok (.iload_n 1, 1) := by decide +kernel
theorem dX10_findReally_63 : decode cX10_findReally 63 = .ok (.iload_n 3, 1) := by decide +kernel
theorem dX10_findReally_64 : decode cX10_findReally 64 = .ok (.invokestatic 300, 3) := by decide +kernel
theorem dX10_findReally_67 : decode cX10_findReally 67 = .ok (.istore_n 3, 1) := by decide +kernel
theorem dX10_findReally_68 : decode cX10_findReally 68 = .ok (.goto (-45), 3) := by decide +kernel
theorem dX10_findReally_71 : decode cX10_findReally 71 = .ok (.aload_n 0, 1) := by decide +kernel
theorem dX10_findReally_72 : decode cX10_findReally 72 = .ok (.iload_n 3, 1) := by decide +kernel
theorem dX10_findReally_73 : decode cX10_findReally 73 = .ok (.invokevirtual 303, 3) := by decide +kernel
theorem dX10_findReally_76 : decode cX10_findReally 76 = .ok (.ifCond .eq (-53), 3) := by decide +kernel
theorem dX10_findReally_79 : decode cX10_findReally 79 = .ok (.aload_n 0, 1) := by decide +kernel
theorem dX10_findReally_80 : decode cX10_findReally 80 = .ok (.iload_n 3, 1) := by decide +kernel
theorem dX10_findReally_81 : decode cX10_findReally 81 = .ok (.iload_n 1, 1) := by decide +kernel
theorem dX10_findReally_82 : decode cX10_findReally 82 = .ok (.invokevirtual 306, 3) := by decide +kernel
theorem dX10_findReally_85 : decode cX10_findReally 85 = .ok (.ifCond .eq (-62), 3) := by decide +kernel
theorem dX10_findReally_88 : decode cX10_findReally 88 = .ok (.iload_n 1, 1) := by decide +kernel
theorem dX10_findReally_89 : decode cX10_findReally 89 = .ok (.iload_n 3, 1) := by decide +kernel
theorem dX10_findReally_90 : decode cX10_findReally 90 = .ok (.invokestatic 296, 3) := by decide +kernel
theorem dX10_findReally_93 : decode cX10_findReally 93 = .ok (.istore 4, 2) := by decide +kernel
theorem dX10_findReally_95 : decode cX10_findReally 95 = .ok (.iload 4, 2) := by decide +kernel
theorem dX10_findReally_97 : decode cX10_findReally 97 = .ok (.iconst 5, 1) := by decide +kernel
theorem dX10_findReally_98 : decode cX10_findReally 98 = .ok (.if_icmp .ge 16, 3) := by decide +kernel
theorem dX10_findReally_101 : decode cX10_findReally 101 = .ok (.iload 4, 2) := by decide +kernel
theorem dX10_findReally_103 : decode cX10_findReally 103 = .ok (.istore_n 3, 1) := by decide +kernel
theorem dX10_findReally_104 : decode cX10_findReally 104 = .ok (.aload_n 0, 1) := by decide +kernel
theorem dX10_findReally_105 : decode cX10_findReally 105 = .ok (.getfield 98, 3) := by decide +kernel
theorem dX10_findReally_108 : decode cX10_findReally 108 = .ok (.iload_n 3, 1) := by decide +kernel
theorem dX10_findReally_109 : decode cX10_findReally 109 = .ok (.iconst (-1), 1) := by decide +kernel
theorem dX10_findReally_110 : decode cX10_findReally 110 = .ok (.iastore, 1) := by decide +kernel
theorem dX10_findReally_111 : decode cX10_findReally 111 = .ok (.goto 40, 3) := by decide +kernel
theorem dX10_findReally_114 : decode cX10_findReally 114 = .ok (.aload_n 0, 1) := by decide +kernel
theorem dX10_findReally_115 : decode cX10_findReally 115 = .ok (.dup, 1) := by decide +kernel
theorem dX10_findReally_116 : decode cX10_findReally 116 = .ok (.getfield 289, 3) := by decide +kernel
theorem dX10_findReally_119 : decode cX10_findReally 119 = .ok (.iconst 1, 1) := by decide +kernel
theorem dX10_findReally_120 : decode cX10_findReally 120 = .ok (.iadd, 1) := by decide +kernel
theorem dX10_findReally_121 : decode cX10_findReally 121 = .ok (.putfield 289, 3) := by decide +kernel
theorem dX10_findReally_124 : decode cX10_findReally 124 = .ok (.iload_n 2, 1) := by decide +kernel
theorem dX10_findReally_125 : decode cX10_findReally 125 = .ok (.ifCond .lt 26, 3) := by decide +kernel
theorem dX10_findReally_128 : decode cX10_findReally 128 = .ok (.aload_n 0, 1) := by decide +kernel
theorem dX10_findReally_129 : decode cX10_findReally 129 = .ok (.dup, 1) := by decide +kernel
theorem dX10_findReally_130 : decode cX10_findReally 130 = .ok (.getfield 292, 3) := by decide +kernel
theorem dX10_findReally_133 : decode cX10_findReally 133 = .ok (.aload_n 0, 1) := by decide +kernel
theorem dX10_findReally_134 : decode cX10_findReally 134 = .ok (.iload_n 2, 1) := by decide +kernel
theorem dX10_findReally_135 : decode cX10_findReally 135 = .ok (.aload_n 0, 1) := by decide +kernel
theorem dX10_findReally_136 : decode cX10_findReally 136 = .ok (.getfield 98, 3) := by decide +kernel
theorem dX10_findReally_139 : decode cX10_findReally 139 = .ok (.iload_n 2, 1) := by decide +kernel
theorem dX10_findReally_140 : decode cX10_findReally 140 = .ok (.iconst 3, 1) := by decide +kernel
theorem dX10_findReally_141 : decode cX10_findReally 141 = .ok (.idiv, 1) := by decide +kernel
theorem dX10_findReally_142 : decode cX10_findReally 142 = .ok (.iaload, 1) := by decide +kernel
theorem dX10_findReally_143 : decode cX10_findReally 143 = .ok (.invokevirtual 149, 3) := by decide +kernel
theorem dX10_findReally_146 : decode cX10_findReally 146 = .ok (.i2l, 1) := by decide +kernel
theorem dX10_findReally_147 : decode cX10_findReally 147 = .ok (.ladd, 1) := by decide +kernel
theorem dX10_findReally_148 : decode cX10_findReally 148 = .ok (.putfield 292, 3) := by decide +kernel
theorem dX10_findReally_151 : decode cX10_findReally 151 = .ok (.goto (-128), 3) := by decide +kernel
theorem dX10_findReally_154 : decode cX10_findReally 154 = .ok (.return_, 1) := by decide +kernel
theorem dX10_really_0 : decode cX10_really 0 = .ok (.iload_n 1, 1) := by decide +kernel
theorem dX10_really_1 : decode cX10_really 1 = .ok (.invokestatic 267, 3) := by decide +kernel
theorem dX10_really_4 : decode cX10_really 4 = .ok (.ifCond .ne 10, 3) := by decide +kernel
theorem dX10_really_7 : decode cX10_really 7 = .ok (.aload_n 0, 1) := by decide +kernel
theorem dX10_really_8 : decode cX10_really 8 = .ok (.bipush (-6), 2) := by decide +kernel
theorem dX10_really_10 : decode cX10_really 10 = .ok (.invokevirtual 274, 3) := by decide +kernel
theorem dX10_really_13 : decode cX10_really 13 = .ok (.ireturn, 1) := by decide +kernel
theorem dX10_really_14 : decode cX10_really 14 = .ok (.aload_n 0, 1) := by decide +kernel
theorem dX10_really_15 : decode cX10_really 15 = .ok (.iload_n 1, 1) := by decide +kernel
theorem dX10_really_16 : decode cX10_really 16 = .ok (.iconst (-1), 1) := by decide +kernel
theorem dX10_really_17 : decode cX10_really 17 = .ok (.invokevirtual 309, 3) := by decide +kernel
theorem dX10_really_20 : decode cX10_really 20 = .ok (.aload_n 0, 1) := by decide +kernel
theorem dX10_really_21 : decode cX10_really 21 = .ok (.getfield 289, 3) := by decide +kernel
theorem dX10_really_24 : decode cX10_really 24 = .ok (.ldc_w 299, 3) := by decide +kernel
theorem dX10_really_27 : decode cX10_really 27 = .ok (.if_icmp .le 12, 3) := by decide +kernel
theorem dX10_really_30 : decode cX10_really 30 = .ok (.aload_n 0, 1) := by decide +kernel
theorem dX10_really_31 : decode cX10_really 31 = .ok (.bipush (-5), 2) := by decide +kernel
theorem dX10_really_33 : decode cX10_really 33 = .ok (.invokevirtual 274, 3) := by decide +kernel
theorem dX10_really_36 : decode cX10_really 36 = .ok (.goto 7, 3) := by decide +kernel
theorem dX10_really_39 : decode cX10_really 39 = .ok (.aload_n 0, 1) := by decide +kernel
theorem dX10_really_40 : decode cX10_really 40 = .ok (.getfield 289, 3) := by decide +kernel
theorem dX10_really_43 : decode cX10_really 43 = .ok (.ireturn, 1) := by decide +kernel
theorem dX10_sum_0 : decode cX10_sum 0 = .ok (.iload_n 2, 1) := by decide +kernel
theorem dX10_sum_1 : decode cX10_sum 1 = .ok (.invokestatic 312, 3) := by decide +kernel
theorem dX10_sum_4 : decode cX10_sum 4 = .ok (.ifCond .ne 10, 3) := by decide +kernel
theorem dX10_sum_7 : decode cX10_sum 7 = .ok (.aload_n 0, 1) := by decide +kernel
theorem dX10_sum_8 : decode cX10_sum 8 = .ok (.iconst (-1), 1) := by decide +kernel
theorem dX10_sum_9 : decode cX10_sum 9 = .ok (.invokevirtual 274, 3) := by decide +kernel
theorem dX10_sum_12 : decode cX10_sum 12 = .ok (.i2l, 1) := by decide +kernel
theorem dX10_sum_13 : decode cX10_sum 13 = .ok (.lreturn, 1) := by decide +kernel
theorem dX10_sum_14 : decode cX10_sum 14 = .ok (.iload_n 1, 1) := by decide +kernel
theorem dX10_sum_15 : decode cX10_sum 15 = .ok (.invokestatic 267, 3) := by decide +kernel
theorem dX10_sum_18 : decode cX10_sum 18 = .ok (.ifCond .ne 11, 3) := by decide +kernel
theorem dX10_sum_21 : decode cX10_sum 21 = .ok (.aload_n 0, 1) := by decide +kernel
theorem dX10_sum_22 : decode cX10_sum 22 = .ok (.bipush (-6), 2) := by decide +kernel
theorem dX10_sum_24 : decode cX10_sum 24 = .ok (.invokevirtual 274, 3) := by decide +kernel
theorem dX10_sum_27 : decode cX10_sum 27 = .ok (.i2l, 1) := by decide +kernel
theorem dX10_sum_28 : decode cX10_sum 28 = .ok (.lreturn, 1) := by decide +kernel
theorem dX10_sum_29 : decode cX10_sum 29 = .ok (.iload_n 1, 1) := by decide +kernel
theorem dX10_sum_30 : decode cX10_sum 30 = .ok (.iload_n 2, 1) := by decide +kernel
theorem dX10_sum_31 : decode cX10_sum 31 = .ok (.iconst 3, 1) := by decide +kernel
theorem dX10_sum_32 : decode cX10_sum 32 = .ok (.idiv, 1) := by decide +kernel
theorem dX10_sum_33 : decode cX10_sum 33 = .ok (.invokestatic 184, 3) := by decide +kernel
theorem dX10_sum_36 : decode cX10_sum 36 = .ok (.istore_n 3, 1) := by decide +kernel
theorem dX10_sum_37 : decode cX10_sum 37 = .ok (.aload_n 0, 1) := by decide +kernel
theorem dX10_sum_38 : decode cX10_sum 38 = .ok (.iload_n 1, 1) := by decide +kernel
theorem dX10_sum_39 : decode cX10_sum 39 = .ok (.iload_n 3, 1) := by decide +kernel
theorem dX10_sum_40 : decode cX10_sum 40 = .ok (.ifCond .eq 7, 3) := by decide +kernel
theorem dX10_sum_43 : decode cX10_sum 43 = .ok (.iload_n 2, 1) := by decide +kernel
theorem dX10_sum_44 : decode cX10_sum 44 = .ok (.goto 4, 3) := by decide +kernel
theorem dX10_sum_47 : decode cX10_sum 47 = .ok (.iconst (-1), 1) := by decide +kernel
theorem dX10_sum_48 : decode cX10_sum 48 = .ok (.invokevirtual 309, 3) := by decide +kernel
theorem dX10_sum_51 : decode cX10_sum 51 = .ok (.aload_n 0, 1) := by decide +kernel
theorem dX10_sum_52 : decode cX10_sum 52 = .ok (.getfield 289, 3) := by decide +kernel
theorem dX10_sum_55 : decode cX10_sum 55 = .ok (.ldc_w 299, 3) := by decide +kernel
theorem dX10_sum_58 : decode cX10_sum 58 = .ok (.if_icmp .le 11, 3) := by decide +kernel
theorem dX10_sum_61 : decode cX10_sum 61 = .ok (.aload_n 0, 1) := by decide +kernel
theorem dX10_sum_62 : decode cX10_sum 62 = .ok (.bipush (-5), 2) := by decide +kernel
theorem dX10_sum_64 : decode cX10_sum 64 = .ok (.invokevirtual 274, 3) := by decide +kernel
theorem dX10_sum_67 : decode cX10_sum 67 = .ok (.i2l, 1) := by decide +kernel
theorem dX10_sum_68 : decode cX10_sum 68 = .ok (.lreturn, 1) := by decide +kernel
theorem dX10_sum_69 : decode cX10_sum 69 = .ok (.iload_n 3, 1) := by decide +kernel
theorem dX10_sum_70 : decode cX10_sum 70 = .ok (.ifCond .eq 10, 3) := by decide +kernel
theorem dX10_sum_73 : decode cX10_sum 73 = .ok (.aload_n 0, 1) := by decide +kernel
theorem dX10_sum_74 : decode cX10_sum 74 = .ok (.getfield 292, 3) := by decide +kernel
theorem dX10_sum_77 : decode cX10_sum 77 = .ok (.goto 10, 3) := by decide +kernel
theorem dX10_sum_80 : decode cX10_sum 80 = .ok (.aload_n 0, 1) := by decide +kernel
theorem dX10_sum_81 : decode cX10_sum 81 = .ok (.bipush (-6), 2) := by decide +kernel
theorem dX10_sum_83 : decode cX10_sum 83 = .ok (.invokevirtual 274, 3) := by decide +kernel
theorem dX10_sum_86 : decode cX10_sum 86 = .ok (.i2l, 1) := by decide +kernel
theorem dX10_sum_87 : decode cX10_sum 87 = .ok (.lreturn, 1) := by decide +kernel
theorem dX10_wrongBy_0 : decode cX10_wrongBy 0 = .ok (.iload_n 1, 1) := by decide +kernel
theorem dX10_wrongBy_1 : decode cX10_wrongBy 1 = .ok (.invokestatic 267, 3) := by decide +kernel
theorem dX10_wrongBy_4 : decode cX10_wrongBy 4 = .ok (.ifCond .ne 10, 3) := by decide +kernel
theorem dX10_wrongBy_7 : decode cX10_wrongBy 7 = .ok (.aload_n 0, 1) := by decide +kernel
theorem dX10_wrongBy_8 : decode cX10_wrongBy 8 = .ok (.bipush (-6), 2) := by decide +kernel
theorem dX10_wrongBy_10 : decode cX10_wrongBy 10 = .ok (.invokevirtual 274, 3) := by decide +kernel
theorem dX10_wrongBy_13 : decode cX10_wrongBy 13 = .ok (.ireturn, 1) := by decide +kernel
theorem dX10_wrongBy_14 : decode cX10_wrongBy 14 = .ok (.aload_n 0, 1) := by decide +kernel
theorem dX10_wrongBy_15 : decode cX10_wrongBy 15 = .ok (.iload_n 1, 1) := by decide +kernel
theorem dX10_wrongBy_16 : decode cX10_wrongBy 16 = .ok (.iconst (-1), 1) := by decide +kernel
theorem dX10_wrongBy_17 : decode cX10_wrongBy 17 = .ok (.invokevirtual 309, 3) := by decide +kernel
theorem dX10_wrongBy_20 : decode cX10_wrongBy 20 = .ok (.aload_n 0, 1) := by decide +kernel
theorem dX10_wrongBy_21 : decode cX10_wrongBy 21 = .ok (.getfield 289, 3) := by decide +kernel
theorem dX10_wrongBy_24 : decode cX10_wrongBy 24 = .ok (.ldc_w 299, 3) := by decide +kernel
theorem dX10_wrongBy_27 : decode cX10_wrongBy 27 = .ok (.if_icmp .le 10, 3) := by decide +kernel
theorem dX10_wrongBy_30 : decode cX10_wrongBy 30 = .ok (.aload_n 0, 1) := by decide +kernel
theorem dX10_wrongBy_31 : decode cX10_wrongBy 31 = .ok (.bipush (-5), 2) := by decide +kernel
theorem dX10_wrongBy_33 : decode cX10_wrongBy 33 = .ok (.invokevirtual 274, 3) := by decide +kernel
theorem dX10_wrongBy_36 : decode cX10_wrongBy 36 = .ok (.ireturn, 1) := by decide +kernel
theorem dX10_wrongBy_37 : decode cX10_wrongBy 37 = .ok (.aload_n 0, 1) := by decide +kernel
theorem dX10_wrongBy_38 : decode cX10_wrongBy 38 = .ok (.iload_n 1, 1) := by decide +kernel
theorem dX10_wrongBy_39 : decode cX10_wrongBy 39 = .ok (.invokevirtual 201, 3) := by decide +kernel
theorem dX10_wrongBy_42 : decode cX10_wrongBy 42 = .ok (.fstore_n 2, 1) := by decide +kernel
theorem dX10_wrongBy_43 : decode cX10_wrongBy 43 = .ok (.aload_n 0, 1) := by decide +kernel
theorem dX10_wrongBy_44 : decode cX10_wrongBy 44 = .ok (.getfield 289, 3) := by decide +kernel
theorem dX10_wrongBy_47 : decode cX10_wrongBy 47 = .ok (.i2f, 1) := by decide +kernel
theorem dX10_wrongBy_48 : decode cX10_wrongBy 48 = .ok (.fstore_n 3, 1) := by decide +kernel
theorem dX10_wrongBy_49 : decode cX10_wrongBy 49 = .ok (.fload_n 2, 1) := by decide +kernel
theorem dX10_wrongBy_50 : decode cX10_wrongBy 50 = .ok (.fconst 0, 1) := by decide +kernel
theorem dX10_wrongBy_51 : decode cX10_wrongBy 51 = .ok (.fcmp .l, 1) := by decide +kernel
theorem dX10_wrongBy_52 : decode cX10_wrongBy 52 = .ok (.ifCond .eq 9, 3) := by decide +kernel
theorem dX10_wrongBy_55 : decode cX10_wrongBy 55 = .ok (.fload_n 3, 1) := by decide +kernel
theorem dX10_wrongBy_56 : decode cX10_wrongBy 56 = .ok (.fconst 0, 1) := by decide +kernel
theorem dX10_wrongBy_57 : decode cX10_wrongBy 57 = .ok (.fcmp .l, 1) := by decide +kernel
theorem dX10_wrongBy_58 : decode cX10_wrongBy 58 = .ok (.ifCond .ne 18, 3) := by decide +kernel
theorem dX10_wrongBy_61 : decode cX10_wrongBy 61 = .ok (.fload_n 2, 1) := by decide +kernel
theorem dX10_wrongBy_62 : decode cX10_wrongBy 62 = .ok (.fload_n 3, 1) := by decide +kernel
theorem dX10_wrongBy_63 : decode cX10_wrongBy 63 = .ok (.fcmp .l, 1) := by decide +kernel
theorem dX10_wrongBy_64 : decode cX10_wrongBy 64 = .ok (.ifCond .ne 7, 3) := by decide +kernel
theorem dX10_wrongBy_67 : decode cX10_wrongBy 67 = .ok (.fconst 1, 1) := by decide +kernel
theorem dX10_wrongBy_68 : decode cX10_wrongBy 68 = .ok (.goto 4, 3) := by decide +kernel
theorem dX10_wrongBy_71 : decode cX10_wrongBy 71 = .ok (.fconst 0, 1) := by decide +kernel
theorem dX10_wrongBy_72 : decode cX10_wrongBy 72 = .ok (.invokestatic 258, 3) := by decide +kernel
theorem dX10_wrongBy_75 : decode cX10_wrongBy 75 = .ok (.ireturn, 1) := by decide +kernel
theorem dX10_wrongBy_76 : decode cX10_wrongBy 76 = .ok (.fload_n 2, 1) := by decide +kernel
theorem dX10_wrongBy_77 : decode cX10_wrongBy 77 = .ok (.fload_n 3, 1) := by decide +kernel
theorem dX10_wrongBy_78 : decode cX10_wrongBy 78 = .ok (.fdiv, 1) := by decide +kernel
theorem dX10_wrongBy_79 : decode cX10_wrongBy 79 = .ok (.fstore 4, 2) := by decide +kernel
theorem dX10_wrongBy_81 : decode cX10_wrongBy 81 = .ok (.fload_n 3, 1) := by decide +kernel
theorem dX10_wrongBy_82 : decode cX10_wrongBy 82 = .ok (.fload_n 2, 1) := by decide +kernel
theorem dX10_wrongBy_83 : decode cX10_wrongBy 83 = .ok (.fdiv, 1) := by decide +kernel
theorem dX10_wrongBy_84 : decode cX10_wrongBy 84 = .ok (.fstore 5, 2) := by decide +kernel
theorem dX10_wrongBy_86 : decode cX10_wrongBy 86 = .ok (.fload 4, 2) := by decide +kernel
theorem dX10_wrongBy_88 : decode cX10_wrongBy 88 = .ok (.fload 5, 2) := by decide +kernel
theorem dX10_wrongBy_90 : decode cX10_wrongBy 90 = .ok (.fcmp .l, 1) := by decide +kernel
theorem dX10_wrongBy_91 : decode cX10_wrongBy 91 = .ok (.ifCond .le 8, 3) := by decide +kernel
theorem dX10_wrongBy_94 : decode cX10_wrongBy 94 = .ok (.fload 4, 2) := by decide +kernel
theorem dX10_wrongBy_96 : decode cX10_wrongBy 96 = .ok (.goto 5, 3) := by decide +kernel
theorem dX10_wrongBy_99 : decode cX10_wrongBy 99 = .ok (.fload 5, 2) := by decide +kernel
theorem dX10_wrongBy_101 : decode cX10_wrongBy 101 = .ok (.invokestatic 258, 3) := by decide +kernel
theorem dX10_wrongBy_104 : decode cX10_wrongBy 104 = .ok (.ireturn, 1) := by decide +kernel
theorem dX10_isShelf_0 : decode cX10_isShelf 0 = .ok (.iload_n 0, 1) := by decide +kernel
theorem dX10_isShelf_1 : decode cX10_isShelf 1 = .ok (.iconst 0, 1) := by decide +kernel
theorem dX10_isShelf_2 : decode cX10_isShelf 2 = .ok (.bipush 7, 2) := by decide +kernel
theorem dX10_isShelf_4 : decode cX10_isShelf 4 = .ok (.invokestatic 145, 3) := by decide +kernel
theorem dX10_isShelf_7 : decode cX10_isShelf 7 = .ok (.ireturn, 1) := by decide +kernel
theorem dX10_isRow_0 : decode cX10_isRow 0 = .ok (.aload_n 0, 1) := by decide +kernel
theorem dX10_isRow_1 : decode cX10_isRow 1 = .ok (.getfield 101, 3) := by decide +kernel
theorem dX10_isRow_4 : decode cX10_isRow 4 = .ok (.iload_n 1, 1) := by decide +kernel
theorem dX10_isRow_5 : decode cX10_isRow 5 = .ok (.iaload, 1) := by decide +kernel
theorem dX10_isRow_6 : decode cX10_isRow 6 = .ok (.bipush 100, 2) := by decide +kernel
theorem dX10_isRow_8 : decode cX10_isRow 8 = .ok (.sipush 199, 3) := by decide +kernel
theorem dX10_isRow_11 : decode cX10_isRow 11 = .ok (.invokestatic 145, 3) := by decide +kernel
theorem dX10_isRow_14 : decode cX10_isRow 14 = .ok (.ireturn, 1) := by decide +kernel
theorem dX10_lowest_0 : decode cX10_lowest 0 = .ok (.iload_n 0, 1) := by decide +kernel
theorem dX10_lowest_1 : decode cX10_lowest 1 = .ok (.ifCond .ne 10, 3) := by decide +kernel
theorem dX10_lowest_4 : decode cX10_lowest 4 = .ok (.lload_n 1, 1) := by decide +kernel
theorem dX10_lowest_5 : decode cX10_lowest 5 = .ok (.l2i, 1) := by decide +kernel
theorem dX10_lowest_6 : decode cX10_lowest 6 = .ok (.i2b, 1) := by decide +kernel
theorem dX10_lowest_7 : decode cX10_lowest 7 = .ok (.i2l, 1) := by decide +kernel
theorem dX10_lowest_8 : decode cX10_lowest 8 = .ok (.goto 27, 3) := by decide +kernel
theorem dX10_lowest_11 : decode cX10_lowest 11 = .ok (.iload_n 0, 1) := by decide +kernel
theorem dX10_lowest_12 : decode cX10_lowest 12 = .ok (.iconst 1, 1) := by decide +kernel
theorem dX10_lowest_13 : decode cX10_lowest 13 = .ok (.if_icmp .ne 10, 3) := by decide +kernel
theorem dX10_lowest_16 : decode cX10_lowest 16 = .ok (.lload_n 1, 1) := by decide +kernel
theorem dX10_lowest_17 : decode cX10_lowest 17 = .ok (.l2i, 1) := by decide +kernel
theorem dX10_lowest_18 : decode cX10_lowest 18 = .ok (.i2s, 1) := by decide +kernel
theorem dX10_lowest_19 : decode cX10_lowest 19 = .ok (.i2l, 1) := by decide +kernel
theorem dX10_lowest_20 : decode cX10_lowest 20 = .ok (.goto 15, 3) := by decide +kernel
theorem dX10_lowest_23 : decode cX10_lowest 23 = .ok (.iload_n 0, 1) := by decide +kernel
theorem dX10_lowest_24 : decode cX10_lowest 24 = .ok (.iconst 2, 1) := by decide +kernel
theorem dX10_lowest_25 : decode cX10_lowest 25 = .ok (.if_icmp .ne 9, 3) := by decide +kernel
theorem dX10_lowest_28 : decode cX10_lowest 28 = .ok (.lload_n 1, 1) := by decide +kernel
theorem dX10_lowest_29 : decode cX10_lowest 29 = .ok (.l2i, 1) := by decide +kernel
theorem dX10_lowest_30 : decode cX10_lowest 30 = .ok (.i2l, 1) := by decide +kernel
theorem dX10_lowest_31 : decode cX10_lowest 31 = .ok (.goto 4, 3) := by decide +kernel
theorem dX10_lowest_34 : decode cX10_lowest 34 = .ok (.lload_n 1, 1) := by decide +kernel
theorem dX10_lowest_35 : decode cX10_lowest 35 = .ok (.lreturn, 1) := by decide +kernel
theorem dX10_notRow_0 : decode cX10_notRow 0 = .ok (.iload_n 1, 1) := by decide +kernel
theorem dX10_notRow_1 : decode cX10_notRow 1 = .ok (.invokestatic 315, 3) := by decide +kernel
theorem dX10_notRow_4 : decode cX10_notRow 4 = .ok (.ifCond .ne 7, 3) := by decide +kernel
theorem dX10_notRow_7 : decode cX10_notRow 7 = .ok (.iconst (-1), 1) := by decide +kernel
theorem dX10_notRow_8 : decode cX10_notRow 8 = .ok (.goto 35, 3) := by decide +kernel
theorem dX10_notRow_11 : decode cX10_notRow 11 = .ok (.aload_n 0, 1) := by decide +kernel
theorem dX10_notRow_12 : decode cX10_notRow 12 = .ok (.getfield 101, 3) := by decide +kernel
theorem dX10_notRow_15 : decode cX10_notRow 15 = .ok (.iload_n 1, 1) := by decide +kernel
theorem dX10_notRow_16 : decode cX10_notRow 16 = .ok (.iaload, 1) := by decide +kernel
theorem dX10_notRow_17 : decode cX10_notRow 17 = .ok (.sipush 200, 3) := by decide +kernel
theorem dX10_notRow_20 : decode cX10_notRow 20 = .ok (.if_icmp .lt 8, 3) := by decide +kernel
theorem dX10_notRow_23 : decode cX10_notRow 23 = .ok (.bipush (-2), 2) := by decide +kernel
theorem dX10_notRow_25 : decode cX10_notRow 25 = .ok (.goto 18, 3) := by decide +kernel
theorem dX10_notRow_28 : decode cX10_notRow 28 = .ok (.aload_n 0, 1) := by decide +kernel
theorem dX10_notRow_29 : decode cX10_notRow 29 = .ok (.getfield 101, 3) := by decide +kernel
theorem dX10_notRow_32 : decode cX10_notRow 32 = .ok (.iload_n 1, 1) := by decide +kernel
theorem dX10_notRow_33 : decode cX10_notRow 33 = .ok (.iaload, 1) := by decide +kernel
theorem dX10_notRow_34 : decode cX10_notRow 34 = .ok (.ifCond .ne 8, 3) := by decide +kernel
theorem dX10_notRow_37 : decode cX10_notRow 37 = .ok (.bipush (-3), 2) := by decide +kernel
theorem dX10_notRow_39 : decode cX10_notRow 39 = .ok (.goto 4, 3) := by decide +kernel
theorem dX10_notRow_42 : decode cX10_notRow 42 = .ok (.iconst 0, 1) := by decide +kernel
theorem dX10_notRow_43 : decode cX10_notRow 43 = .ok (.ireturn, 1) := by decide +kernel
theorem dX10_row_0 : decode cX10_row 0 = .ok (.iload_n 1, 1) := by decide +kernel
theorem dX10_row_1 : decode cX10_row 1 = .ok (.invokestatic 315, 3) := by decide +kernel
theorem dX10_row_4 : decode cX10_row 4 = .ok (.ifCond .ne 7, 3) := by decide +kernel
theorem dX10_row_7 : decode cX10_row 7 = .ok (.iconst (-1), 1) := by decide +kernel
theorem dX10_row_8 : decode cX10_row 8 = .ok (.goto 39, 3) := by decide +kernel
theorem dX10_row_11 : decode cX10_row 11 = .ok (.iload_n 3, 1) := by decide +kernel
theorem dX10_row_12 : decode cX10_row 12 = .ok (.ifCond .ge 8, 3) := by decide +kernel
theorem dX10_row_15 : decode cX10_row 15 = .ok (.bipush (-4), 2) := by decide +kernel
theorem dX10_row_17 : decode cX10_row 17 = .ok (.goto 30, 3) := by decide +kernel
theorem dX10_row_20 : decode cX10_row 20 = .ok (.iload_n 2, 1) := by decide +kernel
theorem dX10_row_21 : decode cX10_row 21 = .ok (.iconst 0, 1) := by decide +kernel
theorem dX10_row_22 : decode cX10_row 22 = .ok (.iconst 3, 1) := by decide +kernel
theorem dX10_row_23 : decode cX10_row 23 = .ok (.invokestatic 145, 3) := by decide +kernel
theorem dX10_row_26 : decode cX10_row 26 = .ok (.ifCond .ne 8, 3) := by decide +kernel
theorem dX10_row_29 : decode cX10_row 29 = .ok (.bipush (-6), 2) := by decide +kernel
theorem dX10_row_31 : decode cX10_row 31 = .ok (.goto 16, 3) := by decide +kernel
theorem dX10_row_34 : decode cX10_row 34 = .ok (.iload_n 3, 1) := by decide +kernel
theorem dX10_row_35 : decode cX10_row 35 = .ok (.sipush 160, 3) := by decide +kernel
theorem dX10_row_38 : decode cX10_row 38 = .ok (.if_icmp .le 8, 3) := by decide +kernel
theorem dX10_row_41 : decode cX10_row 41 = .ok (.bipush (-7), 2) := by decide +kernel
theorem dX10_row_43 : decode cX10_row 43 = .ok (.goto 4, 3) := by decide +kernel
theorem dX10_row_46 : decode cX10_row 46 = .ok (.iconst 0, 1) := by decide +kernel
theorem dX10_row_47 : decode cX10_row 47 = .ok (.istore 4, 2) := by decide +kernel
theorem dX10_row_49 : decode cX10_row 49 = .ok (.iload 4, 2) := by decide +kernel
theorem dX10_row_51 : decode cX10_row 51 = .ok (.ifCond .eq 10, 3) := by decide +kernel
theorem dX10_row_54 : decode cX10_row 54 = .ok (.aload_n 0, 1) := by decide +kernel
theorem dX10_row_55 : decode cX10_row 55 = .ok (.iload 4, 2) := by decide +kernel
theorem dX10_row_57 : decode cX10_row 57 = .ok (.invokevirtual 274, 3) := by decide +kernel
theorem dX10_row_60 : decode cX10_row 60 = .ok (.ireturn, 1) := by decide +kernel
theorem dX10_row_61 : decode cX10_row 61 = .ok (.aload_n 0, 1) := by decide +kernel
theorem dX10_row_62 : decode cX10_row 62 = .ok (.getfield 101, 3) := by decide +kernel
theorem dX10_row_65 : decode cX10_row 65 = .ok (.iload_n 1, 1) := by decide +kernel
theorem dX10_row_66 : decode cX10_row 66 = .ok (.bipush 100, 2) := by decide +kernel
theorem dX10_row_68 : decode cX10_row 68 = .ok (.iload_n 2, 1) := by decide +kernel
theorem dX10_row_69 : decode cX10_row 69 = .ok (.iadd, 1) := by decide +kernel
theorem dX10_row_70 : decode cX10_row 70 = .ok (.iastore, 1) := by decide +kernel
theorem dX10_row_71 : decode cX10_row 71 = .ok (.aload_n 0, 1) := by decide +kernel
theorem dX10_row_72 : decode cX10_row 72 = .ok (.getfield 104, 3) := by decide +kernel
theorem dX10_row_75 : decode cX10_row 75 = .ok (.iload_n 1, 1) := by decide +kernel
theorem dX10_row_76 : decode cX10_row 76 = .ok (.iload_n 3, 1) := by decide +kernel
theorem dX10_row_77 : decode cX10_row 77 = .ok (.iastore, 1) := by decide +kernel
theorem dX10_row_78 : decode cX10_row 78 = .ok (.iconst 0, 1) := by decide +kernel
theorem dX10_row_79 : decode cX10_row 79 = .ok (.istore 5, 2) := by decide +kernel
theorem dX10_row_81 : decode cX10_row 81 = .ok (.iload 5, 2) := by decide +kernel
theorem dX10_row_83 : decode cX10_row 83 = .ok (.iload_n 3, 1) := by decide +kernel
theorem dX10_row_84 : decode cX10_row 84 = .ok (.if_icmp .ge 23, 3) := by decide +kernel
theorem dX10_row_87 : decode cX10_row 87 = .ok (.aload_n 0, 1) := by decide +kernel
theorem dX10_row_88 : decode cX10_row 88 = .ok (.getfield 116, 3) := by decide +kernel
theorem dX10_row_91 : decode cX10_row 91 = .ok (.sipush 160, 3) := by decide +kernel
theorem dX10_row_94 : decode cX10_row 94 = .ok (.iload_n 1, 1) := by decide +kernel
theorem dX10_row_95 : decode cX10_row 95 = .ok (.imul, 1) := by decide +kernel
theorem dX10_row_96 : decode cX10_row 96 = .ok (.iload 5, 2) := by decide +kernel
theorem dX10_row_98 : decode cX10_row 98 = .ok (.iadd, 1) := by decide +kernel
theorem dX10_row_99 : decode cX10_row 99 = .ok (.lconst 0, 1) := by decide +kernel
theorem dX10_row_100 : decode cX10_row 100 = .ok (.lastore, 1) := by decide +kernel
theorem dX10_row_101 : decode cX10_row 101 = .ok (.iinc 5 1, 3) := by decide +kernel
theorem dX10_row_104 : decode cX10_row 104 = .ok (.goto (-23), 3) := by decide +kernel
theorem dX10_row_107 : decode cX10_row 107 = .ok (.iconst 1, 1) := by decide +kernel
theorem dX10_row_108 : decode cX10_row 108 = .ok (.ireturn, 1) := by decide +kernel
theorem dX10_set_0 : decode cX10_set 0 = .ok (.aload_n 0, 1) := by decide +kernel
theorem dX10_set_1 : decode cX10_set 1 = .ok (.iload_n 1, 1) := by decide +kernel
theorem dX10_set_2 : decode cX10_set 2 = .ok (.invokevirtual 318, 3) := by decide +kernel
theorem dX10_set_5 : decode cX10_set 5 = .ok (.istore 5, 2) := by decide +kernel
theorem dX10_set_7 : decode cX10_set 7 = .ok (.iload 5, 2) := by decide +kernel
theorem dX10_set_9 : decode cX10_set 9 = .ok (.ifCond .ne 23, 3) := by decide +kernel
theorem dX10_set_12 : decode cX10_set 12 = .ok (.iload_n 2, 1) := by decide +kernel
theorem dX10_set_13 : decode cX10_set 13 = .ok (.iconst 0, 1) := by decide +kernel
theorem dX10_set_14 : decode cX10_set 14 = .ok (.aload_n 0, 1) := by decide +kernel
theorem dX10_set_15 : decode cX10_set 15 = .ok (.getfield 104, 3) := by decide +kernel
theorem dX10_set_18 : decode cX10_set 18 = .ok (.iload_n 1, 1) := by decide +kernel
theorem dX10_set_19 : decode cX10_set 19 = .ok (.iaload, 1) := by decide +kernel
theorem dX10_set_20 : decode cX10_set 20 = .ok (.iconst 1, 1) := by decide +kernel
theorem dX10_set_21 : decode cX10_set 21 = .ok (.isub, 1) := by decide +kernel
theorem dX10_set_22 : decode cX10_set 22 = .ok (.invokestatic 145, 3) := by decide +kernel
theorem dX10_set_25 : decode cX10_set 25 = .ok (.ifCond .ne 7, 3) := by decide +kernel
theorem dX10_set_28 : decode cX10_set 28 = .ok (.bipush (-5), 2) := by decide +kernel
theorem dX10_set_30 : decode cX10_set 30 = .ok (.istore 5, 2) := by decide +kernel
theorem dX10_set_32 : decode cX10_set 32 = .ok (.iload 5, 2) := by decide +kernel
theorem dX10_set_34 : decode cX10_set 34 = .ok (.ifCond .eq 10, 3) := by decide +kernel
theorem dX10_set_37 : decode cX10_set 37 = .ok (.aload_n 0, 1) := by decide +kernel
theorem dX10_set_38 : decode cX10_set 38 = .ok (.iload 5, 2) := by decide +kernel
theorem dX10_set_40 : decode cX10_set 40 = .ok (.invokevirtual 274, 3) := by decide +kernel
theorem dX10_set_43 : decode cX10_set 43 = .ok (.ireturn, 1) := by decide +kernel
theorem dX10_set_44 : decode cX10_set 44 = .ok (.aload_n 0, 1) := by decide +kernel
theorem dX10_set_45 : decode cX10_set 45 = .ok (.getfield 116, 3) := by decide +kernel
theorem dX10_set_48 : decode cX10_set 48 = .ok (.sipush 160, 3) := by decide +kernel
theorem dX10_set_51 : decode cX10_set 51 = .ok (.iload_n 1, 1) := by decide +kernel
theorem dX10_set_52 : decode cX10_set 52 = .ok (.imul, 1) := by decide +kernel
theorem dX10_set_53 : decode cX10_set 53 = .ok (.iload_n 2, 1) := by decide +kernel
theorem dX10_set_54 : decode cX10_set 54 = .ok (.iadd, 1) := by decide +kernel
theorem dX10_set_55 : decode cX10_set 55 = .ok (.aload_n 0, 1) := by decide +kernel
theorem dX10_set_56 : decode cX10_set 56 = .ok (.getfield 101, 3) := by decide +kernel
theorem dX10_set_59 : decode cX10_set 59 = .ok (.iload_n 1, 1) := by decide +kernel
theorem dX10_set_60 : decode cX10_set 60 = .ok (.iaload, 1) := by decide +kernel
theorem dX10_set_61 : decode cX10_set 61 = .ok (.bipush 100, 2) := by decide +kernel
theorem dX10_set_63 : decode cX10_set 63 = .ok (.isub, 1) := by decide +kernel
theorem dX10_set_64 : decode cX10_set 64 = .ok (.lload_n 3, 1) := by decide +kernel
theorem dX10_set_65 : decode cX10_set 65 = .ok (.invokestatic 321, 3) := by decide +kernel
theorem dX10_set_68 : decode cX10_set 68 = .ok (.lastore, 1) := by decide +kernel
theorem dX10_set_69 : decode cX10_set 69 = .ok (.iconst 1, 1) := by decide +kernel
theorem dX10_set_70 : decode cX10_set 70 = .ok (.ireturn, 1) := by decide +kernel
theorem dX10_notCopied_0 : decode cX10_notCopied 0 = .ok (.iload_n 1, 1) := by decide +kernel
theorem dX10_notCopied_1 : decode cX10_notCopied 1 = .ok (.invokestatic 315, 3) := by decide +kernel
theorem dX10_notCopied_4 : decode cX10_notCopied 4 = .ok (.ifCond .eq 10, 3) := by decide +kernel
theorem dX10_notCopied_7 : decode cX10_notCopied 7 = .ok (.iload_n 2, 1) := by decide +kernel
theorem dX10_notCopied_8 : decode cX10_notCopied 8 = .ok (.invokestatic 315, 3) := by decide +kernel
theorem dX10_notCopied_11 : decode cX10_notCopied 11 = .ok (.ifCond .ne 5, 3) := by decide +kernel
theorem dX10_notCopied_14 : decode cX10_notCopied 14 = .ok (.iconst (-1), 1) := by decide +kernel
theorem dX10_notCopied_15 : decode cX10_notCopied 15 = .ok (.ireturn, 1) := by decide +kernel
theorem dX10_notCopied_16 : decode cX10_notCopied 16 = .ok (.aload_n 0, 1) := by decide +kernel
theorem dX10_notCopied_17 : decode cX10_notCopied 17 = .ok (.getfield 101, 3) := by decide +kernel
theorem dX10_notCopied_20 : decode cX10_notCopied 20 = .ok (.iload_n 1, 1) := by decide +kernel
theorem dX10_notCopied_21 : decode cX10_notCopied 21 = .ok (.iaload, 1) := by decide +kernel
theorem dX10_notCopied_22 : decode cX10_notCopied 22 = .ok (.ifCond .eq 31, 3) := by decide +kernel
theorem dX10_notCopied_25 : decode cX10_notCopied 25 = .ok (.aload_n 0, 1) := by decide +kernel
theorem dX10_notCopied_26 : decode cX10_notCopied 26 = .ok (.getfield 101, 3) := by decide +kernel
theorem dX10_notCopied_29 : decode cX10_notCopied 29 = .ok (.iload_n 2, 1) := by decide +kernel
theorem dX10_notCopied_30 : decode cX10_notCopied 30 = .ok (.iaload, 1) := by decide +kernel
theorem dX10_notCopied_31 : decode cX10_notCopied 31 = .ok (.ifCond .eq 22, 3) := by decide +kernel
theorem dX10_notCopied_34 : decode cX10_notCopied 34 = .ok (.aload_n 0, 1) := by decide +kernel
theorem dX10_notCopied_35 : decode cX10_notCopied 35 = .ok (.getfield 101, 3) := by decide +kernel
theorem dX10_notCopied_38 : decode cX10_notCopied 38 = .ok (.iload_n 1, 1) := by decide +kernel
theorem dX10_notCopied_39 : decode cX10_notCopied 39 = .ok (.iaload, 1) := by decide +kernel
theorem dX10_notCopied_40 : decode cX10_notCopied 40 = .ok (.aload_n 0, 1) := by decide +kernel
theorem dX10_notCopied_41 : decode cX10_notCopied 41 = .ok (.getfield 101, 3) := by decide +kernel
theorem dX10_notCopied_44 : decode cX10_notCopied 44 = .ok (.iload_n 2, 1) := by decide +kernel
theorem dX10_notCopied_45 : decode cX10_notCopied 45 = .ok (.iaload, 1) := by decide +kernel
theorem dX10_notCopied_46 : decode cX10_notCopied 46 = .ok (.if_icmp .eq 7, 3) := by decide +kernel
theorem dX10_notCopied_49 : decode cX10_notCopied 49 = .ok (.iconst 1, 1) := by decide +kernel
theorem dX10_notCopied_50 : decode cX10_notCopied 50 = .ok (.goto 4, 3) := by decide +kernel
theorem dX10_notCopied_53 : decode cX10_notCopied 53 = .ok (.iconst 0, 1) := by decide +kernel
theorem dX10_notCopied_54 : decode cX10_notCopied 54 = .ok (.istore 6, 2) := by decide +kernel
theorem dX10_notCopied_56 : decode cX10_notCopied 56 = .ok (.aload_n 0, 1) := by decide +kernel
theorem dX10_notCopied_57 : decode cX10_notCopied 57 = .ok (.getfield 101, 3) := by decide +kernel
theorem dX10_notCopied_60 : decode cX10_notCopied 60 = .ok (.iload_n 1, 1) := by decide +kernel
theorem dX10_notCopied_61 : decode cX10_notCopied 61 = .ok (.iaload, 1) := by decide +kernel
theorem dX10_notCopied_62 : decode cX10_notCopied 62 = .ok (.sipush 200, 3) := by decide +kernel
theorem dX10_notCopied_65 : decode cX10_notCopied 65 = .ok (.if_icmp .ge 20, 3) := by decide +kernel
theorem dX10_notCopied_68 : decode cX10_notCopied 68 = .ok (.aload_n 0, 1) := by decide +kernel
theorem dX10_notCopied_69 : decode cX10_notCopied 69 = .ok (.getfield 101, 3) := by decide +kernel
theorem dX10_notCopied_72 : decode cX10_notCopied 72 = .ok (.iload_n 2, 1) := by decide +kernel
theorem dX10_notCopied_73 : decode cX10_notCopied 73 = .ok (.iaload, 1) := by decide +kernel
theorem dX10_notCopied_74 : decode cX10_notCopied 74 = .ok (.sipush 200, 3) := by decide +kernel
theorem dX10_notCopied_77 : decode cX10_notCopied 77 = .ok (.if_icmp .ge 8, 3) := by decide +kernel
theorem dX10_notCopied_80 : decode cX10_notCopied 80 = .ok (.iload 6, 2) := by decide +kernel
theorem dX10_notCopied_82 : decode cX10_notCopied 82 = .ok (.ifCond .eq 6, 3) := by decide +kernel
theorem dX10_notCopied_85 : decode cX10_notCopied 85 = .ok (.bipush (-2), 2) := by decide +kernel
theorem dX10_notCopied_87 : decode cX10_notCopied 87 = .ok (.ireturn, 1) := by decide +kernel
theorem dX10_notCopied_88 : decode cX10_notCopied 88 = .ok (.aload_n 0, 1) := by decide +kernel
theorem dX10_notCopied_89 : decode cX10_notCopied 89 = .ok (.getfield 101, 3) := by decide +kernel
theorem dX10_notCopied_92 : decode cX10_notCopied 92 = .ok (.iload_n 1, 1) := by decide +kernel
theorem dX10_notCopied_93 : decode cX10_notCopied 93 = .ok (.iaload, 1) := by decide +kernel
theorem dX10_notCopied_94 : decode cX10_notCopied 94 = .ok (.ifCond .eq 12, 3) := by decide +kernel
theorem dX10_notCopied_97 : decode cX10_notCopied 97 = .ok (.aload_n 0, 1) := by decide +kernel
theorem dX10_notCopied_98 : decode cX10_notCopied 98 = .ok (.getfield 101, 3) := by decide +kernel
theorem dX10_notCopied_101 : decode cX10_notCopied 101 = .ok (.iload_n 2, 1) := by decide +kernel
theorem dX10_notCopied_102 : decode cX10_notCopied 102 = .ok (.iaload, 1) := by decide +kernel
theorem dX10_notCopied_103 : decode cX10_notCopied 103 = .ok (.ifCond .ne 6, 3) := by decide +kernel
theorem dX10_notCopied_106 : decode cX10_notCopied 106 = .ok (.bipush (-3), 2) := by decide +kernel
theorem dX10_notCopied_108 : decode cX10_notCopied 108 = .ok (.ireturn, 1) := by decide +kernel
theorem dX10_notCopied_109 : decode cX10_notCopied 109 = .ok (.iload 5, 2) := by decide +kernel
theorem dX10_notCopied_111 : decode cX10_notCopied 111 = .ok (.ifCond .ge 6, 3) := by decide +kernel
theorem dX10_notCopied_114 : decode cX10_notCopied 114 = .ok (.bipush (-4), 2) := by decide +kernel
theorem dX10_notCopied_116 : decode cX10_notCopied 116 = .ok (.ireturn, 1) := by decide +kernel
theorem dX10_notCopied_117 : decode cX10_notCopied 117 = .ok (.iload_n 3, 1) := by decide +kernel
theorem dX10_notCopied_118 : decode cX10_notCopied 118 = .ok (.ifCond .lt 35, 3) := by decide +kernel
theorem dX10_notCopied_121 : decode cX10_notCopied 121 = .ok (.iload 4, 2) := by decide +kernel
theorem dX10_notCopied_123 : decode cX10_notCopied 123 = .ok (.ifCond .lt 30, 3) := by decide +kernel
theorem dX10_notCopied_126 : decode cX10_notCopied 126 = .ok (.iload_n 3, 1) := by decide +kernel
theorem dX10_notCopied_127 : decode cX10_notCopied 127 = .ok (.aload_n 0, 1) := by decide +kernel
theorem dX10_notCopied_128 : decode cX10_notCopied 128 = .ok (.getfield 104, 3) := by decide +kernel
theorem dX10_notCopied_131 : decode cX10_notCopied 131 = .ok (.iload_n 1, 1) := by decide +kernel
theorem dX10_notCopied_132 : decode cX10_notCopied 132 = .ok (.iaload, 1) := by decide +kernel
theorem dX10_notCopied_133 : decode cX10_notCopied 133 = .ok (.iload 5, 2) := by decide +kernel
theorem dX10_notCopied_135 : decode cX10_notCopied 135 = .ok (.isub, 1) := by decide +kernel
theorem dX10_notCopied_136 : decode cX10_notCopied 136 = .ok (.if_icmp .gt 17, 3) := by decide +kernel
theorem dX10_notCopied_139 : decode cX10_notCopied 139 = .ok (.iload 4, 2) := by decide +kernel
theorem dX10_notCopied_141 : decode cX10_notCopied 141 = .ok (.aload_n 0, 1) := by decide +kernel
theorem dX10_notCopied_142 : decode cX10_notCopied 142 = .ok (.getfield 104, 3) := by decide +kernel
theorem dX10_notCopied_145 : decode cX10_notCopied 145 = .ok (.iload_n 2, 1) := by decide +kernel
theorem dX10_notCopied_146 : decode cX10_notCopied 146 = .ok (.iaload, 1) := by decide +kernel
theorem dX10_notCopied_147 : decode cX10_notCopied 147 = .ok (.iload 5, 2) := by decide +kernel
theorem dX10_notCopied_149 : decode cX10_notCopied 149 = .ok (.isub, 1) := by decide +kernel
theorem dX10_notCopied_150 : decode cX10_notCopied 150 = .ok (.if_icmp .le 8, 3) := by decide +kernel
theorem dX10_notCopied_153 : decode cX10_notCopied 153 = .ok (.bipush (-5), 2) := by decide +kernel
theorem dX10_notCopied_155 : decode cX10_notCopied 155 = .ok (.goto 4, 3) := by decide +kernel
theorem dX10_notCopied_158 : decode cX10_notCopied 158 = .ok (.iconst 0, 1) := by decide +kernel
theorem dX10_notCopied_159 : decode cX10_notCopied 159 = .ok (.ireturn, 1) := by decide +kernel
theorem dX10_copy_0 : decode cX10_copy 0 = .ok (.aload_n 0, 1) := by decide +kernel
theorem dX10_copy_1 : decode cX10_copy 1 = .ok (.iload_n 1, 1) := by decide +kernel
theorem dX10_copy_2 : decode cX10_copy 2 = .ok (.iload_n 2, 1) := by decide +kernel
theorem dX10_copy_3 : decode cX10_copy 3 = .ok (.iload_n 3, 1) := by decide +kernel
theorem dX10_copy_4 : decode cX10_copy 4 = .ok (.iload 4, 2) := by decide +kernel
theorem dX10_copy_6 : decode cX10_copy 6 = .ok (.iload 5, 2) := by decide +kernel
theorem dX10_copy_8 : decode cX10_copy 8 = .ok (.invokevirtual 325, 3) := by decide +kernel
theorem dX10_copy_11 : decode cX10_copy 11 = .ok (.istore 6, 2) := by decide +kernel
theorem dX10_copy_13 : decode cX10_copy 13 = .ok (.iload 6, 2) := by decide +kernel
theorem dX10_copy_15 : decode cX10_copy 15 = .ok (.ifCond .eq 10, 3) := by decide +kernel
theorem dX10_copy_18 : decode cX10_copy 18 = .ok (.aload_n 0, 1) := by decide +kernel
theorem dX10_copy_19 : decode cX10_copy 19 = .ok (.iload 6, 2) := by decide +kernel
theorem dX10_copy_21 : decode cX10_copy 21 = .ok (.invokevirtual 274, 3) := by decide +kernel
theorem dX10_copy_24 : decode cX10_copy 24 = .ok (.ireturn, 1) := by decide +kernel
theorem dX10_copy_25 : decode cX10_copy 25 = .ok (.sipush 160, 3) := by decide +kernel
theorem dX10_copy_28 : decode cX10_copy 28 = .ok (.iload_n 1, 1) := by decide +kernel
theorem dX10_copy_29 : decode cX10_copy 29 = .ok (.imul, 1) := by decide +kernel
theorem dX10_copy_30 : decode cX10_copy 30 = .ok (.iload_n 3, 1) := by decide +kernel
theorem dX10_copy_31 : decode cX10_copy 31 = .ok (.iadd, 1) := by decide +kernel
theorem dX10_copy_32 : decode cX10_copy 32 = .ok (.istore 7, 2) := by decide +kernel
theorem dX10_copy_34 : decode cX10_copy 34 = .ok (.sipush 160, 3) := by decide +kernel
theorem dX10_copy_37 : decode cX10_copy 37 = .ok (.iload_n 2, 1) := by decide +kernel
theorem dX10_copy_38 : decode cX10_copy 38 = .ok (.imul, 1) := by decide +kernel
theorem dX10_copy_39 : decode cX10_copy 39 = .ok (.iload 4, 2) := by decide +kernel
theorem dX10_copy_41 : decode cX10_copy 41 = .ok (.iadd, 1) := by decide +kernel
theorem dX10_copy_42 : decode cX10_copy 42 = .ok (.istore 8, 2) := by decide +kernel
theorem dX10_copy_44 : decode cX10_copy 44 = .ok (.iconst 0, 1) := by decide +kernel
theorem dX10_copy_45 : decode cX10_copy 45 = .ok (.istore 9, 2) := by decide +kernel
theorem dX10_copy_47 : decode cX10_copy 47 = .ok (.iload 9, 2) := by decide +kernel
theorem dX10_copy_49 : decode cX10_copy 49 = .ok (.iload 5, 2) := by decide +kernel
theorem dX10_copy_51 : decode cX10_copy 51 = .ok (.if_icmp .ge 50, 3) := by decide +kernel
theorem dX10_copy_54 : decode cX10_copy 54 = .ok (.iload 7, 2) := by decide +kernel
theorem dX10_copy_56 : decode cX10_copy 56 = .ok (.iload 8, 2) := by decide +kernel
theorem dX10_copy_58 : decode cX10_copy 58 = .ok (.if_icmp .ge 13, 3) := by decide +kernel
theorem dX10_copy_61 : decode cX10_copy 61 = .ok (.iload 5, 2) := by decide +kernel
theorem dX10_copy_63 : decode cX10_copy 63 = .ok (.iconst 1, 1) := by decide +kernel
theorem dX10_copy_64 : decode cX10_copy 64 = .ok (.isub, 1) := by decide +kernel
theorem dX10_copy_65 : decode cX10_copy 65 = .ok (.iload 9, 2) := by decide +kernel
theorem dX10_copy_67 : decode cX10_copy 67 = .ok (.isub, 1) := by decide +kernel
theorem dX10_copy_68 : decode cX10_copy 68 = .ok (.goto 5, 3) := by decide +kernel
theorem dX10_copy_71 : decode cX10_copy 71 = .ok (.iload 9, 2) := by decide +kernel
theorem dX10_copy_73 : decode cX10_copy 73 = .ok (.istore 10, 2) := by decide +kernel
theorem dX10_copy_75 : decode cX10_copy 75 = .ok (.aload_n 0, 1) := by decide +kernel
theorem dX10_copy_76 : decode cX10_copy 76 = .ok (.getfield 116, 3) := by decide +kernel
theorem dX10_copy_79 : decode cX10_copy 79 = .ok (.iload 8, 2) := by decide +kernel
theorem dX10_copy_81 : decode cX10_copy 81 = .ok (.iload 10, 2) := by decide +kernel
theorem dX10_copy_83 : decode cX10_copy 83 = .ok (.iadd, 1) := by decide +kernel
theorem dX10_copy_84 : decode cX10_copy 84 = .ok (.aload_n 0, 1) := by decide +kernel
theorem dX10_copy_85 : decode cX10_copy 85 = .ok (.getfield 116, 3) := by decide +kernel
theorem dX10_copy_88 : decode cX10_copy 88 = .ok (.iload 7, 2) := by decide +kernel
theorem dX10_copy_90 : decode cX10_copy 90 = .ok (.iload 10, 2) := by decide +kernel
theorem dX10_copy_92 : decode cX10_copy 92 = .ok (.iadd, 1) := by decide +kernel
theorem dX10_copy_93 : decode cX10_copy 93 = .ok (.laload, 1) := by decide +kernel
theorem dX10_copy_94 : decode cX10_copy 94 = .ok (.lastore, 1) := by decide +kernel
theorem dX10_copy_95 : decode cX10_copy 95 = .ok (.iinc 9 1, 3) := by decide +kernel
theorem dX10_copy_98 : decode cX10_copy 98 = .ok (.goto (-51), 3) := by decide +kernel
theorem dX10_copy_101 : decode cX10_copy 101 = .ok (.iconst 1, 1) := by decide +kernel
theorem dX10_copy_102 : decode cX10_copy 102 = .ok (.ireturn, 1) := by decide +kernel
theorem dX10_element_0 : decode cX10_element 0 = .ok (.iload_n 1, 1) := by decide +kernel
theorem dX10_element_1 : decode cX10_element 1 = .ok (.invokestatic 315, 3) := by decide +kernel
theorem dX10_element_4 : decode cX10_element 4 = .ok (.ifCond .eq 42, 3) := by decide +kernel
theorem dX10_element_7 : decode cX10_element 7 = .ok (.aload_n 0, 1) := by decide +kernel
theorem dX10_element_8 : decode cX10_element 8 = .ok (.iload_n 1, 1) := by decide +kernel
theorem dX10_element_9 : decode cX10_element 9 = .ok (.invokevirtual 329, 3) := by decide +kernel
theorem dX10_element_12 : decode cX10_element 12 = .ok (.ifCond .eq 34, 3) := by decide +kernel
theorem dX10_element_15 : decode cX10_element 15 = .ok (.iload_n 2, 1) := by decide +kernel
theorem dX10_element_16 : decode cX10_element 16 = .ok (.iconst 0, 1) := by decide +kernel
theorem dX10_element_17 : decode cX10_element 17 = .ok (.aload_n 0, 1) := by decide +kernel
theorem dX10_element_18 : decode cX10_element 18 = .ok (.getfield 104, 3) := by decide +kernel
theorem dX10_element_21 : decode cX10_element 21 = .ok (.iload_n 1, 1) := by decide +kernel
theorem dX10_element_22 : decode cX10_element 22 = .ok (.iaload, 1) := by decide +kernel
theorem dX10_element_23 : decode cX10_element 23 = .ok (.iconst 1, 1) := by decide +kernel
theorem dX10_element_24 : decode cX10_element 24 = .ok (.isub, 1) := by decide +kernel
theorem dX10_element_25 : decode cX10_element 25 = .ok (.invokestatic 145, 3) := by decide +kernel
theorem dX10_element_28 : decode cX10_element 28 = .ok (.ifCond .eq 18, 3) := by decide +kernel
theorem dX10_element_31 : decode cX10_element 31 = .ok (.aload_n 0, 1) := by decide +kernel
theorem dX10_element_32 : decode cX10_element 32 = .ok (.getfield 116, 3) := by decide +kernel
theorem dX10_element_35 : decode cX10_element 35 = .ok (.sipush 160, 3) := by decide +kernel
theorem dX10_element_38 : decode cX10_element 38 = .ok (.iload_n 1, 1) := by decide +kernel
theorem dX10_element_39 : decode cX10_element 39 = .ok (.imul, 1) := by decide +kernel
theorem dX10_element_40 : decode cX10_element 40 = .ok (.iload_n 2, 1) := by decide +kernel
theorem dX10_element_41 : decode cX10_element 41 = .ok (.iadd, 1) := by decide +kernel
theorem dX10_element_42 : decode cX10_element 42 = .ok (.laload, 1) := by decide +kernel
theorem dX10_element_43 : decode cX10_element 43 = .ok (.goto 4, 3) := by decide +kernel
theorem dX10_element_46 : decode cX10_element 46 = .ok (.lconst 0, 1) := by decide +kernel
theorem dX10_element_47 : decode cX10_element 47 = .ok (.lreturn, 1) := by decide +kernel
theorem dX10_show_0 : decode cX10_show 0 = .ok (.iload_n 1, 1) := by decide +kernel
theorem dX10_show_1 : decode cX10_show 1 = .ok (.invokestatic 315, 3) := by decide +kernel
theorem dX10_show_4 : decode cX10_show 4 = .ok (.ifCond .eq 22, 3) := by decide +kernel
theorem dX10_show_7 : decode cX10_show 7 = .ok (.iload_n 2, 1) := by decide +kernel
theorem dX10_show_8 : decode cX10_show 8 = .ok (.iconst (-1), 1) := by decide +kernel
theorem dX10_show_9 : decode cX10_show 9 = .ok (.if_icmp .eq 23, 3) := by decide +kernel
theorem dX10_show_12 : decode cX10_show 12 = .ok (.iload_n 2, 1) := by decide +kernel
theorem dX10_show_13 : decode cX10_show 13 = .ok (.iconst 0, 1) := by decide +kernel
theorem dX10_show_14 : decode cX10_show 14 = .ok (.aload_n 0, 1) := by decide +kernel
theorem dX10_show_15 : decode cX10_show 15 = .ok (.getfield 255, 3) := by decide +kernel
theorem dX10_show_18 : decode cX10_show 18 = .ok (.iconst 1, 1) := by decide +kernel
theorem dX10_show_19 : decode cX10_show 19 = .ok (.isub, 1) := by decide +kernel
theorem dX10_show_20 : decode cX10_show 20 = .ok (.invokestatic 145, 3) := by decide +kernel
theorem dX10_show_23 : decode cX10_show 23 = .ok (.ifCond .ne 9, 3) := by decide +kernel
theorem dX10_show_26 : decode cX10_show 26 = .ok (.aload_n 0, 1) := by decide +kernel
theorem dX10_show_27 : decode cX10_show 27 = .ok (.iconst (-1), 1) := by decide +kernel
theorem dX10_show_28 : decode cX10_show 28 = .ok (.invokevirtual 274, 3) := by decide +kernel
theorem dX10_show_31 : decode cX10_show 31 = .ok (.ireturn, 1) := by decide +kernel
theorem dX10_show_32 : decode cX10_show 32 = .ok (.iload_n 2, 1) := by decide +kernel
theorem dX10_show_33 : decode cX10_show 33 = .ok (.iconst (-1), 1) := by decide +kernel
theorem dX10_show_34 : decode cX10_show 34 = .ok (.if_icmp .ne 12, 3) := by decide +kernel
theorem dX10_show_37 : decode cX10_show 37 = .ok (.aload_n 0, 1) := by decide +kernel
theorem dX10_show_38 : decode cX10_show 38 = .ok (.getfield 101, 3) := by decide +kernel
theorem dX10_show_41 : decode cX10_show 41 = .ok (.iload_n 1, 1) := by decide +kernel
theorem dX10_show_42 : decode cX10_show 42 = .ok (.iconst 0, 1) := by decide +kernel
theorem dX10_show_43 : decode cX10_show 43 = .ok (.iastore, 1) := by decide +kernel
theorem dX10_show_44 : decode cX10_show 44 = .ok (.iconst 0, 1) := by decide +kernel
theorem dX10_show_45 : decode cX10_show 45 = .ok (.ireturn, 1) := by decide +kernel
theorem dX10_show_46 : decode cX10_show 46 = .ok (.aload_n 0, 1) := by decide +kernel
theorem dX10_show_47 : decode cX10_show 47 = .ok (.getfield 101, 3) := by decide +kernel
theorem dX10_show_50 : decode cX10_show 50 = .ok (.iload_n 1, 1) := by decide +kernel
theorem dX10_show_51 : decode cX10_show 51 = .ok (.sipush 200, 3) := by decide +kernel
theorem dX10_show_54 : decode cX10_show 54 = .ok (.aload_n 0, 1) := by decide +kernel
theorem dX10_show_55 : decode cX10_show 55 = .ok (.getfield 71, 3) := by decide +kernel
theorem dX10_show_58 : decode cX10_show 58 = .ok (.iload_n 2, 1) := by decide +kernel
theorem dX10_show_59 : decode cX10_show 59 = .ok (.iaload, 1) := by decide +kernel
theorem dX10_show_60 : decode cX10_show 60 = .ok (.iadd, 1) := by decide +kernel
theorem dX10_show_61 : decode cX10_show 61 = .ok (.iastore, 1) := by decide +kernel
theorem dX10_show_62 : decode cX10_show 62 = .ok (.aload_n 0, 1) := by decide +kernel
theorem dX10_show_63 : decode cX10_show 63 = .ok (.getfield 107, 3) := by decide +kernel
theorem dX10_show_66 : decode cX10_show 66 = .ok (.iload_n 1, 1) := by decide +kernel
theorem dX10_show_67 : decode cX10_show 67 = .ok (.aload_n 0, 1) := by decide +kernel
theorem dX10_show_68 : decode cX10_show 68 = .ok (.getfield 80, 3) := by decide +kernel
theorem dX10_show_71 : decode cX10_show 71 = .ok (.iload_n 2, 1) := by decide +kernel
theorem dX10_show_72 : decode cX10_show 72 = .ok (.iaload, 1) := by decide +kernel
theorem dX10_show_73 : decode cX10_show 73 = .ok (.iastore, 1) := by decide +kernel
theorem dX10_show_74 : decode cX10_show 74 = .ok (.aload_n 0, 1) := by decide +kernel
theorem dX10_show_75 : decode cX10_show 75 = .ok (.getfield 110, 3) := by decide +kernel
theorem dX10_show_78 : decode cX10_show 78 = .ok (.iload_n 1, 1) := by decide +kernel
theorem dX10_show_79 : decode cX10_show 79 = .ok (.aload_n 0, 1) := by decide +kernel
theorem dX10_show_80 : decode cX10_show 80 = .ok (.getfield 83, 3) := by decide +kernel
theorem dX10_show_83 : decode cX10_show 83 = .ok (.iload_n 2, 1) := by decide +kernel
theorem dX10_show_84 : decode cX10_show 84 = .ok (.iaload, 1) := by decide +kernel
theorem dX10_show_85 : decode cX10_show 85 = .ok (.iastore, 1) := by decide +kernel
theorem dX10_show_86 : decode cX10_show 86 = .ok (.aload_n 0, 1) := by decide +kernel
theorem dX10_show_87 : decode cX10_show 87 = .ok (.getfield 113, 3) := by decide +kernel
theorem dX10_show_90 : decode cX10_show 90 = .ok (.iload_n 1, 1) := by decide +kernel
theorem dX10_show_91 : decode cX10_show 91 = .ok (.aload_n 0, 1) := by decide +kernel
theorem dX10_show_92 : decode cX10_show 92 = .ok (.getfield 89, 3) := by decide +kernel
theorem dX10_show_95 : decode cX10_show 95 = .ok (.iload_n 2, 1) := by decide +kernel
theorem dX10_show_96 : decode cX10_show 96 = .ok (.iaload, 1) := by decide +kernel
theorem dX10_show_97 : decode cX10_show 97 = .ok (.iastore, 1) := by decide +kernel
theorem dX10_show_98 : decode cX10_show 98 = .ok (.iconst 1, 1) := by decide +kernel
theorem dX10_show_99 : decode cX10_show 99 = .ok (.ireturn, 1) := by decide +kernel
theorem dX10_holds_0 : decode cX10_holds 0 = .ok (.iload_n 1, 1) := by decide +kernel
theorem dX10_holds_1 : decode cX10_holds 1 = .ok (.invokestatic 315, 3) := by decide +kernel
theorem dX10_holds_4 : decode cX10_holds 4 = .ok (.ifCond .eq 12, 3) := by decide +kernel
theorem dX10_holds_7 : decode cX10_holds 7 = .ok (.aload_n 0, 1) := by decide +kernel
theorem dX10_holds_8 : decode cX10_holds 8 = .ok (.getfield 101, 3) := by decide +kernel
theorem dX10_holds_11 : decode cX10_holds 11 = .ok (.iload_n 1, 1) := by decide +kernel
theorem dX10_holds_12 : decode cX10_holds 12 = .ok (.iaload, 1) := by decide +kernel
theorem dX10_holds_13 : decode cX10_holds 13 = .ok (.ifCond .ne 7, 3) := by decide +kernel
theorem dX10_holds_16 : decode cX10_holds 16 = .ok (.iconst (-1), 1) := by decide +kernel
theorem dX10_holds_17 : decode cX10_holds 17 = .ok (.goto 9, 3) := by decide +kernel
theorem dX10_holds_20 : decode cX10_holds 20 = .ok (.aload_n 0, 1) := by decide +kernel
theorem dX10_holds_21 : decode cX10_holds 21 = .ok (.getfield 101, 3) := by decide +kernel
theorem dX10_holds_24 : decode cX10_holds 24 = .ok (.iload_n 1, 1) := by decide +kernel
theorem dX10_holds_25 : decode cX10_holds 25 = .ok (.iaload, 1) := by decide +kernel
theorem dX10_holds_26 : decode cX10_holds 26 = .ok (.ireturn, 1) := by decide +kernel
theorem dX10_isSuch_0 : decode cX10_isSuch 0 = .ok (.iload_n 1, 1) := by decide +kernel
theorem dX10_isSuch_1 : decode cX10_isSuch 1 = .ok (.tableswitch 70 1 4 #[31, 41, 48, 59], 31) := by decide +kernel
theorem dX10_isSuch_32 : decode cX10_isSuch 32 = .ok (.iload_n 0, 1) := by decide +kernel
theorem dX10_isSuch_33 : decode cX10_isSuch 33 = .ok (.ifCond .ne 7, 3) := by decide +kernel
theorem dX10_isSuch_36 : decode cX10_isSuch 36 = .ok (.iconst 1, 1) := by decide +kernel
theorem dX10_isSuch_37 : decode cX10_isSuch 37 = .ok (.goto 4, 3) := by decide +kernel
theorem dX10_isSuch_40 : decode cX10_isSuch 40 = .ok (.iconst 0, 1) := by decide +kernel
theorem dX10_isSuch_41 : decode cX10_isSuch 41 = .ok (.ireturn, 1) := by decide +kernel
theorem dX10_isSuch_42 : decode cX10_isSuch 42 = .ok (.iload_n 0, 1) := by decide +kernel
theorem dX10_isSuch_43 : decode cX10_isSuch 43 = .ok (.iconst 1, 1) := by decide +kernel
theorem dX10_isSuch_44 : decode cX10_isSuch 44 = .ok (.iconst 3, 1) := by decide +kernel
theorem dX10_isSuch_45 : decode cX10_isSuch 45 = .ok (.invokestatic 145, 3) := by decide +kernel
theorem dX10_isSuch_48 : decode cX10_isSuch 48 = .ok (.ireturn, 1) := by decide +kernel
theorem dX10_isSuch_49 : decode cX10_isSuch 49 = .ok (.iload_n 0, 1) := by decide +kernel
theorem dX10_isSuch_50 : decode cX10_isSuch 50 = .ok (.iconst 3, 1) := by decide +kernel
theorem dX10_isSuch_51 : decode cX10_isSuch 51 = .ok (.if_icmp .ne 7, 3) := by decide +kernel
theorem dX10_isSuch_54 : decode cX10_isSuch 54 = .ok (.iconst 1, 1) := by decide +kernel
theorem dX10_isSuch_55 : decode cX10_isSuch 55 = .ok (.goto 4, 3) := by decide +kernel
theorem dX10_isSuch_58 : decode cX10_isSuch 58 = .ok (.iconst 0, 1) := by decide +kernel
theorem dX10_isSuch_59 : decode cX10_isSuch 59 = .ok (.ireturn, 1) := by decide +kernel
theorem dX10_isSuch_60 : decode cX10_isSuch 60 = .ok (.iload_n 0, 1) := by decide +kernel
theorem dX10_isSuch_61 : decode cX10_isSuch 61 = .ok (.iconst 4, 1) := by decide +kernel
theorem dX10_isSuch_62 : decode cX10_isSuch 62 = .ok (.if_icmp .ne 7, 3) := by decide +kernel
theorem dX10_isSuch_65 : decode cX10_isSuch 65 = .ok (.iconst 1, 1) := by decide +kernel
theorem dX10_isSuch_66 : decode cX10_isSuch 66 = .ok (.goto 4, 3) := by decide +kernel
theorem dX10_isSuch_69 : decode cX10_isSuch 69 = .ok (.iconst 0, 1) := by decide +kernel
theorem dX10_isSuch_70 : decode cX10_isSuch 70 = .ok (.ireturn, 1) := by decide +kernel
theorem dX10_isSuch_71 : decode cX10_isSuch 71 = .ok (.iconst 1, 1) := by decide +kernel
theorem dX10_isSuch_72 : decode cX10_isSuch 72 = .ok (.ireturn, 1) := by decide +kernel
theorem dX10_says_0 : decode cX10_says 0 = .ok (.iload_n 1, 1) := by decide +kernel
theorem dX10_says_1 : decode cX10_says 1 = .ok (.invokestatic 315, 3) := by decide +kernel
theorem dX10_says_4 : decode cX10_says 4 = .ok (.ifCond .eq 12, 3) := by decide +kernel
theorem dX10_says_7 : decode cX10_says 7 = .ok (.iload_n 2, 1) := by decide +kernel
theorem dX10_says_8 : decode cX10_says 8 = .ok (.iconst 0, 1) := by decide +kernel
theorem dX10_says_9 : decode cX10_says 9 = .ok (.iconst 4, 1) := by decide +kernel
theorem dX10_says_10 : decode cX10_says 10 = .ok (.invokestatic 145, 3) := by decide +kernel
theorem dX10_says_13 : decode cX10_says 13 = .ok (.ifCond .ne 7, 3) := by decide +kernel
theorem dX10_says_16 : decode cX10_says 16 = .ok (.iconst (-1), 1) := by decide +kernel
theorem dX10_says_17 : decode cX10_says 17 = .ok (.goto 57, 3) := by decide +kernel
theorem dX10_says_20 : decode cX10_says 20 = .ok (.aload_n 0, 1) := by decide +kernel
theorem dX10_says_21 : decode cX10_says 21 = .ok (.iload_n 1, 1) := by decide +kernel
theorem dX10_says_22 : decode cX10_says 22 = .ok (.invokevirtual 329, 3) := by decide +kernel
theorem dX10_says_25 : decode cX10_says 25 = .ok (.ifCond .ne 29, 3) := by decide +kernel
theorem dX10_says_28 : decode cX10_says 28 = .ok (.aload_n 0, 1) := by decide +kernel
theorem dX10_says_29 : decode cX10_says 29 = .ok (.getfield 101, 3) := by decide +kernel
theorem dX10_says_32 : decode cX10_says 32 = .ok (.iload_n 1, 1) := by decide +kernel
theorem dX10_says_33 : decode cX10_says 33 = .ok (.iaload, 1) := by decide +kernel
theorem dX10_says_34 : decode cX10_says 34 = .ok (.ifCond .eq 25, 3) := by decide +kernel
theorem dX10_says_37 : decode cX10_says 37 = .ok (.aload_n 0, 1) := by decide +kernel
theorem dX10_says_38 : decode cX10_says 38 = .ok (.getfield 101, 3) := by decide +kernel
theorem dX10_says_41 : decode cX10_says 41 = .ok (.iload_n 1, 1) := by decide +kernel
theorem dX10_says_42 : decode cX10_says 42 = .ok (.iaload, 1) := by decide +kernel
theorem dX10_says_43 : decode cX10_says 43 = .ok (.sipush 200, 3) := by decide +kernel
theorem dX10_says_46 : decode cX10_says 46 = .ok (.isub, 1) := by decide +kernel
theorem dX10_says_47 : decode cX10_says 47 = .ok (.iload_n 2, 1) := by decide +kernel
theorem dX10_says_48 : decode cX10_says 48 = .ok (.invokestatic 332, 3) := by decide +kernel
theorem dX10_says_51 : decode cX10_says 51 = .ok (.ifCond .ne 8, 3) := by decide +kernel
theorem dX10_says_54 : decode cX10_says 54 = .ok (.bipush (-2), 2) := by decide +kernel
theorem dX10_says_56 : decode cX10_says 56 = .ok (.goto 18, 3) := by decide +kernel
theorem dX10_says_59 : decode cX10_says 59 = .ok (.aload_n 0, 1) := by decide +kernel
theorem dX10_says_60 : decode cX10_says 60 = .ok (.getfield 101, 3) := by decide +kernel
theorem dX10_says_63 : decode cX10_says 63 = .ok (.iload_n 1, 1) := by decide +kernel
theorem dX10_says_64 : decode cX10_says 64 = .ok (.iaload, 1) := by decide +kernel
theorem dX10_says_65 : decode cX10_says 65 = .ok (.ifCond .ne 8, 3) := by decide +kernel
theorem dX10_says_68 : decode cX10_says 68 = .ok (.bipush (-3), 2) := by decide +kernel
theorem dX10_says_70 : decode cX10_says 70 = .ok (.goto 4, 3) := by decide +kernel
theorem dX10_says_73 : decode cX10_says 73 = .ok (.iconst 0, 1) := by decide +kernel
theorem dX10_says_74 : decode cX10_says 74 = .ok (.istore_n 3, 1) := by decide +kernel
theorem dX10_says_75 : decode cX10_says 75 = .ok (.iload_n 3, 1) := by decide +kernel
theorem dX10_says_76 : decode cX10_says 76 = .ok (.ifCond .eq 9, 3) := by decide +kernel
theorem dX10_says_79 : decode cX10_says 79 = .ok (.aload_n 0, 1) := by decide +kernel
theorem dX10_says_80 : decode cX10_says 80 = .ok (.iload_n 3, 1) := by decide +kernel
theorem dX10_says_81 : decode cX10_says 81 = .ok (.invokevirtual 274, 3) := by decide +kernel
theorem dX10_says_84 : decode cX10_says 84 = .ok (.ireturn, 1) := by decide +kernel
theorem dX10_says_85 : decode cX10_says 85 = .ok (.iload_n 2, 1) := by decide +kernel
theorem dX10_says_86 : decode cX10_says 86 = .ok (.ifCond .ne 12, 3) := by decide +kernel
theorem dX10_says_89 : decode cX10_says 89 = .ok (.aload_n 0, 1) := by decide +kernel
theorem dX10_says_90 : decode cX10_says 90 = .ok (.getfield 107, 3) := by decide +kernel
theorem dX10_says_93 : decode cX10_says 93 = .ok (.iload_n 1, 1) := by decide +kernel
theorem dX10_says_94 : decode cX10_says 94 = .ok (.iaload, 1) := by decide +kernel
theorem dX10_says_95 : decode cX10_says 95 = .ok (.goto 23, 3) := by decide +kernel
theorem dX10_says_98 : decode cX10_says 98 = .ok (.iload_n 2, 1) := by decide +kernel
theorem dX10_says_99 : decode cX10_says 99 = .ok (.iconst 2, 1) := by decide +kernel
theorem dX10_says_100 : decode cX10_says 100 = .ok (.if_icmp .ne 12, 3) := by decide +kernel
theorem dX10_says_103 : decode cX10_says 103 = .ok (.aload_n 0, 1) := by decide +kernel
theorem dX10_says_104 : decode cX10_says 104 = .ok (.getfield 110, 3) := by decide +kernel
theorem dX10_says_107 : decode cX10_says 107 = .ok (.iload_n 1, 1) := by decide +kernel
theorem dX10_says_108 : decode cX10_says 108 = .ok (.iaload, 1) := by decide +kernel
theorem dX10_says_109 : decode cX10_says 109 = .ok (.goto 9, 3) := by decide +kernel
theorem dX10_says_112 : decode cX10_says 112 = .ok (.aload_n 0, 1) := by decide +kernel
theorem dX10_says_113 : decode cX10_says 113 = .ok (.getfield 113, 3) := by decide +kernel
theorem dX10_says_116 : decode cX10_says 116 = .ok (.iload_n 1, 1) := by decide +kernel
theorem dX10_says_117 : decode cX10_says 117 = .ok (.iaload, 1) := by decide +kernel
theorem dX10_says_118 : decode cX10_says 118 = .ok (.ireturn, 1) := by decide +kernel
theorem dX10_sign_0 : decode cX10_sign 0 = .ok (.aload_n 0, 1) := by decide +kernel
theorem dX10_sign_1 : decode cX10_sign 1 = .ok (.getfield 335, 3) := by decide +kernel
theorem dX10_sign_4 : decode cX10_sign 4 = .ok (.aload_n 0, 1) := by decide +kernel
theorem dX10_sign_5 : decode cX10_sign 5 = .ok (.getfield 104, 3) := by decide +kernel
theorem dX10_sign_8 : decode cX10_sign 8 = .ok (.aload_n 0, 1) := by decide +kernel
theorem dX10_sign_9 : decode cX10_sign 9 = .ok (.getfield 338, 3) := by decide +kernel
theorem dX10_sign_12 : decode cX10_sign 12 = .ok (.iaload, 1) := by decide +kernel
theorem dX10_sign_13 : decode cX10_sign 13 = .ok (.if_icmp .ge 25, 3) := by decide +kernel
theorem dX10_sign_16 : decode cX10_sign 16 = .ok (.aload_n 0, 1) := by decide +kernel
theorem dX10_sign_17 : decode cX10_sign 17 = .ok (.getfield 116, 3) := by decide +kernel
theorem dX10_sign_20 : decode cX10_sign 20 = .ok (.sipush 160, 3) := by decide +kernel
theorem dX10_sign_23 : decode cX10_sign 23 = .ok (.aload_n 0, 1) := by decide +kernel
theorem dX10_sign_24 : decode cX10_sign 24 = .ok (.getfield 338, 3) := by decide +kernel
theorem dX10_sign_27 : decode cX10_sign 27 = .ok (.imul, 1) := by decide +kernel
theorem dX10_sign_28 : decode cX10_sign 28 = .ok (.aload_n 0, 1) := by decide +kernel
theorem dX10_sign_29 : decode cX10_sign 29 = .ok (.getfield 335, 3) := by decide +kernel
theorem dX10_sign_32 : decode cX10_sign 32 = .ok (.iadd, 1) := by decide +kernel
theorem dX10_sign_33 : decode cX10_sign 33 = .ok (.laload, 1) := by decide +kernel
theorem dX10_sign_34 : decode cX10_sign 34 = .ok (.l2i, 1) := by decide +kernel
theorem dX10_sign_35 : decode cX10_sign 35 = .ok (.goto 4, 3) := by decide +kernel
theorem dX10_sign_38 : decode cX10_sign 38 = .ok (.iconst (-1), 1) := by decide +kernel
theorem dX10_sign_39 : decode cX10_sign 39 = .ok (.ireturn, 1) := by decide +kernel
theorem dX10_isAt_0 : decode cX10_isAt 0 = .ok (.aload_n 0, 1) := by decide +kernel
theorem dX10_isAt_1 : decode cX10_isAt 1 = .ok (.getfield 335, 3) := by decide +kernel
theorem dX10_isAt_4 : decode cX10_isAt 4 = .ok (.aload_n 0, 1) := by decide +kernel
theorem dX10_isAt_5 : decode cX10_isAt 5 = .ok (.getfield 104, 3) := by decide +kernel
theorem dX10_isAt_8 : decode cX10_isAt 8 = .ok (.aload_n 0, 1) := by decide +kernel
theorem dX10_isAt_9 : decode cX10_isAt 9 = .ok (.getfield 338, 3) := by decide +kernel
theorem dX10_isAt_12 : decode cX10_isAt 12 = .ok (.iaload, 1) := by decide +kernel
theorem dX10_isAt_13 : decode cX10_isAt 13 = .ok (.if_icmp .ge 15, 3) := by decide +kernel
theorem dX10_isAt_16 : decode cX10_isAt 16 = .ok (.aload_n 0, 1) := by decide +kernel
theorem dX10_isAt_17 : decode cX10_isAt 17 = .ok (.invokevirtual 341, 3) := by decide +kernel
theorem dX10_isAt_20 : decode cX10_isAt 20 = .ok (.iload_n 1, 1) := by decide +kernel
theorem dX10_isAt_21 : decode cX10_isAt 21 = .ok (.if_icmp .ne 7, 3) := by decide +kernel
theorem dX10_isAt_24 : decode cX10_isAt 24 = .ok (.iconst 1, 1) := by decide +kernel
theorem dX10_isAt_25 : decode cX10_isAt 25 = .ok (.goto 4, 3) := by decide +kernel
theorem dX10_isAt_28 : decode cX10_isAt 28 = .ok (.iconst 0, 1) := by decide +kernel
theorem dX10_isAt_29 : decode cX10_isAt 29 = .ok (.ireturn, 1) := by decide +kernel
theorem dX10_reads_0 : decode cX10_reads 0 = .ok (.aload_n 0, 1) := by decide +kernel
theorem dX10_reads_1 : decode cX10_reads 1 = .ok (.iload_n 1, 1) := by decide +kernel
theorem dX10_reads_2 : decode cX10_reads 2 = .ok (.invokevirtual 345, 3) := by decide +kernel
theorem dX10_reads_5 : decode cX10_reads 5 = .ok (.ifCond .ne 5, 3) := by decide +kernel
theorem dX10_reads_8 : decode cX10_reads 8 = .ok (.iconst 0, 1) := by decide +kernel
theorem dX10_reads_9 : decode cX10_reads 9 = .ok (.ireturn, 1) := by decide +kernel
theorem dX10_reads_10 : decode cX10_reads 10 = .ok (.aload_n 0, 1) := by decide +kernel
theorem dX10_reads_11 : decode cX10_reads 11 = .ok (.dup, 1) := by decide +kernel
theorem dX10_reads_12 : decode cX10_reads 12 = .ok (.getfield 335, 3) := by decide +kernel
theorem dX10_reads_15 : decode cX10_reads 15 = .ok (.iconst 1, 1) := by decide +kernel
theorem dX10_reads_16 : decode cX10_reads 16 = .ok (.iadd, 1) := by decide +kernel
theorem dX10_reads_17 : decode cX10_reads 17 = .ok (.putfield 335, 3) := by decide +kernel
theorem dX10_reads_20 : decode cX10_reads 20 = .ok (.iconst 1, 1) := by decide +kernel
theorem dX10_reads_21 : decode cX10_reads 21 = .ok (.ireturn, 1) := by decide +kernel
theorem dX10_readsValue_0 : decode cX10_readsValue 0 = .ok (.iconst 0, 1) := by decide +kernel
theorem dX10_readsValue_1 : decode cX10_readsValue 1 = .ok (.istore_n 1, 1) := by decide +kernel
theorem dX10_readsValue_2 : decode cX10_readsValue 2 = .ok (.iconst 0, 1) := by decide +kernel
theorem dX10_readsValue_3 : decode cX10_readsValue 3 = .ok (.istore_n 2, 1) := by decide +kernel
theorem dX10_readsValue_4 : decode cX10_readsValue 4 = .ok (.iload_n 2, 1) := by decide +kernel
theorem dX10_readsValue_5 : decode cX10_readsValue 5 = .ok (.iconst 2, 1) := by decide +kernel
theorem dX10_readsValue_6 : decode cX10_readsValue 6 = .ok (.if_icmp .ge 46, 3) := by decide +kernel
theorem dX10_readsValue_9 : decode cX10_readsValue 9 = .ok (.aload_n 0, 1) := by decide +kernel
theorem dX10_readsValue_10 : decode cX10_readsValue 10 = .ok (.invokevirtual 341, 3) := by decide +kernel
theorem dX10_readsValue_13 : decode cX10_readsValue 13 = .ok (.bipush 48, 2) := by decide +kernel
theorem dX10_readsValue_15 : decode cX10_readsValue 15 = .ok (.bipush 57, 2) := by decide +kernel
theorem dX10_readsValue_17 : decode cX10_readsValue 17 = .ok (.invokestatic 145, 3) := by decide +kernel
theorem dX10_readsValue_20 : decode cX10_readsValue 20 = .ok (.ifCond .eq 32, 3) := by decide +kernel
theorem dX10_readsValue_23 : decode cX10_readsValue 23 = .ok (.bipush 10, 2) := by decide +kernel
theorem dX10_readsValue_25 : decode cX10_readsValue 25 = .ok (.iload_n 1, 1) := by decide +kernel
theorem dX10_readsValue_26 : decode cX10_readsValue 26 = .ok (.imul, 1) := by decide +kernel
theorem dX10_readsValue_27 : decode cX10_readsValue 27 = .ok (.aload_n 0, 1) := by decide +kernel
theorem dX10_readsValue_28 : decode cX10_readsValue 28 = .ok (.invokevirtual 341, 3) := by decide +kernel
theorem dX10_readsValue_31 : decode cX10_readsValue 31 = .ok (.iadd, 1) := by decide +kernel
theorem dX10_readsValue_32 : decode cX10_readsValue 32 = .ok (.bipush 48, 2) := by decide +kernel
theorem dX10_readsValue_34 : decode cX10_readsValue 34 = .ok (.isub, 1) := by decide +kernel
theorem dX10_readsValue_35 : decode cX10_readsValue 35 = .ok (.istore_n 1, 1) := by decide +kernel
theorem dX10_readsValue_36 : decode cX10_readsValue 36 = .ok (.aload_n 0, 1) := by decide +kernel
theorem dX10_readsValue_37 : decode cX10_readsValue 37 = .ok (.dup, 1) := by decide +kernel
theorem dX10_readsValue_38 : decode cX10_readsValue 38 = .ok (.getfield 335, 3) := by decide +kernel
theorem dX10_readsValue_41 : decode cX10_readsValue 41 = .ok (.iconst 1, 1) := by decide +kernel
theorem dX10_readsValue_42 : decode cX10_readsValue 42 = .ok (.iadd, 1) := by decide +kernel
theorem dX10_readsValue_43 : decode cX10_readsValue 43 = .ok (.putfield 335, 3) := by decide +kernel
theorem dX10_readsValue_46 : decode cX10_readsValue 46 = .ok (.iinc 2 1, 3) := by decide +kernel
theorem dX10_readsValue_49 : decode cX10_readsValue 49 = .ok (.goto (-45), 3) := by decide +kernel
theorem dX10_readsValue_52 : decode cX10_readsValue 52 = .ok (.iload_n 2, 1) := by decide +kernel
theorem dX10_readsValue_53 : decode cX10_readsValue 53 = .ok (.ifCond .ne 7, 3) := by decide +kernel
theorem dX10_readsValue_56 : decode cX10_readsValue 56 = .ok (.iconst (-1), 1) := by decide +kernel
theorem dX10_readsValue_57 : decode cX10_readsValue 57 = .ok (.goto 4, 3) := by decide +kernel
theorem dX10_readsValue_60 : decode cX10_readsValue 60 = .ok (.iload_n 1, 1) := by decide +kernel
theorem dX10_readsValue_61 : decode cX10_readsValue 61 = .ok (.ireturn, 1) := by decide +kernel
theorem dX10_readsLine_0 : decode cX10_readsLine 0 = .ok (.aload_n 0, 1) := by decide +kernel
theorem dX10_readsLine_1 : decode cX10_readsLine 1 = .ok (.getfield 13, 3) := by decide +kernel
theorem dX10_readsLine_4 : decode cX10_readsLine 4 = .ok (.iload_n 1, 1) := by decide +kernel
theorem dX10_readsLine_5 : decode cX10_readsLine 5 = .ok (.iaload, 1) := by decide +kernel
theorem dX10_readsLine_6 : decode cX10_readsLine 6 = .ok (.aload_n 0, 1) := by decide +kernel
theorem dX10_readsLine_7 : decode cX10_readsLine 7 = .ok (.getfield 132, 3) := by decide +kernel
theorem dX10_readsLine_10 : decode cX10_readsLine 10 = .ok (.iload_n 1, 1) := by decide +kernel
theorem dX10_readsLine_11 : decode cX10_readsLine 11 = .ok (.iaload, 1) := by decide +kernel
theorem dX10_readsLine_12 : decode cX10_readsLine 12 = .ok (.iadd, 1) := by decide +kernel
theorem dX10_readsLine_13 : decode cX10_readsLine 13 = .ok (.bipush 16, 2) := by decide +kernel
theorem dX10_readsLine_15 : decode cX10_readsLine 15 = .ok (.if_icmp .ne 5, 3) := by decide +kernel
theorem dX10_readsLine_18 : decode cX10_readsLine 18 = .ok (.iconst 0, 1) := by decide +kernel
theorem dX10_readsLine_19 : decode cX10_readsLine 19 = .ok (.ireturn, 1) := by decide +kernel
theorem dX10_readsLine_20 : decode cX10_readsLine 20 = .ok (.aload_n 0, 1) := by decide +kernel
theorem dX10_readsLine_21 : decode cX10_readsLine 21 = .ok (.getfield 120, 3) := by decide +kernel
theorem dX10_readsLine_24 : decode cX10_readsLine 24 = .ok (.aload_n 0, 1) := by decide +kernel
theorem dX10_readsLine_25 : decode cX10_readsLine 25 = .ok (.getfield 348, 3) := by decide +kernel
theorem dX10_readsLine_28 : decode cX10_readsLine 28 = .ok (.iload_n 1, 1) := by decide +kernel
theorem dX10_readsLine_29 : decode cX10_readsLine 29 = .ok (.iastore, 1) := by decide +kernel
theorem dX10_readsLine_30 : decode cX10_readsLine 30 = .ok (.aload_n 0, 1) := by decide +kernel
theorem dX10_readsLine_31 : decode cX10_readsLine 31 = .ok (.getfield 123, 3) := by decide +kernel
theorem dX10_readsLine_34 : decode cX10_readsLine 34 = .ok (.aload_n 0, 1) := by decide +kernel
theorem dX10_readsLine_35 : decode cX10_readsLine 35 = .ok (.getfield 348, 3) := by decide +kernel
theorem dX10_readsLine_38 : decode cX10_readsLine 38 = .ok (.aload_n 0, 1) := by decide +kernel
theorem dX10_readsLine_39 : decode cX10_readsLine 39 = .ok (.invokevirtual 351, 3) := by decide +kernel
theorem dX10_readsLine_42 : decode cX10_readsLine 42 = .ok (.iastore, 1) := by decide +kernel
theorem dX10_readsLine_43 : decode cX10_readsLine 43 = .ok (.aload_n 0, 1) := by decide +kernel
theorem dX10_readsLine_44 : decode cX10_readsLine 44 = .ok (.getfield 123, 3) := by decide +kernel
theorem dX10_readsLine_47 : decode cX10_readsLine 47 = .ok (.aload_n 0, 1) := by decide +kernel
theorem dX10_readsLine_48 : decode cX10_readsLine 48 = .ok (.getfield 348, 3) := by decide +kernel
theorem dX10_readsLine_51 : decode cX10_readsLine 51 = .ok (.iaload, 1) := by decide +kernel
theorem dX10_readsLine_52 : decode cX10_readsLine 52 = .ok (.ifCond .lt 12, 3) := by decide +kernel
theorem dX10_readsLine_55 : decode cX10_readsLine 55 = .ok (.aload_n 0, 1) := by decide +kernel
theorem dX10_readsLine_56 : decode cX10_readsLine 56 = .ok (.bipush 44, 2) := by decide +kernel
theorem dX10_readsLine_58 : decode cX10_readsLine 58 = .ok (.invokevirtual 354, 3) := by decide +kernel
theorem dX10_readsLine_61 : decode cX10_readsLine 61 = .ok (.ifCond .ne 5, 3) := by decide +kernel
theorem dX10_readsLine_64 : decode cX10_readsLine 64 = .ok (.iconst 0, 1) := by decide +kernel
theorem dX10_readsLine_65 : decode cX10_readsLine 65 = .ok (.ireturn, 1) := by decide +kernel
theorem dX10_readsLine_66 : decode cX10_readsLine 66 = .ok (.aload_n 0, 1) := by decide +kernel
theorem dX10_readsLine_67 : decode cX10_readsLine 67 = .ok (.getfield 126, 3) := by decide +kernel
theorem dX10_readsLine_70 : decode cX10_readsLine 70 = .ok (.aload_n 0, 1) := by decide +kernel
theorem dX10_readsLine_71 : decode cX10_readsLine 71 = .ok (.getfield 348, 3) := by decide +kernel
theorem dX10_readsLine_74 : decode cX10_readsLine 74 = .ok (.aload_n 0, 1) := by decide +kernel
theorem dX10_readsLine_75 : decode cX10_readsLine 75 = .ok (.invokevirtual 351, 3) := by decide +kernel
theorem dX10_readsLine_78 : decode cX10_readsLine 78 = .ok (.iastore, 1) := by decide +kernel
theorem dX10_readsLine_79 : decode cX10_readsLine 79 = .ok (.aload_n 0, 1) := by decide +kernel
theorem dX10_readsLine_80 : decode cX10_readsLine 80 = .ok (.getfield 126, 3) := by decide +kernel
theorem dX10_readsLine_83 : decode cX10_readsLine 83 = .ok (.aload_n 0, 1) := by decide +kernel
theorem dX10_readsLine_84 : decode cX10_readsLine 84 = .ok (.getfield 348, 3) := by decide +kernel
theorem dX10_readsLine_87 : decode cX10_readsLine 87 = .ok (.iaload, 1) := by decide +kernel
theorem dX10_readsLine_88 : decode cX10_readsLine 88 = .ok (.ifCond .lt 12, 3) := by decide +kernel
theorem dX10_readsLine_91 : decode cX10_readsLine 91 = .ok (.aload_n 0, 1) := by decide +kernel
theorem dX10_readsLine_92 : decode cX10_readsLine 92 = .ok (.bipush 44, 2) := by decide +kernel
theorem dX10_readsLine_94 : decode cX10_readsLine 94 = .ok (.invokevirtual 354, 3) := by decide +kernel
theorem dX10_readsLine_97 : decode cX10_readsLine 97 = .ok (.ifCond .ne 5, 3) := by decide +kernel
theorem dX10_readsLine_100 : decode cX10_readsLine 100 = .ok (.iconst 0, 1) := by decide +kernel
theorem dX10_readsLine_101 : decode cX10_readsLine 101 = .ok (.ireturn, 1) := by decide +kernel
theorem dX10_readsLine_102 : decode cX10_readsLine 102 = .ok (.aload_n 0, 1) := by decide +kernel
theorem dX10_readsLine_103 : decode cX10_readsLine 103 = .ok (.getfield 129, 3) := by decide +kernel
theorem dX10_readsLine_106 : decode cX10_readsLine 106 = .ok (.aload_n 0, 1) := by decide +kernel
theorem dX10_readsLine_107 : decode cX10_readsLine 107 = .ok (.getfield 348, 3) := by decide +kernel
theorem dX10_readsLine_110 : decode cX10_readsLine 110 = .ok (.aload_n 0, 1) := by decide +kernel
theorem dX10_readsLine_111 : decode cX10_readsLine 111 = .ok (.invokevirtual 351, 3) := by decide +kernel
theorem dX10_readsLine_114 : decode cX10_readsLine 114 = .ok (.iastore, 1) := by decide +kernel
theorem dX10_readsLine_115 : decode cX10_readsLine 115 = .ok (.aload_n 0, 1) := by decide +kernel
theorem dX10_readsLine_116 : decode cX10_readsLine 116 = .ok (.getfield 129, 3) := by decide +kernel
theorem dX10_readsLine_119 : decode cX10_readsLine 119 = .ok (.aload_n 0, 1) := by decide +kernel
theorem dX10_readsLine_120 : decode cX10_readsLine 120 = .ok (.getfield 348, 3) := by decide +kernel
theorem dX10_readsLine_123 : decode cX10_readsLine 123 = .ok (.iaload, 1) := by decide +kernel
theorem dX10_readsLine_124 : decode cX10_readsLine 124 = .ok (.ifCond .ge 5, 3) := by decide +kernel
theorem dX10_readsLine_127 : decode cX10_readsLine 127 = .ok (.iconst 0, 1) := by decide +kernel
theorem dX10_readsLine_128 : decode cX10_readsLine 128 = .ok (.ireturn, 1) := by decide +kernel
theorem dX10_readsLine_129 : decode cX10_readsLine 129 = .ok (.aload_n 0, 1) := by decide +kernel
theorem dX10_readsLine_130 : decode cX10_readsLine 130 = .ok (.dup, 1) := by decide +kernel
theorem dX10_readsLine_131 : decode cX10_readsLine 131 = .ok (.getfield 348, 3) := by decide +kernel
theorem dX10_readsLine_134 : decode cX10_readsLine 134 = .ok (.iconst 1, 1) := by decide +kernel
theorem dX10_readsLine_135 : decode cX10_readsLine 135 = .ok (.iadd, 1) := by decide +kernel
theorem dX10_readsLine_136 : decode cX10_readsLine 136 = .ok (.putfield 348, 3) := by decide +kernel
theorem dX10_readsLine_139 : decode cX10_readsLine 139 = .ok (.aload_n 0, 1) := by decide +kernel
theorem dX10_readsLine_140 : decode cX10_readsLine 140 = .ok (.getfield 132, 3) := by decide +kernel
theorem dX10_readsLine_143 : decode cX10_readsLine 143 = .ok (.iload_n 1, 1) := by decide +kernel
theorem dX10_readsLine_144 : decode cX10_readsLine 144 = .ok (.dup2, 1) := by decide +kernel
theorem dX10_readsLine_145 : decode cX10_readsLine 145 = .ok (.iaload, 1) := by decide +kernel
theorem dX10_readsLine_146 : decode cX10_readsLine 146 = .ok (.iconst 1, 1) := by decide +kernel
theorem dX10_readsLine_147 : decode cX10_readsLine 147 = .ok (.iadd, 1) := by decide +kernel
theorem dX10_readsLine_148 : decode cX10_readsLine 148 = .ok (.iastore, 1) := by decide +kernel
theorem dX10_readsLine_149 : decode cX10_readsLine 149 = .ok (.iconst 1, 1) := by decide +kernel
theorem dX10_readsLine_150 : decode cX10_readsLine 150 = .ok (.ireturn, 1) := by decide +kernel
theorem dX10_readsItem_0 : decode cX10_readsItem 0 = .ok (.aload_n 0, 1) := by decide +kernel
theorem dX10_readsItem_1 : decode cX10_readsItem 1 = .ok (.bipush 116, 2) := by decide +kernel
theorem dX10_readsItem_3 : decode cX10_readsItem 3 = .ok (.invokevirtual 354, 3) := by decide +kernel
theorem dX10_readsItem_6 : decode cX10_readsItem 6 = .ok (.ifCond .eq 17, 3) := by decide +kernel
theorem dX10_readsItem_9 : decode cX10_readsItem 9 = .ok (.aload_n 0, 1) := by decide +kernel
theorem dX10_readsItem_10 : decode cX10_readsItem 10 = .ok (.invokevirtual 341, 3) := by decide +kernel
theorem dX10_readsItem_13 : decode cX10_readsItem 13 = .ok (.bipush 48, 2) := by decide +kernel
theorem dX10_readsItem_15 : decode cX10_readsItem 15 = .ok (.bipush 52, 2) := by decide +kernel
theorem dX10_readsItem_17 : decode cX10_readsItem 17 = .ok (.invokestatic 145, 3) := by decide +kernel
theorem dX10_readsItem_20 : decode cX10_readsItem 20 = .ok (.ifCond .ne 5, 3) := by decide +kernel
theorem dX10_readsItem_23 : decode cX10_readsItem 23 = .ok (.iconst 0, 1) := by decide +kernel
theorem dX10_readsItem_24 : decode cX10_readsItem 24 = .ok (.ireturn, 1) := by decide +kernel
theorem dX10_readsItem_25 : decode cX10_readsItem 25 = .ok (.aload_n 0, 1) := by decide +kernel
theorem dX10_readsItem_26 : decode cX10_readsItem 26 = .ok (.invokevirtual 341, 3) := by decide +kernel
theorem dX10_readsItem_29 : decode cX10_readsItem 29 = .ok (.bipush 48, 2) := by decide +kernel
theorem dX10_readsItem_31 : decode cX10_readsItem 31 = .ok (.isub, 1) := by decide +kernel
theorem dX10_readsItem_32 : decode cX10_readsItem 32 = .ok (.istore_n 1, 1) := by decide +kernel
theorem dX10_readsItem_33 : decode cX10_readsItem 33 = .ok (.aload_n 0, 1) := by decide +kernel
theorem dX10_readsItem_34 : decode cX10_readsItem 34 = .ok (.dup, 1) := by decide +kernel
theorem dX10_readsItem_35 : decode cX10_readsItem 35 = .ok (.getfield 335, 3) := by decide +kernel
theorem dX10_readsItem_38 : decode cX10_readsItem 38 = .ok (.iconst 1, 1) := by decide +kernel
theorem dX10_readsItem_39 : decode cX10_readsItem 39 = .ok (.iadd, 1) := by decide +kernel
theorem dX10_readsItem_40 : decode cX10_readsItem 40 = .ok (.putfield 335, 3) := by decide +kernel
theorem dX10_readsItem_43 : decode cX10_readsItem 43 = .ok (.aload_n 0, 1) := by decide +kernel
theorem dX10_readsItem_44 : decode cX10_readsItem 44 = .ok (.bipush 58, 2) := by decide +kernel
theorem dX10_readsItem_46 : decode cX10_readsItem 46 = .ok (.invokevirtual 354, 3) := by decide +kernel
theorem dX10_readsItem_49 : decode cX10_readsItem 49 = .ok (.ifCond .ne 5, 3) := by decide +kernel
theorem dX10_readsItem_52 : decode cX10_readsItem 52 = .ok (.iconst 0, 1) := by decide +kernel
theorem dX10_readsItem_53 : decode cX10_readsItem 53 = .ok (.ireturn, 1) := by decide +kernel
theorem dX10_readsItem_54 : decode cX10_readsItem 54 = .ok (.iconst 1, 1) := by decide +kernel
theorem dX10_readsItem_55 : decode cX10_readsItem 55 = .ok (.istore_n 2, 1) := by decide +kernel
theorem dX10_readsItem_56 : decode cX10_readsItem 56 = .ok (.iload_n 2, 1) := by decide +kernel
theorem dX10_readsItem_57 : decode cX10_readsItem 57 = .ok (.ifCond .eq 23, 3) := by decide +kernel
theorem dX10_readsItem_60 : decode cX10_readsItem 60 = .ok (.aload_n 0, 1) := by decide +kernel
theorem dX10_readsItem_61 : decode cX10_readsItem 61 = .ok (.iload_n 1, 1) := by decide +kernel
theorem dX10_readsItem_62 : decode cX10_readsItem 62 = .ok (.invokevirtual 357, 3) := by decide +kernel
theorem dX10_readsItem_65 : decode cX10_readsItem 65 = .ok (.ifCond .ne 5, 3) := by decide +kernel
theorem dX10_readsItem_68 : decode cX10_readsItem 68 = .ok (.iconst 0, 1) := by decide +kernel
theorem dX10_readsItem_69 : decode cX10_readsItem 69 = .ok (.ireturn, 1) := by decide +kernel
theorem dX10_readsItem_70 : decode cX10_readsItem 70 = .ok (.aload_n 0, 1) := by decide +kernel
theorem dX10_readsItem_71 : decode cX10_readsItem 71 = .ok (.bipush 47, 2) := by decide +kernel
theorem dX10_readsItem_73 : decode cX10_readsItem 73 = .ok (.invokevirtual 354, 3) := by decide +kernel
theorem dX10_readsItem_76 : decode cX10_readsItem 76 = .ok (.istore_n 2, 1) := by decide +kernel
theorem dX10_readsItem_77 : decode cX10_readsItem 77 = .ok (.goto (-21), 3) := by decide +kernel
theorem dX10_readsItem_80 : decode cX10_readsItem 80 = .ok (.iconst 1, 1) := by decide +kernel
theorem dX10_readsItem_81 : decode cX10_readsItem 81 = .ok (.ireturn, 1) := by decide +kernel
theorem dX10_readsAll_0 : decode cX10_readsAll 0 = .ok (.aload_n 0, 1) := by decide +kernel
theorem dX10_readsAll_1 : decode cX10_readsAll 1 = .ok (.iconst 0, 1) := by decide +kernel
theorem dX10_readsAll_2 : decode cX10_readsAll 2 = .ok (.putfield 335, 3) := by decide +kernel
theorem dX10_readsAll_5 : decode cX10_readsAll 5 = .ok (.aload_n 0, 1) := by decide +kernel
theorem dX10_readsAll_6 : decode cX10_readsAll 6 = .ok (.iconst 0, 1) := by decide +kernel
theorem dX10_readsAll_7 : decode cX10_readsAll 7 = .ok (.putfield 348, 3) := by decide +kernel
theorem dX10_readsAll_10 : decode cX10_readsAll 10 = .ok (.iconst 0, 1) := by decide +kernel
theorem dX10_readsAll_11 : decode cX10_readsAll 11 = .ok (.istore_n 1, 1) := by decide +kernel
theorem dX10_readsAll_12 : decode cX10_readsAll 12 = .ok (.iload_n 1, 1) := by decide +kernel
theorem dX10_readsAll_13 : decode cX10_readsAll 13 = .ok (.iconst 5, 1) := by decide +kernel
theorem dX10_readsAll_14 : decode cX10_readsAll 14 = .ok (.if_icmp .ge 16, 3) := by decide +kernel
theorem dX10_readsAll_17 : decode cX10_readsAll 17 = .ok (.aload_n 0, 1) := by decide +kernel
theorem dX10_readsAll_18 : decode cX10_readsAll 18 = .ok (.getfield 132, 3) := by decide +kernel
theorem dX10_readsAll_21 : decode cX10_readsAll 21 = .ok (.iload_n 1, 1) := by decide +kernel
theorem dX10_readsAll_22 : decode cX10_readsAll 22 = .ok (.iconst 0, 1) := by decide +kernel
theorem dX10_readsAll_23 : decode cX10_readsAll 23 = .ok (.iastore, 1) := by decide +kernel
theorem dX10_readsAll_24 : decode cX10_readsAll 24 = .ok (.iinc 1 1, 3) := by decide +kernel
theorem dX10_readsAll_27 : decode cX10_readsAll 27 = .ok (.goto (-15), 3) := by decide +kernel
theorem dX10_readsAll_30 : decode cX10_readsAll 30 = .ok (.iconst 0, 1) := by decide +kernel
theorem dX10_readsAll_31 : decode cX10_readsAll 31 = .ok (.istore_n 1, 1) := by decide +kernel
theorem dX10_readsAll_32 : decode cX10_readsAll 32 = .ok (.iconst 1, 1) := by decide +kernel
theorem dX10_readsAll_33 : decode cX10_readsAll 33 = .ok (.istore_n 2, 1) := by decide +kernel
theorem dX10_readsAll_34 : decode cX10_readsAll 34 = .ok (.iload_n 2, 1) := by decide +kernel
theorem dX10_readsAll_35 : decode cX10_readsAll 35 = .ok (.ifCond .eq 25, 3) := by decide +kernel
theorem dX10_readsAll_38 : decode cX10_readsAll 38 = .ok (.aload_n 0, 1) := by decide +kernel
theorem dX10_readsAll_39 : decode cX10_readsAll 39 = .ok (.invokevirtual 360, 3) := by decide +kernel
theorem dX10_readsAll_42 : decode cX10_readsAll 42 = .ok (.ifCond .ne 5, 3) := by decide +kernel
theorem dX10_readsAll_45 : decode cX10_readsAll 45 = .ok (.iconst (-1), 1) := by decide +kernel
theorem dX10_readsAll_46 : decode cX10_readsAll 46 = .ok (.ireturn, 1) := by decide +kernel
theorem dX10_readsAll_47 : decode cX10_readsAll 47 = .ok (.iinc 1 1, 3) := by decide +kernel
theorem dX10_readsAll_50 : decode cX10_readsAll 50 = .ok (.aload_n 0, 1) := by decide +kernel
theorem dX10_readsAll_51 : decode cX10_readsAll 51 = .ok (.bipush 59, 2) := by decide +kernel
theorem dX10_readsAll_53 : decode cX10_readsAll 53 = .ok (.invokevirtual 354, 3) := by decide +kernel
theorem dX10_readsAll_56 : decode cX10_readsAll 56 = .ok (.istore_n 2, 1) := by decide +kernel
theorem dX10_readsAll_57 : decode cX10_readsAll 57 = .ok (.goto (-23), 3) := by decide +kernel
theorem dX10_readsAll_60 : decode cX10_readsAll 60 = .ok (.aload_n 0, 1) := by decide +kernel
theorem dX10_readsAll_61 : decode cX10_readsAll 61 = .ok (.getfield 335, 3) := by decide +kernel
theorem dX10_readsAll_64 : decode cX10_readsAll 64 = .ok (.aload_n 0, 1) := by decide +kernel
theorem dX10_readsAll_65 : decode cX10_readsAll 65 = .ok (.getfield 104, 3) := by decide +kernel
theorem dX10_readsAll_68 : decode cX10_readsAll 68 = .ok (.aload_n 0, 1) := by decide +kernel
theorem dX10_readsAll_69 : decode cX10_readsAll 69 = .ok (.getfield 338, 3) := by decide +kernel
theorem dX10_readsAll_72 : decode cX10_readsAll 72 = .ok (.iaload, 1) := by decide +kernel
theorem dX10_readsAll_73 : decode cX10_readsAll 73 = .ok (.if_icmp .ne 7, 3) := by decide +kernel
theorem dX10_readsAll_76 : decode cX10_readsAll 76 = .ok (.iload_n 1, 1) := by decide +kernel
theorem dX10_readsAll_77 : decode cX10_readsAll 77 = .ok (.goto 4, 3) := by decide +kernel
theorem dX10_readsAll_80 : decode cX10_readsAll 80 = .ok (.iconst (-1), 1) := by decide +kernel
theorem dX10_readsAll_81 : decode cX10_readsAll 81 = .ok (.ireturn, 1) := by decide +kernel
theorem dX10_read_0 : decode cX10_read 0 = .ok (.aload_n 0, 1) := by decide +kernel
theorem dX10_read_1 : decode cX10_read 1 = .ok (.iload_n 1, 1) := by decide +kernel
theorem dX10_read_2 : decode cX10_read 2 = .ok (.invokevirtual 318, 3) := by decide +kernel
theorem dX10_read_5 : decode cX10_read 5 = .ok (.istore_n 2, 1) := by decide +kernel
theorem dX10_read_6 : decode cX10_read 6 = .ok (.iload_n 2, 1) := by decide +kernel
theorem dX10_read_7 : decode cX10_read 7 = .ok (.ifCond .eq 9, 3) := by decide +kernel
theorem dX10_read_10 : decode cX10_read 10 = .ok (.aload_n 0, 1) := by decide +kernel
theorem dX10_read_11 : decode cX10_read 11 = .ok (.iload_n 2, 1) := by decide +kernel
theorem dX10_read_12 : decode cX10_read 12 = .ok (.invokevirtual 274, 3) := by decide +kernel
theorem dX10_read_15 : decode cX10_read 15 = .ok (.ireturn, 1) := by decide +kernel
theorem dX10_read_16 : decode cX10_read 16 = .ok (.aload_n 0, 1) := by decide +kernel
theorem dX10_read_17 : decode cX10_read 17 = .ok (.iload_n 1, 1) := by decide +kernel
theorem dX10_read_18 : decode cX10_read 18 = .ok (.putfield 338, 3) := by decide +kernel
theorem dX10_read_21 : decode cX10_read 21 = .ok (.aload_n 0, 1) := by decide +kernel
theorem dX10_read_22 : decode cX10_read 22 = .ok (.iconst (-1), 1) := by decide +kernel
theorem dX10_read_23 : decode cX10_read 23 = .ok (.putfield 135, 3) := by decide +kernel
theorem dX10_read_26 : decode cX10_read 26 = .ok (.aload_n 0, 1) := by decide +kernel
theorem dX10_read_27 : decode cX10_read 27 = .ok (.invokevirtual 364, 3) := by decide +kernel
theorem dX10_read_30 : decode cX10_read 30 = .ok (.istore_n 3, 1) := by decide +kernel
theorem dX10_read_31 : decode cX10_read 31 = .ok (.iload_n 3, 1) := by decide +kernel
theorem dX10_read_32 : decode cX10_read 32 = .ok (.ifCond .ge 18, 3) := by decide +kernel
theorem dX10_read_35 : decode cX10_read 35 = .ok (.aload_n 0, 1) := by decide +kernel
theorem dX10_read_36 : decode cX10_read 36 = .ok (.aload_n 0, 1) := by decide +kernel
theorem dX10_read_37 : decode cX10_read 37 = .ok (.getfield 335, 3) := by decide +kernel
theorem dX10_read_40 : decode cX10_read 40 = .ok (.putfield 135, 3) := by decide +kernel
theorem dX10_read_43 : decode cX10_read 43 = .ok (.aload_n 0, 1) := by decide +kernel
theorem dX10_read_44 : decode cX10_read 44 = .ok (.bipush (-6), 2) := by decide +kernel
theorem dX10_read_46 : decode cX10_read 46 = .ok (.invokevirtual 274, 3) := by decide +kernel
theorem dX10_read_49 : decode cX10_read 49 = .ok (.ireturn, 1) := by decide +kernel
theorem dX10_read_50 : decode cX10_read 50 = .ok (.iconst 0, 1) := by decide +kernel
theorem dX10_read_51 : decode cX10_read 51 = .ok (.istore 4, 2) := by decide +kernel
theorem dX10_read_53 : decode cX10_read 53 = .ok (.iload 4, 2) := by decide +kernel
theorem dX10_read_55 : decode cX10_read 55 = .ok (.aload_n 0, 1) := by decide +kernel
theorem dX10_read_56 : decode cX10_read 56 = .ok (.getfield 348, 3) := by decide +kernel
theorem dX10_read_59 : decode cX10_read 59 = .ok (.if_icmp .ge 41, 3) := by decide +kernel
theorem dX10_read_62 : decode cX10_read 62 = .ok (.aload_n 0, 1) := by decide +kernel
theorem dX10_read_63 : decode cX10_read 63 = .ok (.aload_n 0, 1) := by decide +kernel
theorem dX10_read_64 : decode cX10_read 64 = .ok (.getfield 120, 3) := by decide +kernel
theorem dX10_read_67 : decode cX10_read 67 = .ok (.iload 4, 2) := by decide +kernel
theorem dX10_read_69 : decode cX10_read 69 = .ok (.iaload, 1) := by decide +kernel
theorem dX10_read_70 : decode cX10_read 70 = .ok (.aload_n 0, 1) := by decide +kernel
theorem dX10_read_71 : decode cX10_read 71 = .ok (.getfield 123, 3) := by decide +kernel
theorem dX10_read_74 : decode cX10_read 74 = .ok (.iload 4, 2) := by decide +kernel
theorem dX10_read_76 : decode cX10_read 76 = .ok (.iaload, 1) := by decide +kernel
theorem dX10_read_77 : decode cX10_read 77 = .ok (.aload_n 0, 1) := by decide +kernel
theorem dX10_read_78 : decode cX10_read 78 = .ok (.getfield 126, 3) := by decide +kernel
theorem dX10_read_81 : decode cX10_read 81 = .ok (.iload 4, 2) := by decide +kernel
theorem dX10_read_83 : decode cX10_read 83 = .ok (.iaload, 1) := by decide +kernel
theorem dX10_read_84 : decode cX10_read 84 = .ok (.aload_n 0, 1) := by decide +kernel
theorem dX10_read_85 : decode cX10_read 85 = .ok (.getfield 129, 3) := by decide +kernel
theorem dX10_read_88 : decode cX10_read 88 = .ok (.iload 4, 2) := by decide +kernel
theorem dX10_read_90 : decode cX10_read 90 = .ok (.iaload, 1) := by decide +kernel
theorem dX10_read_91 : decode cX10_read 91 = .ok (.invokevirtual 367, 3) := by decide +kernel
theorem dX10_read_94 : decode cX10_read 94 = .ok (.iinc 4 1, 3) := by decide +kernel
theorem dX10_read_97 : decode cX10_read 97 = .ok (.goto (-44), 3) := by decide +kernel
theorem dX10_read_100 : decode cX10_read 100 = .ok (.iload_n 3, 1) := by decide +kernel
theorem dX10_read_101 : decode cX10_read 101 = .ok (.ireturn, 1) := by decide +kernel
theorem dX10_fault_0 : decode cX10_fault 0 = .ok (.aload_n 0, 1) := by decide +kernel
theorem dX10_fault_1 : decode cX10_fault 1 = .ok (.getfield 135, 3) := by decide +kernel
theorem dX10_fault_4 : decode cX10_fault 4 = .ok (.ireturn, 1) := by decide +kernel
theorem dX10_line_0 : decode cX10_line 0 = .ok (.iload_n 2, 1) := by decide +kernel
theorem dX10_line_1 : decode cX10_line 1 = .ok (.iconst 0, 1) := by decide +kernel
theorem dX10_line_2 : decode cX10_line 2 = .ok (.bipush 99, 2) := by decide +kernel
theorem dX10_line_4 : decode cX10_line 4 = .ok (.invokestatic 145, 3) := by decide +kernel
theorem dX10_line_7 : decode cX10_line 7 = .ok (.ifCond .eq 28, 3) := by decide +kernel
theorem dX10_line_10 : decode cX10_line 10 = .ok (.iload_n 3, 1) := by decide +kernel
theorem dX10_line_11 : decode cX10_line 11 = .ok (.iconst 0, 1) := by decide +kernel
theorem dX10_line_12 : decode cX10_line 12 = .ok (.bipush 99, 2) := by decide +kernel
theorem dX10_line_14 : decode cX10_line 14 = .ok (.invokestatic 145, 3) := by decide +kernel
theorem dX10_line_17 : decode cX10_line 17 = .ok (.ifCond .eq 18, 3) := by decide +kernel
theorem dX10_line_20 : decode cX10_line 20 = .ok (.iload 4, 2) := by decide +kernel
theorem dX10_line_22 : decode cX10_line 22 = .ok (.iconst 0, 1) := by decide +kernel
theorem dX10_line_23 : decode cX10_line 23 = .ok (.bipush 99, 2) := by decide +kernel
theorem dX10_line_25 : decode cX10_line 25 = .ok (.invokestatic 145, 3) := by decide +kernel
theorem dX10_line_28 : decode cX10_line 28 = .ok (.ifCond .eq 7, 3) := by decide +kernel
theorem dX10_line_31 : decode cX10_line 31 = .ok (.iconst 1, 1) := by decide +kernel
theorem dX10_line_32 : decode cX10_line 32 = .ok (.goto 4, 3) := by decide +kernel
theorem dX10_line_35 : decode cX10_line 35 = .ok (.iconst 0, 1) := by decide +kernel
theorem dX10_line_36 : decode cX10_line 36 = .ok (.istore 5, 2) := by decide +kernel
theorem dX10_line_38 : decode cX10_line 38 = .ok (.iload_n 1, 1) := by decide +kernel
theorem dX10_line_39 : decode cX10_line 39 = .ok (.invokestatic 371, 3) := by decide +kernel
theorem dX10_line_42 : decode cX10_line 42 = .ok (.ifCond .ne 7, 3) := by decide +kernel
theorem dX10_line_45 : decode cX10_line 45 = .ok (.iconst (-1), 1) := by decide +kernel
theorem dX10_line_46 : decode cX10_line 46 = .ok (.goto 30, 3) := by decide +kernel
theorem dX10_line_49 : decode cX10_line 49 = .ok (.iload 5, 2) := by decide +kernel
theorem dX10_line_51 : decode cX10_line 51 = .ok (.ifCond .ne 8, 3) := by decide +kernel
theorem dX10_line_54 : decode cX10_line 54 = .ok (.bipush (-6), 2) := by decide +kernel
theorem dX10_line_56 : decode cX10_line 56 = .ok (.goto 20, 3) := by decide +kernel
theorem dX10_line_59 : decode cX10_line 59 = .ok (.aload_n 0, 1) := by decide +kernel
theorem dX10_line_60 : decode cX10_line 60 = .ok (.getfield 13, 3) := by decide +kernel
theorem dX10_line_63 : decode cX10_line 63 = .ok (.iload_n 1, 1) := by decide +kernel
theorem dX10_line_64 : decode cX10_line 64 = .ok (.iaload, 1) := by decide +kernel
theorem dX10_line_65 : decode cX10_line 65 = .ok (.bipush 16, 2) := by decide +kernel
theorem dX10_line_67 : decode cX10_line 67 = .ok (.if_icmp .ne 8, 3) := by decide +kernel
theorem dX10_line_70 : decode cX10_line 70 = .ok (.bipush (-7), 2) := by decide +kernel
theorem dX10_line_72 : decode cX10_line 72 = .ok (.goto 4, 3) := by decide +kernel
theorem dX10_line_75 : decode cX10_line 75 = .ok (.iconst 0, 1) := by decide +kernel
theorem dX10_line_76 : decode cX10_line 76 = .ok (.istore 6, 2) := by decide +kernel
theorem dX10_line_78 : decode cX10_line 78 = .ok (.iload 6, 2) := by decide +kernel
theorem dX10_line_80 : decode cX10_line 80 = .ok (.ifCond .eq 10, 3) := by decide +kernel
theorem dX10_line_83 : decode cX10_line 83 = .ok (.aload_n 0, 1) := by decide +kernel
theorem dX10_line_84 : decode cX10_line 84 = .ok (.iload 6, 2) := by decide +kernel
theorem dX10_line_86 : decode cX10_line 86 = .ok (.invokevirtual 274, 3) := by decide +kernel
theorem dX10_line_89 : decode cX10_line 89 = .ok (.ireturn, 1) := by decide +kernel
theorem dX10_line_90 : decode cX10_line 90 = .ok (.aload_n 0, 1) := by decide +kernel
theorem dX10_line_91 : decode cX10_line 91 = .ok (.iload_n 1, 1) := by decide +kernel
theorem dX10_line_92 : decode cX10_line 92 = .ok (.iload_n 2, 1) := by decide +kernel
theorem dX10_line_93 : decode cX10_line 93 = .ok (.iload_n 3, 1) := by decide +kernel
theorem dX10_line_94 : decode cX10_line 94 = .ok (.iload 4, 2) := by decide +kernel
theorem dX10_line_96 : decode cX10_line 96 = .ok (.invokevirtual 367, 3) := by decide +kernel
theorem dX10_line_99 : decode cX10_line 99 = .ok (.aload_n 0, 1) := by decide +kernel
theorem dX10_line_100 : decode cX10_line 100 = .ok (.getfield 13, 3) := by decide +kernel
theorem dX10_line_103 : decode cX10_line 103 = .ok (.iload_n 1, 1) := by decide +kernel
theorem dX10_line_104 : decode cX10_line 104 = .ok (.iaload, 1) := by decide +kernel
theorem dX10_line_105 : decode cX10_line 105 = .ok (.iconst 1, 1) := by decide +kernel
theorem dX10_line_106 : decode cX10_line 106 = .ok (.isub, 1) := by decide +kernel
theorem dX10_line_107 : decode cX10_line 107 = .ok (.ireturn, 1) := by decide +kernel
theorem dX10_empty_0 : decode cX10_empty 0 = .ok (.iload_n 1, 1) := by decide +kernel
theorem dX10_empty_1 : decode cX10_empty 1 = .ok (.invokestatic 371, 3) := by decide +kernel
theorem dX10_empty_4 : decode cX10_empty 4 = .ok (.ifCond .ne 9, 3) := by decide +kernel
theorem dX10_empty_7 : decode cX10_empty 7 = .ok (.aload_n 0, 1) := by decide +kernel
theorem dX10_empty_8 : decode cX10_empty 8 = .ok (.iconst (-1), 1) := by decide +kernel
theorem dX10_empty_9 : decode cX10_empty 9 = .ok (.invokevirtual 274, 3) := by decide +kernel
theorem dX10_empty_12 : decode cX10_empty 12 = .ok (.ireturn, 1) := by decide +kernel
theorem dX10_empty_13 : decode cX10_empty 13 = .ok (.aload_n 0, 1) := by decide +kernel
theorem dX10_empty_14 : decode cX10_empty 14 = .ok (.getfield 13, 3) := by decide +kernel
theorem dX10_empty_17 : decode cX10_empty 17 = .ok (.iload_n 1, 1) := by decide +kernel
theorem dX10_empty_18 : decode cX10_empty 18 = .ok (.iaload, 1) := by decide +kernel
theorem dX10_empty_19 : decode cX10_empty 19 = .ok (.istore_n 2, 1) := by decide +kernel
theorem dX10_empty_20 : decode cX10_empty 20 = .ok (.aload_n 0, 1) := by decide +kernel
theorem dX10_empty_21 : decode cX10_empty 21 = .ok (.getfield 13, 3) := by decide +kernel
theorem dX10_empty_24 : decode cX10_empty 24 = .ok (.iload_n 1, 1) := by decide +kernel
theorem dX10_empty_25 : decode cX10_empty 25 = .ok (.iconst 0, 1) := by decide +kernel
theorem dX10_empty_26 : decode cX10_empty 26 = .ok (.iastore, 1) := by decide +kernel
theorem dX10_empty_27 : decode cX10_empty 27 = .ok (.iload_n 2, 1) := by decide +kernel
theorem dX10_empty_28 : decode cX10_empty 28 = .ok (.ireturn, 1) := by decide +kernel
theorem dX10_put_0 : decode cX10_put 0 = .ok (.iload_n 2, 1) := by decide +kernel
theorem dX10_put_1 : decode cX10_put 1 = .ok (.ifCond .ne 13, 3) := by decide +kernel
theorem dX10_put_4 : decode cX10_put 4 = .ok (.iload_n 3, 1) := by decide +kernel
theorem dX10_put_5 : decode cX10_put 5 = .ok (.iconst 1, 1) := by decide +kernel
theorem dX10_put_6 : decode cX10_put 6 = .ok (.bipush 8, 2) := by decide +kernel
theorem dX10_put_8 : decode cX10_put 8 = .ok (.invokestatic 145, 3) := by decide +kernel
theorem dX10_put_11 : decode cX10_put 11 = .ok (.goto 9, 3) := by decide +kernel
theorem dX10_put_14 : decode cX10_put 14 = .ok (.iload_n 3, 1) := by decide +kernel
theorem dX10_put_15 : decode cX10_put 15 = .ok (.iconst (-1), 1) := by decide +kernel
theorem dX10_put_16 : decode cX10_put 16 = .ok (.iconst 2, 1) := by decide +kernel
theorem dX10_put_17 : decode cX10_put 17 = .ok (.invokestatic 145, 3) := by decide +kernel
theorem dX10_put_20 : decode cX10_put 20 = .ok (.istore 4, 2) := by decide +kernel
theorem dX10_put_22 : decode cX10_put 22 = .ok (.iload_n 1, 1) := by decide +kernel
theorem dX10_put_23 : decode cX10_put 23 = .ok (.invokestatic 371, 3) := by decide +kernel
theorem dX10_put_26 : decode cX10_put 26 = .ok (.ifCond .ne 7, 3) := by decide +kernel
theorem dX10_put_29 : decode cX10_put 29 = .ok (.iconst (-1), 1) := by decide +kernel
theorem dX10_put_30 : decode cX10_put 30 = .ok (.goto 28, 3) := by decide +kernel
theorem dX10_put_33 : decode cX10_put 33 = .ok (.iload_n 2, 1) := by decide +kernel
theorem dX10_put_34 : decode cX10_put 34 = .ok (.iconst 0, 1) := by decide +kernel
theorem dX10_put_35 : decode cX10_put 35 = .ok (.iconst 1, 1) := by decide +kernel
theorem dX10_put_36 : decode cX10_put 36 = .ok (.invokestatic 145, 3) := by decide +kernel
theorem dX10_put_39 : decode cX10_put 39 = .ok (.ifCond .ne 8, 3) := by decide +kernel
theorem dX10_put_42 : decode cX10_put 42 = .ok (.bipush (-5), 2) := by decide +kernel
theorem dX10_put_44 : decode cX10_put 44 = .ok (.goto 14, 3) := by decide +kernel
theorem dX10_put_47 : decode cX10_put 47 = .ok (.iload 4, 2) := by decide +kernel
theorem dX10_put_49 : decode cX10_put 49 = .ok (.ifCond .ne 8, 3) := by decide +kernel
theorem dX10_put_52 : decode cX10_put 52 = .ok (.bipush (-6), 2) := by decide +kernel
theorem dX10_put_54 : decode cX10_put 54 = .ok (.goto 4, 3) := by decide +kernel
theorem dX10_put_57 : decode cX10_put 57 = .ok (.iconst 0, 1) := by decide +kernel
theorem dX10_put_58 : decode cX10_put 58 = .ok (.istore 5, 2) := by decide +kernel
theorem dX10_put_60 : decode cX10_put 60 = .ok (.iload 5, 2) := by decide +kernel
theorem dX10_put_62 : decode cX10_put 62 = .ok (.ifCond .eq 13, 3) := by decide +kernel
theorem dX10_put_65 : decode cX10_put 65 = .ok (.aload_n 0, 1) := by decide +kernel
theorem dX10_put_66 : decode cX10_put 66 = .ok (.iload 5, 2) := by decide +kernel
theorem dX10_put_68 : decode cX10_put 68 = .ok (.invokevirtual 274, 3) := by decide +kernel
theorem dX10_put_71 : decode cX10_put 71 = .ok (.bipush 10, 2) := by decide +kernel
theorem dX10_put_73 : decode cX10_put 73 = .ok (.isub, 1) := by decide +kernel
theorem dX10_put_74 : decode cX10_put 74 = .ok (.ireturn, 1) := by decide +kernel
theorem dX10_put_75 : decode cX10_put 75 = .ok (.iload_n 2, 1) := by decide +kernel
theorem dX10_put_76 : decode cX10_put 76 = .ok (.ifCond .ne 12, 3) := by decide +kernel
theorem dX10_put_79 : decode cX10_put 79 = .ok (.aload_n 0, 1) := by decide +kernel
theorem dX10_put_80 : decode cX10_put 80 = .ok (.getfield 19, 3) := by decide +kernel
theorem dX10_put_83 : decode cX10_put 83 = .ok (.iload_n 1, 1) := by decide +kernel
theorem dX10_put_84 : decode cX10_put 84 = .ok (.iaload, 1) := by decide +kernel
theorem dX10_put_85 : decode cX10_put 85 = .ok (.goto 9, 3) := by decide +kernel
theorem dX10_put_88 : decode cX10_put 88 = .ok (.aload_n 0, 1) := by decide +kernel
theorem dX10_put_89 : decode cX10_put 89 = .ok (.getfield 22, 3) := by decide +kernel
theorem dX10_put_92 : decode cX10_put 92 = .ok (.iload_n 1, 1) := by decide +kernel
theorem dX10_put_93 : decode cX10_put 93 = .ok (.iaload, 1) := by decide +kernel
theorem dX10_put_94 : decode cX10_put 94 = .ok (.istore 6, 2) := by decide +kernel
theorem dX10_put_96 : decode cX10_put 96 = .ok (.iload_n 2, 1) := by decide +kernel
theorem dX10_put_97 : decode cX10_put 97 = .ok (.ifCond .ne 13, 3) := by decide +kernel
theorem dX10_put_100 : decode cX10_put 100 = .ok (.aload_n 0, 1) := by decide +kernel
theorem dX10_put_101 : decode cX10_put 101 = .ok (.getfield 19, 3) := by decide +kernel
theorem dX10_put_104 : decode cX10_put 104 = .ok (.iload_n 1, 1) := by decide +kernel
theorem dX10_put_105 : decode cX10_put 105 = .ok (.iload_n 3, 1) := by decide +kernel
theorem dX10_put_106 : decode cX10_put 106 = .ok (.iastore, 1) := by decide +kernel
theorem dX10_put_107 : decode cX10_put 107 = .ok (.goto 10, 3) := by decide +kernel
theorem dX10_put_110 : decode cX10_put 110 = .ok (.aload_n 0, 1) := by decide +kernel
theorem dX10_put_111 : decode cX10_put 111 = .ok (.getfield 22, 3) := by decide +kernel
theorem dX10_put_114 : decode cX10_put 114 = .ok (.iload_n 1, 1) := by decide +kernel
theorem dX10_put_115 : decode cX10_put 115 = .ok (.iload_n 3, 1) := by decide +kernel
theorem dX10_put_116 : decode cX10_put 116 = .ok (.iastore, 1) := by decide +kernel
theorem dX10_put_117 : decode cX10_put 117 = .ok (.iload 6, 2) := by decide +kernel
theorem dX10_put_119 : decode cX10_put 119 = .ok (.ireturn, 1) := by decide +kernel
theorem dX10_tableOf_0 : decode cX10_tableOf 0 = .ok (.iload_n 1, 1) := by decide +kernel
theorem dX10_tableOf_1 : decode cX10_tableOf 1 = .ok (.invokestatic 371, 3) := by decide +kernel
theorem dX10_tableOf_4 : decode cX10_tableOf 4 = .ok (.ifCond .ne 7, 3) := by decide +kernel
theorem dX10_tableOf_7 : decode cX10_tableOf 7 = .ok (.iconst (-1), 1) := by decide +kernel
theorem dX10_tableOf_8 : decode cX10_tableOf 8 = .ok (.goto 18, 3) := by decide +kernel
theorem dX10_tableOf_11 : decode cX10_tableOf 11 = .ok (.iload_n 2, 1) := by decide +kernel
theorem dX10_tableOf_12 : decode cX10_tableOf 12 = .ok (.iconst 0, 1) := by decide +kernel
theorem dX10_tableOf_13 : decode cX10_tableOf 13 = .ok (.iconst 2, 1) := by decide +kernel
theorem dX10_tableOf_14 : decode cX10_tableOf 14 = .ok (.invokestatic 145, 3) := by decide +kernel
theorem dX10_tableOf_17 : decode cX10_tableOf 17 = .ok (.ifCond .ne 8, 3) := by decide +kernel
theorem dX10_tableOf_20 : decode cX10_tableOf 20 = .ok (.bipush (-5), 2) := by decide +kernel
theorem dX10_tableOf_22 : decode cX10_tableOf 22 = .ok (.goto 4, 3) := by decide +kernel
theorem dX10_tableOf_25 : decode cX10_tableOf 25 = .ok (.iconst 0, 1) := by decide +kernel
theorem dX10_tableOf_26 : decode cX10_tableOf 26 = .ok (.istore_n 3, 1) := by decide +kernel
theorem dX10_tableOf_27 : decode cX10_tableOf 27 = .ok (.iload_n 3, 1) := by decide +kernel
theorem dX10_tableOf_28 : decode cX10_tableOf 28 = .ok (.ifCond .eq 9, 3) := by decide +kernel
theorem dX10_tableOf_31 : decode cX10_tableOf 31 = .ok (.aload_n 0, 1) := by decide +kernel
theorem dX10_tableOf_32 : decode cX10_tableOf 32 = .ok (.iload_n 3, 1) := by decide +kernel
theorem dX10_tableOf_33 : decode cX10_tableOf 33 = .ok (.invokevirtual 274, 3) := by decide +kernel
theorem dX10_tableOf_36 : decode cX10_tableOf 36 = .ok (.ireturn, 1) := by decide +kernel
theorem dX10_tableOf_37 : decode cX10_tableOf 37 = .ok (.iload_n 2, 1) := by decide +kernel
theorem dX10_tableOf_38 : decode cX10_tableOf 38 = .ok (.ifCond .ne 12, 3) := by decide +kernel
theorem dX10_tableOf_41 : decode cX10_tableOf 41 = .ok (.aload_n 0, 1) := by decide +kernel
theorem dX10_tableOf_42 : decode cX10_tableOf 42 = .ok (.getfield 13, 3) := by decide +kernel
theorem dX10_tableOf_45 : decode cX10_tableOf 45 = .ok (.iload_n 1, 1) := by decide +kernel
theorem dX10_tableOf_46 : decode cX10_tableOf 46 = .ok (.iaload, 1) := by decide +kernel
theorem dX10_tableOf_47 : decode cX10_tableOf 47 = .ok (.goto 25, 3) := by decide +kernel
theorem dX10_tableOf_50 : decode cX10_tableOf 50 = .ok (.iload_n 2, 1) := by decide +kernel
theorem dX10_tableOf_51 : decode cX10_tableOf 51 = .ok (.iconst 1, 1) := by decide +kernel
theorem dX10_tableOf_52 : decode cX10_tableOf 52 = .ok (.if_icmp .ne 12, 3) := by decide +kernel
theorem dX10_tableOf_55 : decode cX10_tableOf 55 = .ok (.aload_n 0, 1) := by decide +kernel
theorem dX10_tableOf_56 : decode cX10_tableOf 56 = .ok (.getfield 19, 3) := by decide +kernel
theorem dX10_tableOf_59 : decode cX10_tableOf 59 = .ok (.iload_n 1, 1) := by decide +kernel
theorem dX10_tableOf_60 : decode cX10_tableOf 60 = .ok (.iaload, 1) := by decide +kernel
theorem dX10_tableOf_61 : decode cX10_tableOf 61 = .ok (.goto 11, 3) := by decide +kernel
theorem dX10_tableOf_64 : decode cX10_tableOf 64 = .ok (.aload_n 0, 1) := by decide +kernel
theorem dX10_tableOf_65 : decode cX10_tableOf 65 = .ok (.getfield 22, 3) := by decide +kernel
theorem dX10_tableOf_68 : decode cX10_tableOf 68 = .ok (.iload_n 1, 1) := by decide +kernel
theorem dX10_tableOf_69 : decode cX10_tableOf 69 = .ok (.iaload, 1) := by decide +kernel
theorem dX10_tableOf_70 : decode cX10_tableOf 70 = .ok (.iconst 1, 1) := by decide +kernel
theorem dX10_tableOf_71 : decode cX10_tableOf 71 = .ok (.iadd, 1) := by decide +kernel
theorem dX10_tableOf_72 : decode cX10_tableOf 72 = .ok (.ireturn, 1) := by decide +kernel
theorem dX10_lineOf_0 : decode cX10_lineOf 0 = .ok (.iload_n 1, 1) := by decide +kernel
theorem dX10_lineOf_1 : decode cX10_lineOf 1 = .ok (.invokestatic 371, 3) := by decide +kernel
theorem dX10_lineOf_4 : decode cX10_lineOf 4 = .ok (.ifCond .ne 7, 3) := by decide +kernel
theorem dX10_lineOf_7 : decode cX10_lineOf 7 = .ok (.iconst (-1), 1) := by decide +kernel
theorem dX10_lineOf_8 : decode cX10_lineOf 8 = .ok (.goto 34, 3) := by decide +kernel
theorem dX10_lineOf_11 : decode cX10_lineOf 11 = .ok (.iload_n 2, 1) := by decide +kernel
theorem dX10_lineOf_12 : decode cX10_lineOf 12 = .ok (.iconst 0, 1) := by decide +kernel
theorem dX10_lineOf_13 : decode cX10_lineOf 13 = .ok (.aload_n 0, 1) := by decide +kernel
theorem dX10_lineOf_14 : decode cX10_lineOf 14 = .ok (.getfield 13, 3) := by decide +kernel
theorem dX10_lineOf_17 : decode cX10_lineOf 17 = .ok (.iload_n 1, 1) := by decide +kernel
theorem dX10_lineOf_18 : decode cX10_lineOf 18 = .ok (.iaload, 1) := by decide +kernel
theorem dX10_lineOf_19 : decode cX10_lineOf 19 = .ok (.iconst 1, 1) := by decide +kernel
theorem dX10_lineOf_20 : decode cX10_lineOf 20 = .ok (.isub, 1) := by decide +kernel
theorem dX10_lineOf_21 : decode cX10_lineOf 21 = .ok (.invokestatic 145, 3) := by decide +kernel
theorem dX10_lineOf_24 : decode cX10_lineOf 24 = .ok (.ifCond .eq 12, 3) := by decide +kernel
theorem dX10_lineOf_27 : decode cX10_lineOf 27 = .ok (.iload_n 3, 1) := by decide +kernel
theorem dX10_lineOf_28 : decode cX10_lineOf 28 = .ok (.iconst 0, 1) := by decide +kernel
theorem dX10_lineOf_29 : decode cX10_lineOf 29 = .ok (.iconst 2, 1) := by decide +kernel
theorem dX10_lineOf_30 : decode cX10_lineOf 30 = .ok (.invokestatic 145, 3) := by decide +kernel
theorem dX10_lineOf_33 : decode cX10_lineOf 33 = .ok (.ifCond .ne 8, 3) := by decide +kernel
theorem dX10_lineOf_36 : decode cX10_lineOf 36 = .ok (.bipush (-5), 2) := by decide +kernel
theorem dX10_lineOf_38 : decode cX10_lineOf 38 = .ok (.goto 4, 3) := by decide +kernel
theorem dX10_lineOf_41 : decode cX10_lineOf 41 = .ok (.iconst 0, 1) := by decide +kernel
theorem dX10_lineOf_42 : decode cX10_lineOf 42 = .ok (.istore 4, 2) := by decide +kernel
theorem dX10_lineOf_44 : decode cX10_lineOf 44 = .ok (.iload 4, 2) := by decide +kernel
theorem dX10_lineOf_46 : decode cX10_lineOf 46 = .ok (.ifCond .eq 12, 3) := by decide +kernel
theorem dX10_lineOf_49 : decode cX10_lineOf 49 = .ok (.aload_n 0, 1) := by decide +kernel
theorem dX10_lineOf_50 : decode cX10_lineOf 50 = .ok (.iload 4, 2) := by decide +kernel
theorem dX10_lineOf_52 : decode cX10_lineOf 52 = .ok (.invokevirtual 274, 3) := by decide +kernel
theorem dX10_lineOf_55 : decode cX10_lineOf 55 = .ok (.goto 13, 3) := by decide +kernel
theorem dX10_lineOf_58 : decode cX10_lineOf 58 = .ok (.aload_n 0, 1) := by decide +kernel
theorem dX10_lineOf_59 : decode cX10_lineOf 59 = .ok (.iconst 3, 1) := by decide +kernel
theorem dX10_lineOf_60 : decode cX10_lineOf 60 = .ok (.iload_n 1, 1) := by decide +kernel
theorem dX10_lineOf_61 : decode cX10_lineOf 61 = .ok (.imul, 1) := by decide +kernel
theorem dX10_lineOf_62 : decode cX10_lineOf 62 = .ok (.iload_n 3, 1) := by decide +kernel
theorem dX10_lineOf_63 : decode cX10_lineOf 63 = .ok (.iadd, 1) := by decide +kernel
theorem dX10_lineOf_64 : decode cX10_lineOf 64 = .ok (.iload_n 2, 1) := by decide +kernel
theorem dX10_lineOf_65 : decode cX10_lineOf 65 = .ok (.invokevirtual 149, 3) := by decide +kernel
theorem dX10_lineOf_68 : decode cX10_lineOf 68 = .ok (.ireturn, 1) := by decide +kernel
theorem dX10_bucket_0 : decode cX10_bucket 0 = .ok (.iload_n 1, 1) := by decide +kernel
theorem dX10_bucket_1 : decode cX10_bucket 1 = .ok (.invokestatic 312, 3) := by decide +kernel
theorem dX10_bucket_4 : decode cX10_bucket 4 = .ok (.ifCond .ne 9, 3) := by decide +kernel
theorem dX10_bucket_7 : decode cX10_bucket 7 = .ok (.aload_n 0, 1) := by decide +kernel
theorem dX10_bucket_8 : decode cX10_bucket 8 = .ok (.iconst (-1), 1) := by decide +kernel
theorem dX10_bucket_9 : decode cX10_bucket 9 = .ok (.invokevirtual 274, 3) := by decide +kernel
theorem dX10_bucket_12 : decode cX10_bucket 12 = .ok (.ireturn, 1) := by decide +kernel
theorem dX10_bucket_13 : decode cX10_bucket 13 = .ok (.aload_n 0, 1) := by decide +kernel
theorem dX10_bucket_14 : decode cX10_bucket 14 = .ok (.iload_n 1, 1) := by decide +kernel
theorem dX10_bucket_15 : decode cX10_bucket 15 = .ok (.invokevirtual 163, 3) := by decide +kernel
theorem dX10_bucket_18 : decode cX10_bucket 18 = .ok (.iload_n 2, 1) := by decide +kernel
theorem dX10_bucket_19 : decode cX10_bucket 19 = .ok (.iconst 0, 1) := by decide +kernel
theorem dX10_bucket_20 : decode cX10_bucket 20 = .ok (.aload_n 0, 1) := by decide +kernel
theorem dX10_bucket_21 : decode cX10_bucket 21 = .ok (.getfield 157, 3) := by decide +kernel
theorem dX10_bucket_24 : decode cX10_bucket 24 = .ok (.iconst 1, 1) := by decide +kernel
theorem dX10_bucket_25 : decode cX10_bucket 25 = .ok (.isub, 1) := by decide +kernel
theorem dX10_bucket_26 : decode cX10_bucket 26 = .ok (.invokestatic 145, 3) := by decide +kernel
theorem dX10_bucket_29 : decode cX10_bucket 29 = .ok (.ifCond .ne 10, 3) := by decide +kernel
theorem dX10_bucket_32 : decode cX10_bucket 32 = .ok (.aload_n 0, 1) := by decide +kernel
theorem dX10_bucket_33 : decode cX10_bucket 33 = .ok (.bipush (-5), 2) := by decide +kernel
theorem dX10_bucket_35 : decode cX10_bucket 35 = .ok (.invokevirtual 274, 3) := by decide +kernel
theorem dX10_bucket_38 : decode cX10_bucket 38 = .ok (.ireturn, 1) := by decide +kernel
theorem dX10_bucket_39 : decode cX10_bucket 39 = .ok (.iload_n 3, 1) := by decide +kernel
theorem dX10_bucket_40 : decode cX10_bucket 40 = .ok (.tableswitch 60 0 3 #[32, 39, 46, 53], 32) := by decide +kernel
theorem dX10_bucket_72 : decode cX10_bucket 72 = .ok (.aload_n 0, 1) := by decide +kernel
theorem dX10_bucket_73 : decode cX10_bucket 73 = .ok (.getfield 43, 3) := by decide +kernel
theorem dX10_bucket_76 : decode cX10_bucket 76 = .ok (.iload_n 2, 1) := by decide +kernel
theorem dX10_bucket_77 : decode cX10_bucket 77 = .ok (.iaload, 1) := by decide +kernel
theorem dX10_bucket_78 : decode cX10_bucket 78 = .ok (.ireturn, 1) := by decide +kernel
theorem dX10_bucket_79 : decode cX10_bucket 79 = .ok (.aload_n 0, 1) := by decide +kernel
theorem dX10_bucket_80 : decode cX10_bucket 80 = .ok (.getfield 46, 3) := by decide +kernel
theorem dX10_bucket_83 : decode cX10_bucket 83 = .ok (.iload_n 2, 1) := by decide +kernel
theorem dX10_bucket_84 : decode cX10_bucket 84 = .ok (.iaload, 1) := by decide +kernel
theorem dX10_bucket_85 : decode cX10_bucket 85 = .ok (.ireturn, 1) := by decide +kernel
theorem dX10_bucket_86 : decode cX10_bucket 86 = .ok (.aload_n 0, 1) := by decide +kernel
theorem dX10_bucket_87 : decode cX10_bucket 87 = .ok (.getfield 49, 3) := by decide +kernel
theorem dX10_bucket_90 : decode cX10_bucket 90 = .ok (.iload_n 2, 1) := by decide +kernel
theorem dX10_bucket_91 : decode cX10_bucket 91 = .ok (.iaload, 1) := by decide +kernel
theorem dX10_bucket_92 : decode cX10_bucket 92 = .ok (.ireturn, 1) := by decide +kernel
theorem dX10_bucket_93 : decode cX10_bucket 93 = .ok (.aload_n 0, 1) := by decide +kernel
theorem dX10_bucket_94 : decode cX10_bucket 94 = .ok (.getfield 52, 3) := by decide +kernel
theorem dX10_bucket_97 : decode cX10_bucket 97 = .ok (.iload_n 2, 1) := by decide +kernel
theorem dX10_bucket_98 : decode cX10_bucket 98 = .ok (.iaload, 1) := by decide +kernel
theorem dX10_bucket_99 : decode cX10_bucket 99 = .ok (.ireturn, 1) := by decide +kernel
theorem dX10_bucket_100 : decode cX10_bucket 100 = .ok (.aload_n 0, 1) := by decide +kernel
theorem dX10_bucket_101 : decode cX10_bucket 101 = .ok (.bipush (-5), 2) := by decide +kernel
theorem dX10_bucket_103 : decode cX10_bucket 103 = .ok (.invokevirtual 274, 3) := by decide +kernel
theorem dX10_bucket_106 : decode cX10_bucket 106 = .ok (.ireturn, 1) := by decide +kernel
theorem dX10_different_0 : decode cX10_different 0 = .ok (.iload_n 1, 1) := by decide +kernel
theorem dX10_different_1 : decode cX10_different 1 = .ok (.invokestatic 312, 3) := by decide +kernel
theorem dX10_different_4 : decode cX10_different 4 = .ok (.ifCond .eq 11, 3) := by decide +kernel
theorem dX10_different_7 : decode cX10_different 7 = .ok (.aload_n 0, 1) := by decide +kernel
theorem dX10_different_8 : decode cX10_different 8 = .ok (.iload_n 1, 1) := by decide +kernel
theorem dX10_different_9 : decode cX10_different 9 = .ok (.invokevirtual 181, 3) := by decide +kernel
theorem dX10_different_12 : decode cX10_different 12 = .ok (.goto 8, 3) := by decide +kernel
theorem dX10_different_15 : decode cX10_different 15 = .ok (.aload_n 0, 1) := by decide +kernel
theorem dX10_different_16 : decode cX10_different 16 = .ok (.iconst (-1), 1) := by decide +kernel
theorem dX10_different_17 : decode cX10_different 17 = .ok (.invokevirtual 274, 3) := by decide +kernel
theorem dX10_different_20 : decode cX10_different 20 = .ok (.ireturn, 1) := by decide +kernel
theorem dX10_isAsked_0 : decode cX10_isAsked 0 = .ok (.iload_n 0, 1) := by decide +kernel
theorem dX10_isAsked_1 : decode cX10_isAsked 1 = .ok (.iconst 0, 1) := by decide +kernel
theorem dX10_isAsked_2 : decode cX10_isAsked 2 = .ok (.iconst 2, 1) := by decide +kernel
theorem dX10_isAsked_3 : decode cX10_isAsked 3 = .ok (.invokestatic 145, 3) := by decide +kernel
theorem dX10_isAsked_6 : decode cX10_isAsked 6 = .ok (.ifCond .eq 17, 3) := by decide +kernel
theorem dX10_isAsked_9 : decode cX10_isAsked 9 = .ok (.iload_n 1, 1) := by decide +kernel
theorem dX10_isAsked_10 : decode cX10_isAsked 10 = .ok (.iconst 0, 1) := by decide +kernel
theorem dX10_isAsked_11 : decode cX10_isAsked 11 = .ok (.bipush 99, 2) := by decide +kernel
theorem dX10_isAsked_13 : decode cX10_isAsked 13 = .ok (.invokestatic 145, 3) := by decide +kernel
theorem dX10_isAsked_16 : decode cX10_isAsked 16 = .ok (.ifCond .eq 7, 3) := by decide +kernel
theorem dX10_isAsked_19 : decode cX10_isAsked 19 = .ok (.iconst 1, 1) := by decide +kernel
theorem dX10_isAsked_20 : decode cX10_isAsked 20 = .ok (.goto 4, 3) := by decide +kernel
theorem dX10_isAsked_23 : decode cX10_isAsked 23 = .ok (.iconst 0, 1) := by decide +kernel
theorem dX10_isAsked_24 : decode cX10_isAsked 24 = .ok (.ireturn, 1) := by decide +kernel
theorem dX10_share_0 : decode cX10_share 0 = .ok (.iload_n 1, 1) := by decide +kernel
theorem dX10_share_1 : decode cX10_share 1 = .ok (.invokestatic 312, 3) := by decide +kernel
theorem dX10_share_4 : decode cX10_share 4 = .ok (.ifCond .ne 7, 3) := by decide +kernel
theorem dX10_share_7 : decode cX10_share 7 = .ok (.iconst (-1), 1) := by decide +kernel
theorem dX10_share_8 : decode cX10_share 8 = .ok (.goto 17, 3) := by decide +kernel
theorem dX10_share_11 : decode cX10_share 11 = .ok (.iload_n 2, 1) := by decide +kernel
theorem dX10_share_12 : decode cX10_share 12 = .ok (.iload_n 3, 1) := by decide +kernel
theorem dX10_share_13 : decode cX10_share 13 = .ok (.invokestatic 374, 3) := by decide +kernel
theorem dX10_share_16 : decode cX10_share 16 = .ok (.ifCond .ne 8, 3) := by decide +kernel
theorem dX10_share_19 : decode cX10_share 19 = .ok (.bipush (-6), 2) := by decide +kernel
theorem dX10_share_21 : decode cX10_share 21 = .ok (.goto 4, 3) := by decide +kernel
theorem dX10_share_24 : decode cX10_share 24 = .ok (.iconst 0, 1) := by decide +kernel
theorem dX10_share_25 : decode cX10_share 25 = .ok (.istore 4, 2) := by decide +kernel
theorem dX10_share_27 : decode cX10_share 27 = .ok (.iload 4, 2) := by decide +kernel
theorem dX10_share_29 : decode cX10_share 29 = .ok (.ifCond .eq 15, 3) := by decide +kernel
theorem dX10_share_32 : decode cX10_share 32 = .ok (.aload_n 0, 1) := by decide +kernel
theorem dX10_share_33 : decode cX10_share 33 = .ok (.iload 4, 2) := by decide +kernel
theorem dX10_share_35 : decode cX10_share 35 = .ok (.invokevirtual 274, 3) := by decide +kernel
theorem dX10_share_38 : decode cX10_share 38 = .ok (.bipush 10, 2) := by decide +kernel
theorem dX10_share_40 : decode cX10_share 40 = .ok (.isub, 1) := by decide +kernel
theorem dX10_share_41 : decode cX10_share 41 = .ok (.goto 13, 3) := by decide +kernel
theorem dX10_share_44 : decode cX10_share 44 = .ok (.aload_n 0, 1) := by decide +kernel
theorem dX10_share_45 : decode cX10_share 45 = .ok (.iload_n 1, 1) := by decide +kernel
theorem dX10_share_46 : decode cX10_share 46 = .ok (.iload_n 2, 1) := by decide +kernel
theorem dX10_share_47 : decode cX10_share 47 = .ok (.iload_n 3, 1) := by decide +kernel
theorem dX10_share_48 : decode cX10_share 48 = .ok (.invokevirtual 177, 3) := by decide +kernel
theorem dX10_share_51 : decode cX10_share 51 = .ok (.invokestatic 258, 3) := by decide +kernel
theorem dX10_share_54 : decode cX10_share 54 = .ok (.ireturn, 1) := by decide +kernel
theorem dX10_filter_0 : decode cX10_filter 0 = .ok (.iload_n 1, 1) := by decide +kernel
theorem dX10_filter_1 : decode cX10_filter 1 = .ok (.invokestatic 312, 3) := by decide +kernel
theorem dX10_filter_4 : decode cX10_filter 4 = .ok (.ifCond .ne 7, 3) := by decide +kernel
theorem dX10_filter_7 : decode cX10_filter 7 = .ok (.iconst (-1), 1) := by decide +kernel
theorem dX10_filter_8 : decode cX10_filter 8 = .ok (.goto 31, 3) := by decide +kernel
theorem dX10_filter_11 : decode cX10_filter 11 = .ok (.iload_n 2, 1) := by decide +kernel
theorem dX10_filter_12 : decode cX10_filter 12 = .ok (.iload_n 3, 1) := by decide +kernel
theorem dX10_filter_13 : decode cX10_filter 13 = .ok (.invokestatic 374, 3) := by decide +kernel
theorem dX10_filter_16 : decode cX10_filter 16 = .ok (.ifCond .ne 8, 3) := by decide +kernel
theorem dX10_filter_19 : decode cX10_filter 19 = .ok (.bipush (-6), 2) := by decide +kernel
theorem dX10_filter_21 : decode cX10_filter 21 = .ok (.goto 18, 3) := by decide +kernel
theorem dX10_filter_24 : decode cX10_filter 24 = .ok (.aload_n 0, 1) := by decide +kernel
theorem dX10_filter_25 : decode cX10_filter 25 = .ok (.getfield 174, 3) := by decide +kernel
theorem dX10_filter_28 : decode cX10_filter 28 = .ok (.bipush 8, 2) := by decide +kernel
theorem dX10_filter_30 : decode cX10_filter 30 = .ok (.if_icmp .ne 8, 3) := by decide +kernel
theorem dX10_filter_33 : decode cX10_filter 33 = .ok (.bipush (-7), 2) := by decide +kernel
theorem dX10_filter_35 : decode cX10_filter 35 = .ok (.goto 4, 3) := by decide +kernel
theorem dX10_filter_38 : decode cX10_filter 38 = .ok (.iconst 0, 1) := by decide +kernel
theorem dX10_filter_39 : decode cX10_filter 39 = .ok (.istore 4, 2) := by decide +kernel
theorem dX10_filter_41 : decode cX10_filter 41 = .ok (.iload 4, 2) := by decide +kernel
theorem dX10_filter_43 : decode cX10_filter 43 = .ok (.ifCond .eq 10, 3) := by decide +kernel
theorem dX10_filter_46 : decode cX10_filter 46 = .ok (.aload_n 0, 1) := by decide +kernel
theorem dX10_filter_47 : decode cX10_filter 47 = .ok (.iload 4, 2) := by decide +kernel
theorem dX10_filter_49 : decode cX10_filter 49 = .ok (.invokevirtual 274, 3) := by decide +kernel
theorem dX10_filter_52 : decode cX10_filter 52 = .ok (.ireturn, 1) := by decide +kernel
theorem dX10_filter_53 : decode cX10_filter 53 = .ok (.aload_n 0, 1) := by decide +kernel
theorem dX10_filter_54 : decode cX10_filter 54 = .ok (.getfield 25, 3) := by decide +kernel
theorem dX10_filter_57 : decode cX10_filter 57 = .ok (.aload_n 0, 1) := by decide +kernel
theorem dX10_filter_58 : decode cX10_filter 58 = .ok (.getfield 174, 3) := by decide +kernel
theorem dX10_filter_61 : decode cX10_filter 61 = .ok (.iload_n 1, 1) := by decide +kernel
theorem dX10_filter_62 : decode cX10_filter 62 = .ok (.iastore, 1) := by decide +kernel
theorem dX10_filter_63 : decode cX10_filter 63 = .ok (.aload_n 0, 1) := by decide +kernel
theorem dX10_filter_64 : decode cX10_filter 64 = .ok (.getfield 28, 3) := by decide +kernel
theorem dX10_filter_67 : decode cX10_filter 67 = .ok (.aload_n 0, 1) := by decide +kernel
theorem dX10_filter_68 : decode cX10_filter 68 = .ok (.getfield 174, 3) := by decide +kernel
theorem dX10_filter_71 : decode cX10_filter 71 = .ok (.iload_n 2, 1) := by decide +kernel
theorem dX10_filter_72 : decode cX10_filter 72 = .ok (.iastore, 1) := by decide +kernel
theorem dX10_filter_73 : decode cX10_filter 73 = .ok (.aload_n 0, 1) := by decide +kernel
theorem dX10_filter_74 : decode cX10_filter 74 = .ok (.getfield 31, 3) := by decide +kernel
theorem dX10_filter_77 : decode cX10_filter 77 = .ok (.aload_n 0, 1) := by decide +kernel
theorem dX10_filter_78 : decode cX10_filter 78 = .ok (.getfield 174, 3) := by decide +kernel
theorem dX10_filter_81 : decode cX10_filter 81 = .ok (.iload_n 3, 1) := by decide +kernel
theorem dX10_filter_82 : decode cX10_filter 82 = .ok (.iastore, 1) := by decide +kernel
theorem dX10_filter_83 : decode cX10_filter 83 = .ok (.aload_n 0, 1) := by decide +kernel
theorem dX10_filter_84 : decode cX10_filter 84 = .ok (.dup, 1) := by decide +kernel
theorem dX10_filter_85 : decode cX10_filter 85 = .ok (.getfield 174, 3) := by decide +kernel
theorem dX10_filter_88 : decode cX10_filter 88 = .ok (.iconst 1, 1) := by decide +kernel
theorem dX10_filter_89 : decode cX10_filter 89 = .ok (.iadd, 1) := by decide +kernel
theorem dX10_filter_90 : decode cX10_filter 90 = .ok (.putfield 174, 3) := by decide +kernel
theorem dX10_filter_93 : decode cX10_filter 93 = .ok (.aload_n 0, 1) := by decide +kernel
theorem dX10_filter_94 : decode cX10_filter 94 = .ok (.getfield 174, 3) := by decide +kernel
theorem dX10_filter_97 : decode cX10_filter 97 = .ok (.iconst 1, 1) := by decide +kernel
theorem dX10_filter_98 : decode cX10_filter 98 = .ok (.isub, 1) := by decide +kernel
theorem dX10_filter_99 : decode cX10_filter 99 = .ok (.ireturn, 1) := by decide +kernel
theorem dX10_join_0 : decode cX10_join 0 = .ok (.iload_n 1, 1) := by decide +kernel
theorem dX10_join_1 : decode cX10_join 1 = .ok (.invokestatic 312, 3) := by decide +kernel
theorem dX10_join_4 : decode cX10_join 4 = .ok (.ifCond .eq 10, 3) := by decide +kernel
theorem dX10_join_7 : decode cX10_join 7 = .ok (.iload_n 2, 1) := by decide +kernel
theorem dX10_join_8 : decode cX10_join 8 = .ok (.invokestatic 312, 3) := by decide +kernel
theorem dX10_join_11 : decode cX10_join 11 = .ok (.ifCond .ne 7, 3) := by decide +kernel
theorem dX10_join_14 : decode cX10_join 14 = .ok (.iconst (-1), 1) := by decide +kernel
theorem dX10_join_15 : decode cX10_join 15 = .ok (.goto 32, 3) := by decide +kernel
theorem dX10_join_18 : decode cX10_join 18 = .ok (.iload_n 1, 1) := by decide +kernel
theorem dX10_join_19 : decode cX10_join 19 = .ok (.iconst 3, 1) := by decide +kernel
theorem dX10_join_20 : decode cX10_join 20 = .ok (.idiv, 1) := by decide +kernel
theorem dX10_join_21 : decode cX10_join 21 = .ok (.iload_n 2, 1) := by decide +kernel
theorem dX10_join_22 : decode cX10_join 22 = .ok (.iconst 3, 1) := by decide +kernel
theorem dX10_join_23 : decode cX10_join 23 = .ok (.idiv, 1) := by decide +kernel
theorem dX10_join_24 : decode cX10_join 24 = .ok (.if_icmp .ne 8, 3) := by decide +kernel
theorem dX10_join_27 : decode cX10_join 27 = .ok (.bipush (-6), 2) := by decide +kernel
theorem dX10_join_29 : decode cX10_join 29 = .ok (.goto 18, 3) := by decide +kernel
theorem dX10_join_32 : decode cX10_join 32 = .ok (.aload_n 0, 1) := by decide +kernel
theorem dX10_join_33 : decode cX10_join 33 = .ok (.getfield 192, 3) := by decide +kernel
theorem dX10_join_36 : decode cX10_join 36 = .ok (.bipush 8, 2) := by decide +kernel
theorem dX10_join_38 : decode cX10_join 38 = .ok (.if_icmp .ne 8, 3) := by decide +kernel
theorem dX10_join_41 : decode cX10_join 41 = .ok (.bipush (-7), 2) := by decide +kernel
theorem dX10_join_43 : decode cX10_join 43 = .ok (.goto 4, 3) := by decide +kernel
theorem dX10_join_46 : decode cX10_join 46 = .ok (.iconst 0, 1) := by decide +kernel
theorem dX10_join_47 : decode cX10_join 47 = .ok (.istore_n 3, 1) := by decide +kernel
theorem dX10_join_48 : decode cX10_join 48 = .ok (.iload_n 3, 1) := by decide +kernel
theorem dX10_join_49 : decode cX10_join 49 = .ok (.ifCond .eq 9, 3) := by decide +kernel
theorem dX10_join_52 : decode cX10_join 52 = .ok (.aload_n 0, 1) := by decide +kernel
theorem dX10_join_53 : decode cX10_join 53 = .ok (.iload_n 3, 1) := by decide +kernel
theorem dX10_join_54 : decode cX10_join 54 = .ok (.invokevirtual 274, 3) := by decide +kernel
theorem dX10_join_57 : decode cX10_join 57 = .ok (.ireturn, 1) := by decide +kernel
theorem dX10_join_58 : decode cX10_join 58 = .ok (.aload_n 0, 1) := by decide +kernel
theorem dX10_join_59 : decode cX10_join 59 = .ok (.getfield 34, 3) := by decide +kernel
theorem dX10_join_62 : decode cX10_join 62 = .ok (.aload_n 0, 1) := by decide +kernel
theorem dX10_join_63 : decode cX10_join 63 = .ok (.getfield 192, 3) := by decide +kernel
theorem dX10_join_66 : decode cX10_join 66 = .ok (.iload_n 1, 1) := by decide +kernel
theorem dX10_join_67 : decode cX10_join 67 = .ok (.iload_n 2, 1) := by decide +kernel
theorem dX10_join_68 : decode cX10_join 68 = .ok (.if_icmp .ge 7, 3) := by decide +kernel
theorem dX10_join_71 : decode cX10_join 71 = .ok (.iload_n 1, 1) := by decide +kernel
theorem dX10_join_72 : decode cX10_join 72 = .ok (.goto 4, 3) := by decide +kernel
theorem dX10_join_75 : decode cX10_join 75 = .ok (.iload_n 2, 1) := by decide +kernel
theorem dX10_join_76 : decode cX10_join 76 = .ok (.iastore, 1) := by decide +kernel
theorem dX10_join_77 : decode cX10_join 77 = .ok (.aload_n 0, 1) := by decide +kernel
theorem dX10_join_78 : decode cX10_join 78 = .ok (.getfield 37, 3) := by decide +kernel
theorem dX10_join_81 : decode cX10_join 81 = .ok (.aload_n 0, 1) := by decide +kernel
theorem dX10_join_82 : decode cX10_join 82 = .ok (.getfield 192, 3) := by decide +kernel
theorem dX10_join_85 : decode cX10_join 85 = .ok (.iload_n 1, 1) := by decide +kernel
theorem dX10_join_86 : decode cX10_join 86 = .ok (.iload_n 2, 1) := by decide +kernel
theorem dX10_join_87 : decode cX10_join 87 = .ok (.if_icmp .ge 7, 3) := by decide +kernel
theorem dX10_join_90 : decode cX10_join 90 = .ok (.iload_n 2, 1) := by decide +kernel
theorem dX10_join_91 : decode cX10_join 91 = .ok (.goto 4, 3) := by decide +kernel
theorem dX10_join_94 : decode cX10_join 94 = .ok (.iload_n 1, 1) := by decide +kernel
theorem dX10_join_95 : decode cX10_join 95 = .ok (.iastore, 1) := by decide +kernel
theorem dX10_join_96 : decode cX10_join 96 = .ok (.aload_n 0, 1) := by decide +kernel
theorem dX10_join_97 : decode cX10_join 97 = .ok (.dup, 1) := by decide +kernel
theorem dX10_join_98 : decode cX10_join 98 = .ok (.getfield 192, 3) := by decide +kernel
theorem dX10_join_101 : decode cX10_join 101 = .ok (.iconst 1, 1) := by decide +kernel
theorem dX10_join_102 : decode cX10_join 102 = .ok (.iadd, 1) := by decide +kernel
theorem dX10_join_103 : decode cX10_join 103 = .ok (.putfield 192, 3) := by decide +kernel
theorem dX10_join_106 : decode cX10_join 106 = .ok (.aload_n 0, 1) := by decide +kernel
theorem dX10_join_107 : decode cX10_join 107 = .ok (.getfield 192, 3) := by decide +kernel
theorem dX10_join_110 : decode cX10_join 110 = .ok (.iconst 1, 1) := by decide +kernel
theorem dX10_join_111 : decode cX10_join 111 = .ok (.isub, 1) := by decide +kernel
theorem dX10_join_112 : decode cX10_join 112 = .ok (.ireturn, 1) := by decide +kernel
theorem dX10_clear_0 : decode cX10_clear 0 = .ok (.aload_n 0, 1) := by decide +kernel
theorem dX10_clear_1 : decode cX10_clear 1 = .ok (.getfield 174, 3) := by decide +kernel
theorem dX10_clear_4 : decode cX10_clear 4 = .ok (.aload_n 0, 1) := by decide +kernel
theorem dX10_clear_5 : decode cX10_clear 5 = .ok (.getfield 192, 3) := by decide +kernel
theorem dX10_clear_8 : decode cX10_clear 8 = .ok (.iadd, 1) := by decide +kernel
theorem dX10_clear_9 : decode cX10_clear 9 = .ok (.istore_n 1, 1) := by decide +kernel
theorem dX10_clear_10 : decode cX10_clear 10 = .ok (.aload_n 0, 1) := by decide +kernel
theorem dX10_clear_11 : decode cX10_clear 11 = .ok (.iconst 0, 1) := by decide +kernel
theorem dX10_clear_12 : decode cX10_clear 12 = .ok (.putfield 174, 3) := by decide +kernel
theorem dX10_clear_15 : decode cX10_clear 15 = .ok (.aload_n 0, 1) := by decide +kernel
theorem dX10_clear_16 : decode cX10_clear 16 = .ok (.iconst 0, 1) := by decide +kernel
theorem dX10_clear_17 : decode cX10_clear 17 = .ok (.putfield 192, 3) := by decide +kernel
theorem dX10_clear_20 : decode cX10_clear 20 = .ok (.iload_n 1, 1) := by decide +kernel
theorem dX10_clear_21 : decode cX10_clear 21 = .ok (.ireturn, 1) := by decide +kernel
theorem dX10_filterOf_0 : decode cX10_filterOf 0 = .ok (.iload_n 1, 1) := by decide +kernel
theorem dX10_filterOf_1 : decode cX10_filterOf 1 = .ok (.iconst 0, 1) := by decide +kernel
theorem dX10_filterOf_2 : decode cX10_filterOf 2 = .ok (.aload_n 0, 1) := by decide +kernel
theorem dX10_filterOf_3 : decode cX10_filterOf 3 = .ok (.getfield 174, 3) := by decide +kernel
theorem dX10_filterOf_6 : decode cX10_filterOf 6 = .ok (.iconst 1, 1) := by decide +kernel
theorem dX10_filterOf_7 : decode cX10_filterOf 7 = .ok (.isub, 1) := by decide +kernel
theorem dX10_filterOf_8 : decode cX10_filterOf 8 = .ok (.invokestatic 145, 3) := by decide +kernel
theorem dX10_filterOf_11 : decode cX10_filterOf 11 = .ok (.ifCond .eq 12, 3) := by decide +kernel
theorem dX10_filterOf_14 : decode cX10_filterOf 14 = .ok (.iload_n 2, 1) := by decide +kernel
theorem dX10_filterOf_15 : decode cX10_filterOf 15 = .ok (.iconst 0, 1) := by decide +kernel
theorem dX10_filterOf_16 : decode cX10_filterOf 16 = .ok (.iconst 2, 1) := by decide +kernel
theorem dX10_filterOf_17 : decode cX10_filterOf 17 = .ok (.invokestatic 145, 3) := by decide +kernel
theorem dX10_filterOf_20 : decode cX10_filterOf 20 = .ok (.ifCond .ne 10, 3) := by decide +kernel
theorem dX10_filterOf_23 : decode cX10_filterOf 23 = .ok (.aload_n 0, 1) := by decide +kernel
theorem dX10_filterOf_24 : decode cX10_filterOf 24 = .ok (.bipush (-5), 2) := by decide +kernel
theorem dX10_filterOf_26 : decode cX10_filterOf 26 = .ok (.invokevirtual 274, 3) := by decide +kernel
theorem dX10_filterOf_29 : decode cX10_filterOf 29 = .ok (.ireturn, 1) := by decide +kernel
theorem dX10_filterOf_30 : decode cX10_filterOf 30 = .ok (.iload_n 2, 1) := by decide +kernel
theorem dX10_filterOf_31 : decode cX10_filterOf 31 = .ok (.ifCond .ne 12, 3) := by decide +kernel
theorem dX10_filterOf_34 : decode cX10_filterOf 34 = .ok (.aload_n 0, 1) := by decide +kernel
theorem dX10_filterOf_35 : decode cX10_filterOf 35 = .ok (.getfield 25, 3) := by decide +kernel
theorem dX10_filterOf_38 : decode cX10_filterOf 38 = .ok (.iload_n 1, 1) := by decide +kernel
theorem dX10_filterOf_39 : decode cX10_filterOf 39 = .ok (.iaload, 1) := by decide +kernel
theorem dX10_filterOf_40 : decode cX10_filterOf 40 = .ok (.goto 23, 3) := by decide +kernel
theorem dX10_filterOf_43 : decode cX10_filterOf 43 = .ok (.iload_n 2, 1) := by decide +kernel
theorem dX10_filterOf_44 : decode cX10_filterOf 44 = .ok (.iconst 1, 1) := by decide +kernel
theorem dX10_filterOf_45 : decode cX10_filterOf 45 = .ok (.if_icmp .ne 12, 3) := by decide +kernel
theorem dX10_filterOf_48 : decode cX10_filterOf 48 = .ok (.aload_n 0, 1) := by decide +kernel
theorem dX10_filterOf_49 : decode cX10_filterOf 49 = .ok (.getfield 28, 3) := by decide +kernel
theorem dX10_filterOf_52 : decode cX10_filterOf 52 = .ok (.iload_n 1, 1) := by decide +kernel
theorem dX10_filterOf_53 : decode cX10_filterOf 53 = .ok (.iaload, 1) := by decide +kernel
theorem dX10_filterOf_54 : decode cX10_filterOf 54 = .ok (.goto 9, 3) := by decide +kernel
theorem dX10_filterOf_57 : decode cX10_filterOf 57 = .ok (.aload_n 0, 1) := by decide +kernel
theorem dX10_filterOf_58 : decode cX10_filterOf 58 = .ok (.getfield 31, 3) := by decide +kernel
theorem dX10_filterOf_61 : decode cX10_filterOf 61 = .ok (.iload_n 1, 1) := by decide +kernel
theorem dX10_filterOf_62 : decode cX10_filterOf 62 = .ok (.iaload, 1) := by decide +kernel
theorem dX10_filterOf_63 : decode cX10_filterOf 63 = .ok (.ireturn, 1) := by decide +kernel
theorem dX10_joinOf_0 : decode cX10_joinOf 0 = .ok (.iload_n 1, 1) := by decide +kernel
theorem dX10_joinOf_1 : decode cX10_joinOf 1 = .ok (.iconst 0, 1) := by decide +kernel
theorem dX10_joinOf_2 : decode cX10_joinOf 2 = .ok (.aload_n 0, 1) := by decide +kernel
theorem dX10_joinOf_3 : decode cX10_joinOf 3 = .ok (.getfield 192, 3) := by decide +kernel
theorem dX10_joinOf_6 : decode cX10_joinOf 6 = .ok (.iconst 1, 1) := by decide +kernel
theorem dX10_joinOf_7 : decode cX10_joinOf 7 = .ok (.isub, 1) := by decide +kernel
theorem dX10_joinOf_8 : decode cX10_joinOf 8 = .ok (.invokestatic 145, 3) := by decide +kernel
theorem dX10_joinOf_11 : decode cX10_joinOf 11 = .ok (.ifCond .eq 12, 3) := by decide +kernel
theorem dX10_joinOf_14 : decode cX10_joinOf 14 = .ok (.iload_n 2, 1) := by decide +kernel
theorem dX10_joinOf_15 : decode cX10_joinOf 15 = .ok (.iconst 0, 1) := by decide +kernel
theorem dX10_joinOf_16 : decode cX10_joinOf 16 = .ok (.iconst 1, 1) := by decide +kernel
theorem dX10_joinOf_17 : decode cX10_joinOf 17 = .ok (.invokestatic 145, 3) := by decide +kernel
theorem dX10_joinOf_20 : decode cX10_joinOf 20 = .ok (.ifCond .ne 10, 3) := by decide +kernel
theorem dX10_joinOf_23 : decode cX10_joinOf 23 = .ok (.aload_n 0, 1) := by decide +kernel
theorem dX10_joinOf_24 : decode cX10_joinOf 24 = .ok (.bipush (-5), 2) := by decide +kernel
theorem dX10_joinOf_26 : decode cX10_joinOf 26 = .ok (.invokevirtual 274, 3) := by decide +kernel
theorem dX10_joinOf_29 : decode cX10_joinOf 29 = .ok (.ireturn, 1) := by decide +kernel
theorem dX10_joinOf_30 : decode cX10_joinOf 30 = .ok (.iload_n 2, 1) := by decide +kernel
theorem dX10_joinOf_31 : decode cX10_joinOf 31 = .ok (.ifCond .ne 12, 3) := by decide +kernel
theorem dX10_joinOf_34 : decode cX10_joinOf 34 = .ok (.aload_n 0, 1) := by decide +kernel
theorem dX10_joinOf_35 : decode cX10_joinOf 35 = .ok (.getfield 34, 3) := by decide +kernel
theorem dX10_joinOf_38 : decode cX10_joinOf 38 = .ok (.iload_n 1, 1) := by decide +kernel
theorem dX10_joinOf_39 : decode cX10_joinOf 39 = .ok (.iaload, 1) := by decide +kernel
theorem dX10_joinOf_40 : decode cX10_joinOf 40 = .ok (.goto 9, 3) := by decide +kernel
theorem dX10_joinOf_43 : decode cX10_joinOf 43 = .ok (.aload_n 0, 1) := by decide +kernel
theorem dX10_joinOf_44 : decode cX10_joinOf 44 = .ok (.getfield 37, 3) := by decide +kernel
theorem dX10_joinOf_47 : decode cX10_joinOf 47 = .ok (.iload_n 1, 1) := by decide +kernel
theorem dX10_joinOf_48 : decode cX10_joinOf 48 = .ok (.iaload, 1) := by decide +kernel
theorem dX10_joinOf_49 : decode cX10_joinOf 49 = .ok (.ireturn, 1) := by decide +kernel
theorem dX10_joinShare_0 : decode cX10_joinShare 0 = .ok (.iload_n 1, 1) := by decide +kernel
theorem dX10_joinShare_1 : decode cX10_joinShare 1 = .ok (.iconst 0, 1) := by decide +kernel
theorem dX10_joinShare_2 : decode cX10_joinShare 2 = .ok (.aload_n 0, 1) := by decide +kernel
theorem dX10_joinShare_3 : decode cX10_joinShare 3 = .ok (.getfield 192, 3) := by decide +kernel
theorem dX10_joinShare_6 : decode cX10_joinShare 6 = .ok (.iconst 1, 1) := by decide +kernel
theorem dX10_joinShare_7 : decode cX10_joinShare 7 = .ok (.isub, 1) := by decide +kernel
theorem dX10_joinShare_8 : decode cX10_joinShare 8 = .ok (.invokestatic 145, 3) := by decide +kernel
theorem dX10_joinShare_11 : decode cX10_joinShare 11 = .ok (.ifCond .eq 14, 3) := by decide +kernel
theorem dX10_joinShare_14 : decode cX10_joinShare 14 = .ok (.aload_n 0, 1) := by decide +kernel
theorem dX10_joinShare_15 : decode cX10_joinShare 15 = .ok (.iload_n 1, 1) := by decide +kernel
theorem dX10_joinShare_16 : decode cX10_joinShare 16 = .ok (.invokevirtual 198, 3) := by decide +kernel
theorem dX10_joinShare_19 : decode cX10_joinShare 19 = .ok (.invokestatic 258, 3) := by decide +kernel
theorem dX10_joinShare_22 : decode cX10_joinShare 22 = .ok (.goto 8, 3) := by decide +kernel
theorem dX10_joinShare_25 : decode cX10_joinShare 25 = .ok (.aload_n 0, 1) := by decide +kernel
theorem dX10_joinShare_26 : decode cX10_joinShare 26 = .ok (.iconst (-1), 1) := by decide +kernel
theorem dX10_joinShare_27 : decode cX10_joinShare 27 = .ok (.invokevirtual 274, 3) := by decide +kernel
theorem dX10_joinShare_30 : decode cX10_joinShare 30 = .ok (.ireturn, 1) := by decide +kernel
theorem dX10_thought_0 : decode cX10_thought 0 = .ok (.iload_n 1, 1) := by decide +kernel
theorem dX10_thought_1 : decode cX10_thought 1 = .ok (.invokestatic 267, 3) := by decide +kernel
theorem dX10_thought_4 : decode cX10_thought 4 = .ok (.ifCond .eq 14, 3) := by decide +kernel
theorem dX10_thought_7 : decode cX10_thought 7 = .ok (.aload_n 0, 1) := by decide +kernel
theorem dX10_thought_8 : decode cX10_thought 8 = .ok (.iload_n 1, 1) := by decide +kernel
theorem dX10_thought_9 : decode cX10_thought 9 = .ok (.invokevirtual 201, 3) := by decide +kernel
theorem dX10_thought_12 : decode cX10_thought 12 = .ok (.invokestatic 258, 3) := by decide +kernel
theorem dX10_thought_15 : decode cX10_thought 15 = .ok (.goto 9, 3) := by decide +kernel
theorem dX10_thought_18 : decode cX10_thought 18 = .ok (.aload_n 0, 1) := by decide +kernel
theorem dX10_thought_19 : decode cX10_thought 19 = .ok (.bipush (-6), 2) := by decide +kernel
theorem dX10_thought_21 : decode cX10_thought 21 = .ok (.invokevirtual 274, 3) := by decide +kernel
theorem dX10_thought_24 : decode cX10_thought 24 = .ok (.ireturn, 1) := by decide +kernel
theorem dX10_sorting_0 : decode cX10_sorting 0 = .ok (.iload_n 1, 1) := by decide +kernel
theorem dX10_sorting_1 : decode cX10_sorting 1 = .ok (.invokestatic 267, 3) := by decide +kernel
theorem dX10_sorting_4 : decode cX10_sorting 4 = .ok (.ifCond .eq 14, 3) := by decide +kernel
theorem dX10_sorting_7 : decode cX10_sorting 7 = .ok (.aload_n 0, 1) := by decide +kernel
theorem dX10_sorting_8 : decode cX10_sorting 8 = .ok (.iload_n 1, 1) := by decide +kernel
theorem dX10_sorting_9 : decode cX10_sorting 9 = .ok (.invokevirtual 242, 3) := by decide +kernel
theorem dX10_sorting_12 : decode cX10_sorting 12 = .ok (.invokestatic 258, 3) := by decide +kernel
theorem dX10_sorting_15 : decode cX10_sorting 15 = .ok (.goto 9, 3) := by decide +kernel
theorem dX10_sorting_18 : decode cX10_sorting 18 = .ok (.aload_n 0, 1) := by decide +kernel
theorem dX10_sorting_19 : decode cX10_sorting 19 = .ok (.bipush (-6), 2) := by decide +kernel
theorem dX10_sorting_21 : decode cX10_sorting 21 = .ok (.invokevirtual 274, 3) := by decide +kernel
theorem dX10_sorting_24 : decode cX10_sorting 24 = .ok (.ireturn, 1) := by decide +kernel
theorem dX10_judge_0 : decode cX10_judge 0 = .ok (.aload_n 0, 1) := by decide +kernel
theorem dX10_judge_1 : decode cX10_judge 1 = .ok (.iload_n 1, 1) := by decide +kernel
theorem dX10_judge_2 : decode cX10_judge 2 = .ok (.invokevirtual 318, 3) := by decide +kernel
theorem dX10_judge_5 : decode cX10_judge 5 = .ok (.istore_n 3, 1) := by decide +kernel
theorem dX10_judge_6 : decode cX10_judge 6 = .ok (.iload_n 3, 1) := by decide +kernel
theorem dX10_judge_7 : decode cX10_judge 7 = .ok (.ifCond .ne 47, 3) := by decide +kernel
theorem dX10_judge_10 : decode cX10_judge 10 = .ok (.iload_n 2, 1) := by decide +kernel
theorem dX10_judge_11 : decode cX10_judge 11 = .ok (.ifCond .ge 8, 3) := by decide +kernel
theorem dX10_judge_14 : decode cX10_judge 14 = .ok (.bipush (-4), 2) := by decide +kernel
theorem dX10_judge_16 : decode cX10_judge 16 = .ok (.goto 37, 3) := by decide +kernel
theorem dX10_judge_19 : decode cX10_judge 19 = .ok (.iload_n 2, 1) := by decide +kernel
theorem dX10_judge_20 : decode cX10_judge 20 = .ok (.aload_n 0, 1) := by decide +kernel
theorem dX10_judge_21 : decode cX10_judge 21 = .ok (.getfield 104, 3) := by decide +kernel
theorem dX10_judge_24 : decode cX10_judge 24 = .ok (.iload_n 1, 1) := by decide +kernel
theorem dX10_judge_25 : decode cX10_judge 25 = .ok (.iaload, 1) := by decide +kernel
theorem dX10_judge_26 : decode cX10_judge 26 = .ok (.if_icmp .gt 10, 3) := by decide +kernel
theorem dX10_judge_29 : decode cX10_judge 29 = .ok (.aload_n 0, 1) := by decide +kernel
theorem dX10_judge_30 : decode cX10_judge 30 = .ok (.getfield 255, 3) := by decide +kernel
theorem dX10_judge_33 : decode cX10_judge 33 = .ok (.ifCond .ne 8, 3) := by decide +kernel
theorem dX10_judge_36 : decode cX10_judge 36 = .ok (.bipush (-5), 2) := by decide +kernel
theorem dX10_judge_38 : decode cX10_judge 38 = .ok (.goto 15, 3) := by decide +kernel
theorem dX10_judge_41 : decode cX10_judge 41 = .ok (.iload_n 2, 1) := by decide +kernel
theorem dX10_judge_42 : decode cX10_judge 42 = .ok (.bipush 40, 2) := by decide +kernel
theorem dX10_judge_44 : decode cX10_judge 44 = .ok (.if_icmp .le 8, 3) := by decide +kernel
theorem dX10_judge_47 : decode cX10_judge 47 = .ok (.bipush (-6), 2) := by decide +kernel
theorem dX10_judge_49 : decode cX10_judge 49 = .ok (.goto 4, 3) := by decide +kernel
theorem dX10_judge_52 : decode cX10_judge 52 = .ok (.iconst 0, 1) := by decide +kernel
theorem dX10_judge_53 : decode cX10_judge 53 = .ok (.istore_n 3, 1) := by decide +kernel
theorem dX10_judge_54 : decode cX10_judge 54 = .ok (.iload_n 3, 1) := by decide +kernel
theorem dX10_judge_55 : decode cX10_judge 55 = .ok (.ifCond .eq 12, 3) := by decide +kernel
theorem dX10_judge_58 : decode cX10_judge 58 = .ok (.aload_n 0, 1) := by decide +kernel
theorem dX10_judge_59 : decode cX10_judge 59 = .ok (.iload_n 3, 1) := by decide +kernel
theorem dX10_judge_60 : decode cX10_judge 60 = .ok (.invokevirtual 274, 3) := by decide +kernel
theorem dX10_judge_63 : decode cX10_judge 63 = .ok (.bipush 10, 2) := by decide +kernel
theorem dX10_judge_65 : decode cX10_judge 65 = .ok (.isub, 1) := by decide +kernel
theorem dX10_judge_66 : decode cX10_judge 66 = .ok (.ireturn, 1) := by decide +kernel
theorem dX10_judge_67 : decode cX10_judge 67 = .ok (.iconst 0, 1) := by decide +kernel
theorem dX10_judge_68 : decode cX10_judge 68 = .ok (.istore 4, 2) := by decide +kernel
theorem dX10_judge_70 : decode cX10_judge 70 = .ok (.iload 4, 2) := by decide +kernel
theorem dX10_judge_72 : decode cX10_judge 72 = .ok (.iload_n 2, 1) := by decide +kernel
theorem dX10_judge_73 : decode cX10_judge 73 = .ok (.if_icmp .ge 45, 3) := by decide +kernel
theorem dX10_judge_76 : decode cX10_judge 76 = .ok (.iload 4, 2) := by decide +kernel
theorem dX10_judge_78 : decode cX10_judge 78 = .ok (.aload_n 0, 1) := by decide +kernel
theorem dX10_judge_79 : decode cX10_judge 79 = .ok (.getfield 255, 3) := by decide +kernel
theorem dX10_judge_82 : decode cX10_judge 82 = .ok (.if_icmp .ge 27, 3) := by decide +kernel
theorem dX10_judge_85 : decode cX10_judge 85 = .ok (.aload_n 0, 1) := by decide +kernel
theorem dX10_judge_86 : decode cX10_judge 86 = .ok (.getfield 116, 3) := by decide +kernel
theorem dX10_judge_89 : decode cX10_judge 89 = .ok (.sipush 160, 3) := by decide +kernel
theorem dX10_judge_92 : decode cX10_judge 92 = .ok (.iload_n 1, 1) := by decide +kernel
theorem dX10_judge_93 : decode cX10_judge 93 = .ok (.imul, 1) := by decide +kernel
theorem dX10_judge_94 : decode cX10_judge 94 = .ok (.iload 4, 2) := by decide +kernel
theorem dX10_judge_96 : decode cX10_judge 96 = .ok (.iadd, 1) := by decide +kernel
theorem dX10_judge_97 : decode cX10_judge 97 = .ok (.laload, 1) := by decide +kernel
theorem dX10_judge_98 : decode cX10_judge 98 = .ok (.l2i, 1) := by decide +kernel
theorem dX10_judge_99 : decode cX10_judge 99 = .ok (.aload_n 0, 1) := by decide +kernel
theorem dX10_judge_100 : decode cX10_judge 100 = .ok (.getfield 71, 3) := by decide +kernel
theorem dX10_judge_103 : decode cX10_judge 103 = .ok (.iload 4, 2) := by decide +kernel
theorem dX10_judge_105 : decode cX10_judge 105 = .ok (.iaload, 1) := by decide +kernel
theorem dX10_judge_106 : decode cX10_judge 106 = .ok (.if_icmp .eq 6, 3) := by decide +kernel
theorem dX10_judge_109 : decode cX10_judge 109 = .ok (.iload 4, 2) := by decide +kernel
theorem dX10_judge_111 : decode cX10_judge 111 = .ok (.ireturn, 1) := by decide +kernel
theorem dX10_judge_112 : decode cX10_judge 112 = .ok (.iinc 4 1, 3) := by decide +kernel
theorem dX10_judge_115 : decode cX10_judge 115 = .ok (.goto (-45), 3) := by decide +kernel
theorem dX10_judge_118 : decode cX10_judge 118 = .ok (.iload_n 2, 1) := by decide +kernel
theorem dX10_judge_119 : decode cX10_judge 119 = .ok (.aload_n 0, 1) := by decide +kernel
theorem dX10_judge_120 : decode cX10_judge 120 = .ok (.getfield 255, 3) := by decide +kernel
theorem dX10_judge_123 : decode cX10_judge 123 = .ok (.if_icmp .ge 7, 3) := by decide +kernel
theorem dX10_judge_126 : decode cX10_judge 126 = .ok (.iload_n 2, 1) := by decide +kernel
theorem dX10_judge_127 : decode cX10_judge 127 = .ok (.goto 4, 3) := by decide +kernel
theorem dX10_judge_130 : decode cX10_judge 130 = .ok (.iconst (-1), 1) := by decide +kernel
theorem dX10_judge_131 : decode cX10_judge 131 = .ok (.ireturn, 1) := by decide +kernel
theorem dX10_draw_0 : decode cX10_draw 0 = .ok (.aload_n 0, 1) := by decide +kernel
theorem dX10_draw_1 : decode cX10_draw 1 = .ok (.aload_n 0, 1) := by decide +kernel
theorem dX10_draw_2 : decode cX10_draw 2 = .ok (.getfield 142, 3) := by decide +kernel
theorem dX10_draw_5 : decode cX10_draw 5 = .ok (.ldc_w 377, 3) := by decide +kernel
theorem dX10_draw_8 : decode cX10_draw 8 = .ok (.imul, 1) := by decide +kernel
theorem dX10_draw_9 : decode cX10_draw 9 = .ok (.sipush 12345, 3) := by decide +kernel
theorem dX10_draw_12 : decode cX10_draw 12 = .ok (.iadd, 1) := by decide +kernel
theorem dX10_draw_13 : decode cX10_draw 13 = .ok (.putfield 142, 3) := by decide +kernel
theorem dX10_draw_16 : decode cX10_draw 16 = .ok (.aload_n 0, 1) := by decide +kernel
theorem dX10_draw_17 : decode cX10_draw 17 = .ok (.getfield 142, 3) := by decide +kernel
theorem dX10_draw_20 : decode cX10_draw 20 = .ok (.bipush 16, 2) := by decide +kernel
theorem dX10_draw_22 : decode cX10_draw 22 = .ok (.iushr, 1) := by decide +kernel
theorem dX10_draw_23 : decode cX10_draw 23 = .ok (.iload_n 1, 1) := by decide +kernel
theorem dX10_draw_24 : decode cX10_draw 24 = .ok (.irem, 1) := by decide +kernel
theorem dX10_draw_25 : decode cX10_draw 25 = .ok (.ireturn, 1) := by decide +kernel
theorem dX10_drawsLine_0 : decode cX10_drawsLine 0 = .ok (.aload_n 0, 1) := by decide +kernel
theorem dX10_drawsLine_1 : decode cX10_drawsLine 1 = .ok (.iconst 5, 1) := by decide +kernel
theorem dX10_drawsLine_2 : decode cX10_drawsLine 2 = .ok (.invokevirtual 378, 3) := by decide +kernel
theorem dX10_drawsLine_5 : decode cX10_drawsLine 5 = .ok (.istore_n 1, 1) := by decide +kernel
theorem dX10_drawsLine_6 : decode cX10_drawsLine 6 = .ok (.aload_n 0, 1) := by decide +kernel
theorem dX10_drawsLine_7 : decode cX10_drawsLine 7 = .ok (.bipush 20, 2) := by decide +kernel
theorem dX10_drawsLine_9 : decode cX10_drawsLine 9 = .ok (.invokevirtual 378, 3) := by decide +kernel
theorem dX10_drawsLine_12 : decode cX10_drawsLine 12 = .ok (.istore_n 2, 1) := by decide +kernel
theorem dX10_drawsLine_13 : decode cX10_drawsLine 13 = .ok (.aload_n 0, 1) := by decide +kernel
theorem dX10_drawsLine_14 : decode cX10_drawsLine 14 = .ok (.bipush 20, 2) := by decide +kernel
theorem dX10_drawsLine_16 : decode cX10_drawsLine 16 = .ok (.invokevirtual 378, 3) := by decide +kernel
theorem dX10_drawsLine_19 : decode cX10_drawsLine 19 = .ok (.istore_n 3, 1) := by decide +kernel
theorem dX10_drawsLine_20 : decode cX10_drawsLine 20 = .ok (.aload_n 0, 1) := by decide +kernel
theorem dX10_drawsLine_21 : decode cX10_drawsLine 21 = .ok (.bipush 20, 2) := by decide +kernel
theorem dX10_drawsLine_23 : decode cX10_drawsLine 23 = .ok (.invokevirtual 378, 3) := by decide +kernel
theorem dX10_drawsLine_26 : decode cX10_drawsLine 26 = .ok (.istore 4, 2) := by decide +kernel
theorem dX10_drawsLine_28 : decode cX10_drawsLine 28 = .ok (.aload_n 0, 1) := by decide +kernel
theorem dX10_drawsLine_29 : decode cX10_drawsLine 29 = .ok (.getfield 13, 3) := by decide +kernel
theorem dX10_drawsLine_32 : decode cX10_drawsLine 32 = .ok (.iload_n 1, 1) := by decide +kernel
theorem dX10_drawsLine_33 : decode cX10_drawsLine 33 = .ok (.iaload, 1) := by decide +kernel
theorem dX10_drawsLine_34 : decode cX10_drawsLine 34 = .ok (.bipush 16, 2) := by decide +kernel
theorem dX10_drawsLine_36 : decode cX10_drawsLine 36 = .ok (.if_icmp .ne 5, 3) := by decide +kernel
theorem dX10_drawsLine_39 : decode cX10_drawsLine 39 = .ok (.iconst 0, 1) := by decide +kernel
theorem dX10_drawsLine_40 : decode cX10_drawsLine 40 = .ok (.ireturn, 1) := by decide +kernel
theorem dX10_drawsLine_41 : decode cX10_drawsLine 41 = .ok (.aload_n 0, 1) := by decide +kernel
theorem dX10_drawsLine_42 : decode cX10_drawsLine 42 = .ok (.iload_n 1, 1) := by decide +kernel
theorem dX10_drawsLine_43 : decode cX10_drawsLine 43 = .ok (.iload_n 2, 1) := by decide +kernel
theorem dX10_drawsLine_44 : decode cX10_drawsLine 44 = .ok (.iload_n 3, 1) := by decide +kernel
theorem dX10_drawsLine_45 : decode cX10_drawsLine 45 = .ok (.iload 4, 2) := by decide +kernel
theorem dX10_drawsLine_47 : decode cX10_drawsLine 47 = .ok (.invokevirtual 367, 3) := by decide +kernel
theorem dX10_drawsLine_50 : decode cX10_drawsLine 50 = .ok (.iconst 1, 1) := by decide +kernel
theorem dX10_drawsLine_51 : decode cX10_drawsLine 51 = .ok (.ireturn, 1) := by decide +kernel
theorem dX10_drawn_0 : decode cX10_drawn 0 = .ok (.iload_n 1, 1) := by decide +kernel
theorem dX10_drawn_1 : decode cX10_drawn 1 = .ok (.iconst 1, 1) := by decide +kernel
theorem dX10_drawn_2 : decode cX10_drawn 2 = .ok (.bipush 40, 2) := by decide +kernel
theorem dX10_drawn_4 : decode cX10_drawn 4 = .ok (.invokestatic 145, 3) := by decide +kernel
theorem dX10_drawn_7 : decode cX10_drawn 7 = .ok (.ifCond .ne 10, 3) := by decide +kernel
theorem dX10_drawn_10 : decode cX10_drawn 10 = .ok (.aload_n 0, 1) := by decide +kernel
theorem dX10_drawn_11 : decode cX10_drawn 11 = .ok (.bipush (-6), 2) := by decide +kernel
theorem dX10_drawn_13 : decode cX10_drawn 13 = .ok (.invokevirtual 274, 3) := by decide +kernel
theorem dX10_drawn_16 : decode cX10_drawn 16 = .ok (.ireturn, 1) := by decide +kernel
theorem dX10_drawn_17 : decode cX10_drawn 17 = .ok (.iconst 0, 1) := by decide +kernel
theorem dX10_drawn_18 : decode cX10_drawn 18 = .ok (.istore_n 2, 1) := by decide +kernel
theorem dX10_drawn_19 : decode cX10_drawn 19 = .ok (.iconst 0, 1) := by decide +kernel
theorem dX10_drawn_20 : decode cX10_drawn 20 = .ok (.istore_n 3, 1) := by decide +kernel
theorem dX10_drawn_21 : decode cX10_drawn 21 = .ok (.iload_n 3, 1) := by decide +kernel
theorem dX10_drawn_22 : decode cX10_drawn 22 = .ok (.iload_n 1, 1) := by decide +kernel
theorem dX10_drawn_23 : decode cX10_drawn 23 = .ok (.if_icmp .ge 16, 3) := by decide +kernel
theorem dX10_drawn_26 : decode cX10_drawn 26 = .ok (.iload_n 2, 1) := by decide +kernel
theorem dX10_drawn_27 : decode cX10_drawn 27 = .ok (.aload_n 0, 1) := by decide +kernel
theorem dX10_drawn_28 : decode cX10_drawn 28 = .ok (.invokevirtual 381, 3) := by decide +kernel
theorem dX10_drawn_31 : decode cX10_drawn 31 = .ok (.iadd, 1) := by decide +kernel
theorem dX10_drawn_32 : decode cX10_drawn 32 = .ok (.istore_n 2, 1) := by decide +kernel
theorem dX10_drawn_33 : decode cX10_drawn 33 = .ok (.iinc 3 1, 3) := by decide +kernel
theorem dX10_drawn_36 : decode cX10_drawn 36 = .ok (.goto (-15), 3) := by decide +kernel
theorem dX10_drawn_39 : decode cX10_drawn 39 = .ok (.iload_n 2, 1) := by decide +kernel
theorem dX10_drawn_40 : decode cX10_drawn 40 = .ok (.ireturn, 1) := by decide +kernel
theorem dX10_seed_0 : decode cX10_seed 0 = .ok (.aload_n 0, 1) := by decide +kernel
theorem dX10_seed_1 : decode cX10_seed 1 = .ok (.getfield 142, 3) := by decide +kernel
theorem dX10_seed_4 : decode cX10_seed 4 = .ok (.istore_n 2, 1) := by decide +kernel
theorem dX10_seed_5 : decode cX10_seed 5 = .ok (.aload_n 0, 1) := by decide +kernel
theorem dX10_seed_6 : decode cX10_seed 6 = .ok (.iload_n 1, 1) := by decide +kernel
theorem dX10_seed_7 : decode cX10_seed 7 = .ok (.putfield 142, 3) := by decide +kernel
theorem dX10_seed_10 : decode cX10_seed 10 = .ok (.iload_n 2, 1) := by decide +kernel
theorem dX10_seed_11 : decode cX10_seed 11 = .ok (.ireturn, 1) := by decide +kernel
theorem dX10_passes_0 : decode cX10_passes 0 = .ok (.iconst 0, 1) := by decide +kernel
theorem dX10_passes_1 : decode cX10_passes 1 = .ok (.istore_n 2, 1) := by decide +kernel
theorem dX10_passes_2 : decode cX10_passes 2 = .ok (.iload_n 2, 1) := by decide +kernel
theorem dX10_passes_3 : decode cX10_passes 3 = .ok (.aload_n 1, 1) := by decide +kernel
theorem dX10_passes_4 : decode cX10_passes 4 = .ok (.arraylength, 1) := by decide +kernel
theorem dX10_passes_5 : decode cX10_passes 5 = .ok (.if_icmp .ge 53, 3) := by decide +kernel
theorem dX10_passes_8 : decode cX10_passes 8 = .ok (.aload_n 0, 1) := by decide +kernel
theorem dX10_passes_9 : decode cX10_passes 9 = .ok (.getfield 384, 3) := by decide +kernel
theorem dX10_passes_12 : decode cX10_passes 12 = .ok (.ifCond .eq 18, 3) := by decide +kernel
theorem dX10_passes_15 : decode cX10_passes 15 = .ok (.aload_n 0, 1) := by decide +kernel
theorem dX10_passes_16 : decode cX10_passes 16 = .ok (.getfield 139, 3) := by decide +kernel
theorem dX10_passes_19 : decode cX10_passes 19 = .ok (.aload_n 0, 1) := by decide +kernel
theorem dX10_passes_20 : decode cX10_passes 20 = .ok (.getfield 388, 3) := by decide +kernel
theorem dX10_passes_23 : decode cX10_passes 23 = .ok (.aload_n 1, 1) := by decide +kernel
theorem dX10_passes_24 : decode cX10_passes 24 = .ok (.iload_n 2, 1) := by decide +kernel
theorem dX10_passes_25 : decode cX10_passes 25 = .ok (.iaload, 1) := by decide +kernel
theorem dX10_passes_26 : decode cX10_passes 26 = .ok (.iastore, 1) := by decide +kernel
theorem dX10_passes_27 : decode cX10_passes 27 = .ok (.goto 15, 3) := by decide +kernel
theorem dX10_passes_30 : decode cX10_passes 30 = .ok (.aload_n 1, 1) := by decide +kernel
theorem dX10_passes_31 : decode cX10_passes 31 = .ok (.iload_n 2, 1) := by decide +kernel
theorem dX10_passes_32 : decode cX10_passes 32 = .ok (.aload_n 0, 1) := by decide +kernel
theorem dX10_passes_33 : decode cX10_passes 33 = .ok (.getfield 139, 3) := by decide +kernel
theorem dX10_passes_36 : decode cX10_passes 36 = .ok (.aload_n 0, 1) := by decide +kernel
theorem dX10_passes_37 : decode cX10_passes 37 = .ok (.getfield 388, 3) := by decide +kernel
theorem dX10_passes_40 : decode cX10_passes 40 = .ok (.iaload, 1) := by decide +kernel
theorem dX10_passes_41 : decode cX10_passes 41 = .ok (.iastore, 1) := by decide +kernel
theorem dX10_passes_42 : decode cX10_passes 42 = .ok (.aload_n 0, 1) := by decide +kernel
theorem dX10_passes_43 : decode cX10_passes 43 = .ok (.dup, 1) := by decide +kernel
theorem dX10_passes_44 : decode cX10_passes 44 = .ok (.getfield 388, 3) := by decide +kernel
theorem dX10_passes_47 : decode cX10_passes 47 = .ok (.iconst 1, 1) := by decide +kernel
theorem dX10_passes_48 : decode cX10_passes 48 = .ok (.iadd, 1) := by decide +kernel
theorem dX10_passes_49 : decode cX10_passes 49 = .ok (.putfield 388, 3) := by decide +kernel
theorem dX10_passes_52 : decode cX10_passes 52 = .ok (.iinc 2 1, 3) := by decide +kernel
theorem dX10_passes_55 : decode cX10_passes 55 = .ok (.goto (-53), 3) := by decide +kernel
theorem dX10_passes_58 : decode cX10_passes 58 = .ok (.return_, 1) := by decide +kernel
theorem dX10_passOne_0 : decode cX10_passOne 0 = .ok (.aload_n 0, 1) := by decide +kernel
theorem dX10_passOne_1 : decode cX10_passOne 1 = .ok (.getfield 384, 3) := by decide +kernel
theorem dX10_passOne_4 : decode cX10_passOne 4 = .ok (.ifCond .eq 7, 3) := by decide +kernel
theorem dX10_passOne_7 : decode cX10_passOne 7 = .ok (.iload_n 1, 1) := by decide +kernel
theorem dX10_passOne_8 : decode cX10_passOne 8 = .ok (.goto 12, 3) := by decide +kernel
theorem dX10_passOne_11 : decode cX10_passOne 11 = .ok (.aload_n 0, 1) := by decide +kernel
theorem dX10_passOne_12 : decode cX10_passOne 12 = .ok (.getfield 139, 3) := by decide +kernel
theorem dX10_passOne_15 : decode cX10_passOne 15 = .ok (.aload_n 0, 1) := by decide +kernel
theorem dX10_passOne_16 : decode cX10_passOne 16 = .ok (.getfield 388, 3) := by decide +kernel
theorem dX10_passOne_19 : decode cX10_passOne 19 = .ok (.iaload, 1) := by decide +kernel
theorem dX10_passOne_20 : decode cX10_passOne 20 = .ok (.istore_n 2, 1) := by decide +kernel
theorem dX10_passOne_21 : decode cX10_passOne 21 = .ok (.aload_n 0, 1) := by decide +kernel
theorem dX10_passOne_22 : decode cX10_passOne 22 = .ok (.getfield 384, 3) := by decide +kernel
theorem dX10_passOne_25 : decode cX10_passOne 25 = .ok (.ifCond .eq 13, 3) := by decide +kernel
theorem dX10_passOne_28 : decode cX10_passOne 28 = .ok (.aload_n 0, 1) := by decide +kernel
theorem dX10_passOne_29 : decode cX10_passOne 29 = .ok (.getfield 139, 3) := by decide +kernel
theorem dX10_passOne_32 : decode cX10_passOne 32 = .ok (.aload_n 0, 1) := by decide +kernel
theorem dX10_passOne_33 : decode cX10_passOne 33 = .ok (.getfield 388, 3) := by decide +kernel
theorem dX10_passOne_36 : decode cX10_passOne 36 = .ok (.iload_n 1, 1) := by decide +kernel
theorem dX10_passOne_37 : decode cX10_passOne 37 = .ok (.iastore, 1) := by decide +kernel
theorem dX10_passOne_38 : decode cX10_passOne 38 = .ok (.aload_n 0, 1) := by decide +kernel
theorem dX10_passOne_39 : decode cX10_passOne 39 = .ok (.dup, 1) := by decide +kernel
theorem dX10_passOne_40 : decode cX10_passOne 40 = .ok (.getfield 388, 3) := by decide +kernel
theorem dX10_passOne_43 : decode cX10_passOne 43 = .ok (.iconst 1, 1) := by decide +kernel
theorem dX10_passOne_44 : decode cX10_passOne 44 = .ok (.iadd, 1) := by decide +kernel
theorem dX10_passOne_45 : decode cX10_passOne 45 = .ok (.putfield 388, 3) := by decide +kernel
theorem dX10_passOne_48 : decode cX10_passOne 48 = .ok (.iload_n 2, 1) := by decide +kernel
theorem dX10_passOne_49 : decode cX10_passOne 49 = .ok (.ireturn, 1) := by decide +kernel
theorem dX10_passesAll_0 : decode cX10_passesAll 0 = .ok (.aload_n 0, 1) := by decide +kernel
theorem dX10_passesAll_1 : decode cX10_passesAll 1 = .ok (.iconst 0, 1) := by decide +kernel
theorem dX10_passesAll_2 : decode cX10_passesAll 2 = .ok (.putfield 388, 3) := by decide +kernel
theorem dX10_passesAll_5 : decode cX10_passesAll 5 = .ok (.aload_n 0, 1) := by decide +kernel
theorem dX10_passesAll_6 : decode cX10_passesAll 6 = .ok (.iload_n 1, 1) := by decide +kernel
theorem dX10_passesAll_7 : decode cX10_passesAll 7 = .ok (.putfield 384, 3) := by decide +kernel
theorem dX10_passesAll_10 : decode cX10_passesAll 10 = .ok (.aload_n 0, 1) := by decide +kernel
theorem dX10_passesAll_11 : decode cX10_passesAll 11 = .ok (.aload_n 0, 1) := by decide +kernel
theorem dX10_passesAll_12 : decode cX10_passesAll 12 = .ok (.getfield 13, 3) := by decide +kernel
theorem dX10_passesAll_15 : decode cX10_passesAll 15 = .ok (.invokevirtual 391, 3) := by decide +kernel
theorem dX10_passesAll_18 : decode cX10_passesAll 18 = .ok (.aload_n 0, 1) := by decide +kernel
theorem dX10_passesAll_19 : decode cX10_passesAll 19 = .ok (.aload_n 0, 1) := by decide +kernel
theorem dX10_passesAll_20 : decode cX10_passesAll 20 = .ok (.getfield 16, 3) := by decide +kernel
theorem dX10_passesAll_23 : decode cX10_passesAll 23 = .ok (.invokevirtual 391, 3) := by decide +kernel
theorem dX10_passesAll_26 : decode cX10_passesAll 26 = .ok (.aload_n 0, 1) := by decide +kernel
theorem dX10_passesAll_27 : decode cX10_passesAll 27 = .ok (.aload_n 0, 1) := by decide +kernel
theorem dX10_passesAll_28 : decode cX10_passesAll 28 = .ok (.getfield 19, 3) := by decide +kernel
theorem dX10_passesAll_31 : decode cX10_passesAll 31 = .ok (.invokevirtual 391, 3) := by decide +kernel
theorem dX10_passesAll_34 : decode cX10_passesAll 34 = .ok (.aload_n 0, 1) := by decide +kernel
theorem dX10_passesAll_35 : decode cX10_passesAll 35 = .ok (.aload_n 0, 1) := by decide +kernel
theorem dX10_passesAll_36 : decode cX10_passesAll 36 = .ok (.getfield 22, 3) := by decide +kernel
theorem dX10_passesAll_39 : decode cX10_passesAll 39 = .ok (.invokevirtual 391, 3) := by decide +kernel
theorem dX10_passesAll_42 : decode cX10_passesAll 42 = .ok (.aload_n 0, 1) := by decide +kernel
theorem dX10_passesAll_43 : decode cX10_passesAll 43 = .ok (.aload_n 0, 1) := by decide +kernel
theorem dX10_passesAll_44 : decode cX10_passesAll 44 = .ok (.getfield 25, 3) := by decide +kernel
theorem dX10_passesAll_47 : decode cX10_passesAll 47 = .ok (.invokevirtual 391, 3) := by decide +kernel
theorem dX10_passesAll_50 : decode cX10_passesAll 50 = .ok (.aload_n 0, 1) := by decide +kernel
theorem dX10_passesAll_51 : decode cX10_passesAll 51 = .ok (.aload_n 0, 1) := by decide +kernel
theorem dX10_passesAll_52 : decode cX10_passesAll 52 = .ok (.getfield 28, 3) := by decide +kernel
theorem dX10_passesAll_55 : decode cX10_passesAll 55 = .ok (.invokevirtual 391, 3) := by decide +kernel
theorem dX10_passesAll_58 : decode cX10_passesAll 58 = .ok (.aload_n 0, 1) := by decide +kernel
theorem dX10_passesAll_59 : decode cX10_passesAll 59 = .ok (.aload_n 0, 1) := by decide +kernel
theorem dX10_passesAll_60 : decode cX10_passesAll 60 = .ok (.getfield 31, 3) := by decide +kernel
theorem dX10_passesAll_63 : decode cX10_passesAll 63 = .ok (.invokevirtual 391, 3) := by decide +kernel
theorem dX10_passesAll_66 : decode cX10_passesAll 66 = .ok (.aload_n 0, 1) := by decide +kernel
theorem dX10_passesAll_67 : decode cX10_passesAll 67 = .ok (.aload_n 0, 1) := by decide +kernel
theorem dX10_passesAll_68 : decode cX10_passesAll 68 = .ok (.getfield 34, 3) := by decide +kernel
theorem dX10_passesAll_71 : decode cX10_passesAll 71 = .ok (.invokevirtual 391, 3) := by decide +kernel
theorem dX10_passesAll_74 : decode cX10_passesAll 74 = .ok (.aload_n 0, 1) := by decide +kernel
theorem dX10_passesAll_75 : decode cX10_passesAll 75 = .ok (.aload_n 0, 1) := by decide +kernel
theorem dX10_passesAll_76 : decode cX10_passesAll 76 = .ok (.getfield 37, 3) := by decide +kernel
theorem dX10_passesAll_79 : decode cX10_passesAll 79 = .ok (.invokevirtual 391, 3) := by decide +kernel
theorem dX10_passesAll_82 : decode cX10_passesAll 82 = .ok (.aload_n 0, 1) := by decide +kernel
theorem dX10_passesAll_83 : decode cX10_passesAll 83 = .ok (.aload_n 0, 1) := by decide +kernel
theorem dX10_passesAll_84 : decode cX10_passesAll 84 = .ok (.aload_n 0, 1) := by decide +kernel
theorem dX10_passesAll_85 : decode cX10_passesAll 85 = .ok (.getfield 174, 3) := by decide +kernel
theorem dX10_passesAll_88 : decode cX10_passesAll 88 = .ok (.invokevirtual 395, 3) := by decide +kernel
theorem dX10_passesAll_91 : decode cX10_passesAll 91 = .ok (.putfield 174, 3) := by decide +kernel
theorem dX10_passesAll_94 : decode cX10_passesAll 94 = .ok (.aload_n 0, 1) := by decide +kernel
theorem dX10_passesAll_95 : decode cX10_passesAll 95 = .ok (.aload_n 0, 1) := by decide +kernel
theorem dX10_passesAll_96 : decode cX10_passesAll 96 = .ok (.aload_n 0, 1) := by decide +kernel
theorem dX10_passesAll_97 : decode cX10_passesAll 97 = .ok (.getfield 192, 3) := by decide +kernel
theorem dX10_passesAll_100 : decode cX10_passesAll 100 = .ok (.invokevirtual 395, 3) := by decide +kernel
theorem dX10_passesAll_103 : decode cX10_passesAll 103 = .ok (.putfield 192, 3) := by decide +kernel
theorem dX10_passesAll_106 : decode cX10_passesAll 106 = .ok (.aload_n 0, 1) := by decide +kernel
theorem dX10_passesAll_107 : decode cX10_passesAll 107 = .ok (.aload_n 0, 1) := by decide +kernel
theorem dX10_passesAll_108 : decode cX10_passesAll 108 = .ok (.aload_n 0, 1) := by decide +kernel
theorem dX10_passesAll_109 : decode cX10_passesAll 109 = .ok (.getfield 142, 3) := by decide +kernel
theorem dX10_passesAll_112 : decode cX10_passesAll 112 = .ok (.invokevirtual 395, 3) := by decide +kernel
theorem dX10_passesAll_115 : decode cX10_passesAll 115 = .ok (.putfield 142, 3) := by decide +kernel
theorem dX10_passesAll_118 : decode cX10_passesAll 118 = .ok (.return_, 1) := by decide +kernel
theorem dX10_image_0 : decode cX10_image 0 = .ok (.aload_n 0, 1) := by decide +kernel
theorem dX10_image_1 : decode cX10_image 1 = .ok (.iconst 1, 1) := by decide +kernel
theorem dX10_image_2 : decode cX10_image 2 = .ok (.putfield 398, 3) := by decide +kernel
theorem dX10_image_5 : decode cX10_image 5 = .ok (.aload_n 0, 1) := by decide +kernel
theorem dX10_image_6 : decode cX10_image 6 = .ok (.iconst 1, 1) := by decide +kernel
theorem dX10_image_7 : decode cX10_image 7 = .ok (.invokevirtual 401, 3) := by decide +kernel
theorem dX10_image_10 : decode cX10_image 10 = .ok (.aload_n 0, 1) := by decide +kernel
theorem dX10_image_11 : decode cX10_image 11 = .ok (.invokevirtual 405, 3) := by decide +kernel
theorem dX10_image_14 : decode cX10_image 14 = .ok (.ireturn, 1) := by decide +kernel
theorem dX10_restore_0 : decode cX10_restore 0 = .ok (.aload_n 0, 1) := by decide +kernel
theorem dX10_restore_1 : decode cX10_restore 1 = .ok (.getfield 398, 3) := by decide +kernel
theorem dX10_restore_4 : decode cX10_restore 4 = .ok (.ifCond .ne 10, 3) := by decide +kernel
theorem dX10_restore_7 : decode cX10_restore 7 = .ok (.aload_n 0, 1) := by decide +kernel
theorem dX10_restore_8 : decode cX10_restore 8 = .ok (.bipush (-6), 2) := by decide +kernel
theorem dX10_restore_10 : decode cX10_restore 10 = .ok (.invokevirtual 274, 3) := by decide +kernel
theorem dX10_restore_13 : decode cX10_restore 13 = .ok (.ireturn, 1) := by decide +kernel
theorem dX10_restore_14 : decode cX10_restore 14 = .ok (.aload_n 0, 1) := by decide +kernel
theorem dX10_restore_15 : decode cX10_restore 15 = .ok (.iconst 0, 1) := by decide +kernel
theorem dX10_restore_16 : decode cX10_restore 16 = .ok (.invokevirtual 401, 3) := by decide +kernel
theorem dX10_restore_19 : decode cX10_restore 19 = .ok (.aload_n 0, 1) := by decide +kernel
theorem dX10_restore_20 : decode cX10_restore 20 = .ok (.invokevirtual 405, 3) := by decide +kernel
theorem dX10_restore_23 : decode cX10_restore 23 = .ok (.ireturn, 1) := by decide +kernel
theorem dX10_status_0 : decode cX10_status 0 = .ok (.iload_n 1, 1) := by decide +kernel
theorem dX10_status_1 : decode cX10_status 1 = .ok (.bipush 11, 2) := by decide +kernel
theorem dX10_status_3 : decode cX10_status 3 = .ok (.bipush 17, 2) := by decide +kernel
theorem dX10_status_5 : decode cX10_status 5 = .ok (.invokestatic 145, 3) := by decide +kernel
theorem dX10_status_8 : decode cX10_status 8 = .ok (.ifCond .eq 13, 3) := by decide +kernel
theorem dX10_status_11 : decode cX10_status 11 = .ok (.aload_n 0, 1) := by decide +kernel
theorem dX10_status_12 : decode cX10_status 12 = .ok (.getfield 7, 3) := by decide +kernel
theorem dX10_status_15 : decode cX10_status 15 = .ok (.iload_n 1, 1) := by decide +kernel
theorem dX10_status_16 : decode cX10_status 16 = .ok (.bipush 10, 2) := by decide +kernel
theorem dX10_status_18 : decode cX10_status 18 = .ok (.isub, 1) := by decide +kernel
theorem dX10_status_19 : decode cX10_status 19 = .ok (.iaload, 1) := by decide +kernel
theorem dX10_status_20 : decode cX10_status 20 = .ok (.ireturn, 1) := by decide +kernel
theorem dX10_status_21 : decode cX10_status 21 = .ok (.iload_n 1, 1) := by decide +kernel
theorem dX10_status_22 : decode cX10_status 22 = .ok (.tableswitch 59 0 4 #[34, 39, 44, 49, 54], 34) := by decide +kernel
theorem dX10_status_56 : decode cX10_status 56 = .ok (.aload_n 0, 1) := by decide +kernel
theorem dX10_status_57 : decode cX10_status 57 = .ok (.invokevirtual 405, 3) := by decide +kernel
theorem dX10_status_60 : decode cX10_status 60 = .ok (.ireturn, 1) := by decide +kernel
theorem dX10_status_61 : decode cX10_status 61 = .ok (.aload_n 0, 1) := by decide +kernel
theorem dX10_status_62 : decode cX10_status 62 = .ok (.getfield 174, 3) := by decide +kernel
theorem dX10_status_65 : decode cX10_status 65 = .ok (.ireturn, 1) := by decide +kernel
theorem dX10_status_66 : decode cX10_status 66 = .ok (.aload_n 0, 1) := by decide +kernel
theorem dX10_status_67 : decode cX10_status 67 = .ok (.getfield 192, 3) := by decide +kernel
theorem dX10_status_70 : decode cX10_status 70 = .ok (.ireturn, 1) := by decide +kernel
theorem dX10_status_71 : decode cX10_status 71 = .ok (.aload_n 0, 1) := by decide +kernel
theorem dX10_status_72 : decode cX10_status 72 = .ok (.getfield 255, 3) := by decide +kernel
theorem dX10_status_75 : decode cX10_status 75 = .ok (.ireturn, 1) := by decide +kernel
theorem dX10_status_76 : decode cX10_status 76 = .ok (.aload_n 0, 1) := by decide +kernel
theorem dX10_status_77 : decode cX10_status 77 = .ok (.getfield 142, 3) := by decide +kernel
theorem dX10_status_80 : decode cX10_status 80 = .ok (.ireturn, 1) := by decide +kernel
theorem dX10_status_81 : decode cX10_status 81 = .ok (.iconst (-1), 1) := by decide +kernel
theorem dX10_status_82 : decode cX10_status 82 = .ok (.ireturn, 1) := by decide +kernel
theorem dJxf58ca_isNaN_12338_0 : decode cJxf58ca_isNaN_12338 0 = .ok (.fload_n 0, 1) := by decide +kernel
theorem dJxf58ca_isNaN_12338_1 : decode cJxf58ca_isNaN_12338 1 = .ok (.fload_n 0, 1) := by decide +kernel
theorem dJxf58ca_isNaN_12338_2 : decode cJxf58ca_isNaN_12338 2 = .ok (.fcmp .l, 1) := by decide +kernel
theorem dJxf58ca_isNaN_12338_3 : decode cJxf58ca_isNaN_12338 3 = .ok (.ifCond .eq 7, 3) := by decide +kernel
theorem dJxf58ca_isNaN_12338_6 : decode cJxf58ca_isNaN_12338 6 = .ok (.iconst 1, 1) := by decide +kernel
theorem dJxf58ca_isNaN_12338_7 : decode cJxf58ca_isNaN_12338 7 = .ok (.goto 4, 3) := by decide +kernel
theorem dJxf58ca_isNaN_12338_10 : decode cJxf58ca_isNaN_12338 10 = .ok (.iconst 0, 1) := by decide +kernel
theorem dJxf58ca_isNaN_12338_11 : decode cJxf58ca_isNaN_12338 11 = .ok (.ireturn, 1) := by decide +kernel
theorem dJxf58ca_floatToIntBits_5c35a_0 : decode cJxf58ca_floatToIntBits_5c35a 0 = .ok (.fload_n 0, 1) := by decide +kernel
theorem dJxf58ca_floatToIntBits_5c35a_1 : decode cJxf58ca_floatToIntBits_5c35a 1 = .ok (.invokestatic 59, 3) := by decide +kernel
theorem dJxf58ca_floatToIntBits_5c35a_4 : decode cJxf58ca_floatToIntBits_5c35a 4 = .ok (.ifCond .ne 8, 3) := by decide +kernel
theorem dJxf58ca_floatToIntBits_5c35a_7 : decode cJxf58ca_floatToIntBits_5c35a 7 = .ok (.fload_n 0, 1) := by decide +kernel
theorem dJxf58ca_floatToIntBits_5c35a_8 : decode cJxf58ca_floatToIntBits_5c35a 8 = .ok (.invokestatic 74, 3) := by decide +kernel
theorem dJxf58ca_floatToIntBits_5c35a_11 : decode cJxf58ca_floatToIntBits_5c35a 11 = .ok (.ireturn, 1) := by decide +kernel
theorem dJxf58ca_floatToIntBits_5c35a_12 : decode cJxf58ca_floatToIntBits_5c35a 12 = .ok (.ldc 77, 2) := by decide +kernel
theorem dJxf58ca_floatToIntBits_5c35a_14 : decode cJxf58ca_floatToIntBits_5c35a 14 = .ok (.ireturn, 1) := by decide +kernel
theorem dJ6_bitCount_0f7a4_0 : decode cJ6_bitCount_0f7a4 0 = .ok (.iload_n 0, 1) := by decide +kernel
theorem dJ6_bitCount_0f7a4_1 : decode cJ6_bitCount_0f7a4 1 = .ok (.iload_n 0, 1) := by decide +kernel
theorem dJ6_bitCount_0f7a4_2 : decode cJ6_bitCount_0f7a4 2 = .ok (.iconst 1, 1) := by decide +kernel
theorem dJ6_bitCount_0f7a4_3 : decode cJ6_bitCount_0f7a4 3 = .ok (.iushr, 1) := by decide +kernel
theorem dJ6_bitCount_0f7a4_4 : decode cJ6_bitCount_0f7a4 4 = .ok (.ldc_w 265, 3) := by decide +kernel
theorem dJ6_bitCount_0f7a4_7 : decode cJ6_bitCount_0f7a4 7 = .ok (.iand, 1) := by decide +kernel
theorem dJ6_bitCount_0f7a4_8 : decode cJ6_bitCount_0f7a4 8 = .ok (.isub, 1) := by decide +kernel
theorem dJ6_bitCount_0f7a4_9 : decode cJ6_bitCount_0f7a4 9 = .ok (.istore_n 0, 1) := by decide +kernel
theorem dJ6_bitCount_0f7a4_10 : decode cJ6_bitCount_0f7a4 10 = .ok (.iload_n 0, 1) := by decide +kernel
theorem dJ6_bitCount_0f7a4_11 : decode cJ6_bitCount_0f7a4 11 = .ok (.ldc_w 266, 3) := by decide +kernel
theorem dJ6_bitCount_0f7a4_14 : decode cJ6_bitCount_0f7a4 14 = .ok (.iand, 1) := by decide +kernel
theorem dJ6_bitCount_0f7a4_15 : decode cJ6_bitCount_0f7a4 15 = .ok (.iload_n 0, 1) := by decide +kernel
theorem dJ6_bitCount_0f7a4_16 : decode cJ6_bitCount_0f7a4 16 = .ok (.iconst 2, 1) := by decide +kernel
theorem dJ6_bitCount_0f7a4_17 : decode cJ6_bitCount_0f7a4 17 = .ok (.iushr, 1) := by decide +kernel
theorem dJ6_bitCount_0f7a4_18 : decode cJ6_bitCount_0f7a4 18 = .ok (.ldc_w 266, 3) := by decide +kernel
theorem dJ6_bitCount_0f7a4_21 : decode cJ6_bitCount_0f7a4 21 = .ok (.iand, 1) := by decide +kernel
theorem dJ6_bitCount_0f7a4_22 : decode cJ6_bitCount_0f7a4 22 = .ok (.iadd, 1) := by decide +kernel
theorem dJ6_bitCount_0f7a4_23 : decode cJ6_bitCount_0f7a4 23 = .ok (.istore_n 0, 1) := by decide +kernel
theorem dJ6_bitCount_0f7a4_24 : decode cJ6_bitCount_0f7a4 24 = .ok (.iload_n 0, 1) := by decide +kernel
theorem dJ6_bitCount_0f7a4_25 : decode cJ6_bitCount_0f7a4 25 = .ok (.iload_n 0, 1) := by decide +kernel
theorem dJ6_bitCount_0f7a4_26 : decode cJ6_bitCount_0f7a4 26 = .ok (.iconst 4, 1) := by decide +kernel
theorem dJ6_bitCount_0f7a4_27 : decode cJ6_bitCount_0f7a4 27 = .ok (.iushr, 1) := by decide +kernel
theorem dJ6_bitCount_0f7a4_28 : decode cJ6_bitCount_0f7a4 28 = .ok (.iadd, 1) := by decide +kernel
theorem dJ6_bitCount_0f7a4_29 : decode cJ6_bitCount_0f7a4 29 = .ok (.ldc_w 267, 3) := by decide +kernel
theorem dJ6_bitCount_0f7a4_32 : decode cJ6_bitCount_0f7a4 32 = .ok (.iand, 1) := by decide +kernel
theorem dJ6_bitCount_0f7a4_33 : decode cJ6_bitCount_0f7a4 33 = .ok (.istore_n 0, 1) := by decide +kernel
theorem dJ6_bitCount_0f7a4_34 : decode cJ6_bitCount_0f7a4 34 = .ok (.iload_n 0, 1) := by decide +kernel
theorem dJ6_bitCount_0f7a4_35 : decode cJ6_bitCount_0f7a4 35 = .ok (.iload_n 0, 1) := by decide +kernel
theorem dJ6_bitCount_0f7a4_36 : decode cJ6_bitCount_0f7a4 36 = .ok (.bipush 8, 2) := by decide +kernel
theorem dJ6_bitCount_0f7a4_38 : decode cJ6_bitCount_0f7a4 38 = .ok (.iushr, 1) := by decide +kernel
theorem dJ6_bitCount_0f7a4_39 : decode cJ6_bitCount_0f7a4 39 = .ok (.iadd, 1) := by decide +kernel
theorem dJ6_bitCount_0f7a4_40 : decode cJ6_bitCount_0f7a4 40 = .ok (.istore_n 0, 1) := by decide +kernel
theorem dJ6_bitCount_0f7a4_41 : decode cJ6_bitCount_0f7a4 41 = .ok (.iload_n 0, 1) := by decide +kernel
theorem dJ6_bitCount_0f7a4_42 : decode cJ6_bitCount_0f7a4 42 = .ok (.iload_n 0, 1) := by decide +kernel
theorem dJ6_bitCount_0f7a4_43 : decode cJ6_bitCount_0f7a4 43 = .ok (.bipush 16, 2) := by decide +kernel
theorem dJ6_bitCount_0f7a4_45 : decode cJ6_bitCount_0f7a4 45 = .ok (.iushr, 1) := by decide +kernel
theorem dJ6_bitCount_0f7a4_46 : decode cJ6_bitCount_0f7a4 46 = .ok (.iadd, 1) := by decide +kernel
theorem dJ6_bitCount_0f7a4_47 : decode cJ6_bitCount_0f7a4 47 = .ok (.istore_n 0, 1) := by decide +kernel
theorem dJ6_bitCount_0f7a4_48 : decode cJ6_bitCount_0f7a4 48 = .ok (.iload_n 0, 1) := by decide +kernel
theorem dJ6_bitCount_0f7a4_49 : decode cJ6_bitCount_0f7a4 49 = .ok (.bipush 63, 2) := by decide +kernel
theorem dJ6_bitCount_0f7a4_51 : decode cJ6_bitCount_0f7a4 51 = .ok (.iand, 1) := by decide +kernel
theorem dJ6_bitCount_0f7a4_52 : decode cJ6_bitCount_0f7a4 52 = .ok (.ireturn, 1) := by decide +kernel
theorem dJ9_max_7cf53_0 : decode cJ9_max_7cf53 0 = .ok (.iload_n 0, 1) := by decide +kernel
theorem dJ9_max_7cf53_1 : decode cJ9_max_7cf53 1 = .ok (.iload_n 1, 1) := by decide +kernel
theorem dJ9_max_7cf53_2 : decode cJ9_max_7cf53 2 = .ok (.if_icmp .lt 7, 3) := by decide +kernel
theorem dJ9_max_7cf53_5 : decode cJ9_max_7cf53 5 = .ok (.iload_n 0, 1) := by decide +kernel
theorem dJ9_max_7cf53_6 : decode cJ9_max_7cf53 6 = .ok (.goto 4, 3) := by decide +kernel
theorem dJ9_max_7cf53_9 : decode cJ9_max_7cf53 9 = .ok (.iload_n 1, 1) := by decide +kernel
theorem dJ9_max_7cf53_10 : decode cJ9_max_7cf53 10 = .ok (.ireturn, 1) := by decide +kernel
theorem dJ9_min_7cf53_0 : decode cJ9_min_7cf53 0 = .ok (.iload_n 0, 1) := by decide +kernel
theorem dJ9_min_7cf53_1 : decode cJ9_min_7cf53 1 = .ok (.iload_n 1, 1) := by decide +kernel
theorem dJ9_min_7cf53_2 : decode cJ9_min_7cf53 2 = .ok (.if_icmp .gt 7, 3) := by decide +kernel
theorem dJ9_min_7cf53_5 : decode cJ9_min_7cf53 5 = .ok (.iload_n 0, 1) := by decide +kernel
theorem dJ9_min_7cf53_6 : decode cJ9_min_7cf53 6 = .ok (.goto 4, 3) := by decide +kernel
theorem dJ9_min_7cf53_9 : decode cJ9_min_7cf53 9 = .ok (.iload_n 1, 1) := by decide +kernel
theorem dJ9_min_7cf53_10 : decode cJ9_min_7cf53 10 = .ok (.ireturn, 1) := by decide +kernel
theorem dJ7_fill_d0a16_0 : decode cJ7_fill_d0a16 0 = .ok (.iconst 0, 1) := by decide +kernel
theorem dJ7_fill_d0a16_1 : decode cJ7_fill_d0a16 1 = .ok (.istore_n 3, 1) := by decide +kernel
theorem dJ7_fill_d0a16_2 : decode cJ7_fill_d0a16 2 = .ok (.aload_n 0, 1) := by decide +kernel
theorem dJ7_fill_d0a16_3 : decode cJ7_fill_d0a16 3 = .ok (.arraylength, 1) := by decide +kernel
theorem dJ7_fill_d0a16_4 : decode cJ7_fill_d0a16 4 = .ok (.istore 4, 2) := by decide +kernel
theorem dJ7_fill_d0a16_6 : decode cJ7_fill_d0a16 6 = .ok (.iload_n 3, 1) := by decide +kernel
theorem dJ7_fill_d0a16_7 : decode cJ7_fill_d0a16 7 = .ok (.iload 4, 2) := by decide +kernel
theorem dJ7_fill_d0a16_9 : decode cJ7_fill_d0a16 9 = .ok (.if_icmp .ge 13, 3) := by decide +kernel
theorem dJ7_fill_d0a16_12 : decode cJ7_fill_d0a16 12 = .ok (.aload_n 0, 1) := by decide +kernel
theorem dJ7_fill_d0a16_13 : decode cJ7_fill_d0a16 13 = .ok (.iload_n 3, 1) := by decide +kernel
theorem dJ7_fill_d0a16_14 : decode cJ7_fill_d0a16 14 = .ok (.lload_n 1, 1) := by decide +kernel
theorem dJ7_fill_d0a16_15 : decode cJ7_fill_d0a16 15 = .ok (.lastore, 1) := by decide +kernel
theorem dJ7_fill_d0a16_16 : decode cJ7_fill_d0a16 16 = .ok (.iinc 3 1, 3) := by decide +kernel
theorem dJ7_fill_d0a16_19 : decode cJ7_fill_d0a16 19 = .ok (.goto (-13), 3) := by decide +kernel
theorem dJ7_fill_d0a16_22 : decode cJ7_fill_d0a16 22 = .ok (.return_, 1) := by decide +kernel
theorem dJ7_fill_53178_0 : decode cJ7_fill_53178 0 = .ok (.iconst 0, 1) := by decide +kernel
theorem dJ7_fill_53178_1 : decode cJ7_fill_53178 1 = .ok (.istore_n 2, 1) := by decide +kernel
theorem dJ7_fill_53178_2 : decode cJ7_fill_53178 2 = .ok (.aload_n 0, 1) := by decide +kernel
theorem dJ7_fill_53178_3 : decode cJ7_fill_53178 3 = .ok (.arraylength, 1) := by decide +kernel
theorem dJ7_fill_53178_4 : decode cJ7_fill_53178 4 = .ok (.istore_n 3, 1) := by decide +kernel
theorem dJ7_fill_53178_5 : decode cJ7_fill_53178 5 = .ok (.iload_n 2, 1) := by decide +kernel
theorem dJ7_fill_53178_6 : decode cJ7_fill_53178 6 = .ok (.iload_n 3, 1) := by decide +kernel
theorem dJ7_fill_53178_7 : decode cJ7_fill_53178 7 = .ok (.if_icmp .ge 13, 3) := by decide +kernel
theorem dJ7_fill_53178_10 : decode cJ7_fill_53178 10 = .ok (.aload_n 0, 1) := by decide +kernel
theorem dJ7_fill_53178_11 : decode cJ7_fill_53178 11 = .ok (.iload_n 2, 1) := by decide +kernel
theorem dJ7_fill_53178_12 : decode cJ7_fill_53178 12 = .ok (.iload_n 1, 1) := by decide +kernel
theorem dJ7_fill_53178_13 : decode cJ7_fill_53178 13 = .ok (.iastore, 1) := by decide +kernel
theorem dJ7_fill_53178_14 : decode cJ7_fill_53178 14 = .ok (.iinc 2 1, 3) := by decide +kernel
theorem dJ7_fill_53178_17 : decode cJ7_fill_53178 17 = .ok (.goto (-12), 3) := by decide +kernel
theorem dJ7_fill_53178_20 : decode cJ7_fill_53178 20 = .ok (.return_, 1) := by decide +kernel
theorem dL_law_0 : decode cL_law 0 = .ok (.new 7, 3) := by decide +kernel
theorem dL_law_3 : decode cL_law 3 = .ok (.dup, 1) := by decide +kernel
theorem dL_law_4 : decode cL_law 4 = .ok (.invokespecial 9, 3) := by decide +kernel
theorem dL_law_7 : decode cL_law 7 = .ok (.astore_n 1, 1) := by decide +kernel
theorem dL_law_8 : decode cL_law 8 = .ok (.new 10, 3) := by decide +kernel
theorem dL_law_11 : decode cL_law 11 = .ok (.dup, 1) := by decide +kernel
theorem dL_law_12 : decode cL_law 12 = .ok (.invokespecial 12, 3) := by decide +kernel
theorem dL_law_15 : decode cL_law 15 = .ok (.astore_n 2, 1) := by decide +kernel
theorem dL_law_16 : decode cL_law 16 = .ok (.iconst 0, 1) := by decide +kernel
theorem dL_law_17 : decode cL_law 17 = .ok (.istore_n 3, 1) := by decide +kernel
theorem dL_law_18 : decode cL_law 18 = .ok (.iload_n 3, 1) := by decide +kernel
theorem dL_law_19 : decode cL_law 19 = .ok (.aload_n 0, 1) := by decide +kernel
theorem dL_law_20 : decode cL_law 20 = .ok (.arraylength, 1) := by decide +kernel
theorem dL_law_21 : decode cL_law 21 = .ok (.bipush 6, 2) := by decide +kernel
theorem dL_law_23 : decode cL_law 23 = .ok (.isub, 1) := by decide +kernel
theorem dL_law_24 : decode cL_law 24 = .ok (.if_icmp .gt 1351, 3) := by decide +kernel
theorem dL_law_27 : decode cL_law 27 = .ok (.aload_n 0, 1) := by decide +kernel
theorem dL_law_28 : decode cL_law 28 = .ok (.iload_n 3, 1) := by decide +kernel
theorem dL_law_29 : decode cL_law 29 = .ok (.iaload, 1) := by decide +kernel
theorem dL_law_30 : decode cL_law 30 = .ok (.bipush 63, 2) := by decide +kernel
theorem dL_law_32 : decode cL_law 32 = .ok (.iand, 1) := by decide +kernel
theorem dL_law_33 : decode cL_law 33 = .ok (.tableswitch 1336 0 36 #[163, 206, 279, 342, 376, 409, 432, 465, 518, 541, 554, 577, 620, 653, 696, 739, 762, 805, 848, 881, 894, 927, 960, 983, 1006, 1029, 1062, 1095, 1128, 1151, 1185, 1208, 1241, 1264, 1287, 1300, 1313], 163) := by decide +kernel
theorem dL_law_196 : decode cL_law 196 = .ok (.aload_n 1, 1) := by decide +kernel
theorem dL_law_197 : decode cL_law 197 = .ok (.aload_n 0, 1) := by decide +kernel
theorem dL_law_198 : decode cL_law 198 = .ok (.iload_n 3, 1) := by decide +kernel
theorem dL_law_199 : decode cL_law 199 = .ok (.iconst 1, 1) := by decide +kernel
theorem dL_law_200 : decode cL_law 200 = .ok (.iadd, 1) := by decide +kernel
theorem dL_law_201 : decode cL_law 201 = .ok (.iaload, 1) := by decide +kernel
theorem dL_law_202 : decode cL_law 202 = .ok (.aload_n 0, 1) := by decide +kernel
theorem dL_law_203 : decode cL_law 203 = .ok (.iload_n 3, 1) := by decide +kernel
theorem dL_law_204 : decode cL_law 204 = .ok (.iconst 2, 1) := by decide +kernel
theorem dL_law_205 : decode cL_law 205 = .ok (.iadd, 1) := by decide +kernel
theorem dL_law_206 : decode cL_law 206 = .ok (.iaload, 1) := by decide +kernel
theorem dL_law_207 : decode cL_law 207 = .ok (.aload_n 0, 1) := by decide +kernel
theorem dL_law_208 : decode cL_law 208 = .ok (.iload_n 3, 1) := by decide +kernel
theorem dL_law_209 : decode cL_law 209 = .ok (.iconst 3, 1) := by decide +kernel
theorem dL_law_210 : decode cL_law 210 = .ok (.iadd, 1) := by decide +kernel
theorem dL_law_211 : decode cL_law 211 = .ok (.iaload, 1) := by decide +kernel
theorem dL_law_212 : decode cL_law 212 = .ok (.invokevirtual 13, 3) := by decide +kernel
theorem dL_law_215 : decode cL_law 215 = .ok (.aload_n 2, 1) := by decide +kernel
theorem dL_law_216 : decode cL_law 216 = .ok (.aload_n 0, 1) := by decide +kernel
theorem dL_law_217 : decode cL_law 217 = .ok (.iload_n 3, 1) := by decide +kernel
theorem dL_law_218 : decode cL_law 218 = .ok (.iconst 1, 1) := by decide +kernel
theorem dL_law_219 : decode cL_law 219 = .ok (.iadd, 1) := by decide +kernel
theorem dL_law_220 : decode cL_law 220 = .ok (.iaload, 1) := by decide +kernel
theorem dL_law_221 : decode cL_law 221 = .ok (.aload_n 0, 1) := by decide +kernel
theorem dL_law_222 : decode cL_law 222 = .ok (.iload_n 3, 1) := by decide +kernel
theorem dL_law_223 : decode cL_law 223 = .ok (.iconst 2, 1) := by decide +kernel
theorem dL_law_224 : decode cL_law 224 = .ok (.iadd, 1) := by decide +kernel
theorem dL_law_225 : decode cL_law 225 = .ok (.iaload, 1) := by decide +kernel
theorem dL_law_226 : decode cL_law 226 = .ok (.aload_n 0, 1) := by decide +kernel
theorem dL_law_227 : decode cL_law 227 = .ok (.iload_n 3, 1) := by decide +kernel
theorem dL_law_228 : decode cL_law 228 = .ok (.iconst 3, 1) := by decide +kernel
theorem dL_law_229 : decode cL_law 229 = .ok (.iadd, 1) := by decide +kernel
theorem dL_law_230 : decode cL_law 230 = .ok (.iaload, 1) := by decide +kernel
theorem dL_law_231 : decode cL_law 231 = .ok (.invokevirtual 17, 3) := by decide +kernel
theorem dL_law_234 : decode cL_law 234 = .ok (.if_icmp .eq 1135, 3) := by decide +kernel
theorem dL_law_237 : decode cL_law 237 = .ok (.iconst 0, 1) := by decide +kernel
theorem dL_law_238 : decode cL_law 238 = .ok (.ireturn, 1) := by decide +kernel
theorem dL_law_239 : decode cL_law 239 = .ok (.aload_n 1, 1) := by decide +kernel
theorem dL_law_240 : decode cL_law 240 = .ok (.aload_n 0, 1) := by decide +kernel
theorem dL_law_241 : decode cL_law 241 = .ok (.iload_n 3, 1) := by decide +kernel
theorem dL_law_242 : decode cL_law 242 = .ok (.iconst 1, 1) := by decide +kernel
theorem dL_law_243 : decode cL_law 243 = .ok (.iadd, 1) := by decide +kernel
theorem dL_law_244 : decode cL_law 244 = .ok (.iaload, 1) := by decide +kernel
theorem dL_law_245 : decode cL_law 245 = .ok (.aload_n 0, 1) := by decide +kernel
theorem dL_law_246 : decode cL_law 246 = .ok (.iload_n 3, 1) := by decide +kernel
theorem dL_law_247 : decode cL_law 247 = .ok (.iconst 2, 1) := by decide +kernel
theorem dL_law_248 : decode cL_law 248 = .ok (.iadd, 1) := by decide +kernel
theorem dL_law_249 : decode cL_law 249 = .ok (.iaload, 1) := by decide +kernel
theorem dL_law_250 : decode cL_law 250 = .ok (.aload_n 0, 1) := by decide +kernel
theorem dL_law_251 : decode cL_law 251 = .ok (.iload_n 3, 1) := by decide +kernel
theorem dL_law_252 : decode cL_law 252 = .ok (.iconst 3, 1) := by decide +kernel
theorem dL_law_253 : decode cL_law 253 = .ok (.iadd, 1) := by decide +kernel
theorem dL_law_254 : decode cL_law 254 = .ok (.iaload, 1) := by decide +kernel
theorem dL_law_255 : decode cL_law 255 = .ok (.i2l, 1) := by decide +kernel
theorem dL_law_256 : decode cL_law 256 = .ok (.bipush 32, 2) := by decide +kernel
theorem dL_law_258 : decode cL_law 258 = .ok (.lshl, 1) := by decide +kernel
theorem dL_law_259 : decode cL_law 259 = .ok (.aload_n 0, 1) := by decide +kernel
theorem dL_law_260 : decode cL_law 260 = .ok (.iload_n 3, 1) := by decide +kernel
theorem dL_law_261 : decode cL_law 261 = .ok (.iconst 4, 1) := by decide +kernel
theorem dL_law_262 : decode cL_law 262 = .ok (.iadd, 1) := by decide +kernel
theorem dL_law_263 : decode cL_law 263 = .ok (.iaload, 1) := by decide +kernel
theorem dL_law_264 : decode cL_law 264 = .ok (.i2l, 1) := by decide +kernel
theorem dL_law_265 : decode cL_law 265 = .ok (.ldc2_w 18, 3) := by decide +kernel
theorem dL_law_268 : decode cL_law 268 = .ok (.land, 1) := by decide +kernel
theorem dL_law_269 : decode cL_law 269 = .ok (.lor, 1) := by decide +kernel
theorem dL_law_270 : decode cL_law 270 = .ok (.invokevirtual 20, 3) := by decide +kernel
theorem dL_law_273 : decode cL_law 273 = .ok (.aload_n 2, 1) := by decide +kernel
theorem dL_law_274 : decode cL_law 274 = .ok (.aload_n 0, 1) := by decide +kernel
theorem dL_law_275 : decode cL_law 275 = .ok (.iload_n 3, 1) := by decide +kernel
theorem dL_law_276 : decode cL_law 276 = .ok (.iconst 1, 1) := by decide +kernel
theorem dL_law_277 : decode cL_law 277 = .ok (.iadd, 1) := by decide +kernel
theorem dL_law_278 : decode cL_law 278 = .ok (.iaload, 1) := by decide +kernel
theorem dL_law_279 : decode cL_law 279 = .ok (.aload_n 0, 1) := by decide +kernel
theorem dL_law_280 : decode cL_law 280 = .ok (.iload_n 3, 1) := by decide +kernel
theorem dL_law_281 : decode cL_law 281 = .ok (.iconst 2, 1) := by decide +kernel
theorem dL_law_282 : decode cL_law 282 = .ok (.iadd, 1) := by decide +kernel
theorem dL_law_283 : decode cL_law 283 = .ok (.iaload, 1) := by decide +kernel
theorem dL_law_284 : decode cL_law 284 = .ok (.aload_n 0, 1) := by decide +kernel
theorem dL_law_285 : decode cL_law 285 = .ok (.iload_n 3, 1) := by decide +kernel
theorem dL_law_286 : decode cL_law 286 = .ok (.iconst 3, 1) := by decide +kernel
theorem dL_law_287 : decode cL_law 287 = .ok (.iadd, 1) := by decide +kernel
theorem dL_law_288 : decode cL_law 288 = .ok (.iaload, 1) := by decide +kernel
theorem dL_law_289 : decode cL_law 289 = .ok (.i2l, 1) := by decide +kernel
theorem dL_law_290 : decode cL_law 290 = .ok (.bipush 32, 2) := by decide +kernel
theorem dL_law_292 : decode cL_law 292 = .ok (.lshl, 1) := by decide +kernel
theorem dL_law_293 : decode cL_law 293 = .ok (.aload_n 0, 1) := by decide +kernel
theorem dL_law_294 : decode cL_law 294 = .ok (.iload_n 3, 1) := by decide +kernel
theorem dL_law_295 : decode cL_law 295 = .ok (.iconst 4, 1) := by decide +kernel
theorem dL_law_296 : decode cL_law 296 = .ok (.iadd, 1) := by decide +kernel
theorem dL_law_297 : decode cL_law 297 = .ok (.iaload, 1) := by decide +kernel
theorem dL_law_298 : decode cL_law 298 = .ok (.i2l, 1) := by decide +kernel
theorem dL_law_299 : decode cL_law 299 = .ok (.ldc2_w 18, 3) := by decide +kernel
theorem dL_law_302 : decode cL_law 302 = .ok (.land, 1) := by decide +kernel
theorem dL_law_303 : decode cL_law 303 = .ok (.lor, 1) := by decide +kernel
theorem dL_law_304 : decode cL_law 304 = .ok (.invokevirtual 24, 3) := by decide +kernel
theorem dL_law_307 : decode cL_law 307 = .ok (.if_icmp .eq 1062, 3) := by decide +kernel
theorem dL_law_310 : decode cL_law 310 = .ok (.iconst 0, 1) := by decide +kernel
theorem dL_law_311 : decode cL_law 311 = .ok (.ireturn, 1) := by decide +kernel
theorem dL_law_312 : decode cL_law 312 = .ok (.aload_n 1, 1) := by decide +kernel
theorem dL_law_313 : decode cL_law 313 = .ok (.aload_n 0, 1) := by decide +kernel
theorem dL_law_314 : decode cL_law 314 = .ok (.iload_n 3, 1) := by decide +kernel
theorem dL_law_315 : decode cL_law 315 = .ok (.iconst 1, 1) := by decide +kernel
theorem dL_law_316 : decode cL_law 316 = .ok (.iadd, 1) := by decide +kernel
theorem dL_law_317 : decode cL_law 317 = .ok (.iaload, 1) := by decide +kernel
theorem dL_law_318 : decode cL_law 318 = .ok (.aload_n 0, 1) := by decide +kernel
theorem dL_law_319 : decode cL_law 319 = .ok (.iload_n 3, 1) := by decide +kernel
theorem dL_law_320 : decode cL_law 320 = .ok (.iconst 2, 1) := by decide +kernel
theorem dL_law_321 : decode cL_law 321 = .ok (.iadd, 1) := by decide +kernel
theorem dL_law_322 : decode cL_law 322 = .ok (.iaload, 1) := by decide +kernel
theorem dL_law_323 : decode cL_law 323 = .ok (.aload_n 0, 1) := by decide +kernel
theorem dL_law_324 : decode cL_law 324 = .ok (.iload_n 3, 1) := by decide +kernel
theorem dL_law_325 : decode cL_law 325 = .ok (.iconst 3, 1) := by decide +kernel
theorem dL_law_326 : decode cL_law 326 = .ok (.iadd, 1) := by decide +kernel
theorem dL_law_327 : decode cL_law 327 = .ok (.iaload, 1) := by decide +kernel
theorem dL_law_328 : decode cL_law 328 = .ok (.aload_n 0, 1) := by decide +kernel
theorem dL_law_329 : decode cL_law 329 = .ok (.iload_n 3, 1) := by decide +kernel
theorem dL_law_330 : decode cL_law 330 = .ok (.iconst 4, 1) := by decide +kernel
theorem dL_law_331 : decode cL_law 331 = .ok (.iadd, 1) := by decide +kernel
theorem dL_law_332 : decode cL_law 332 = .ok (.iaload, 1) := by decide +kernel
theorem dL_law_333 : decode cL_law 333 = .ok (.aload_n 0, 1) := by decide +kernel
theorem dL_law_334 : decode cL_law 334 = .ok (.iload_n 3, 1) := by decide +kernel
theorem dL_law_335 : decode cL_law 335 = .ok (.iconst 5, 1) := by decide +kernel
theorem dL_law_336 : decode cL_law 336 = .ok (.iadd, 1) := by decide +kernel
theorem dL_law_337 : decode cL_law 337 = .ok (.iaload, 1) := by decide +kernel
theorem dL_law_338 : decode cL_law 338 = .ok (.invokevirtual 25, 3) := by decide +kernel
theorem dL_law_341 : decode cL_law 341 = .ok (.aload_n 2, 1) := by decide +kernel
theorem dL_law_342 : decode cL_law 342 = .ok (.aload_n 0, 1) := by decide +kernel
theorem dL_law_343 : decode cL_law 343 = .ok (.iload_n 3, 1) := by decide +kernel
theorem dL_law_344 : decode cL_law 344 = .ok (.iconst 1, 1) := by decide +kernel
theorem dL_law_345 : decode cL_law 345 = .ok (.iadd, 1) := by decide +kernel
theorem dL_law_346 : decode cL_law 346 = .ok (.iaload, 1) := by decide +kernel
theorem dL_law_347 : decode cL_law 347 = .ok (.aload_n 0, 1) := by decide +kernel
theorem dL_law_348 : decode cL_law 348 = .ok (.iload_n 3, 1) := by decide +kernel
theorem dL_law_349 : decode cL_law 349 = .ok (.iconst 2, 1) := by decide +kernel
theorem dL_law_350 : decode cL_law 350 = .ok (.iadd, 1) := by decide +kernel
theorem dL_law_351 : decode cL_law 351 = .ok (.iaload, 1) := by decide +kernel
theorem dL_law_352 : decode cL_law 352 = .ok (.aload_n 0, 1) := by decide +kernel
theorem dL_law_353 : decode cL_law 353 = .ok (.iload_n 3, 1) := by decide +kernel
theorem dL_law_354 : decode cL_law 354 = .ok (.iconst 3, 1) := by decide +kernel
theorem dL_law_355 : decode cL_law 355 = .ok (.iadd, 1) := by decide +kernel
theorem dL_law_356 : decode cL_law 356 = .ok (.iaload, 1) := by decide +kernel
theorem dL_law_357 : decode cL_law 357 = .ok (.aload_n 0, 1) := by decide +kernel
theorem dL_law_358 : decode cL_law 358 = .ok (.iload_n 3, 1) := by decide +kernel
theorem dL_law_359 : decode cL_law 359 = .ok (.iconst 4, 1) := by decide +kernel
theorem dL_law_360 : decode cL_law 360 = .ok (.iadd, 1) := by decide +kernel
theorem dL_law_361 : decode cL_law 361 = .ok (.iaload, 1) := by decide +kernel
theorem dL_law_362 : decode cL_law 362 = .ok (.aload_n 0, 1) := by decide +kernel
theorem dL_law_363 : decode cL_law 363 = .ok (.iload_n 3, 1) := by decide +kernel
theorem dL_law_364 : decode cL_law 364 = .ok (.iconst 5, 1) := by decide +kernel
theorem dL_law_365 : decode cL_law 365 = .ok (.iadd, 1) := by decide +kernel
theorem dL_law_366 : decode cL_law 366 = .ok (.iaload, 1) := by decide +kernel
theorem dL_law_367 : decode cL_law 367 = .ok (.invokevirtual 29, 3) := by decide +kernel
theorem dL_law_370 : decode cL_law 370 = .ok (.if_icmp .eq 999, 3) := by decide +kernel
theorem dL_law_373 : decode cL_law 373 = .ok (.iconst 0, 1) := by decide +kernel
theorem dL_law_374 : decode cL_law 374 = .ok (.ireturn, 1) := by decide +kernel
theorem dL_law_375 : decode cL_law 375 = .ok (.aload_n 1, 1) := by decide +kernel
theorem dL_law_376 : decode cL_law 376 = .ok (.aload_n 0, 1) := by decide +kernel
theorem dL_law_377 : decode cL_law 377 = .ok (.iload_n 3, 1) := by decide +kernel
theorem dL_law_378 : decode cL_law 378 = .ok (.iconst 1, 1) := by decide +kernel
theorem dL_law_379 : decode cL_law 379 = .ok (.iadd, 1) := by decide +kernel
theorem dL_law_380 : decode cL_law 380 = .ok (.iaload, 1) := by decide +kernel
theorem dL_law_381 : decode cL_law 381 = .ok (.aload_n 0, 1) := by decide +kernel
theorem dL_law_382 : decode cL_law 382 = .ok (.iload_n 3, 1) := by decide +kernel
theorem dL_law_383 : decode cL_law 383 = .ok (.iconst 2, 1) := by decide +kernel
theorem dL_law_384 : decode cL_law 384 = .ok (.iadd, 1) := by decide +kernel
theorem dL_law_385 : decode cL_law 385 = .ok (.iaload, 1) := by decide +kernel
theorem dL_law_386 : decode cL_law 386 = .ok (.invokevirtual 30, 3) := by decide +kernel
theorem dL_law_389 : decode cL_law 389 = .ok (.aload_n 2, 1) := by decide +kernel
theorem dL_law_390 : decode cL_law 390 = .ok (.aload_n 0, 1) := by decide +kernel
theorem dL_law_391 : decode cL_law 391 = .ok (.iload_n 3, 1) := by decide +kernel
theorem dL_law_392 : decode cL_law 392 = .ok (.iconst 1, 1) := by decide +kernel
theorem dL_law_393 : decode cL_law 393 = .ok (.iadd, 1) := by decide +kernel
theorem dL_law_394 : decode cL_law 394 = .ok (.iaload, 1) := by decide +kernel
theorem dL_law_395 : decode cL_law 395 = .ok (.aload_n 0, 1) := by decide +kernel
theorem dL_law_396 : decode cL_law 396 = .ok (.iload_n 3, 1) := by decide +kernel
theorem dL_law_397 : decode cL_law 397 = .ok (.iconst 2, 1) := by decide +kernel
theorem dL_law_398 : decode cL_law 398 = .ok (.iadd, 1) := by decide +kernel
theorem dL_law_399 : decode cL_law 399 = .ok (.iaload, 1) := by decide +kernel
theorem dL_law_400 : decode cL_law 400 = .ok (.invokevirtual 34, 3) := by decide +kernel
theorem dL_law_403 : decode cL_law 403 = .ok (.lcmp, 1) := by decide +kernel
theorem dL_law_404 : decode cL_law 404 = .ok (.ifCond .eq 965, 3) := by decide +kernel
theorem dL_law_407 : decode cL_law 407 = .ok (.iconst 0, 1) := by decide +kernel
theorem dL_law_408 : decode cL_law 408 = .ok (.ireturn, 1) := by decide +kernel
theorem dL_law_409 : decode cL_law 409 = .ok (.aload_n 1, 1) := by decide +kernel
theorem dL_law_410 : decode cL_law 410 = .ok (.aload_n 0, 1) := by decide +kernel
theorem dL_law_411 : decode cL_law 411 = .ok (.iload_n 3, 1) := by decide +kernel
theorem dL_law_412 : decode cL_law 412 = .ok (.iconst 1, 1) := by decide +kernel
theorem dL_law_413 : decode cL_law 413 = .ok (.iadd, 1) := by decide +kernel
theorem dL_law_414 : decode cL_law 414 = .ok (.iaload, 1) := by decide +kernel
theorem dL_law_415 : decode cL_law 415 = .ok (.aload_n 0, 1) := by decide +kernel
theorem dL_law_416 : decode cL_law 416 = .ok (.iload_n 3, 1) := by decide +kernel
theorem dL_law_417 : decode cL_law 417 = .ok (.iconst 2, 1) := by decide +kernel
theorem dL_law_418 : decode cL_law 418 = .ok (.iadd, 1) := by decide +kernel
theorem dL_law_419 : decode cL_law 419 = .ok (.iaload, 1) := by decide +kernel
theorem dL_law_420 : decode cL_law 420 = .ok (.invokevirtual 35, 3) := by decide +kernel
theorem dL_law_423 : decode cL_law 423 = .ok (.aload_n 2, 1) := by decide +kernel
theorem dL_law_424 : decode cL_law 424 = .ok (.aload_n 0, 1) := by decide +kernel
theorem dL_law_425 : decode cL_law 425 = .ok (.iload_n 3, 1) := by decide +kernel
theorem dL_law_426 : decode cL_law 426 = .ok (.iconst 1, 1) := by decide +kernel
theorem dL_law_427 : decode cL_law 427 = .ok (.iadd, 1) := by decide +kernel
theorem dL_law_428 : decode cL_law 428 = .ok (.iaload, 1) := by decide +kernel
theorem dL_law_429 : decode cL_law 429 = .ok (.aload_n 0, 1) := by decide +kernel
theorem dL_law_430 : decode cL_law 430 = .ok (.iload_n 3, 1) := by decide +kernel
theorem dL_law_431 : decode cL_law 431 = .ok (.iconst 2, 1) := by decide +kernel
theorem dL_law_432 : decode cL_law 432 = .ok (.iadd, 1) := by decide +kernel
theorem dL_law_433 : decode cL_law 433 = .ok (.iaload, 1) := by decide +kernel
theorem dL_law_434 : decode cL_law 434 = .ok (.invokevirtual 39, 3) := by decide +kernel
theorem dL_law_437 : decode cL_law 437 = .ok (.if_icmp .eq 932, 3) := by decide +kernel
theorem dL_law_440 : decode cL_law 440 = .ok (.iconst 0, 1) := by decide +kernel
theorem dL_law_441 : decode cL_law 441 = .ok (.ireturn, 1) := by decide +kernel
theorem dL_law_442 : decode cL_law 442 = .ok (.aload_n 1, 1) := by decide +kernel
theorem dL_law_443 : decode cL_law 443 = .ok (.aload_n 0, 1) := by decide +kernel
theorem dL_law_444 : decode cL_law 444 = .ok (.iload_n 3, 1) := by decide +kernel
theorem dL_law_445 : decode cL_law 445 = .ok (.iconst 1, 1) := by decide +kernel
theorem dL_law_446 : decode cL_law 446 = .ok (.iadd, 1) := by decide +kernel
theorem dL_law_447 : decode cL_law 447 = .ok (.iaload, 1) := by decide +kernel
theorem dL_law_448 : decode cL_law 448 = .ok (.invokevirtual 40, 3) := by decide +kernel
theorem dL_law_451 : decode cL_law 451 = .ok (.aload_n 2, 1) := by decide +kernel
theorem dL_law_452 : decode cL_law 452 = .ok (.aload_n 0, 1) := by decide +kernel
theorem dL_law_453 : decode cL_law 453 = .ok (.iload_n 3, 1) := by decide +kernel
theorem dL_law_454 : decode cL_law 454 = .ok (.iconst 1, 1) := by decide +kernel
theorem dL_law_455 : decode cL_law 455 = .ok (.iadd, 1) := by decide +kernel
theorem dL_law_456 : decode cL_law 456 = .ok (.iaload, 1) := by decide +kernel
theorem dL_law_457 : decode cL_law 457 = .ok (.invokevirtual 44, 3) := by decide +kernel
theorem dL_law_460 : decode cL_law 460 = .ok (.if_icmp .eq 909, 3) := by decide +kernel
theorem dL_law_463 : decode cL_law 463 = .ok (.iconst 0, 1) := by decide +kernel
theorem dL_law_464 : decode cL_law 464 = .ok (.ireturn, 1) := by decide +kernel
theorem dL_law_465 : decode cL_law 465 = .ok (.aload_n 1, 1) := by decide +kernel
theorem dL_law_466 : decode cL_law 466 = .ok (.aload_n 0, 1) := by decide +kernel
theorem dL_law_467 : decode cL_law 467 = .ok (.iload_n 3, 1) := by decide +kernel
theorem dL_law_468 : decode cL_law 468 = .ok (.iconst 1, 1) := by decide +kernel
theorem dL_law_469 : decode cL_law 469 = .ok (.iadd, 1) := by decide +kernel
theorem dL_law_470 : decode cL_law 470 = .ok (.iaload, 1) := by decide +kernel
theorem dL_law_471 : decode cL_law 471 = .ok (.aload_n 0, 1) := by decide +kernel
theorem dL_law_472 : decode cL_law 472 = .ok (.iload_n 3, 1) := by decide +kernel
theorem dL_law_473 : decode cL_law 473 = .ok (.iconst 2, 1) := by decide +kernel
theorem dL_law_474 : decode cL_law 474 = .ok (.iadd, 1) := by decide +kernel
theorem dL_law_475 : decode cL_law 475 = .ok (.iaload, 1) := by decide +kernel
theorem dL_law_476 : decode cL_law 476 = .ok (.invokevirtual 45, 3) := by decide +kernel
theorem dL_law_479 : decode cL_law 479 = .ok (.aload_n 2, 1) := by decide +kernel
theorem dL_law_480 : decode cL_law 480 = .ok (.aload_n 0, 1) := by decide +kernel
theorem dL_law_481 : decode cL_law 481 = .ok (.iload_n 3, 1) := by decide +kernel
theorem dL_law_482 : decode cL_law 482 = .ok (.iconst 1, 1) := by decide +kernel
theorem dL_law_483 : decode cL_law 483 = .ok (.iadd, 1) := by decide +kernel
theorem dL_law_484 : decode cL_law 484 = .ok (.iaload, 1) := by decide +kernel
theorem dL_law_485 : decode cL_law 485 = .ok (.aload_n 0, 1) := by decide +kernel
theorem dL_law_486 : decode cL_law 486 = .ok (.iload_n 3, 1) := by decide +kernel
theorem dL_law_487 : decode cL_law 487 = .ok (.iconst 2, 1) := by decide +kernel
theorem dL_law_488 : decode cL_law 488 = .ok (.iadd, 1) := by decide +kernel
theorem dL_law_489 : decode cL_law 489 = .ok (.iaload, 1) := by decide +kernel
theorem dL_law_490 : decode cL_law 490 = .ok (.invokevirtual 48, 3) := by decide +kernel
theorem dL_law_493 : decode cL_law 493 = .ok (.if_icmp .eq 876, 3) := by decide +kernel
theorem dL_law_496 : decode cL_law 496 = .ok (.iconst 0, 1) := by decide +kernel
theorem dL_law_497 : decode cL_law 497 = .ok (.ireturn, 1) := by decide +kernel
theorem dL_law_498 : decode cL_law 498 = .ok (.aload_n 1, 1) := by decide +kernel
theorem dL_law_499 : decode cL_law 499 = .ok (.aload_n 0, 1) := by decide +kernel
theorem dL_law_500 : decode cL_law 500 = .ok (.iload_n 3, 1) := by decide +kernel
theorem dL_law_501 : decode cL_law 501 = .ok (.iconst 1, 1) := by decide +kernel
theorem dL_law_502 : decode cL_law 502 = .ok (.iadd, 1) := by decide +kernel
theorem dL_law_503 : decode cL_law 503 = .ok (.iaload, 1) := by decide +kernel
theorem dL_law_504 : decode cL_law 504 = .ok (.aload_n 0, 1) := by decide +kernel
theorem dL_law_505 : decode cL_law 505 = .ok (.iload_n 3, 1) := by decide +kernel
theorem dL_law_506 : decode cL_law 506 = .ok (.iconst 2, 1) := by decide +kernel
theorem dL_law_507 : decode cL_law 507 = .ok (.iadd, 1) := by decide +kernel
theorem dL_law_508 : decode cL_law 508 = .ok (.iaload, 1) := by decide +kernel
theorem dL_law_509 : decode cL_law 509 = .ok (.aload_n 0, 1) := by decide +kernel
theorem dL_law_510 : decode cL_law 510 = .ok (.iload_n 3, 1) := by decide +kernel
theorem dL_law_511 : decode cL_law 511 = .ok (.iconst 3, 1) := by decide +kernel
theorem dL_law_512 : decode cL_law 512 = .ok (.iadd, 1) := by decide +kernel
theorem dL_law_513 : decode cL_law 513 = .ok (.iaload, 1) := by decide +kernel
theorem dL_law_514 : decode cL_law 514 = .ok (.aload_n 0, 1) := by decide +kernel
theorem dL_law_515 : decode cL_law 515 = .ok (.iload_n 3, 1) := by decide +kernel
theorem dL_law_516 : decode cL_law 516 = .ok (.iconst 4, 1) := by decide +kernel
theorem dL_law_517 : decode cL_law 517 = .ok (.iadd, 1) := by decide +kernel
theorem dL_law_518 : decode cL_law 518 = .ok (.iaload, 1) := by decide +kernel
theorem dL_law_519 : decode cL_law 519 = .ok (.invokevirtual 49, 3) := by decide +kernel
theorem dL_law_522 : decode cL_law 522 = .ok (.aload_n 2, 1) := by decide +kernel
theorem dL_law_523 : decode cL_law 523 = .ok (.aload_n 0, 1) := by decide +kernel
theorem dL_law_524 : decode cL_law 524 = .ok (.iload_n 3, 1) := by decide +kernel
theorem dL_law_525 : decode cL_law 525 = .ok (.iconst 1, 1) := by decide +kernel
theorem dL_law_526 : decode cL_law 526 = .ok (.iadd, 1) := by decide +kernel
theorem dL_law_527 : decode cL_law 527 = .ok (.iaload, 1) := by decide +kernel
theorem dL_law_528 : decode cL_law 528 = .ok (.aload_n 0, 1) := by decide +kernel
theorem dL_law_529 : decode cL_law 529 = .ok (.iload_n 3, 1) := by decide +kernel
theorem dL_law_530 : decode cL_law 530 = .ok (.iconst 2, 1) := by decide +kernel
theorem dL_law_531 : decode cL_law 531 = .ok (.iadd, 1) := by decide +kernel
theorem dL_law_532 : decode cL_law 532 = .ok (.iaload, 1) := by decide +kernel
theorem dL_law_533 : decode cL_law 533 = .ok (.aload_n 0, 1) := by decide +kernel
theorem dL_law_534 : decode cL_law 534 = .ok (.iload_n 3, 1) := by decide +kernel
theorem dL_law_535 : decode cL_law 535 = .ok (.iconst 3, 1) := by decide +kernel
theorem dL_law_536 : decode cL_law 536 = .ok (.iadd, 1) := by decide +kernel
theorem dL_law_537 : decode cL_law 537 = .ok (.iaload, 1) := by decide +kernel
theorem dL_law_538 : decode cL_law 538 = .ok (.aload_n 0, 1) := by decide +kernel
theorem dL_law_539 : decode cL_law 539 = .ok (.iload_n 3, 1) := by decide +kernel
theorem dL_law_540 : decode cL_law 540 = .ok (.iconst 4, 1) := by decide +kernel
theorem dL_law_541 : decode cL_law 541 = .ok (.iadd, 1) := by decide +kernel
theorem dL_law_542 : decode cL_law 542 = .ok (.iaload, 1) := by decide +kernel
theorem dL_law_543 : decode cL_law 543 = .ok (.invokevirtual 53, 3) := by decide +kernel
theorem dL_law_546 : decode cL_law 546 = .ok (.if_icmp .eq 823, 3) := by decide +kernel
theorem dL_law_549 : decode cL_law 549 = .ok (.iconst 0, 1) := by decide +kernel
theorem dL_law_550 : decode cL_law 550 = .ok (.ireturn, 1) := by decide +kernel
theorem dL_law_551 : decode cL_law 551 = .ok (.aload_n 1, 1) := by decide +kernel
theorem dL_law_552 : decode cL_law 552 = .ok (.aload_n 0, 1) := by decide +kernel
theorem dL_law_553 : decode cL_law 553 = .ok (.iload_n 3, 1) := by decide +kernel
theorem dL_law_554 : decode cL_law 554 = .ok (.iconst 1, 1) := by decide +kernel
theorem dL_law_555 : decode cL_law 555 = .ok (.iadd, 1) := by decide +kernel
theorem dL_law_556 : decode cL_law 556 = .ok (.iaload, 1) := by decide +kernel
theorem dL_law_557 : decode cL_law 557 = .ok (.invokevirtual 54, 3) := by decide +kernel
theorem dL_law_560 : decode cL_law 560 = .ok (.aload_n 2, 1) := by decide +kernel
theorem dL_law_561 : decode cL_law 561 = .ok (.aload_n 0, 1) := by decide +kernel
theorem dL_law_562 : decode cL_law 562 = .ok (.iload_n 3, 1) := by decide +kernel
theorem dL_law_563 : decode cL_law 563 = .ok (.iconst 1, 1) := by decide +kernel
theorem dL_law_564 : decode cL_law 564 = .ok (.iadd, 1) := by decide +kernel
theorem dL_law_565 : decode cL_law 565 = .ok (.iaload, 1) := by decide +kernel
theorem dL_law_566 : decode cL_law 566 = .ok (.invokevirtual 57, 3) := by decide +kernel
theorem dL_law_569 : decode cL_law 569 = .ok (.if_icmp .eq 800, 3) := by decide +kernel
theorem dL_law_572 : decode cL_law 572 = .ok (.iconst 0, 1) := by decide +kernel
theorem dL_law_573 : decode cL_law 573 = .ok (.ireturn, 1) := by decide +kernel
theorem dL_law_574 : decode cL_law 574 = .ok (.aload_n 1, 1) := by decide +kernel
theorem dL_law_575 : decode cL_law 575 = .ok (.invokevirtual 58, 3) := by decide +kernel
theorem dL_law_578 : decode cL_law 578 = .ok (.aload_n 2, 1) := by decide +kernel
theorem dL_law_579 : decode cL_law 579 = .ok (.invokevirtual 62, 3) := by decide +kernel
theorem dL_law_582 : decode cL_law 582 = .ok (.if_icmp .eq 787, 3) := by decide +kernel
theorem dL_law_585 : decode cL_law 585 = .ok (.iconst 0, 1) := by decide +kernel
theorem dL_law_586 : decode cL_law 586 = .ok (.ireturn, 1) := by decide +kernel
theorem dL_law_587 : decode cL_law 587 = .ok (.aload_n 1, 1) := by decide +kernel
theorem dL_law_588 : decode cL_law 588 = .ok (.aload_n 0, 1) := by decide +kernel
theorem dL_law_589 : decode cL_law 589 = .ok (.iload_n 3, 1) := by decide +kernel
theorem dL_law_590 : decode cL_law 590 = .ok (.iconst 1, 1) := by decide +kernel
theorem dL_law_591 : decode cL_law 591 = .ok (.iadd, 1) := by decide +kernel
theorem dL_law_592 : decode cL_law 592 = .ok (.iaload, 1) := by decide +kernel
theorem dL_law_593 : decode cL_law 593 = .ok (.invokevirtual 63, 3) := by decide +kernel
theorem dL_law_596 : decode cL_law 596 = .ok (.aload_n 2, 1) := by decide +kernel
theorem dL_law_597 : decode cL_law 597 = .ok (.aload_n 0, 1) := by decide +kernel
theorem dL_law_598 : decode cL_law 598 = .ok (.iload_n 3, 1) := by decide +kernel
theorem dL_law_599 : decode cL_law 599 = .ok (.iconst 1, 1) := by decide +kernel
theorem dL_law_600 : decode cL_law 600 = .ok (.iadd, 1) := by decide +kernel
theorem dL_law_601 : decode cL_law 601 = .ok (.iaload, 1) := by decide +kernel
theorem dL_law_602 : decode cL_law 602 = .ok (.invokevirtual 66, 3) := by decide +kernel
theorem dL_law_605 : decode cL_law 605 = .ok (.if_icmp .eq 764, 3) := by decide +kernel
theorem dL_law_608 : decode cL_law 608 = .ok (.iconst 0, 1) := by decide +kernel
theorem dL_law_609 : decode cL_law 609 = .ok (.ireturn, 1) := by decide +kernel
theorem dL_law_610 : decode cL_law 610 = .ok (.aload_n 1, 1) := by decide +kernel
theorem dL_law_611 : decode cL_law 611 = .ok (.aload_n 0, 1) := by decide +kernel
theorem dL_law_612 : decode cL_law 612 = .ok (.iload_n 3, 1) := by decide +kernel
theorem dL_law_613 : decode cL_law 613 = .ok (.iconst 1, 1) := by decide +kernel
theorem dL_law_614 : decode cL_law 614 = .ok (.iadd, 1) := by decide +kernel
theorem dL_law_615 : decode cL_law 615 = .ok (.iaload, 1) := by decide +kernel
theorem dL_law_616 : decode cL_law 616 = .ok (.aload_n 0, 1) := by decide +kernel
theorem dL_law_617 : decode cL_law 617 = .ok (.iload_n 3, 1) := by decide +kernel
theorem dL_law_618 : decode cL_law 618 = .ok (.iconst 2, 1) := by decide +kernel
theorem dL_law_619 : decode cL_law 619 = .ok (.iadd, 1) := by decide +kernel
theorem dL_law_620 : decode cL_law 620 = .ok (.iaload, 1) := by decide +kernel
theorem dL_law_621 : decode cL_law 621 = .ok (.aload_n 0, 1) := by decide +kernel
theorem dL_law_622 : decode cL_law 622 = .ok (.iload_n 3, 1) := by decide +kernel
theorem dL_law_623 : decode cL_law 623 = .ok (.iconst 3, 1) := by decide +kernel
theorem dL_law_624 : decode cL_law 624 = .ok (.iadd, 1) := by decide +kernel
theorem dL_law_625 : decode cL_law 625 = .ok (.iaload, 1) := by decide +kernel
theorem dL_law_626 : decode cL_law 626 = .ok (.invokevirtual 67, 3) := by decide +kernel
theorem dL_law_629 : decode cL_law 629 = .ok (.aload_n 2, 1) := by decide +kernel
theorem dL_law_630 : decode cL_law 630 = .ok (.aload_n 0, 1) := by decide +kernel
theorem dL_law_631 : decode cL_law 631 = .ok (.iload_n 3, 1) := by decide +kernel
theorem dL_law_632 : decode cL_law 632 = .ok (.iconst 1, 1) := by decide +kernel
theorem dL_law_633 : decode cL_law 633 = .ok (.iadd, 1) := by decide +kernel
theorem dL_law_634 : decode cL_law 634 = .ok (.iaload, 1) := by decide +kernel
theorem dL_law_635 : decode cL_law 635 = .ok (.aload_n 0, 1) := by decide +kernel
theorem dL_law_636 : decode cL_law 636 = .ok (.iload_n 3, 1) := by decide +kernel
theorem dL_law_637 : decode cL_law 637 = .ok (.iconst 2, 1) := by decide +kernel
theorem dL_law_638 : decode cL_law 638 = .ok (.iadd, 1) := by decide +kernel
theorem dL_law_639 : decode cL_law 639 = .ok (.iaload, 1) := by decide +kernel
theorem dL_law_640 : decode cL_law 640 = .ok (.aload_n 0, 1) := by decide +kernel
theorem dL_law_641 : decode cL_law 641 = .ok (.iload_n 3, 1) := by decide +kernel
theorem dL_law_642 : decode cL_law 642 = .ok (.iconst 3, 1) := by decide +kernel
theorem dL_law_643 : decode cL_law 643 = .ok (.iadd, 1) := by decide +kernel
theorem dL_law_644 : decode cL_law 644 = .ok (.iaload, 1) := by decide +kernel
theorem dL_law_645 : decode cL_law 645 = .ok (.invokevirtual 70, 3) := by decide +kernel
theorem dL_law_648 : decode cL_law 648 = .ok (.if_icmp .eq 721, 3) := by decide +kernel
theorem dL_law_651 : decode cL_law 651 = .ok (.iconst 0, 1) := by decide +kernel
theorem dL_law_652 : decode cL_law 652 = .ok (.ireturn, 1) := by decide +kernel
theorem dL_law_653 : decode cL_law 653 = .ok (.aload_n 1, 1) := by decide +kernel
theorem dL_law_654 : decode cL_law 654 = .ok (.aload_n 0, 1) := by decide +kernel
theorem dL_law_655 : decode cL_law 655 = .ok (.iload_n 3, 1) := by decide +kernel
theorem dL_law_656 : decode cL_law 656 = .ok (.iconst 1, 1) := by decide +kernel
theorem dL_law_657 : decode cL_law 657 = .ok (.iadd, 1) := by decide +kernel
theorem dL_law_658 : decode cL_law 658 = .ok (.iaload, 1) := by decide +kernel
theorem dL_law_659 : decode cL_law 659 = .ok (.aload_n 0, 1) := by decide +kernel
theorem dL_law_660 : decode cL_law 660 = .ok (.iload_n 3, 1) := by decide +kernel
theorem dL_law_661 : decode cL_law 661 = .ok (.iconst 2, 1) := by decide +kernel
theorem dL_law_662 : decode cL_law 662 = .ok (.iadd, 1) := by decide +kernel
theorem dL_law_663 : decode cL_law 663 = .ok (.iaload, 1) := by decide +kernel
theorem dL_law_664 : decode cL_law 664 = .ok (.invokevirtual 71, 3) := by decide +kernel
theorem dL_law_667 : decode cL_law 667 = .ok (.aload_n 2, 1) := by decide +kernel
theorem dL_law_668 : decode cL_law 668 = .ok (.aload_n 0, 1) := by decide +kernel
theorem dL_law_669 : decode cL_law 669 = .ok (.iload_n 3, 1) := by decide +kernel
theorem dL_law_670 : decode cL_law 670 = .ok (.iconst 1, 1) := by decide +kernel
theorem dL_law_671 : decode cL_law 671 = .ok (.iadd, 1) := by decide +kernel
theorem dL_law_672 : decode cL_law 672 = .ok (.iaload, 1) := by decide +kernel
theorem dL_law_673 : decode cL_law 673 = .ok (.aload_n 0, 1) := by decide +kernel
theorem dL_law_674 : decode cL_law 674 = .ok (.iload_n 3, 1) := by decide +kernel
theorem dL_law_675 : decode cL_law 675 = .ok (.iconst 2, 1) := by decide +kernel
theorem dL_law_676 : decode cL_law 676 = .ok (.iadd, 1) := by decide +kernel
theorem dL_law_677 : decode cL_law 677 = .ok (.iaload, 1) := by decide +kernel
theorem dL_law_678 : decode cL_law 678 = .ok (.invokevirtual 74, 3) := by decide +kernel
theorem dL_law_681 : decode cL_law 681 = .ok (.if_icmp .eq 688, 3) := by decide +kernel
theorem dL_law_684 : decode cL_law 684 = .ok (.iconst 0, 1) := by decide +kernel
theorem dL_law_685 : decode cL_law 685 = .ok (.ireturn, 1) := by decide +kernel
theorem dL_law_686 : decode cL_law 686 = .ok (.aload_n 1, 1) := by decide +kernel
theorem dL_law_687 : decode cL_law 687 = .ok (.aload_n 0, 1) := by decide +kernel
theorem dL_law_688 : decode cL_law 688 = .ok (.iload_n 3, 1) := by decide +kernel
theorem dL_law_689 : decode cL_law 689 = .ok (.iconst 1, 1) := by decide +kernel
theorem dL_law_690 : decode cL_law 690 = .ok (.iadd, 1) := by decide +kernel
theorem dL_law_691 : decode cL_law 691 = .ok (.iaload, 1) := by decide +kernel
theorem dL_law_692 : decode cL_law 692 = .ok (.aload_n 0, 1) := by decide +kernel
theorem dL_law_693 : decode cL_law 693 = .ok (.iload_n 3, 1) := by decide +kernel
theorem dL_law_694 : decode cL_law 694 = .ok (.iconst 2, 1) := by decide +kernel
theorem dL_law_695 : decode cL_law 695 = .ok (.iadd, 1) := by decide +kernel
theorem dL_law_696 : decode cL_law 696 = .ok (.iaload, 1) := by decide +kernel
theorem dL_law_697 : decode cL_law 697 = .ok (.aload_n 0, 1) := by decide +kernel
theorem dL_law_698 : decode cL_law 698 = .ok (.iload_n 3, 1) := by decide +kernel
theorem dL_law_699 : decode cL_law 699 = .ok (.iconst 3, 1) := by decide +kernel
theorem dL_law_700 : decode cL_law 700 = .ok (.iadd, 1) := by decide +kernel
theorem dL_law_701 : decode cL_law 701 = .ok (.iaload, 1) := by decide +kernel
theorem dL_law_702 : decode cL_law 702 = .ok (.invokevirtual 75, 3) := by decide +kernel
theorem dL_law_705 : decode cL_law 705 = .ok (.aload_n 2, 1) := by decide +kernel
theorem dL_law_706 : decode cL_law 706 = .ok (.aload_n 0, 1) := by decide +kernel
theorem dL_law_707 : decode cL_law 707 = .ok (.iload_n 3, 1) := by decide +kernel
theorem dL_law_708 : decode cL_law 708 = .ok (.iconst 1, 1) := by decide +kernel
theorem dL_law_709 : decode cL_law 709 = .ok (.iadd, 1) := by decide +kernel
theorem dL_law_710 : decode cL_law 710 = .ok (.iaload, 1) := by decide +kernel
theorem dL_law_711 : decode cL_law 711 = .ok (.aload_n 0, 1) := by decide +kernel
theorem dL_law_712 : decode cL_law 712 = .ok (.iload_n 3, 1) := by decide +kernel
theorem dL_law_713 : decode cL_law 713 = .ok (.iconst 2, 1) := by decide +kernel
theorem dL_law_714 : decode cL_law 714 = .ok (.iadd, 1) := by decide +kernel
theorem dL_law_715 : decode cL_law 715 = .ok (.iaload, 1) := by decide +kernel
theorem dL_law_716 : decode cL_law 716 = .ok (.aload_n 0, 1) := by decide +kernel
theorem dL_law_717 : decode cL_law 717 = .ok (.iload_n 3, 1) := by decide +kernel
theorem dL_law_718 : decode cL_law 718 = .ok (.iconst 3, 1) := by decide +kernel
theorem dL_law_719 : decode cL_law 719 = .ok (.iadd, 1) := by decide +kernel
theorem dL_law_720 : decode cL_law 720 = .ok (.iaload, 1) := by decide +kernel
theorem dL_law_721 : decode cL_law 721 = .ok (.invokevirtual 78, 3) := by decide +kernel
theorem dL_law_724 : decode cL_law 724 = .ok (.if_icmp .eq 645, 3) := by decide +kernel
theorem dL_law_727 : decode cL_law 727 = .ok (.iconst 0, 1) := by decide +kernel
theorem dL_law_728 : decode cL_law 728 = .ok (.ireturn, 1) := by decide +kernel
theorem dL_law_729 : decode cL_law 729 = .ok (.aload_n 1, 1) := by decide +kernel
theorem dL_law_730 : decode cL_law 730 = .ok (.aload_n 0, 1) := by decide +kernel
theorem dL_law_731 : decode cL_law 731 = .ok (.iload_n 3, 1) := by decide +kernel
theorem dL_law_732 : decode cL_law 732 = .ok (.iconst 1, 1) := by decide +kernel
theorem dL_law_733 : decode cL_law 733 = .ok (.iadd, 1) := by decide +kernel
theorem dL_law_734 : decode cL_law 734 = .ok (.iaload, 1) := by decide +kernel
theorem dL_law_735 : decode cL_law 735 = .ok (.aload_n 0, 1) := by decide +kernel
theorem dL_law_736 : decode cL_law 736 = .ok (.iload_n 3, 1) := by decide +kernel
theorem dL_law_737 : decode cL_law 737 = .ok (.iconst 2, 1) := by decide +kernel
theorem dL_law_738 : decode cL_law 738 = .ok (.iadd, 1) := by decide +kernel
theorem dL_law_739 : decode cL_law 739 = .ok (.iaload, 1) := by decide +kernel
theorem dL_law_740 : decode cL_law 740 = .ok (.aload_n 0, 1) := by decide +kernel
theorem dL_law_741 : decode cL_law 741 = .ok (.iload_n 3, 1) := by decide +kernel
theorem dL_law_742 : decode cL_law 742 = .ok (.iconst 3, 1) := by decide +kernel
theorem dL_law_743 : decode cL_law 743 = .ok (.iadd, 1) := by decide +kernel
theorem dL_law_744 : decode cL_law 744 = .ok (.iaload, 1) := by decide +kernel
theorem dL_law_745 : decode cL_law 745 = .ok (.invokevirtual 79, 3) := by decide +kernel
theorem dL_law_748 : decode cL_law 748 = .ok (.aload_n 2, 1) := by decide +kernel
theorem dL_law_749 : decode cL_law 749 = .ok (.aload_n 0, 1) := by decide +kernel
theorem dL_law_750 : decode cL_law 750 = .ok (.iload_n 3, 1) := by decide +kernel
theorem dL_law_751 : decode cL_law 751 = .ok (.iconst 1, 1) := by decide +kernel
theorem dL_law_752 : decode cL_law 752 = .ok (.iadd, 1) := by decide +kernel
theorem dL_law_753 : decode cL_law 753 = .ok (.iaload, 1) := by decide +kernel
theorem dL_law_754 : decode cL_law 754 = .ok (.aload_n 0, 1) := by decide +kernel
theorem dL_law_755 : decode cL_law 755 = .ok (.iload_n 3, 1) := by decide +kernel
theorem dL_law_756 : decode cL_law 756 = .ok (.iconst 2, 1) := by decide +kernel
theorem dL_law_757 : decode cL_law 757 = .ok (.iadd, 1) := by decide +kernel
theorem dL_law_758 : decode cL_law 758 = .ok (.iaload, 1) := by decide +kernel
theorem dL_law_759 : decode cL_law 759 = .ok (.aload_n 0, 1) := by decide +kernel
theorem dL_law_760 : decode cL_law 760 = .ok (.iload_n 3, 1) := by decide +kernel
theorem dL_law_761 : decode cL_law 761 = .ok (.iconst 3, 1) := by decide +kernel
theorem dL_law_762 : decode cL_law 762 = .ok (.iadd, 1) := by decide +kernel
theorem dL_law_763 : decode cL_law 763 = .ok (.iaload, 1) := by decide +kernel
theorem dL_law_764 : decode cL_law 764 = .ok (.invokevirtual 82, 3) := by decide +kernel
theorem dL_law_767 : decode cL_law 767 = .ok (.if_icmp .eq 602, 3) := by decide +kernel
theorem dL_law_770 : decode cL_law 770 = .ok (.iconst 0, 1) := by decide +kernel
theorem dL_law_771 : decode cL_law 771 = .ok (.ireturn, 1) := by decide +kernel
theorem dL_law_772 : decode cL_law 772 = .ok (.aload_n 1, 1) := by decide +kernel
theorem dL_law_773 : decode cL_law 773 = .ok (.aload_n 0, 1) := by decide +kernel
theorem dL_law_774 : decode cL_law 774 = .ok (.iload_n 3, 1) := by decide +kernel
theorem dL_law_775 : decode cL_law 775 = .ok (.iconst 1, 1) := by decide +kernel
theorem dL_law_776 : decode cL_law 776 = .ok (.iadd, 1) := by decide +kernel
theorem dL_law_777 : decode cL_law 777 = .ok (.iaload, 1) := by decide +kernel
theorem dL_law_778 : decode cL_law 778 = .ok (.invokevirtual 83, 3) := by decide +kernel
theorem dL_law_781 : decode cL_law 781 = .ok (.aload_n 2, 1) := by decide +kernel
theorem dL_law_782 : decode cL_law 782 = .ok (.aload_n 0, 1) := by decide +kernel
theorem dL_law_783 : decode cL_law 783 = .ok (.iload_n 3, 1) := by decide +kernel
theorem dL_law_784 : decode cL_law 784 = .ok (.iconst 1, 1) := by decide +kernel
theorem dL_law_785 : decode cL_law 785 = .ok (.iadd, 1) := by decide +kernel
theorem dL_law_786 : decode cL_law 786 = .ok (.iaload, 1) := by decide +kernel
theorem dL_law_787 : decode cL_law 787 = .ok (.invokevirtual 86, 3) := by decide +kernel
theorem dL_law_790 : decode cL_law 790 = .ok (.if_icmp .eq 579, 3) := by decide +kernel
theorem dL_law_793 : decode cL_law 793 = .ok (.iconst 0, 1) := by decide +kernel
theorem dL_law_794 : decode cL_law 794 = .ok (.ireturn, 1) := by decide +kernel
theorem dL_law_795 : decode cL_law 795 = .ok (.aload_n 1, 1) := by decide +kernel
theorem dL_law_796 : decode cL_law 796 = .ok (.aload_n 0, 1) := by decide +kernel
theorem dL_law_797 : decode cL_law 797 = .ok (.iload_n 3, 1) := by decide +kernel
theorem dL_law_798 : decode cL_law 798 = .ok (.iconst 1, 1) := by decide +kernel
theorem dL_law_799 : decode cL_law 799 = .ok (.iadd, 1) := by decide +kernel
theorem dL_law_800 : decode cL_law 800 = .ok (.iaload, 1) := by decide +kernel
theorem dL_law_801 : decode cL_law 801 = .ok (.aload_n 0, 1) := by decide +kernel
theorem dL_law_802 : decode cL_law 802 = .ok (.iload_n 3, 1) := by decide +kernel
theorem dL_law_803 : decode cL_law 803 = .ok (.iconst 2, 1) := by decide +kernel
theorem dL_law_804 : decode cL_law 804 = .ok (.iadd, 1) := by decide +kernel
theorem dL_law_805 : decode cL_law 805 = .ok (.iaload, 1) := by decide +kernel
theorem dL_law_806 : decode cL_law 806 = .ok (.aload_n 0, 1) := by decide +kernel
theorem dL_law_807 : decode cL_law 807 = .ok (.iload_n 3, 1) := by decide +kernel
theorem dL_law_808 : decode cL_law 808 = .ok (.iconst 3, 1) := by decide +kernel
theorem dL_law_809 : decode cL_law 809 = .ok (.iadd, 1) := by decide +kernel
theorem dL_law_810 : decode cL_law 810 = .ok (.iaload, 1) := by decide +kernel
theorem dL_law_811 : decode cL_law 811 = .ok (.invokevirtual 87, 3) := by decide +kernel
theorem dL_law_814 : decode cL_law 814 = .ok (.aload_n 2, 1) := by decide +kernel
theorem dL_law_815 : decode cL_law 815 = .ok (.aload_n 0, 1) := by decide +kernel
theorem dL_law_816 : decode cL_law 816 = .ok (.iload_n 3, 1) := by decide +kernel
theorem dL_law_817 : decode cL_law 817 = .ok (.iconst 1, 1) := by decide +kernel
theorem dL_law_818 : decode cL_law 818 = .ok (.iadd, 1) := by decide +kernel
theorem dL_law_819 : decode cL_law 819 = .ok (.iaload, 1) := by decide +kernel
theorem dL_law_820 : decode cL_law 820 = .ok (.aload_n 0, 1) := by decide +kernel
theorem dL_law_821 : decode cL_law 821 = .ok (.iload_n 3, 1) := by decide +kernel
theorem dL_law_822 : decode cL_law 822 = .ok (.iconst 2, 1) := by decide +kernel
theorem dL_law_823 : decode cL_law 823 = .ok (.iadd, 1) := by decide +kernel
theorem dL_law_824 : decode cL_law 824 = .ok (.iaload, 1) := by decide +kernel
theorem dL_law_825 : decode cL_law 825 = .ok (.aload_n 0, 1) := by decide +kernel
theorem dL_law_826 : decode cL_law 826 = .ok (.iload_n 3, 1) := by decide +kernel
theorem dL_law_827 : decode cL_law 827 = .ok (.iconst 3, 1) := by decide +kernel
theorem dL_law_828 : decode cL_law 828 = .ok (.iadd, 1) := by decide +kernel
theorem dL_law_829 : decode cL_law 829 = .ok (.iaload, 1) := by decide +kernel
theorem dL_law_830 : decode cL_law 830 = .ok (.invokevirtual 90, 3) := by decide +kernel
theorem dL_law_833 : decode cL_law 833 = .ok (.if_icmp .eq 536, 3) := by decide +kernel
theorem dL_law_836 : decode cL_law 836 = .ok (.iconst 0, 1) := by decide +kernel
theorem dL_law_837 : decode cL_law 837 = .ok (.ireturn, 1) := by decide +kernel
theorem dL_law_838 : decode cL_law 838 = .ok (.aload_n 1, 1) := by decide +kernel
theorem dL_law_839 : decode cL_law 839 = .ok (.aload_n 0, 1) := by decide +kernel
theorem dL_law_840 : decode cL_law 840 = .ok (.iload_n 3, 1) := by decide +kernel
theorem dL_law_841 : decode cL_law 841 = .ok (.iconst 1, 1) := by decide +kernel
theorem dL_law_842 : decode cL_law 842 = .ok (.iadd, 1) := by decide +kernel
theorem dL_law_843 : decode cL_law 843 = .ok (.iaload, 1) := by decide +kernel
theorem dL_law_844 : decode cL_law 844 = .ok (.aload_n 0, 1) := by decide +kernel
theorem dL_law_845 : decode cL_law 845 = .ok (.iload_n 3, 1) := by decide +kernel
theorem dL_law_846 : decode cL_law 846 = .ok (.iconst 2, 1) := by decide +kernel
theorem dL_law_847 : decode cL_law 847 = .ok (.iadd, 1) := by decide +kernel
theorem dL_law_848 : decode cL_law 848 = .ok (.iaload, 1) := by decide +kernel
theorem dL_law_849 : decode cL_law 849 = .ok (.aload_n 0, 1) := by decide +kernel
theorem dL_law_850 : decode cL_law 850 = .ok (.iload_n 3, 1) := by decide +kernel
theorem dL_law_851 : decode cL_law 851 = .ok (.iconst 3, 1) := by decide +kernel
theorem dL_law_852 : decode cL_law 852 = .ok (.iadd, 1) := by decide +kernel
theorem dL_law_853 : decode cL_law 853 = .ok (.iaload, 1) := by decide +kernel
theorem dL_law_854 : decode cL_law 854 = .ok (.invokevirtual 91, 3) := by decide +kernel
theorem dL_law_857 : decode cL_law 857 = .ok (.aload_n 2, 1) := by decide +kernel
theorem dL_law_858 : decode cL_law 858 = .ok (.aload_n 0, 1) := by decide +kernel
theorem dL_law_859 : decode cL_law 859 = .ok (.iload_n 3, 1) := by decide +kernel
theorem dL_law_860 : decode cL_law 860 = .ok (.iconst 1, 1) := by decide +kernel
theorem dL_law_861 : decode cL_law 861 = .ok (.iadd, 1) := by decide +kernel
theorem dL_law_862 : decode cL_law 862 = .ok (.iaload, 1) := by decide +kernel
theorem dL_law_863 : decode cL_law 863 = .ok (.aload_n 0, 1) := by decide +kernel
theorem dL_law_864 : decode cL_law 864 = .ok (.iload_n 3, 1) := by decide +kernel
theorem dL_law_865 : decode cL_law 865 = .ok (.iconst 2, 1) := by decide +kernel
theorem dL_law_866 : decode cL_law 866 = .ok (.iadd, 1) := by decide +kernel
theorem dL_law_867 : decode cL_law 867 = .ok (.iaload, 1) := by decide +kernel
theorem dL_law_868 : decode cL_law 868 = .ok (.aload_n 0, 1) := by decide +kernel
theorem dL_law_869 : decode cL_law 869 = .ok (.iload_n 3, 1) := by decide +kernel
theorem dL_law_870 : decode cL_law 870 = .ok (.iconst 3, 1) := by decide +kernel
theorem dL_law_871 : decode cL_law 871 = .ok (.iadd, 1) := by decide +kernel
theorem dL_law_872 : decode cL_law 872 = .ok (.iaload, 1) := by decide +kernel
theorem dL_law_873 : decode cL_law 873 = .ok (.invokevirtual 94, 3) := by decide +kernel
theorem dL_law_876 : decode cL_law 876 = .ok (.if_icmp .eq 493, 3) := by decide +kernel
theorem dL_law_879 : decode cL_law 879 = .ok (.iconst 0, 1) := by decide +kernel
theorem dL_law_880 : decode cL_law 880 = .ok (.ireturn, 1) := by decide +kernel
theorem dL_law_881 : decode cL_law 881 = .ok (.aload_n 1, 1) := by decide +kernel
theorem dL_law_882 : decode cL_law 882 = .ok (.aload_n 0, 1) := by decide +kernel
theorem dL_law_883 : decode cL_law 883 = .ok (.iload_n 3, 1) := by decide +kernel
theorem dL_law_884 : decode cL_law 884 = .ok (.iconst 1, 1) := by decide +kernel
theorem dL_law_885 : decode cL_law 885 = .ok (.iadd, 1) := by decide +kernel
theorem dL_law_886 : decode cL_law 886 = .ok (.iaload, 1) := by decide +kernel
theorem dL_law_887 : decode cL_law 887 = .ok (.aload_n 0, 1) := by decide +kernel
theorem dL_law_888 : decode cL_law 888 = .ok (.iload_n 3, 1) := by decide +kernel
theorem dL_law_889 : decode cL_law 889 = .ok (.iconst 2, 1) := by decide +kernel
theorem dL_law_890 : decode cL_law 890 = .ok (.iadd, 1) := by decide +kernel
theorem dL_law_891 : decode cL_law 891 = .ok (.iaload, 1) := by decide +kernel
theorem dL_law_892 : decode cL_law 892 = .ok (.invokevirtual 95, 3) := by decide +kernel
theorem dL_law_895 : decode cL_law 895 = .ok (.aload_n 2, 1) := by decide +kernel
theorem dL_law_896 : decode cL_law 896 = .ok (.aload_n 0, 1) := by decide +kernel
theorem dL_law_897 : decode cL_law 897 = .ok (.iload_n 3, 1) := by decide +kernel
theorem dL_law_898 : decode cL_law 898 = .ok (.iconst 1, 1) := by decide +kernel
theorem dL_law_899 : decode cL_law 899 = .ok (.iadd, 1) := by decide +kernel
theorem dL_law_900 : decode cL_law 900 = .ok (.iaload, 1) := by decide +kernel
theorem dL_law_901 : decode cL_law 901 = .ok (.aload_n 0, 1) := by decide +kernel
theorem dL_law_902 : decode cL_law 902 = .ok (.iload_n 3, 1) := by decide +kernel
theorem dL_law_903 : decode cL_law 903 = .ok (.iconst 2, 1) := by decide +kernel
theorem dL_law_904 : decode cL_law 904 = .ok (.iadd, 1) := by decide +kernel
theorem dL_law_905 : decode cL_law 905 = .ok (.iaload, 1) := by decide +kernel
theorem dL_law_906 : decode cL_law 906 = .ok (.invokevirtual 98, 3) := by decide +kernel
theorem dL_law_909 : decode cL_law 909 = .ok (.if_icmp .eq 460, 3) := by decide +kernel
theorem dL_law_912 : decode cL_law 912 = .ok (.iconst 0, 1) := by decide +kernel
theorem dL_law_913 : decode cL_law 913 = .ok (.ireturn, 1) := by decide +kernel
theorem dL_law_914 : decode cL_law 914 = .ok (.aload_n 1, 1) := by decide +kernel
theorem dL_law_915 : decode cL_law 915 = .ok (.invokevirtual 99, 3) := by decide +kernel
theorem dL_law_918 : decode cL_law 918 = .ok (.aload_n 2, 1) := by decide +kernel
theorem dL_law_919 : decode cL_law 919 = .ok (.invokevirtual 102, 3) := by decide +kernel
theorem dL_law_922 : decode cL_law 922 = .ok (.if_icmp .eq 447, 3) := by decide +kernel
theorem dL_law_925 : decode cL_law 925 = .ok (.iconst 0, 1) := by decide +kernel
theorem dL_law_926 : decode cL_law 926 = .ok (.ireturn, 1) := by decide +kernel
theorem dL_law_927 : decode cL_law 927 = .ok (.aload_n 1, 1) := by decide +kernel
theorem dL_law_928 : decode cL_law 928 = .ok (.aload_n 0, 1) := by decide +kernel
theorem dL_law_929 : decode cL_law 929 = .ok (.iload_n 3, 1) := by decide +kernel
theorem dL_law_930 : decode cL_law 930 = .ok (.iconst 1, 1) := by decide +kernel
theorem dL_law_931 : decode cL_law 931 = .ok (.iadd, 1) := by decide +kernel
theorem dL_law_932 : decode cL_law 932 = .ok (.iaload, 1) := by decide +kernel
theorem dL_law_933 : decode cL_law 933 = .ok (.aload_n 0, 1) := by decide +kernel
theorem dL_law_934 : decode cL_law 934 = .ok (.iload_n 3, 1) := by decide +kernel
theorem dL_law_935 : decode cL_law 935 = .ok (.iconst 2, 1) := by decide +kernel
theorem dL_law_936 : decode cL_law 936 = .ok (.iadd, 1) := by decide +kernel
theorem dL_law_937 : decode cL_law 937 = .ok (.iaload, 1) := by decide +kernel
theorem dL_law_938 : decode cL_law 938 = .ok (.invokevirtual 103, 3) := by decide +kernel
theorem dL_law_941 : decode cL_law 941 = .ok (.aload_n 2, 1) := by decide +kernel
theorem dL_law_942 : decode cL_law 942 = .ok (.aload_n 0, 1) := by decide +kernel
theorem dL_law_943 : decode cL_law 943 = .ok (.iload_n 3, 1) := by decide +kernel
theorem dL_law_944 : decode cL_law 944 = .ok (.iconst 1, 1) := by decide +kernel
theorem dL_law_945 : decode cL_law 945 = .ok (.iadd, 1) := by decide +kernel
theorem dL_law_946 : decode cL_law 946 = .ok (.iaload, 1) := by decide +kernel
theorem dL_law_947 : decode cL_law 947 = .ok (.aload_n 0, 1) := by decide +kernel
theorem dL_law_948 : decode cL_law 948 = .ok (.iload_n 3, 1) := by decide +kernel
theorem dL_law_949 : decode cL_law 949 = .ok (.iconst 2, 1) := by decide +kernel
theorem dL_law_950 : decode cL_law 950 = .ok (.iadd, 1) := by decide +kernel
theorem dL_law_951 : decode cL_law 951 = .ok (.iaload, 1) := by decide +kernel
theorem dL_law_952 : decode cL_law 952 = .ok (.invokevirtual 106, 3) := by decide +kernel
theorem dL_law_955 : decode cL_law 955 = .ok (.if_icmp .eq 414, 3) := by decide +kernel
theorem dL_law_958 : decode cL_law 958 = .ok (.iconst 0, 1) := by decide +kernel
theorem dL_law_959 : decode cL_law 959 = .ok (.ireturn, 1) := by decide +kernel
theorem dL_law_960 : decode cL_law 960 = .ok (.aload_n 1, 1) := by decide +kernel
theorem dL_law_961 : decode cL_law 961 = .ok (.aload_n 0, 1) := by decide +kernel
theorem dL_law_962 : decode cL_law 962 = .ok (.iload_n 3, 1) := by decide +kernel
theorem dL_law_963 : decode cL_law 963 = .ok (.iconst 1, 1) := by decide +kernel
theorem dL_law_964 : decode cL_law 964 = .ok (.iadd, 1) := by decide +kernel
theorem dL_law_965 : decode cL_law 965 = .ok (.iaload, 1) := by decide +kernel
theorem dL_law_966 : decode cL_law 966 = .ok (.aload_n 0, 1) := by decide +kernel
theorem dL_law_967 : decode cL_law 967 = .ok (.iload_n 3, 1) := by decide +kernel
theorem dL_law_968 : decode cL_law 968 = .ok (.iconst 2, 1) := by decide +kernel
theorem dL_law_969 : decode cL_law 969 = .ok (.iadd, 1) := by decide +kernel
theorem dL_law_970 : decode cL_law 970 = .ok (.iaload, 1) := by decide +kernel
theorem dL_law_971 : decode cL_law 971 = .ok (.invokevirtual 107, 3) := by decide +kernel
theorem dL_law_974 : decode cL_law 974 = .ok (.aload_n 2, 1) := by decide +kernel
theorem dL_law_975 : decode cL_law 975 = .ok (.aload_n 0, 1) := by decide +kernel
theorem dL_law_976 : decode cL_law 976 = .ok (.iload_n 3, 1) := by decide +kernel
theorem dL_law_977 : decode cL_law 977 = .ok (.iconst 1, 1) := by decide +kernel
theorem dL_law_978 : decode cL_law 978 = .ok (.iadd, 1) := by decide +kernel
theorem dL_law_979 : decode cL_law 979 = .ok (.iaload, 1) := by decide +kernel
theorem dL_law_980 : decode cL_law 980 = .ok (.aload_n 0, 1) := by decide +kernel
theorem dL_law_981 : decode cL_law 981 = .ok (.iload_n 3, 1) := by decide +kernel
theorem dL_law_982 : decode cL_law 982 = .ok (.iconst 2, 1) := by decide +kernel
theorem dL_law_983 : decode cL_law 983 = .ok (.iadd, 1) := by decide +kernel
theorem dL_law_984 : decode cL_law 984 = .ok (.iaload, 1) := by decide +kernel
theorem dL_law_985 : decode cL_law 985 = .ok (.invokevirtual 110, 3) := by decide +kernel
theorem dL_law_988 : decode cL_law 988 = .ok (.if_icmp .eq 381, 3) := by decide +kernel
theorem dL_law_991 : decode cL_law 991 = .ok (.iconst 0, 1) := by decide +kernel
theorem dL_law_992 : decode cL_law 992 = .ok (.ireturn, 1) := by decide +kernel
theorem dL_law_993 : decode cL_law 993 = .ok (.aload_n 1, 1) := by decide +kernel
theorem dL_law_994 : decode cL_law 994 = .ok (.aload_n 0, 1) := by decide +kernel
theorem dL_law_995 : decode cL_law 995 = .ok (.iload_n 3, 1) := by decide +kernel
theorem dL_law_996 : decode cL_law 996 = .ok (.iconst 1, 1) := by decide +kernel
theorem dL_law_997 : decode cL_law 997 = .ok (.iadd, 1) := by decide +kernel
theorem dL_law_998 : decode cL_law 998 = .ok (.iaload, 1) := by decide +kernel
theorem dL_law_999 : decode cL_law 999 = .ok (.invokevirtual 111, 3) := by decide +kernel
theorem dL_law_1002 : decode cL_law 1002 = .ok (.aload_n 2, 1) := by decide +kernel
theorem dL_law_1003 : decode cL_law 1003 = .ok (.aload_n 0, 1) := by decide +kernel
theorem dL_law_1004 : decode cL_law 1004 = .ok (.iload_n 3, 1) := by decide +kernel
theorem dL_law_1005 : decode cL_law 1005 = .ok (.iconst 1, 1) := by decide +kernel
theorem dL_law_1006 : decode cL_law 1006 = .ok (.iadd, 1) := by decide +kernel
theorem dL_law_1007 : decode cL_law 1007 = .ok (.iaload, 1) := by decide +kernel
theorem dL_law_1008 : decode cL_law 1008 = .ok (.invokevirtual 114, 3) := by decide +kernel
theorem dL_law_1011 : decode cL_law 1011 = .ok (.if_icmp .eq 358, 3) := by decide +kernel
theorem dL_law_1014 : decode cL_law 1014 = .ok (.iconst 0, 1) := by decide +kernel
theorem dL_law_1015 : decode cL_law 1015 = .ok (.ireturn, 1) := by decide +kernel
theorem dL_law_1016 : decode cL_law 1016 = .ok (.aload_n 1, 1) := by decide +kernel
theorem dL_law_1017 : decode cL_law 1017 = .ok (.aload_n 0, 1) := by decide +kernel
theorem dL_law_1018 : decode cL_law 1018 = .ok (.iload_n 3, 1) := by decide +kernel
theorem dL_law_1019 : decode cL_law 1019 = .ok (.iconst 1, 1) := by decide +kernel
theorem dL_law_1020 : decode cL_law 1020 = .ok (.iadd, 1) := by decide +kernel
theorem dL_law_1021 : decode cL_law 1021 = .ok (.iaload, 1) := by decide +kernel
theorem dL_law_1022 : decode cL_law 1022 = .ok (.invokevirtual 115, 3) := by decide +kernel
theorem dL_law_1025 : decode cL_law 1025 = .ok (.aload_n 2, 1) := by decide +kernel
theorem dL_law_1026 : decode cL_law 1026 = .ok (.aload_n 0, 1) := by decide +kernel
theorem dL_law_1027 : decode cL_law 1027 = .ok (.iload_n 3, 1) := by decide +kernel
theorem dL_law_1028 : decode cL_law 1028 = .ok (.iconst 1, 1) := by decide +kernel
theorem dL_law_1029 : decode cL_law 1029 = .ok (.iadd, 1) := by decide +kernel
theorem dL_law_1030 : decode cL_law 1030 = .ok (.iaload, 1) := by decide +kernel
theorem dL_law_1031 : decode cL_law 1031 = .ok (.invokevirtual 118, 3) := by decide +kernel
theorem dL_law_1034 : decode cL_law 1034 = .ok (.if_icmp .eq 335, 3) := by decide +kernel
theorem dL_law_1037 : decode cL_law 1037 = .ok (.iconst 0, 1) := by decide +kernel
theorem dL_law_1038 : decode cL_law 1038 = .ok (.ireturn, 1) := by decide +kernel
theorem dL_law_1039 : decode cL_law 1039 = .ok (.aload_n 1, 1) := by decide +kernel
theorem dL_law_1040 : decode cL_law 1040 = .ok (.aload_n 0, 1) := by decide +kernel
theorem dL_law_1041 : decode cL_law 1041 = .ok (.iload_n 3, 1) := by decide +kernel
theorem dL_law_1042 : decode cL_law 1042 = .ok (.iconst 1, 1) := by decide +kernel
theorem dL_law_1043 : decode cL_law 1043 = .ok (.iadd, 1) := by decide +kernel
theorem dL_law_1044 : decode cL_law 1044 = .ok (.iaload, 1) := by decide +kernel
theorem dL_law_1045 : decode cL_law 1045 = .ok (.invokevirtual 119, 3) := by decide +kernel
theorem dL_law_1048 : decode cL_law 1048 = .ok (.aload_n 2, 1) := by decide +kernel
theorem dL_law_1049 : decode cL_law 1049 = .ok (.aload_n 0, 1) := by decide +kernel
theorem dL_law_1050 : decode cL_law 1050 = .ok (.iload_n 3, 1) := by decide +kernel
theorem dL_law_1051 : decode cL_law 1051 = .ok (.iconst 1, 1) := by decide +kernel
theorem dL_law_1052 : decode cL_law 1052 = .ok (.iadd, 1) := by decide +kernel
theorem dL_law_1053 : decode cL_law 1053 = .ok (.iaload, 1) := by decide +kernel
theorem dL_law_1054 : decode cL_law 1054 = .ok (.invokevirtual 122, 3) := by decide +kernel
theorem dL_law_1057 : decode cL_law 1057 = .ok (.if_icmp .eq 312, 3) := by decide +kernel
theorem dL_law_1060 : decode cL_law 1060 = .ok (.iconst 0, 1) := by decide +kernel
theorem dL_law_1061 : decode cL_law 1061 = .ok (.ireturn, 1) := by decide +kernel
theorem dL_law_1062 : decode cL_law 1062 = .ok (.aload_n 1, 1) := by decide +kernel
theorem dL_law_1063 : decode cL_law 1063 = .ok (.aload_n 0, 1) := by decide +kernel
theorem dL_law_1064 : decode cL_law 1064 = .ok (.iload_n 3, 1) := by decide +kernel
theorem dL_law_1065 : decode cL_law 1065 = .ok (.iconst 1, 1) := by decide +kernel
theorem dL_law_1066 : decode cL_law 1066 = .ok (.iadd, 1) := by decide +kernel
theorem dL_law_1067 : decode cL_law 1067 = .ok (.iaload, 1) := by decide +kernel
theorem dL_law_1068 : decode cL_law 1068 = .ok (.aload_n 0, 1) := by decide +kernel
theorem dL_law_1069 : decode cL_law 1069 = .ok (.iload_n 3, 1) := by decide +kernel
theorem dL_law_1070 : decode cL_law 1070 = .ok (.iconst 2, 1) := by decide +kernel
theorem dL_law_1071 : decode cL_law 1071 = .ok (.iadd, 1) := by decide +kernel
theorem dL_law_1072 : decode cL_law 1072 = .ok (.iaload, 1) := by decide +kernel
theorem dL_law_1073 : decode cL_law 1073 = .ok (.invokevirtual 123, 3) := by decide +kernel
theorem dL_law_1076 : decode cL_law 1076 = .ok (.aload_n 2, 1) := by decide +kernel
theorem dL_law_1077 : decode cL_law 1077 = .ok (.aload_n 0, 1) := by decide +kernel
theorem dL_law_1078 : decode cL_law 1078 = .ok (.iload_n 3, 1) := by decide +kernel
theorem dL_law_1079 : decode cL_law 1079 = .ok (.iconst 1, 1) := by decide +kernel
theorem dL_law_1080 : decode cL_law 1080 = .ok (.iadd, 1) := by decide +kernel
theorem dL_law_1081 : decode cL_law 1081 = .ok (.iaload, 1) := by decide +kernel
theorem dL_law_1082 : decode cL_law 1082 = .ok (.aload_n 0, 1) := by decide +kernel
theorem dL_law_1083 : decode cL_law 1083 = .ok (.iload_n 3, 1) := by decide +kernel
theorem dL_law_1084 : decode cL_law 1084 = .ok (.iconst 2, 1) := by decide +kernel
theorem dL_law_1085 : decode cL_law 1085 = .ok (.iadd, 1) := by decide +kernel
theorem dL_law_1086 : decode cL_law 1086 = .ok (.iaload, 1) := by decide +kernel
theorem dL_law_1087 : decode cL_law 1087 = .ok (.invokevirtual 126, 3) := by decide +kernel
theorem dL_law_1090 : decode cL_law 1090 = .ok (.if_icmp .eq 279, 3) := by decide +kernel
theorem dL_law_1093 : decode cL_law 1093 = .ok (.iconst 0, 1) := by decide +kernel
theorem dL_law_1094 : decode cL_law 1094 = .ok (.ireturn, 1) := by decide +kernel
theorem dL_law_1095 : decode cL_law 1095 = .ok (.aload_n 1, 1) := by decide +kernel
theorem dL_law_1096 : decode cL_law 1096 = .ok (.aload_n 0, 1) := by decide +kernel
theorem dL_law_1097 : decode cL_law 1097 = .ok (.iload_n 3, 1) := by decide +kernel
theorem dL_law_1098 : decode cL_law 1098 = .ok (.iconst 1, 1) := by decide +kernel
theorem dL_law_1099 : decode cL_law 1099 = .ok (.iadd, 1) := by decide +kernel
theorem dL_law_1100 : decode cL_law 1100 = .ok (.iaload, 1) := by decide +kernel
theorem dL_law_1101 : decode cL_law 1101 = .ok (.aload_n 0, 1) := by decide +kernel
theorem dL_law_1102 : decode cL_law 1102 = .ok (.iload_n 3, 1) := by decide +kernel
theorem dL_law_1103 : decode cL_law 1103 = .ok (.iconst 2, 1) := by decide +kernel
theorem dL_law_1104 : decode cL_law 1104 = .ok (.iadd, 1) := by decide +kernel
theorem dL_law_1105 : decode cL_law 1105 = .ok (.iaload, 1) := by decide +kernel
theorem dL_law_1106 : decode cL_law 1106 = .ok (.invokevirtual 127, 3) := by decide +kernel
theorem dL_law_1109 : decode cL_law 1109 = .ok (.aload_n 2, 1) := by decide +kernel
theorem dL_law_1110 : decode cL_law 1110 = .ok (.aload_n 0, 1) := by decide +kernel
theorem dL_law_1111 : decode cL_law 1111 = .ok (.iload_n 3, 1) := by decide +kernel
theorem dL_law_1112 : decode cL_law 1112 = .ok (.iconst 1, 1) := by decide +kernel
theorem dL_law_1113 : decode cL_law 1113 = .ok (.iadd, 1) := by decide +kernel
theorem dL_law_1114 : decode cL_law 1114 = .ok (.iaload, 1) := by decide +kernel
theorem dL_law_1115 : decode cL_law 1115 = .ok (.aload_n 0, 1) := by decide +kernel
theorem dL_law_1116 : decode cL_law 1116 = .ok (.iload_n 3, 1) := by decide +kernel
theorem dL_law_1117 : decode cL_law 1117 = .ok (.iconst 2, 1) := by decide +kernel
theorem dL_law_1118 : decode cL_law 1118 = .ok (.iadd, 1) := by decide +kernel
theorem dL_law_1119 : decode cL_law 1119 = .ok (.iaload, 1) := by decide +kernel
theorem dL_law_1120 : decode cL_law 1120 = .ok (.invokevirtual 130, 3) := by decide +kernel
theorem dL_law_1123 : decode cL_law 1123 = .ok (.if_icmp .eq 246, 3) := by decide +kernel
theorem dL_law_1126 : decode cL_law 1126 = .ok (.iconst 0, 1) := by decide +kernel
theorem dL_law_1127 : decode cL_law 1127 = .ok (.ireturn, 1) := by decide +kernel
theorem dL_law_1128 : decode cL_law 1128 = .ok (.aload_n 1, 1) := by decide +kernel
theorem dL_law_1129 : decode cL_law 1129 = .ok (.aload_n 0, 1) := by decide +kernel
theorem dL_law_1130 : decode cL_law 1130 = .ok (.iload_n 3, 1) := by decide +kernel
theorem dL_law_1131 : decode cL_law 1131 = .ok (.iconst 1, 1) := by decide +kernel
theorem dL_law_1132 : decode cL_law 1132 = .ok (.iadd, 1) := by decide +kernel
theorem dL_law_1133 : decode cL_law 1133 = .ok (.iaload, 1) := by decide +kernel
theorem dL_law_1134 : decode cL_law 1134 = .ok (.aload_n 0, 1) := by decide +kernel
theorem dL_law_1135 : decode cL_law 1135 = .ok (.iload_n 3, 1) := by decide +kernel
theorem dL_law_1136 : decode cL_law 1136 = .ok (.iconst 2, 1) := by decide +kernel
theorem dL_law_1137 : decode cL_law 1137 = .ok (.iadd, 1) := by decide +kernel
theorem dL_law_1138 : decode cL_law 1138 = .ok (.iaload, 1) := by decide +kernel
theorem dL_law_1139 : decode cL_law 1139 = .ok (.invokevirtual 131, 3) := by decide +kernel
theorem dL_law_1142 : decode cL_law 1142 = .ok (.aload_n 2, 1) := by decide +kernel
theorem dL_law_1143 : decode cL_law 1143 = .ok (.aload_n 0, 1) := by decide +kernel
theorem dL_law_1144 : decode cL_law 1144 = .ok (.iload_n 3, 1) := by decide +kernel
theorem dL_law_1145 : decode cL_law 1145 = .ok (.iconst 1, 1) := by decide +kernel
theorem dL_law_1146 : decode cL_law 1146 = .ok (.iadd, 1) := by decide +kernel
theorem dL_law_1147 : decode cL_law 1147 = .ok (.iaload, 1) := by decide +kernel
theorem dL_law_1148 : decode cL_law 1148 = .ok (.aload_n 0, 1) := by decide +kernel
theorem dL_law_1149 : decode cL_law 1149 = .ok (.iload_n 3, 1) := by decide +kernel
theorem dL_law_1150 : decode cL_law 1150 = .ok (.iconst 2, 1) := by decide +kernel
theorem dL_law_1151 : decode cL_law 1151 = .ok (.iadd, 1) := by decide +kernel
theorem dL_law_1152 : decode cL_law 1152 = .ok (.iaload, 1) := by decide +kernel
theorem dL_law_1153 : decode cL_law 1153 = .ok (.invokevirtual 134, 3) := by decide +kernel
theorem dL_law_1156 : decode cL_law 1156 = .ok (.if_icmp .eq 213, 3) := by decide +kernel
theorem dL_law_1159 : decode cL_law 1159 = .ok (.iconst 0, 1) := by decide +kernel
theorem dL_law_1160 : decode cL_law 1160 = .ok (.ireturn, 1) := by decide +kernel
theorem dL_law_1161 : decode cL_law 1161 = .ok (.aload_n 1, 1) := by decide +kernel
theorem dL_law_1162 : decode cL_law 1162 = .ok (.aload_n 0, 1) := by decide +kernel
theorem dL_law_1163 : decode cL_law 1163 = .ok (.iload_n 3, 1) := by decide +kernel
theorem dL_law_1164 : decode cL_law 1164 = .ok (.iconst 1, 1) := by decide +kernel
theorem dL_law_1165 : decode cL_law 1165 = .ok (.iadd, 1) := by decide +kernel
theorem dL_law_1166 : decode cL_law 1166 = .ok (.iaload, 1) := by decide +kernel
theorem dL_law_1167 : decode cL_law 1167 = .ok (.invokevirtual 135, 3) := by decide +kernel
theorem dL_law_1170 : decode cL_law 1170 = .ok (.aload_n 2, 1) := by decide +kernel
theorem dL_law_1171 : decode cL_law 1171 = .ok (.aload_n 0, 1) := by decide +kernel
theorem dL_law_1172 : decode cL_law 1172 = .ok (.iload_n 3, 1) := by decide +kernel
theorem dL_law_1173 : decode cL_law 1173 = .ok (.iconst 1, 1) := by decide +kernel
theorem dL_law_1174 : decode cL_law 1174 = .ok (.iadd, 1) := by decide +kernel
theorem dL_law_1175 : decode cL_law 1175 = .ok (.iaload, 1) := by decide +kernel
theorem dL_law_1176 : decode cL_law 1176 = .ok (.invokevirtual 138, 3) := by decide +kernel
theorem dL_law_1179 : decode cL_law 1179 = .ok (.if_icmp .eq 190, 3) := by decide +kernel
theorem dL_law_1182 : decode cL_law 1182 = .ok (.iconst 0, 1) := by decide +kernel
theorem dL_law_1183 : decode cL_law 1183 = .ok (.ireturn, 1) := by decide +kernel
theorem dL_law_1184 : decode cL_law 1184 = .ok (.aload_n 1, 1) := by decide +kernel
theorem dL_law_1185 : decode cL_law 1185 = .ok (.aload_n 0, 1) := by decide +kernel
theorem dL_law_1186 : decode cL_law 1186 = .ok (.iload_n 3, 1) := by decide +kernel
theorem dL_law_1187 : decode cL_law 1187 = .ok (.iconst 1, 1) := by decide +kernel
theorem dL_law_1188 : decode cL_law 1188 = .ok (.iadd, 1) := by decide +kernel
theorem dL_law_1189 : decode cL_law 1189 = .ok (.iaload, 1) := by decide +kernel
theorem dL_law_1190 : decode cL_law 1190 = .ok (.aload_n 0, 1) := by decide +kernel
theorem dL_law_1191 : decode cL_law 1191 = .ok (.iload_n 3, 1) := by decide +kernel
theorem dL_law_1192 : decode cL_law 1192 = .ok (.iconst 2, 1) := by decide +kernel
theorem dL_law_1193 : decode cL_law 1193 = .ok (.iadd, 1) := by decide +kernel
theorem dL_law_1194 : decode cL_law 1194 = .ok (.iaload, 1) := by decide +kernel
theorem dL_law_1195 : decode cL_law 1195 = .ok (.invokevirtual 139, 3) := by decide +kernel
theorem dL_law_1198 : decode cL_law 1198 = .ok (.aload_n 2, 1) := by decide +kernel
theorem dL_law_1199 : decode cL_law 1199 = .ok (.aload_n 0, 1) := by decide +kernel
theorem dL_law_1200 : decode cL_law 1200 = .ok (.iload_n 3, 1) := by decide +kernel
theorem dL_law_1201 : decode cL_law 1201 = .ok (.iconst 1, 1) := by decide +kernel
theorem dL_law_1202 : decode cL_law 1202 = .ok (.iadd, 1) := by decide +kernel
theorem dL_law_1203 : decode cL_law 1203 = .ok (.iaload, 1) := by decide +kernel
theorem dL_law_1204 : decode cL_law 1204 = .ok (.aload_n 0, 1) := by decide +kernel
theorem dL_law_1205 : decode cL_law 1205 = .ok (.iload_n 3, 1) := by decide +kernel
theorem dL_law_1206 : decode cL_law 1206 = .ok (.iconst 2, 1) := by decide +kernel
theorem dL_law_1207 : decode cL_law 1207 = .ok (.iadd, 1) := by decide +kernel
theorem dL_law_1208 : decode cL_law 1208 = .ok (.iaload, 1) := by decide +kernel
theorem dL_law_1209 : decode cL_law 1209 = .ok (.invokevirtual 142, 3) := by decide +kernel
theorem dL_law_1212 : decode cL_law 1212 = .ok (.lcmp, 1) := by decide +kernel
theorem dL_law_1213 : decode cL_law 1213 = .ok (.ifCond .eq 156, 3) := by decide +kernel
theorem dL_law_1216 : decode cL_law 1216 = .ok (.iconst 0, 1) := by decide +kernel
theorem dL_law_1217 : decode cL_law 1217 = .ok (.ireturn, 1) := by decide +kernel
theorem dL_law_1218 : decode cL_law 1218 = .ok (.aload_n 1, 1) := by decide +kernel
theorem dL_law_1219 : decode cL_law 1219 = .ok (.aload_n 0, 1) := by decide +kernel
theorem dL_law_1220 : decode cL_law 1220 = .ok (.iload_n 3, 1) := by decide +kernel
theorem dL_law_1221 : decode cL_law 1221 = .ok (.iconst 1, 1) := by decide +kernel
theorem dL_law_1222 : decode cL_law 1222 = .ok (.iadd, 1) := by decide +kernel
theorem dL_law_1223 : decode cL_law 1223 = .ok (.iaload, 1) := by decide +kernel
theorem dL_law_1224 : decode cL_law 1224 = .ok (.invokevirtual 143, 3) := by decide +kernel
theorem dL_law_1227 : decode cL_law 1227 = .ok (.aload_n 2, 1) := by decide +kernel
theorem dL_law_1228 : decode cL_law 1228 = .ok (.aload_n 0, 1) := by decide +kernel
theorem dL_law_1229 : decode cL_law 1229 = .ok (.iload_n 3, 1) := by decide +kernel
theorem dL_law_1230 : decode cL_law 1230 = .ok (.iconst 1, 1) := by decide +kernel
theorem dL_law_1231 : decode cL_law 1231 = .ok (.iadd, 1) := by decide +kernel
theorem dL_law_1232 : decode cL_law 1232 = .ok (.iaload, 1) := by decide +kernel
theorem dL_law_1233 : decode cL_law 1233 = .ok (.invokevirtual 146, 3) := by decide +kernel
theorem dL_law_1236 : decode cL_law 1236 = .ok (.if_icmp .eq 133, 3) := by decide +kernel
theorem dL_law_1239 : decode cL_law 1239 = .ok (.iconst 0, 1) := by decide +kernel
theorem dL_law_1240 : decode cL_law 1240 = .ok (.ireturn, 1) := by decide +kernel
theorem dL_law_1241 : decode cL_law 1241 = .ok (.aload_n 1, 1) := by decide +kernel
theorem dL_law_1242 : decode cL_law 1242 = .ok (.aload_n 0, 1) := by decide +kernel
theorem dL_law_1243 : decode cL_law 1243 = .ok (.iload_n 3, 1) := by decide +kernel
theorem dL_law_1244 : decode cL_law 1244 = .ok (.iconst 1, 1) := by decide +kernel
theorem dL_law_1245 : decode cL_law 1245 = .ok (.iadd, 1) := by decide +kernel
theorem dL_law_1246 : decode cL_law 1246 = .ok (.iaload, 1) := by decide +kernel
theorem dL_law_1247 : decode cL_law 1247 = .ok (.aload_n 0, 1) := by decide +kernel
theorem dL_law_1248 : decode cL_law 1248 = .ok (.iload_n 3, 1) := by decide +kernel
theorem dL_law_1249 : decode cL_law 1249 = .ok (.iconst 2, 1) := by decide +kernel
theorem dL_law_1250 : decode cL_law 1250 = .ok (.iadd, 1) := by decide +kernel
theorem dL_law_1251 : decode cL_law 1251 = .ok (.iaload, 1) := by decide +kernel
theorem dL_law_1252 : decode cL_law 1252 = .ok (.invokevirtual 147, 3) := by decide +kernel
theorem dL_law_1255 : decode cL_law 1255 = .ok (.aload_n 2, 1) := by decide +kernel
theorem dL_law_1256 : decode cL_law 1256 = .ok (.aload_n 0, 1) := by decide +kernel
theorem dL_law_1257 : decode cL_law 1257 = .ok (.iload_n 3, 1) := by decide +kernel
theorem dL_law_1258 : decode cL_law 1258 = .ok (.iconst 1, 1) := by decide +kernel
theorem dL_law_1259 : decode cL_law 1259 = .ok (.iadd, 1) := by decide +kernel
theorem dL_law_1260 : decode cL_law 1260 = .ok (.iaload, 1) := by decide +kernel
theorem dL_law_1261 : decode cL_law 1261 = .ok (.aload_n 0, 1) := by decide +kernel
theorem dL_law_1262 : decode cL_law 1262 = .ok (.iload_n 3, 1) := by decide +kernel
theorem dL_law_1263 : decode cL_law 1263 = .ok (.iconst 2, 1) := by decide +kernel
theorem dL_law_1264 : decode cL_law 1264 = .ok (.iadd, 1) := by decide +kernel
theorem dL_law_1265 : decode cL_law 1265 = .ok (.iaload, 1) := by decide +kernel
theorem dL_law_1266 : decode cL_law 1266 = .ok (.invokevirtual 150, 3) := by decide +kernel
theorem dL_law_1269 : decode cL_law 1269 = .ok (.if_icmp .eq 100, 3) := by decide +kernel
theorem dL_law_1272 : decode cL_law 1272 = .ok (.iconst 0, 1) := by decide +kernel
theorem dL_law_1273 : decode cL_law 1273 = .ok (.ireturn, 1) := by decide +kernel
theorem dL_law_1274 : decode cL_law 1274 = .ok (.aload_n 1, 1) := by decide +kernel
theorem dL_law_1275 : decode cL_law 1275 = .ok (.aload_n 0, 1) := by decide +kernel
theorem dL_law_1276 : decode cL_law 1276 = .ok (.iload_n 3, 1) := by decide +kernel
theorem dL_law_1277 : decode cL_law 1277 = .ok (.iconst 1, 1) := by decide +kernel
theorem dL_law_1278 : decode cL_law 1278 = .ok (.iadd, 1) := by decide +kernel
theorem dL_law_1279 : decode cL_law 1279 = .ok (.iaload, 1) := by decide +kernel
theorem dL_law_1280 : decode cL_law 1280 = .ok (.invokevirtual 151, 3) := by decide +kernel
theorem dL_law_1283 : decode cL_law 1283 = .ok (.aload_n 2, 1) := by decide +kernel
theorem dL_law_1284 : decode cL_law 1284 = .ok (.aload_n 0, 1) := by decide +kernel
theorem dL_law_1285 : decode cL_law 1285 = .ok (.iload_n 3, 1) := by decide +kernel
theorem dL_law_1286 : decode cL_law 1286 = .ok (.iconst 1, 1) := by decide +kernel
theorem dL_law_1287 : decode cL_law 1287 = .ok (.iadd, 1) := by decide +kernel
theorem dL_law_1288 : decode cL_law 1288 = .ok (.iaload, 1) := by decide +kernel
theorem dL_law_1289 : decode cL_law 1289 = .ok (.invokevirtual 154, 3) := by decide +kernel
theorem dL_law_1292 : decode cL_law 1292 = .ok (.if_icmp .eq 77, 3) := by decide +kernel
theorem dL_law_1295 : decode cL_law 1295 = .ok (.iconst 0, 1) := by decide +kernel
theorem dL_law_1296 : decode cL_law 1296 = .ok (.ireturn, 1) := by decide +kernel
theorem dL_law_1297 : decode cL_law 1297 = .ok (.aload_n 1, 1) := by decide +kernel
theorem dL_law_1298 : decode cL_law 1298 = .ok (.aload_n 0, 1) := by decide +kernel
theorem dL_law_1299 : decode cL_law 1299 = .ok (.iload_n 3, 1) := by decide +kernel
theorem dL_law_1300 : decode cL_law 1300 = .ok (.iconst 1, 1) := by decide +kernel
theorem dL_law_1301 : decode cL_law 1301 = .ok (.iadd, 1) := by decide +kernel
theorem dL_law_1302 : decode cL_law 1302 = .ok (.iaload, 1) := by decide +kernel
theorem dL_law_1303 : decode cL_law 1303 = .ok (.invokevirtual 155, 3) := by decide +kernel
theorem dL_law_1306 : decode cL_law 1306 = .ok (.aload_n 2, 1) := by decide +kernel
theorem dL_law_1307 : decode cL_law 1307 = .ok (.aload_n 0, 1) := by decide +kernel
theorem dL_law_1308 : decode cL_law 1308 = .ok (.iload_n 3, 1) := by decide +kernel
theorem dL_law_1309 : decode cL_law 1309 = .ok (.iconst 1, 1) := by decide +kernel
theorem dL_law_1310 : decode cL_law 1310 = .ok (.iadd, 1) := by decide +kernel
theorem dL_law_1311 : decode cL_law 1311 = .ok (.iaload, 1) := by decide +kernel
theorem dL_law_1312 : decode cL_law 1312 = .ok (.invokevirtual 158, 3) := by decide +kernel
theorem dL_law_1315 : decode cL_law 1315 = .ok (.if_icmp .eq 54, 3) := by decide +kernel
theorem dL_law_1318 : decode cL_law 1318 = .ok (.iconst 0, 1) := by decide +kernel
theorem dL_law_1319 : decode cL_law 1319 = .ok (.ireturn, 1) := by decide +kernel
theorem dL_law_1320 : decode cL_law 1320 = .ok (.aload_n 1, 1) := by decide +kernel
theorem dL_law_1321 : decode cL_law 1321 = .ok (.invokevirtual 159, 3) := by decide +kernel
theorem dL_law_1324 : decode cL_law 1324 = .ok (.aload_n 2, 1) := by decide +kernel
theorem dL_law_1325 : decode cL_law 1325 = .ok (.invokevirtual 162, 3) := by decide +kernel
theorem dL_law_1328 : decode cL_law 1328 = .ok (.if_icmp .eq 41, 3) := by decide +kernel
theorem dL_law_1331 : decode cL_law 1331 = .ok (.iconst 0, 1) := by decide +kernel
theorem dL_law_1332 : decode cL_law 1332 = .ok (.ireturn, 1) := by decide +kernel
theorem dL_law_1333 : decode cL_law 1333 = .ok (.aload_n 1, 1) := by decide +kernel
theorem dL_law_1334 : decode cL_law 1334 = .ok (.invokevirtual 163, 3) := by decide +kernel
theorem dL_law_1337 : decode cL_law 1337 = .ok (.aload_n 2, 1) := by decide +kernel
theorem dL_law_1338 : decode cL_law 1338 = .ok (.invokevirtual 166, 3) := by decide +kernel
theorem dL_law_1341 : decode cL_law 1341 = .ok (.if_icmp .eq 28, 3) := by decide +kernel
theorem dL_law_1344 : decode cL_law 1344 = .ok (.iconst 0, 1) := by decide +kernel
theorem dL_law_1345 : decode cL_law 1345 = .ok (.ireturn, 1) := by decide +kernel
theorem dL_law_1346 : decode cL_law 1346 = .ok (.aload_n 1, 1) := by decide +kernel
theorem dL_law_1347 : decode cL_law 1347 = .ok (.aload_n 0, 1) := by decide +kernel
theorem dL_law_1348 : decode cL_law 1348 = .ok (.iload_n 3, 1) := by decide +kernel
theorem dL_law_1349 : decode cL_law 1349 = .ok (.iconst 1, 1) := by decide +kernel
theorem dL_law_1350 : decode cL_law 1350 = .ok (.iadd, 1) := by decide +kernel
theorem dL_law_1351 : decode cL_law 1351 = .ok (.iaload, 1) := by decide +kernel
theorem dL_law_1352 : decode cL_law 1352 = .ok (.invokevirtual 167, 3) := by decide +kernel
theorem dL_law_1355 : decode cL_law 1355 = .ok (.aload_n 2, 1) := by decide +kernel
theorem dL_law_1356 : decode cL_law 1356 = .ok (.aload_n 0, 1) := by decide +kernel
theorem dL_law_1357 : decode cL_law 1357 = .ok (.iload_n 3, 1) := by decide +kernel
theorem dL_law_1358 : decode cL_law 1358 = .ok (.iconst 1, 1) := by decide +kernel
theorem dL_law_1359 : decode cL_law 1359 = .ok (.iadd, 1) := by decide +kernel
theorem dL_law_1360 : decode cL_law 1360 = .ok (.iaload, 1) := by decide +kernel
theorem dL_law_1361 : decode cL_law 1361 = .ok (.invokevirtual 170, 3) := by decide +kernel
theorem dL_law_1364 : decode cL_law 1364 = .ok (.if_icmp .eq 5, 3) := by decide +kernel
theorem dL_law_1367 : decode cL_law 1367 = .ok (.iconst 0, 1) := by decide +kernel
theorem dL_law_1368 : decode cL_law 1368 = .ok (.ireturn, 1) := by decide +kernel
theorem dL_law_1369 : decode cL_law 1369 = .ok (.iinc 3 6, 3) := by decide +kernel
theorem dL_law_1372 : decode cL_law 1372 = .ok (.goto (-1354), 3) := by decide +kernel
theorem dL_law_1375 : decode cL_law 1375 = .ok (.iconst 1, 1) := by decide +kernel
theorem dL_law_1376 : decode cL_law 1376 = .ok (.ireturn, 1) := by decide +kernel
end
section
/-- the tables' words that a call keeps -/
def lw_g : List Cond := lw_tbl.filter goodWord
/-! THE LAYER: ints told as whole numbers; one world of cells, by numbers; the rows of the kit said of it -/
def iZ (z : Int) : Int32 := Int32.ofInt z
abbrev R32 (z : Int) : Prop := -2147483648 ≤ z ∧ z < 2147483648
theorem iZ_add (a b : Int) : iZ a + iZ b = iZ (a + b) := (Int32.ofInt_add a b).symm
theorem iZ_sub (a b : Int) : iZ a - iZ b = iZ (a - b) := (Int32.ofInt_sub a b).symm
theorem iZ_mul (a b : Int) : iZ a * iZ b = iZ (a * b) := (Int32.ofInt_mul a b).symm
theorem iZ_neg (a : Int) : - iZ a = iZ (-a) := (Int32.ofInt_neg a).symm
theorem iZ_toInt {z : Int} (h : R32 z) : (iZ z).toInt = z := Int32.toInt_ofInt_of_le (by have := h.1; omega) (by have := h.2; omega)
theorem iZ_of (x : Int32) : x = iZ x.toInt := (Int32.ofInt_toInt x).symm
theorem R32_of (x : Int32) : R32 x.toInt := by
  have h1 := Int32.le_toInt x
  have h2 := Int32.toInt_lt x
  constructor <;> omega
theorem iZ_eq {a b : Int} (ha : R32 a) (hb : R32 b) : iZ a = iZ b ↔ a = b := by rw [← Int32.toInt_inj, iZ_toInt ha, iZ_toInt hb]
theorem iZ_lt {a b : Int} (ha : R32 a) (hb : R32 b) : iZ a < iZ b ↔ a < b := by rw [Int32.lt_iff_toInt_lt, iZ_toInt ha, iZ_toInt hb]
theorem iZ_le {a b : Int} (ha : R32 a) (hb : R32 b) : iZ a ≤ iZ b ↔ a ≤ b := by rw [Int32.le_iff_toInt_le, iZ_toInt ha, iZ_toInt hb]
theorem iZ_0 : (0 : Int32) = iZ 0 := rfl
theorem iZ_cmp {a b : Int} (ha : R32 a) (hb : R32 b) : (iZ a = iZ b ↔ a = b) ∧ (iZ a < iZ b ↔ a < b) ∧ (iZ b < iZ a ↔ b < a) ∧ (iZ a ≤ iZ b ↔ a ≤ b) ∧ (iZ b ≤ iZ a ↔ b ≤ a) := ⟨iZ_eq ha hb, iZ_lt ha hb, iZ_lt hb ha, iZ_le ha hb, iZ_le hb ha⟩
theorem iZ_cmp0 {a : Int} (ha : R32 a) : (iZ a = 0 ↔ a = 0) ∧ (iZ a < 0 ↔ a < 0) ∧ (0 < iZ a ↔ 0 < a) ∧ (iZ a ≤ 0 ↔ a ≤ 0) ∧ (0 ≤ iZ a ↔ 0 ≤ a) := iZ_cmp ha (b := 0) ⟨by omega, by omega⟩
theorem iZ_clamp {n : Nat} (h : n < 2147483648) : (iZ (n : Int)).toNatClampNeg = n := by
  show (iZ (n : Int)).toInt.toNat = n
  rw [iZ_toInt ⟨by omega, by omega⟩]
  rfl
theorem iZ_in {z : Int} {n N : Nat} (h : z = (n : Int)) (hn : n < N) (hN : N < 2147483648) : vp_in (iZ z) N := by
  subst h
  rw [vp_in_iff, iZ_toInt ⟨by omega, by omega⟩]
  omega
theorem iZ_ne0 {a b : Int} (h : 0 ≤ a ∧ a < 2147483648 ∧ 0 < b ∧ b < 2147483648) : ¬ iZ b = 0 := by
  rw [(iZ_cmp0 ⟨by omega, by omega⟩).1]; omega
theorem iZ_div {a b : Int} (h : 0 ≤ a ∧ a < 2147483648 ∧ 0 < b ∧ b < 2147483648) : iZ a / iZ b = iZ (a / b) := by
  obtain ⟨h1, h2, h3, h4⟩ := h
  obtain ⟨m, rfl⟩ := Int.eq_ofNat_of_zero_le h1
  obtain ⟨n, rfl⟩ := Int.eq_ofNat_of_zero_le (by omega : 0 ≤ b)
  exact pk_div (by omega) (by omega) (by omega)
theorem iZ_rem {a b : Int} (h : 0 ≤ a ∧ a < 2147483648 ∧ 0 < b ∧ b < 2147483648) : iZ a - iZ a / iZ b * iZ b = iZ (a % b) := by
  obtain ⟨h1, h2, h3, h4⟩ := h
  obtain ⟨m, rfl⟩ := Int.eq_ofNat_of_zero_le h1
  obtain ⟨n, rfl⟩ := Int.eq_ofNat_of_zero_le (by omega : 0 ≤ b)
  exact pk_rem (by omega) (by omega) (by omega)
def bZ (P : Prop) [Decidable P] : Int := if P then 1 else 0
theorem bZ_R (P : Prop) [Decidable P] : R32 (bZ P) := by unfold bZ; split <;> constructor <;> omega
theorem bZ_01 (P : Prop) [Decidable P] : bZ P = 0 ∨ bZ P = 1 := by unfold bZ; split <;> simp
theorem bZ_t {P : Prop} [Decidable P] (h : P) : bZ P = 1 := if_pos h
theorem bZ_f {P : Prop} [Decidable P] (h : ¬ P) : bZ P = 0 := if_neg h
/-- the state of all cells: ints (as whole numbers), floats (their bits), longs -/
abbrev St : Type := (Nat → Nat → Int) × (Nat → Nat → UInt32) × (Nat → Nat → Int64)
def sI (σ : St) (k j : Nat) (v : Int) : St := (fun a b => if a = k ∧ b = j then v else σ.1 a b, σ.2)
def sF (σ : St) (k j : Nat) (v : UInt32) : St := (σ.1, fun a b => if a = k ∧ b = j then v else σ.2.1 a b, σ.2.2)
def sL (σ : St) (k j : Nat) (v : Int64) : St := (σ.1, σ.2.1, fun a b => if a = k ∧ b = j then v else σ.2.2 a b)
/-! the cells by their numbers: kind (0 to 10 a class of vwCl, 20 ints, 21 floats, 22 longs, 23 .. references, 99 no cell), length, layout of a class, target of a reference -/
def kdl : List Nat := [8, 23, 5, 20, 5, 20, 5, 20, 5, 20, 5, 20, 20, 20, 20, 20, 20, 8, 23, 5, 20, 5, 20, 5, 20, 5, 20, 5, 20, 20, 20, 20, 20, 20, 4, 22, 2, 4, 22, 2, 4, 22, 2, 4, 22, 2, 4, 22, 2, 4, 22, 2, 4, 22, 2, 4, 22, 2, 2, 2, 2, 2, 2, 2, 2, 2, 2, 2, 2, 2, 2, 2, 2, 2, 2, 2, 9, 25, 24, 20, 7, 0, 20, 20, 20, 20, 20, 21, 21, 3, 21, 20, 21, 20, 20, 20, 20, 20, 1, 20, 20, 20, 20, 6, 20, 10, 20, 20, 20, 20, 20, 20, 20, 20, 20, 20, 99, 99, 99, 20, 20, 20, 20, 20, 99, 21, 21, 20, 20, 20, 99, 99, 20, 20, 20, 20, 20, 20, 20, 20, 20, 99, 99, 20, 99, 99, 20, 20, 20, 20, 20, 22, 20, 20, 20, 20, 20, 99, 99, 99, 99, 20, 99, 99, 99]
def lnl : List Nat := [0, 5, 0, 48, 0, 48, 0, 48, 0, 48, 0, 48, 8, 8, 8, 8, 8, 0, 5, 0, 48, 0, 48, 0, 48, 0, 48, 0, 48, 8, 8, 8, 8, 8, 0, 160, 0, 0, 160, 0, 0, 160, 0, 0, 160, 0, 0, 160, 0, 0, 160, 0, 0, 160, 0, 0, 160, 0, 0, 0, 0, 0, 0, 0, 0, 0, 0, 0, 0, 0, 0, 0, 0, 0, 0, 0, 0, 8, 18, 8, 0, 0, 16, 8, 8, 8, 8, 5, 8, 0, 32, 512, 512, 512, 512, 512, 512, 18, 0, 5, 25, 400, 16, 0, 5, 0, 8, 5, 240, 5, 5, 8, 8, 8, 8, 8, 0, 0, 0, 16, 8, 8, 8, 8, 0, 32, 512, 512, 512, 512, 0, 0, 64, 64, 64, 64, 64, 64, 64, 64, 64, 0, 0, 5, 0, 0, 8, 8, 8, 8, 8, 1280, 80, 80, 80, 80, 5, 0, 0, 0, 0, 310, 0, 0, 0]
def lyl : List (List Nat) := [[1, 0, 1, 1, 1, 1, 0], [1, 1, 0, 1, 1, 1], [0, 0, 0, 0, 0, 0, 0], [1, 1, 1, 1, 1, 1, 1, 1, 1, 1], [0, 0, 0, 1, 1], [1, 0, 0, 0], [1, 1, 0, 0, 0, 0, 0], [1, 1, 1, 1], [1, 1, 1, 1, 0, 1, 1, 0, 0], [1, 1, 0, 1, 1, 1, 1, 1, 1, 0, 0, 1], [1, 1, 1, 1, 1, 1, 1, 1, 1, 1, 0, 0, 0, 1, 1, 1, 1, 1, 0, 1, 1, 1, 1, 1, 0, 0, 1, 1, 1, 1, 1, 1, 1, 1, 1, 0, 0, 1, 0, 2, 1, 1, 1, 1, 1, 1, 1, 1, 1, 1, 1, 0, 0, 0, 0, 1, 0, 0, 0]]
def rfl0 : List (List Nat) := [[82, 0, 83, 84, 85, 86, 0], [0, 99, 0, 100, 101, 102], [], [0, 80, 90, 91, 92, 93, 94, 95, 96, 97], [], [], [0, 104, 0, 0, 0, 0, 0], [0, 81, 87, 88], [], [0, 17, 0, 80, 89, 98, 103, 77, 78, 0, 0, 79]]

def kd (k : Nat) : Nat := kdl.getD k 99
def len (k : Nat) : Nat := lnl.getD k 0
def lay (c : Nat) : List Nat := lyl.getD c []
def rf (k j : Nat) : Nat :=
  if kd k = 5 then k + 1
  else if kd k = 4 then k + (j - 2)
  else if kd k = 8 then (if j = 0 then k + 1 else if j ≤ 3 then k + 11 + j else k + 10 + j)
  else if kd k = 23 then k + 1 + 2 * j
  else if kd k = 24 then 58 + j
  else if kd k = 25 then 34 + 3 * j
  else if kd k = 10 then 106 + j
  else (rfl0.getD (kd k) []).getD j 0
def cns : List Nat := (List.range 165).filter (fun k => kd k != 99)
abbrev Kp : Type := va_G × (Nat → Nat) × (Nat → ClassId)
def fld (κ : Kp) (σ : St) (k j b : Nat) : Value := if b = 0 then .int (iZ (σ.1 k j)) else if b = 1 then .ref (κ.2.1 (rf k j)) else .long (σ.2.2 k j)
def cel (κ : Kp) (σ : St) (k : Nat) : va_E :=
  if kd k = 20 then .inl (κ.2.2 0, len k, .inl (fun j => iZ (σ.1 k j)))
  else if kd k = 21 then .inl (κ.2.2 1, len k, .inr (.inr (.inl (fun j => σ.2.1 k j))))
  else if kd k = 22 then .inl (κ.2.2 2, len k, .inr (.inl (fun j => σ.2.2 k j)))
  else if kd k < 20 then .inr (kd k, (lay (kd k)).mapIdx (fun j b => fld κ σ k j b))
  else .inl (κ.2.2 (kd k - 20), len k, .inr (.inr (.inr (.inr (fun j => some (κ.2.1 (rf k j)))))))
def wld (κ : Kp) (σ : St) : va_W := cns.map (fun k => (κ.2.1 k, cel κ σ k))
def tyk (κ : Kp) : List (ClassId × FieldType) := [(κ.2.2 0, .int), (κ.2.2 1, .float), (κ.2.2 2, .long), (κ.2.2 3, .object RX5), (κ.2.2 4, .object RX2), (κ.2.2 5, .object RX4)]
def Ak (κ : Kp) : Nat → Prop := fun q => ∃ k, k ∈ cns ∧ q = κ.2.1 k
def Ij (κ : Kp) : Prop := ∀ i j, i ∈ cns → j ∈ cns → κ.2.1 i = κ.2.1 j → i = j
theorem kd_big {k : Nat} (h : 165 ≤ k) : kd k = 99 := by
  unfold kd
  rw [List.getD_eq_getElem?_getD, List.getElem?_eq_none (by show 165 ≤ k; exact h)]
  rfl
theorem cns_mem {k : Nat} (h : kd k ≠ 99) : k ∈ cns := by
  refine List.mem_filter.mpr ⟨List.mem_range.mpr ?_, by simpa using h⟩
  rcases Nat.lt_or_ge k 165 with q | q
  · exact q
  · exact absurd (kd_big q) h
theorem cns_nd : va_nd cns = true := by decide +kernel
theorem wld_at (κ : Kp) (σ : St) {k : Nat} (h : kd k ≠ 99) : ∃ q : Nat, cns[q]? = some k ∧ (wld κ σ)[q]? = some (κ.2.1 k, cel κ σ k) := by
  obtain ⟨q, hq⟩ : ∃ q : Nat, cns[q]? = some k := List.getElem?_of_mem (cns_mem h)
  exact ⟨q, hq, by unfold wld; rw [List.getElem?_map, hq]; rfl⟩
theorem wld_set {κ : Kp} {q k : Nat} {σ σ' : St} (hq : cns[q]? = some k) (h : ∀ k', k' ≠ k → cel κ σ' k' = cel κ σ k') : (wld κ σ).set q (κ.2.1 k, cel κ σ' k) = wld κ σ' := by
  have hl : q < (wld κ σ).length := by
    unfold wld; rw [List.length_map]; exact (List.getElem?_eq_some_iff.mp hq).1
  apply List.ext_getElem?
  intro i
  by_cases hi : i = q
  · subst hi
    rw [List.getElem?_set_self hl]
    unfold wld
    rw [List.getElem?_map, hq]
    rfl
  · rw [List.getElem?_set_ne (Ne.symm hi)]
    unfold wld
    rw [List.getElem?_map, List.getElem?_map]
    cases hc : cns[i]? with
    | none => rfl
    | some k' =>
      have hk : k' ≠ k := fun e => hi (va_nd_inj cns cns_nd i q k (e ▸ hc) hq)
      simp only [Option.map_some, h k' hk]
theorem wld_D {κ : Kp} (hI : Ij κ) (σ : St) : va_D (Ak κ) (wld κ σ) := by
  have key : ∀ (i : Nat) (x : Nat × va_E), (wld κ σ)[i]? = some x → ∃ k, cns[i]? = some k ∧ x.1 = κ.2.1 k := by
    intro i x hx
    unfold wld at hx
    rw [List.getElem?_map] at hx
    cases hc : cns[i]? with
    | none => rw [hc] at hx; cases hx
    | some k => rw [hc] at hx; cases hx; exact ⟨k, rfl, rfl⟩
  refine ⟨fun i j x y hi hj hxy => ?_, fun i x hi => ?_⟩
  · obtain ⟨a, h1, h2⟩ := key i x hi
    obtain ⟨b, h3, h4⟩ := key j y hj
    have hab := hI a b (List.mem_of_getElem? h1) (List.mem_of_getElem? h3) (h2.symm.trans (hxy.trans h4))
    subst hab
    exact va_nd_inj cns cns_nd i j a h1 h3
  · obtain ⟨a, h1, h2⟩ := key i x hi
    exact ⟨a, List.mem_of_getElem? h1, h2⟩
theorem cel_neI {κ : Kp} {σ : St} {k j : Nat} {v : Int} {k' : Nat} (h : k' ≠ k) : cel κ (sI σ k j v) k' = cel κ σ k' := by simp [cel, fld, sI, h]
theorem cel_neF {κ : Kp} {σ : St} {k j : Nat} {v : UInt32} {k' : Nat} (h : k' ≠ k) : cel κ (sF σ k j v) k' = cel κ σ k' := by simp [cel, fld, sF, h]
theorem cel_neL {κ : Kp} {σ : St} {k j : Nat} {v : Int64} {k' : Nat} (h : k' ≠ k) : cel κ (sL σ k j v) k' = cel κ σ k' := by simp [cel, fld, sL, h]
theorem cel_o {κ : Kp} {σ : St} {k c : Nat} (hk : kd k = c) (hc : c < 20) : cel κ σ k = .inr (c, (lay c).mapIdx (fun j b => fld κ σ k j b)) := by
  subst hk
  unfold cel
  rw [if_neg (by omega), if_neg (by omega), if_neg (by omega), if_pos hc]
theorem cel_i {κ : Kp} {σ : St} {k : Nat} (hk : kd k = 20) : cel κ σ k = .inl (κ.2.2 0, len k, .inl (fun j => iZ (σ.1 k j))) := by unfold cel; rw [if_pos hk]
theorem cel_f {κ : Kp} {σ : St} {k : Nat} (hk : kd k = 21) : cel κ σ k = .inl (κ.2.2 1, len k, .inr (.inr (.inl (fun j => σ.2.1 k j)))) := by unfold cel; rw [if_neg (by omega), if_pos hk]
theorem cel_l {κ : Kp} {σ : St} {k : Nat} (hk : kd k = 22) : cel κ σ k = .inl (κ.2.2 2, len k, .inr (.inl (fun j => σ.2.2 k j))) := by unfold cel; rw [if_neg (by omega), if_neg (by omega), if_pos hk]
theorem cel_r {κ : Kp} {σ : St} {k c : Nat} (hk : kd k = c) (hc : 22 < c) : cel κ σ k = .inl (κ.2.2 (c - 20), len k, .inr (.inr (.inr (.inr (fun j => some (κ.2.1 (rf k j))))))) := by
  subst hk
  unfold cel
  rw [if_neg (by omega), if_neg (by omega), if_neg (by omega), if_neg (by omega)]
/-! contexts, goals, contracts -/
abbrev MC : Type := Program × Launch × Env × Room × State × MethodId × Array Value × List Frame × Method × Code
abbrev Mp (M : MC) : Program := M.1
abbrev Ml (M : MC) : Launch := M.2.1
abbrev Me (M : MC) : Env := M.2.2.1
abbrev MR (M : MC) : Room := M.2.2.2.1
abbrev Ms (M : MC) : State := M.2.2.2.2.1
abbrev Mm (M : MC) : MethodId := M.2.2.2.2.2.1
abbrev Ma (M : MC) : Array Value := M.2.2.2.2.2.2.1
abbrev Mb (M : MC) : List Frame := M.2.2.2.2.2.2.2.1
abbrev Mt (M : MC) : Method := M.2.2.2.2.2.2.2.2.1
abbrev Mc (M : MC) : Code := M.2.2.2.2.2.2.2.2.2
def rmd (d : Nat) : Room := { frames := d, cells := 0, slots := 0, locals := 64 * d }
def Cx (M : MC) (κ : Kp) (own : String) (cc : ByteArray) (nL : Nat) (ret : Option FieldType) (d : Nat) : Prop :=
  (Mp M).tables.exec = Jvm.exec ∧ (Mc M).code = cc ∧ (Mc M).maxLocals = nL ∧ (Mt M).sig.returnType = ret ∧ (Ms M).vm.findClass own = some (Mm M).cls ∧ (∀ w ∈ lw_g, w.before (Ma M) (Ms M) = true) ∧ (Mt M).locks = false ∧ MR M = rmd d ∧ va_K κ.1 vwCl (tyk κ) (Ms M) ∧ Ij κ
section CX
variable {M : MC} {κ : Kp} {own : String} {cc : ByteArray} {nL : Nat} {ret : Option FieldType} {d : Nat}
theorem Cx.ow (C : Cx M κ own cc nL ret d) : (Ms M).vm.findClass own = some (Mm M).cls := C.2.2.2.2.1
theorem Cx.hts (C : Cx M κ own cc nL ret d) : ∀ w ∈ lw_g, w.before (Ma M) (Ms M) = true := C.2.2.2.2.2.1
theorem Cx.w (C : Cx M κ own cc nL ret d) {w : Cond} (h : w ∈ lw_g) : w.before (Ma M) (Ms M) = true := C.2.2.2.2.2.1 w h
theorem Cx.locks (C : Cx M κ own cc nL ret d) : (Mt M).locks = false := C.2.2.2.2.2.2.1
theorem Cx.room (C : Cx M κ own cc nL ret d) : MR M = rmd d := C.2.2.2.2.2.2.2.1
theorem Cx.K (C : Cx M κ own cc nL ret d) : va_K κ.1 vwCl (tyk κ) (Ms M) := C.2.2.2.2.2.2.2.2.1
theorem Cx.I (C : Cx M κ own cc nL ret d) : Ij κ := C.2.2.2.2.2.2.2.2.2
end CX
def G (M : MC) (κ : Kp) (nL : Nat) (Q : State → Prop) (pc : Nat) (L : List (Nat × Value)) (st : List Value) (σ : St) : Prop :=
  ∀ (H : Heap) (locs : List Loc) (ls : Array Slot), va_P κ.1 vwCl (wld κ σ) H → va_S (Ak κ) (Ms M).heap H locs → lv_has ls nL L → W (Mp M) (Ml M) (Me M) (MR M) (Ms M) (Mm M) (Ma M) (Mb M) (Mt M) (Mc M) H locs 0 0 Q (F0 (Mm M) pc ls st)
def Wd (κ : Kp) (σ : St) (U : State) : Prop := va_P κ.1 vwCl (wld κ σ) U.heap ∧ va_K κ.1 vwCl (tyk κ) U
def wsm (y : MethodName) (cc : ByteArray) (mL : Nat) (ret : Option FieldType) : List Cond := .code y cc mL ret :: lw_g
def lk : List (Nat × Value) → Nat → Option Value
  | [], _ => none
  | (i, v) :: l, k => if i = k then some v else lk l k
theorem lk_mem : ∀ {l : List (Nat × Value)} {k : Nat} {v : Value}, lk l k = some v → (k, v) ∈ l
  | [], _, _, h => by cases h
  | (i, w) :: l, k, v, h => by
    unfold lk at h
    by_cases e : i = k
    · rw [if_pos e] at h
      cases h
      subst e
      exact List.mem_cons_self
    · rw [if_neg e] at h
      exact List.mem_cons_of_mem _ (lk_mem h)
theorem lk_at {ls : Array Slot} {nL : Nat} {L : List (Nat × Value)} (h : lv_has ls nL L) {k : Nat} {v : Value} (hk : lk L k = some v) : ls[k]? = some (.val v) := h.2.2 (k, v) (lk_mem hk)
def lq1 (L : List (Nat × Value)) (i : Nat) (v : Value) : List (Nat × Value) := (i, v) :: L.filter (fun q => !(q.1 == i) && !(q.1 + 1 == i && q.2.category == 2))
def lq2 (L : List (Nat × Value)) (i : Nat) (v : Value) : List (Nat × Value) := (i, v) :: L.filter (fun q => !(q.1 == i) && (!(q.1 == i + 1) && !(q.1 + 1 == i && q.2.category == 2)))
section ROWS
variable {M : MC} {κ : Kp} {own : String} {cc : ByteArray} {nL : Nat} {ret : Option FieldType} {d : Nat} {Q : State → Prop} {pc : Nat} {L : List (Nat × Value)} {st : List Value} {σ : St}
theorem g_iconst (C : Cx M κ own cc nL ret d) {n : Int} {z : Int} (hd : decode cc pc = .ok (.iconst n, 1)) (h : Int32.ofInt n = iZ z)
    (k : G M κ nL Q (pc + 1) L (.int (iZ z) :: st) σ) : G M κ nL Q pc L (st) σ := by
  intro H locs ls hP hS hl
  exact lv_iconst C.1 C.2.1 hd h (k H locs ls hP hS hl)
theorem g_bipush (C : Cx M κ own cc nL ret d) {n : Int} {z : Int} (hd : decode cc pc = .ok (.bipush n, 2)) (h : (Int8.ofInt n).toInt32 = iZ z)
    (k : G M κ nL Q (pc + 2) L (.int (iZ z) :: st) σ) : G M κ nL Q pc L (st) σ := by
  intro H locs ls hP hS hl
  exact lv_bipush C.1 C.2.1 hd h (k H locs ls hP hS hl)
theorem g_sipush (C : Cx M κ own cc nL ret d) {n : Int} {z : Int} (hd : decode cc pc = .ok (.sipush n, 3)) (h : (Int16.ofInt n).toInt32 = iZ z)
    (k : G M κ nL Q (pc + 3) L (.int (iZ z) :: st) σ) : G M κ nL Q pc L (st) σ := by
  intro H locs ls hP hS hl
  exact lv_sipush C.1 C.2.1 hd h (k H locs ls hP hS hl)
theorem g_lconst0 (C : Cx M κ own cc nL ret d)  (hd : decode cc pc = .ok (.lconst 0, 1)) 
    (k : G M κ nL Q (pc + 1) L (.long 0 :: st) σ) : G M κ nL Q pc L (st) σ := by
  intro H locs ls hP hS hl
  exact lv_lconst C.1 C.2.1 hd rfl (k H locs ls hP hS hl)
theorem g_fconst0 (C : Cx M κ own cc nL ret d)  (hd : decode cc pc = .ok (.fconst 0, 1)) 
    (k : G M κ nL Q (pc + 1) L (.float FP.fconst0 :: st) σ) : G M κ nL Q pc L (st) σ := by
  intro H locs ls hP hS hl
  exact lv_fconst0 C.1 C.2.1 hd (k H locs ls hP hS hl)
theorem g_fconst1 (C : Cx M κ own cc nL ret d)  (hd : decode cc pc = .ok (.fconst 1, 1)) 
    (k : G M κ nL Q (pc + 1) L (.float FP.fconst1 :: st) σ) : G M κ nL Q pc L (st) σ := by
  intro H locs ls hP hS hl
  exact lv_fconst1 C.1 C.2.1 hd (k H locs ls hP hS hl)
theorem g_fconst2 (C : Cx M κ own cc nL ret d)  (hd : decode cc pc = .ok (.fconst 2, 1)) 
    (k : G M κ nL Q (pc + 1) L (.float FP.fconst2 :: st) σ) : G M κ nL Q pc L (st) σ := by
  intro H locs ls hP hS hl
  exact lv_fconst2 C.1 C.2.1 hd (k H locs ls hP hS hl)
theorem g_dconst1 (C : Cx M κ own cc nL ret d)  (hd : decode cc pc = .ok (.dconst 1, 1)) 
    (k : G M κ nL Q (pc + 1) L (.double FP.dconst1 :: st) σ) : G M κ nL Q pc L (st) σ := by
  intro H locs ls hP hS hl
  exact lv_dconst1 C.1 C.2.1 hd (k H locs ls hP hS hl)
theorem g_iload_n (C : Cx M κ own cc nL ret d) {i : Fin 4} {x : Int32} (hd : decode cc pc = .ok (.iload_n i, 1)) (h : lk L i = some (.int x))
    (k : G M κ nL Q (pc + 1) L (.int x :: st) σ) : G M κ nL Q pc L (st) σ := by
  intro H locs ls hP hS hl
  exact lv_iload_n C.1 C.2.1 hd rfl (lk_at hl h) (k H locs ls hP hS hl)
theorem g_iload (C : Cx M κ own cc nL ret d) {i : Nat} {x : Int32} (hd : decode cc pc = .ok (.iload i, 2)) (h : lk L i = some (.int x))
    (k : G M κ nL Q (pc + 2) L (.int x :: st) σ) : G M κ nL Q pc L (st) σ := by
  intro H locs ls hP hS hl
  exact lv_iload C.1 C.2.1 hd (lk_at hl h) (k H locs ls hP hS hl)
theorem g_lload_n (C : Cx M κ own cc nL ret d) {i : Fin 4} {x : Int64} (hd : decode cc pc = .ok (.lload_n i, 1)) (h : lk L i = some (.long x))
    (k : G M κ nL Q (pc + 1) L (.long x :: st) σ) : G M κ nL Q pc L (st) σ := by
  intro H locs ls hP hS hl
  exact lv_lload_n C.1 C.2.1 hd rfl (lk_at hl h) (k H locs ls hP hS hl)
theorem g_lload (C : Cx M κ own cc nL ret d) {i : Nat} {x : Int64} (hd : decode cc pc = .ok (.lload i, 2)) (h : lk L i = some (.long x))
    (k : G M κ nL Q (pc + 2) L (.long x :: st) σ) : G M κ nL Q pc L (st) σ := by
  intro H locs ls hP hS hl
  exact lv_lload C.1 C.2.1 hd (lk_at hl h) (k H locs ls hP hS hl)
theorem g_fload_n (C : Cx M κ own cc nL ret d) {i : Fin 4} {x : UInt32} (hd : decode cc pc = .ok (.fload_n i, 1)) (h : lk L i = some (.float x))
    (k : G M κ nL Q (pc + 1) L (.float x :: st) σ) : G M κ nL Q pc L (st) σ := by
  intro H locs ls hP hS hl
  exact lv_fload_n C.1 C.2.1 hd rfl (lk_at hl h) (k H locs ls hP hS hl)
theorem g_fload (C : Cx M κ own cc nL ret d) {i : Nat} {x : UInt32} (hd : decode cc pc = .ok (.fload i, 2)) (h : lk L i = some (.float x))
    (k : G M κ nL Q (pc + 2) L (.float x :: st) σ) : G M κ nL Q pc L (st) σ := by
  intro H locs ls hP hS hl
  exact lv_fload C.1 C.2.1 hd (lk_at hl h) (k H locs ls hP hS hl)
theorem g_dload_n (C : Cx M κ own cc nL ret d) {i : Fin 4} {x : UInt64} (hd : decode cc pc = .ok (.dload_n i, 1)) (h : lk L i = some (.double x))
    (k : G M κ nL Q (pc + 1) L (.double x :: st) σ) : G M κ nL Q pc L (st) σ := by
  intro H locs ls hP hS hl
  exact lv_dload_n C.1 C.2.1 hd rfl (lk_at hl h) (k H locs ls hP hS hl)
theorem g_dload (C : Cx M κ own cc nL ret d) {i : Nat} {x : UInt64} (hd : decode cc pc = .ok (.dload i, 2)) (h : lk L i = some (.double x))
    (k : G M κ nL Q (pc + 2) L (.double x :: st) σ) : G M κ nL Q pc L (st) σ := by
  intro H locs ls hP hS hl
  exact lv_dload C.1 C.2.1 hd (lk_at hl h) (k H locs ls hP hS hl)
theorem g_aload_n (C : Cx M κ own cc nL ret d) {i : Fin 4} {x : Nat} (hd : decode cc pc = .ok (.aload_n i, 1)) (h : lk L i = some (.ref x))
    (k : G M κ nL Q (pc + 1) L (.ref x :: st) σ) : G M κ nL Q pc L (st) σ := by
  intro H locs ls hP hS hl
  exact lv_aload_n C.1 C.2.1 hd rfl (lk_at hl h) (k H locs ls hP hS hl)
theorem g_aload (C : Cx M κ own cc nL ret d) {i : Nat} {x : Nat} (hd : decode cc pc = .ok (.aload i, 2)) (h : lk L i = some (.ref x))
    (k : G M κ nL Q (pc + 2) L (.ref x :: st) σ) : G M κ nL Q pc L (st) σ := by
  intro H locs ls hP hS hl
  exact lv_aload C.1 C.2.1 hd (lk_at hl h) (k H locs ls hP hS hl)
theorem g_istore_n (C : Cx M κ own cc nL ret d) {i0 : Fin 4} {i : Nat} {x : Int32} {L' : List (Nat × Value)} (hd : decode cc pc = .ok (.istore_n i0, 1)) (hi : (i0 : Nat) = i) (hn : i < nL) (hL : lq1 L i (.int x) = L')
    (k : G M κ nL Q (pc + 1) L' st σ) : G M κ nL Q pc L (.int x :: st) σ := by
  intro H locs ls hP hS hl
  exact lv_istore_n C.1 C.2.1 hd hi hl hn hL (fun ls' hl' => k H locs ls' hP hS hl')
theorem g_istore (C : Cx M κ own cc nL ret d) {i : Nat} {x : Int32} {L' : List (Nat × Value)} (hd : decode cc pc = .ok (.istore i, 2)) (hn : i < nL) (hL : lq1 L i (.int x) = L')
    (k : G M κ nL Q (pc + 2) L' st σ) : G M κ nL Q pc L (.int x :: st) σ := by
  intro H locs ls hP hS hl
  exact lv_istore C.1 C.2.1 hd hl hn hL (fun ls' hl' => k H locs ls' hP hS hl')
theorem g_fstore_n (C : Cx M κ own cc nL ret d) {i0 : Fin 4} {i : Nat} {x : UInt32} {L' : List (Nat × Value)} (hd : decode cc pc = .ok (.fstore_n i0, 1)) (hi : (i0 : Nat) = i) (hn : i < nL) (hL : lq1 L i (.float x) = L')
    (k : G M κ nL Q (pc + 1) L' st σ) : G M κ nL Q pc L (.float x :: st) σ := by
  intro H locs ls hP hS hl
  exact lv_fstore_n C.1 C.2.1 hd hi hl hn hL (fun ls' hl' => k H locs ls' hP hS hl')
theorem g_fstore (C : Cx M κ own cc nL ret d) {i : Nat} {x : UInt32} {L' : List (Nat × Value)} (hd : decode cc pc = .ok (.fstore i, 2)) (hn : i < nL) (hL : lq1 L i (.float x) = L')
    (k : G M κ nL Q (pc + 2) L' st σ) : G M κ nL Q pc L (.float x :: st) σ := by
  intro H locs ls hP hS hl
  exact lv_fstore C.1 C.2.1 hd hl hn hL (fun ls' hl' => k H locs ls' hP hS hl')
theorem g_astore_n (C : Cx M κ own cc nL ret d) {i0 : Fin 4} {i : Nat} {x : Nat} {L' : List (Nat × Value)} (hd : decode cc pc = .ok (.astore_n i0, 1)) (hi : (i0 : Nat) = i) (hn : i < nL) (hL : lq1 L i (.ref x) = L')
    (k : G M κ nL Q (pc + 1) L' st σ) : G M κ nL Q pc L (.ref x :: st) σ := by
  intro H locs ls hP hS hl
  exact lv_astore_n C.1 C.2.1 hd hi hl hn hL (fun ls' hl' => k H locs ls' hP hS hl')
theorem g_astore (C : Cx M κ own cc nL ret d) {i : Nat} {x : Nat} {L' : List (Nat × Value)} (hd : decode cc pc = .ok (.astore i, 2)) (hn : i < nL) (hL : lq1 L i (.ref x) = L')
    (k : G M κ nL Q (pc + 2) L' st σ) : G M κ nL Q pc L (.ref x :: st) σ := by
  intro H locs ls hP hS hl
  exact lv_astore C.1 C.2.1 hd hl hn hL (fun ls' hl' => k H locs ls' hP hS hl')
theorem g_lstore_n (C : Cx M κ own cc nL ret d) {i0 : Fin 4} {i : Nat} {x : Int64} {L' : List (Nat × Value)} (hd : decode cc pc = .ok (.lstore_n i0, 1)) (hi : (i0 : Nat) = i) (hn : i + 1 < nL) (hL : lq2 L i (.long x) = L')
    (k : G M κ nL Q (pc + 1) L' st σ) : G M κ nL Q pc L (.long x :: st) σ := by
  intro H locs ls hP hS hl
  exact lv_lstore_n C.1 C.2.1 hd hi hl hn hL (fun ls' hl' => k H locs ls' hP hS hl')
theorem g_lstore (C : Cx M κ own cc nL ret d) {i : Nat} {x : Int64} {L' : List (Nat × Value)} (hd : decode cc pc = .ok (.lstore i, 2)) (hn : i + 1 < nL) (hL : lq2 L i (.long x) = L')
    (k : G M κ nL Q (pc + 2) L' st σ) : G M κ nL Q pc L (.long x :: st) σ := by
  intro H locs ls hP hS hl
  exact lv_lstore C.1 C.2.1 hd hl hn hL (fun ls' hl' => k H locs ls' hP hS hl')
theorem g_dstore_n (C : Cx M κ own cc nL ret d) {i0 : Fin 4} {i : Nat} {x : UInt64} {L' : List (Nat × Value)} (hd : decode cc pc = .ok (.dstore_n i0, 1)) (hi : (i0 : Nat) = i) (hn : i + 1 < nL) (hL : lq2 L i (.double x) = L')
    (k : G M κ nL Q (pc + 1) L' st σ) : G M κ nL Q pc L (.double x :: st) σ := by
  intro H locs ls hP hS hl
  exact lv_dstore_n C.1 C.2.1 hd hi hl hn hL (fun ls' hl' => k H locs ls' hP hS hl')
theorem g_dstore (C : Cx M κ own cc nL ret d) {i : Nat} {x : UInt64} {L' : List (Nat × Value)} (hd : decode cc pc = .ok (.dstore i, 2)) (hn : i + 1 < nL) (hL : lq2 L i (.double x) = L')
    (k : G M κ nL Q (pc + 2) L' st σ) : G M κ nL Q pc L (.double x :: st) σ := by
  intro H locs ls hP hS hl
  exact lv_dstore C.1 C.2.1 hd hl hn hL (fun ls' hl' => k H locs ls' hP hS hl')
theorem g_iinc (C : Cx M κ own cc nL ret d) {i q : Nat} {n z v : Int} {L' : List (Nat × Value)} (hd : decode cc pc = .ok (.iinc i n, 3)) (hk : L[q]? = some (i, .int (iZ z))) (hv : z + n = v) (hn : i < nL) (hL : lq1 L i (.int (iZ v)) = L')
    (k : G M κ nL Q (pc + 3) L' st σ) : G M κ nL Q pc L st σ := by
  intro H locs ls hP hS hl
  exact lv_iinc C.1 C.2.1 hd hl hk (by rw [← hv, ← iZ_add]; rfl) hn hL (fun ls' hl' => k H locs ls' hP hS hl')
theorem g_iadd (C : Cx M κ own cc nL ret d) {a b : Int} (hd : decode cc pc = .ok (.iadd, 1)) 
    (k : G M κ nL Q (pc + 1) L (.int (iZ (a + b)) :: st) σ) : G M κ nL Q pc L (.int (iZ b) :: .int (iZ a) :: st) σ := by
  intro H locs ls hP hS hl
  refine lv_iadd C.1 C.2.1 hd ?_
  rw [iZ_add]
  exact k H locs ls hP hS hl
theorem g_isub (C : Cx M κ own cc nL ret d) {a b : Int} (hd : decode cc pc = .ok (.isub, 1)) 
    (k : G M κ nL Q (pc + 1) L (.int (iZ (a - b)) :: st) σ) : G M κ nL Q pc L (.int (iZ b) :: .int (iZ a) :: st) σ := by
  intro H locs ls hP hS hl
  refine lv_isub C.1 C.2.1 hd ?_
  rw [iZ_sub]
  exact k H locs ls hP hS hl
theorem g_imul (C : Cx M κ own cc nL ret d) {a b : Int} (hd : decode cc pc = .ok (.imul, 1)) 
    (k : G M κ nL Q (pc + 1) L (.int (iZ (a * b)) :: st) σ) : G M κ nL Q pc L (.int (iZ b) :: .int (iZ a) :: st) σ := by
  intro H locs ls hP hS hl
  refine lv_imul C.1 C.2.1 hd ?_
  rw [iZ_mul]
  exact k H locs ls hP hS hl
theorem g_ineg (C : Cx M κ own cc nL ret d) {a : Int} (hd : decode cc pc = .ok (.ineg, 1)) 
    (k : G M κ nL Q (pc + 1) L (.int (iZ (-a)) :: st) σ) : G M κ nL Q pc L (.int (iZ a) :: st) σ := by
  intro H locs ls hP hS hl
  refine lv_ineg C.1 C.2.1 hd ?_
  rw [iZ_neg]
  exact k H locs ls hP hS hl
theorem g_idiv (C : Cx M κ own cc nL ret d) {a b : Int} (hd : decode cc pc = .ok (.idiv, 1)) (h : 0 ≤ a ∧ a < 2147483648 ∧ 0 < b ∧ b < 2147483648)
    (k : G M κ nL Q (pc + 1) L (.int (iZ (a / b)) :: st) σ) : G M κ nL Q pc L (.int (iZ b) :: .int (iZ a) :: st) σ := by
  intro H locs ls hP hS hl
  refine lv_idiv C.1 C.2.1 hd (iZ_ne0 h) ?_
  rw [iZ_div h]
  exact k H locs ls hP hS hl
theorem g_irem (C : Cx M κ own cc nL ret d) {a b : Int} (hd : decode cc pc = .ok (.irem, 1)) (h : 0 ≤ a ∧ a < 2147483648 ∧ 0 < b ∧ b < 2147483648)
    (k : G M κ nL Q (pc + 1) L (.int (iZ (a % b)) :: st) σ) : G M κ nL Q pc L (.int (iZ b) :: .int (iZ a) :: st) σ := by
  intro H locs ls hP hS hl
  refine lv_irem C.1 C.2.1 hd (iZ_ne0 h) ?_
  rw [iZ_rem h]
  exact k H locs ls hP hS hl
theorem g_iand (C : Cx M κ own cc nL ret d) {x y : Int32} (hd : decode cc pc = .ok (.iand, 1)) 
    (k : G M κ nL Q (pc + 1) L (.int (x &&& y) :: st) σ) : G M κ nL Q pc L (.int y :: .int x :: st) σ := by
  intro H locs ls hP hS hl
  exact lv_iand C.1 C.2.1 hd (k H locs ls hP hS hl)
theorem g_ior (C : Cx M κ own cc nL ret d) {x y : Int32} (hd : decode cc pc = .ok (.ior, 1)) 
    (k : G M κ nL Q (pc + 1) L (.int (x ||| y) :: st) σ) : G M κ nL Q pc L (.int y :: .int x :: st) σ := by
  intro H locs ls hP hS hl
  exact lv_ior C.1 C.2.1 hd (k H locs ls hP hS hl)
theorem g_ixor (C : Cx M κ own cc nL ret d) {x y : Int32} (hd : decode cc pc = .ok (.ixor, 1)) 
    (k : G M κ nL Q (pc + 1) L (.int (x ^^^ y) :: st) σ) : G M κ nL Q pc L (.int y :: .int x :: st) σ := by
  intro H locs ls hP hS hl
  exact lv_ixor C.1 C.2.1 hd (k H locs ls hP hS hl)
theorem g_ishl (C : Cx M κ own cc nL ret d) {x y : Int32} (hd : decode cc pc = .ok (.ishl, 1)) 
    (k : G M κ nL Q (pc + 1) L (.int (x <<< (y &&& 31)) :: st) σ) : G M κ nL Q pc L (.int y :: .int x :: st) σ := by
  intro H locs ls hP hS hl
  exact lv_ishl C.1 C.2.1 hd (k H locs ls hP hS hl)
theorem g_ishr (C : Cx M κ own cc nL ret d) {x y : Int32} (hd : decode cc pc = .ok (.ishr, 1)) 
    (k : G M κ nL Q (pc + 1) L (.int (x >>> (y &&& 31)) :: st) σ) : G M κ nL Q pc L (.int y :: .int x :: st) σ := by
  intro H locs ls hP hS hl
  exact lv_ishr C.1 C.2.1 hd (k H locs ls hP hS hl)
theorem g_iushr (C : Cx M κ own cc nL ret d) {x y : Int32} (hd : decode cc pc = .ok (.iushr, 1)) 
    (k : G M κ nL Q (pc + 1) L (.int ((x.toUInt32 >>> (y.toUInt32 &&& Int32.toUInt32 31)).toInt32) :: st) σ) : G M κ nL Q pc L (.int y :: .int x :: st) σ := by
  intro H locs ls hP hS hl
  exact lv_iushr C.1 C.2.1 hd rfl (k H locs ls hP hS hl)
theorem g_ladd (C : Cx M κ own cc nL ret d) {x y : Int64} (hd : decode cc pc = .ok (.ladd, 1)) 
    (k : G M κ nL Q (pc + 1) L (.long (x + y) :: st) σ) : G M κ nL Q pc L (.long y :: .long x :: st) σ := by
  intro H locs ls hP hS hl
  exact lv_ladd C.1 C.2.1 hd (k H locs ls hP hS hl)
theorem g_lmul (C : Cx M κ own cc nL ret d) {x y : Int64} (hd : decode cc pc = .ok (.lmul, 1)) 
    (k : G M κ nL Q (pc + 1) L (.long (x * y) :: st) σ) : G M κ nL Q pc L (.long y :: .long x :: st) σ := by
  intro H locs ls hP hS hl
  exact lv_lmul C.1 C.2.1 hd (k H locs ls hP hS hl)
theorem g_land (C : Cx M κ own cc nL ret d) {x y : Int64} (hd : decode cc pc = .ok (.land, 1)) 
    (k : G M κ nL Q (pc + 1) L (.long (x &&& y) :: st) σ) : G M κ nL Q pc L (.long y :: .long x :: st) σ := by
  intro H locs ls hP hS hl
  exact lv_land C.1 C.2.1 hd (k H locs ls hP hS hl)
theorem g_lor (C : Cx M κ own cc nL ret d) {x y : Int64} (hd : decode cc pc = .ok (.lor, 1)) 
    (k : G M κ nL Q (pc + 1) L (.long (x ||| y) :: st) σ) : G M κ nL Q pc L (.long y :: .long x :: st) σ := by
  intro H locs ls hP hS hl
  exact lv_lor C.1 C.2.1 hd (k H locs ls hP hS hl)
theorem g_lshl (C : Cx M κ own cc nL ret d) {x : Int64} {y : Int32} (hd : decode cc pc = .ok (.lshl, 1)) 
    (k : G M κ nL Q (pc + 1) L (.long (x <<< (y.toInt64 &&& 63)) :: st) σ) : G M κ nL Q pc L (.int y :: .long x :: st) σ := by
  intro H locs ls hP hS hl
  exact lv_lshl C.1 C.2.1 hd rfl (k H locs ls hP hS hl)
theorem g_i2l (C : Cx M κ own cc nL ret d) {x : Int32} (hd : decode cc pc = .ok (.i2l, 1)) 
    (k : G M κ nL Q (pc + 1) L (.long x.toInt64 :: st) σ) : G M κ nL Q pc L (.int x :: st) σ := by
  intro H locs ls hP hS hl
  exact lv_i2l C.1 C.2.1 hd rfl (k H locs ls hP hS hl)
theorem g_l2i (C : Cx M κ own cc nL ret d) {x : Int64} (hd : decode cc pc = .ok (.l2i, 1)) 
    (k : G M κ nL Q (pc + 1) L (.int x.toInt32 :: st) σ) : G M κ nL Q pc L (.long x :: st) σ := by
  intro H locs ls hP hS hl
  exact lv_l2i C.1 C.2.1 hd rfl (k H locs ls hP hS hl)
theorem g_i2b (C : Cx M κ own cc nL ret d) {x : Int32} (hd : decode cc pc = .ok (.i2b, 1)) 
    (k : G M κ nL Q (pc + 1) L (.int x.toInt8.toInt32 :: st) σ) : G M κ nL Q pc L (.int x :: st) σ := by
  intro H locs ls hP hS hl
  exact lv_i2b C.1 C.2.1 hd rfl (k H locs ls hP hS hl)
theorem g_i2s (C : Cx M κ own cc nL ret d) {x : Int32} (hd : decode cc pc = .ok (.i2s, 1)) 
    (k : G M κ nL Q (pc + 1) L (.int x.toInt16.toInt32 :: st) σ) : G M κ nL Q pc L (.int x :: st) σ := by
  intro H locs ls hP hS hl
  exact lv_i2s C.1 C.2.1 hd rfl (k H locs ls hP hS hl)
theorem g_lcmp (C : Cx M κ own cc nL ret d) {x y : Int64} (hd : decode cc pc = .ok (.lcmp, 1)) 
    (k : G M κ nL Q (pc + 1) L (.int (lg_cmp x y) :: st) σ) : G M κ nL Q pc L (.long y :: .long x :: st) σ := by
  intro H locs ls hP hS hl
  exact W.lcmp C.1 C.2.1 hd (k H locs ls hP hS hl)
theorem g_fadd (C : Cx M κ own cc nL ret d) {x y : UInt32} (hd : decode cc pc = .ok (.fadd, 1)) (h : vf_n32 (FP.fadd x y))
    (k : G M κ nL Q (pc + 1) L (.float (FP.fadd x y) :: st) σ) : G M κ nL Q pc L (.float y :: .float x :: st) σ := by
  intro H locs ls hP hS hl
  exact lv_fadd C.1 C.2.1 hd h (k H locs ls hP hS hl)
theorem g_fsub (C : Cx M κ own cc nL ret d) {x y : UInt32} (hd : decode cc pc = .ok (.fsub, 1)) (h : vf_n32 (FP.fsub x y))
    (k : G M κ nL Q (pc + 1) L (.float (FP.fsub x y) :: st) σ) : G M κ nL Q pc L (.float y :: .float x :: st) σ := by
  intro H locs ls hP hS hl
  exact lv_fsub C.1 C.2.1 hd h (k H locs ls hP hS hl)
theorem g_fmul (C : Cx M κ own cc nL ret d) {x y : UInt32} (hd : decode cc pc = .ok (.fmul, 1)) (h : vf_n32 (FP.fmul x y))
    (k : G M κ nL Q (pc + 1) L (.float (FP.fmul x y) :: st) σ) : G M κ nL Q pc L (.float y :: .float x :: st) σ := by
  intro H locs ls hP hS hl
  exact lv_fmul C.1 C.2.1 hd h (k H locs ls hP hS hl)
theorem g_fdiv (C : Cx M κ own cc nL ret d) {x y : UInt32} (hd : decode cc pc = .ok (.fdiv, 1)) (h : vf_n32 (FP.fdiv x y))
    (k : G M κ nL Q (pc + 1) L (.float (FP.fdiv x y) :: st) σ) : G M κ nL Q pc L (.float y :: .float x :: st) σ := by
  intro H locs ls hP hS hl
  exact lv_fdiv C.1 C.2.1 hd h (k H locs ls hP hS hl)
theorem g_dmul (C : Cx M κ own cc nL ret d) {x y : UInt64} (hd : decode cc pc = .ok (.dmul, 1)) (h : vf_n64 (FP.dmul x y))
    (k : G M κ nL Q (pc + 1) L (.double (FP.dmul x y) :: st) σ) : G M κ nL Q pc L (.double y :: .double x :: st) σ := by
  intro H locs ls hP hS hl
  exact lv_dmul C.1 C.2.1 hd h (k H locs ls hP hS hl)
theorem g_ddiv (C : Cx M κ own cc nL ret d) {x y : UInt64} (hd : decode cc pc = .ok (.ddiv, 1)) (h : vf_n64 (FP.ddiv x y))
    (k : G M κ nL Q (pc + 1) L (.double (FP.ddiv x y) :: st) σ) : G M κ nL Q pc L (.double y :: .double x :: st) σ := by
  intro H locs ls hP hS hl
  exact lv_ddiv C.1 C.2.1 hd h (k H locs ls hP hS hl)
theorem g_fcmp (C : Cx M κ own cc nL ret d) {x y : UInt32} {op : CmpOp} (hd : decode cc pc = .ok (.fcmp op, 1)) 
    (k : G M κ nL Q (pc + 1) L (.int (Op.cmpValue (FP.fcmp x y) op) :: st) σ) : G M κ nL Q pc L (.float y :: .float x :: st) σ := by
  intro H locs ls hP hS hl
  exact lv_fcmp C.1 C.2.1 hd (k H locs ls hP hS hl)
theorem g_dcmp (C : Cx M κ own cc nL ret d) {x y : UInt64} {op : CmpOp} (hd : decode cc pc = .ok (.dcmp op, 1)) 
    (k : G M κ nL Q (pc + 1) L (.int (Op.cmpValue (FP.dcmp x y) op) :: st) σ) : G M κ nL Q pc L (.double y :: .double x :: st) σ := by
  intro H locs ls hP hS hl
  exact lv_dcmp C.1 C.2.1 hd (k H locs ls hP hS hl)
theorem g_i2f (C : Cx M κ own cc nL ret d) {x : Int32} (hd : decode cc pc = .ok (.i2f, 1)) 
    (k : G M κ nL Q (pc + 1) L (.float (FP.i2f x) :: st) σ) : G M κ nL Q pc L (.int x :: st) σ := by
  intro H locs ls hP hS hl
  exact lv_i2f C.1 C.2.1 hd (k H locs ls hP hS hl)
theorem g_f2i (C : Cx M κ own cc nL ret d) {x : UInt32} (hd : decode cc pc = .ok (.f2i, 1)) 
    (k : G M κ nL Q (pc + 1) L (.int (FP.f2i x) :: st) σ) : G M κ nL Q pc L (.float x :: st) σ := by
  intro H locs ls hP hS hl
  exact lv_f2i C.1 C.2.1 hd (k H locs ls hP hS hl)
theorem g_d2i (C : Cx M κ own cc nL ret d) {x : UInt64} (hd : decode cc pc = .ok (.d2i, 1)) 
    (k : G M κ nL Q (pc + 1) L (.int (FP.d2i x) :: st) σ) : G M κ nL Q pc L (.double x :: st) σ := by
  intro H locs ls hP hS hl
  exact lv_d2i C.1 C.2.1 hd (k H locs ls hP hS hl)
theorem g_f2d (C : Cx M κ own cc nL ret d) {x : UInt32} (hd : decode cc pc = .ok (.f2d, 1)) (h : vf_n64 (FP.f2d x))
    (k : G M κ nL Q (pc + 1) L (.double (FP.f2d x) :: st) σ) : G M κ nL Q pc L (.float x :: st) σ := by
  intro H locs ls hP hS hl
  exact lv_f2d C.1 C.2.1 hd h (k H locs ls hP hS hl)
theorem g_dup (C : Cx M κ own cc nL ret d) {v : Value} (hd : decode cc pc = .ok (.dup, 1)) (h : v.category = 1)
    (k : G M κ nL Q (pc + 1) L (v :: v :: st) σ) : G M κ nL Q pc L (v :: st) σ := by
  intro H locs ls hP hS hl
  exact lv_dup C.1 C.2.1 hd h (k H locs ls hP hS hl)
theorem g_dup2 (C : Cx M κ own cc nL ret d) {v w : Value} (hd : decode cc pc = .ok (.dup2, 1)) (h : v.category = 1) (h2 : w.category = 1)
    (k : G M κ nL Q (pc + 1) L (v :: w :: v :: w :: st) σ) : G M κ nL Q pc L (v :: w :: st) σ := by
  intro H locs ls hP hS hl
  exact lv_dup2_11 C.1 C.2.1 hd h h2 (k H locs ls hP hS hl)
theorem g_ldc (C : Cx M κ own cc nL ret d) {i : Nat} {z : Int} (hd : decode cc pc = .ok (.ldc i, 2)) (h : Cond.constant own i (iZ z) ∈ lw_g)
    (k : G M κ nL Q (pc + 2) L (.int (iZ z) :: st) σ) : G M κ nL Q pc L (st) σ := by
  intro H locs ls hP hS hl
  exact lv_ldc C.1 C.2.1 C.ow (C.w h) hd (k H locs ls hP hS hl)
theorem g_ldcw (C : Cx M κ own cc nL ret d) {i : Nat} {z : Int} (hd : decode cc pc = .ok (.ldc_w i, 3)) (h : Cond.constant own i (iZ z) ∈ lw_g)
    (k : G M κ nL Q (pc + 3) L (.int (iZ z) :: st) σ) : G M κ nL Q pc L (st) σ := by
  intro H locs ls hP hS hl
  exact lv_ldcw C.1 C.2.1 C.ow (C.w h) hd (k H locs ls hP hS hl)
theorem g_ldc2l (C : Cx M κ own cc nL ret d) {i : Nat} {z : Int64} (hd : decode cc pc = .ok (.ldc2_w i, 3)) (h : Cond.constantLong own i z ∈ lw_g)
    (k : G M κ nL Q (pc + 3) L (.long z :: st) σ) : G M κ nL Q pc L (st) σ := by
  intro H locs ls hP hS hl
  exact lv_ldc2 C.1 C.2.1 C.ow (C.w h) hd (k H locs ls hP hS hl)
theorem g_ldc2d (C : Cx M κ own cc nL ret d) {i : Nat} {z : UInt64} (hd : decode cc pc = .ok (.ldc2_w i, 3)) (h : Cond.constantDouble own i z ∈ lw_g)
    (k : G M κ nL Q (pc + 3) L (.double z :: st) σ) : G M κ nL Q pc L (st) σ := by
  intro H locs ls hP hS hl
  exact lv_ldc2d C.1 C.2.1 C.ow (C.w h) hd (k H locs ls hP hS hl)
theorem g_if_eq (C : Cx M κ own cc nL ret d) {a off : Int} {tgt : Nat} (hd : decode cc pc = .ok (.ifCond .eq off, 3)) (ht : (pc : Int) + off = (tgt : Int)) (ha : R32 a)
    (kt : a = 0 → G M κ nL Q tgt L st σ) (kf : ¬ a = 0 → G M κ nL Q (pc + 3) L st σ) : G M κ nL Q pc L (.int (iZ a) :: st) σ := by
  intro H locs ls hP hS hl
  have e := iZ_cmp0 ha
  exact lv_if_eq C.1 C.2.1 hd ht (fun h => kt (by have := e; simp only [e] at h; omega) H locs ls hP hS hl) (fun h => kf (by have := e; simp only [e] at h; omega) H locs ls hP hS hl)
theorem g_icmp_eq (C : Cx M κ own cc nL ret d) {a b off : Int} {tgt : Nat} (hd : decode cc pc = .ok (.if_icmp .eq off, 3)) (ht : (pc : Int) + off = (tgt : Int)) (hab : R32 a ∧ R32 b)
    (kt : a = b → G M κ nL Q tgt L st σ) (kf : ¬ a = b → G M κ nL Q (pc + 3) L st σ) : G M κ nL Q pc L (.int (iZ b) :: .int (iZ a) :: st) σ := by
  intro H locs ls hP hS hl
  have e := iZ_cmp hab.1 hab.2
  exact lv_icmp_eq C.1 C.2.1 hd ht (fun h => kt (by simp only [e] at h; omega) H locs ls hP hS hl) (fun h => kf (by simp only [e] at h; omega) H locs ls hP hS hl)
theorem g_ifr_eq (C : Cx M κ own cc nL ret d) {x : Int32} {off : Int} {tgt : Nat} (hd : decode cc pc = .ok (.ifCond .eq off, 3)) (ht : (pc : Int) + off = (tgt : Int))
    (kt : x = 0 → G M κ nL Q tgt L st σ) (kf : ¬ (x = 0) → G M κ nL Q (pc + 3) L st σ) : G M κ nL Q pc L (.int x :: st) σ := by
  intro H locs ls hP hS hl
  exact lv_if_eq C.1 C.2.1 hd ht (fun h => kt h H locs ls hP hS hl) (fun h => kf (by first | exact h | simpa using h) H locs ls hP hS hl)
theorem g_if_ne (C : Cx M κ own cc nL ret d) {a off : Int} {tgt : Nat} (hd : decode cc pc = .ok (.ifCond .ne off, 3)) (ht : (pc : Int) + off = (tgt : Int)) (ha : R32 a)
    (kt : ¬ a = 0 → G M κ nL Q tgt L st σ) (kf : a = 0 → G M κ nL Q (pc + 3) L st σ) : G M κ nL Q pc L (.int (iZ a) :: st) σ := by
  intro H locs ls hP hS hl
  have e := iZ_cmp0 ha
  exact lv_if_ne C.1 C.2.1 hd ht (fun h => kt (by have := e; simp only [e] at h; omega) H locs ls hP hS hl) (fun h => kf (by have := e; simp only [e] at h; omega) H locs ls hP hS hl)
theorem g_icmp_ne (C : Cx M κ own cc nL ret d) {a b off : Int} {tgt : Nat} (hd : decode cc pc = .ok (.if_icmp .ne off, 3)) (ht : (pc : Int) + off = (tgt : Int)) (hab : R32 a ∧ R32 b)
    (kt : ¬ a = b → G M κ nL Q tgt L st σ) (kf : a = b → G M κ nL Q (pc + 3) L st σ) : G M κ nL Q pc L (.int (iZ b) :: .int (iZ a) :: st) σ := by
  intro H locs ls hP hS hl
  have e := iZ_cmp hab.1 hab.2
  exact lv_icmp_ne C.1 C.2.1 hd ht (fun h => kt (by simp only [e] at h; omega) H locs ls hP hS hl) (fun h => kf (by simp only [e] at h; omega) H locs ls hP hS hl)
theorem g_ifr_ne (C : Cx M κ own cc nL ret d) {x : Int32} {off : Int} {tgt : Nat} (hd : decode cc pc = .ok (.ifCond .ne off, 3)) (ht : (pc : Int) + off = (tgt : Int))
    (kt : ¬ x = 0 → G M κ nL Q tgt L st σ) (kf : ¬ (¬ x = 0) → G M κ nL Q (pc + 3) L st σ) : G M κ nL Q pc L (.int x :: st) σ := by
  intro H locs ls hP hS hl
  exact lv_if_ne C.1 C.2.1 hd ht (fun h => kt h H locs ls hP hS hl) (fun h => kf (by first | exact h | simpa using h) H locs ls hP hS hl)
theorem g_if_lt (C : Cx M κ own cc nL ret d) {a off : Int} {tgt : Nat} (hd : decode cc pc = .ok (.ifCond .lt off, 3)) (ht : (pc : Int) + off = (tgt : Int)) (ha : R32 a)
    (kt : a < 0 → G M κ nL Q tgt L st σ) (kf : 0 ≤ a → G M κ nL Q (pc + 3) L st σ) : G M κ nL Q pc L (.int (iZ a) :: st) σ := by
  intro H locs ls hP hS hl
  have e := iZ_cmp0 ha
  exact lv_if_lt C.1 C.2.1 hd ht (fun h => kt (by have := e; simp only [e] at h; omega) H locs ls hP hS hl) (fun h => kf (by have := e; simp only [e] at h; omega) H locs ls hP hS hl)
theorem g_icmp_lt (C : Cx M κ own cc nL ret d) {a b off : Int} {tgt : Nat} (hd : decode cc pc = .ok (.if_icmp .lt off, 3)) (ht : (pc : Int) + off = (tgt : Int)) (hab : R32 a ∧ R32 b)
    (kt : a < b → G M κ nL Q tgt L st σ) (kf : b ≤ a → G M κ nL Q (pc + 3) L st σ) : G M κ nL Q pc L (.int (iZ b) :: .int (iZ a) :: st) σ := by
  intro H locs ls hP hS hl
  have e := iZ_cmp hab.1 hab.2
  exact lv_icmp_lt C.1 C.2.1 hd ht (fun h => kt (by simp only [e] at h; omega) H locs ls hP hS hl) (fun h => kf (by simp only [e] at h; omega) H locs ls hP hS hl)
theorem g_ifr_lt (C : Cx M κ own cc nL ret d) {x : Int32} {off : Int} {tgt : Nat} (hd : decode cc pc = .ok (.ifCond .lt off, 3)) (ht : (pc : Int) + off = (tgt : Int))
    (kt : x < 0 → G M κ nL Q tgt L st σ) (kf : ¬ (x < 0) → G M κ nL Q (pc + 3) L st σ) : G M κ nL Q pc L (.int x :: st) σ := by
  intro H locs ls hP hS hl
  exact lv_if_lt C.1 C.2.1 hd ht (fun h => kt h H locs ls hP hS hl) (fun h => kf (by first | exact h | simpa using h) H locs ls hP hS hl)
theorem g_if_ge (C : Cx M κ own cc nL ret d) {a off : Int} {tgt : Nat} (hd : decode cc pc = .ok (.ifCond .ge off, 3)) (ht : (pc : Int) + off = (tgt : Int)) (ha : R32 a)
    (kt : 0 ≤ a → G M κ nL Q tgt L st σ) (kf : a < 0 → G M κ nL Q (pc + 3) L st σ) : G M κ nL Q pc L (.int (iZ a) :: st) σ := by
  intro H locs ls hP hS hl
  have e := iZ_cmp0 ha
  exact lv_if_ge C.1 C.2.1 hd ht (fun h => kt (by have := e; simp only [e] at h; omega) H locs ls hP hS hl) (fun h => kf (by have := e; simp only [e] at h; omega) H locs ls hP hS hl)
theorem g_icmp_ge (C : Cx M κ own cc nL ret d) {a b off : Int} {tgt : Nat} (hd : decode cc pc = .ok (.if_icmp .ge off, 3)) (ht : (pc : Int) + off = (tgt : Int)) (hab : R32 a ∧ R32 b)
    (kt : b ≤ a → G M κ nL Q tgt L st σ) (kf : a < b → G M κ nL Q (pc + 3) L st σ) : G M κ nL Q pc L (.int (iZ b) :: .int (iZ a) :: st) σ := by
  intro H locs ls hP hS hl
  have e := iZ_cmp hab.1 hab.2
  exact lv_icmp_ge C.1 C.2.1 hd ht (fun h => kt (by simp only [e] at h; omega) H locs ls hP hS hl) (fun h => kf (by simp only [e] at h; omega) H locs ls hP hS hl)
theorem g_ifr_ge (C : Cx M κ own cc nL ret d) {x : Int32} {off : Int} {tgt : Nat} (hd : decode cc pc = .ok (.ifCond .ge off, 3)) (ht : (pc : Int) + off = (tgt : Int))
    (kt : 0 ≤ x → G M κ nL Q tgt L st σ) (kf : ¬ (0 ≤ x) → G M κ nL Q (pc + 3) L st σ) : G M κ nL Q pc L (.int x :: st) σ := by
  intro H locs ls hP hS hl
  exact lv_if_ge C.1 C.2.1 hd ht (fun h => kt h H locs ls hP hS hl) (fun h => kf (by first | exact h | simpa using h) H locs ls hP hS hl)
theorem g_if_gt (C : Cx M κ own cc nL ret d) {a off : Int} {tgt : Nat} (hd : decode cc pc = .ok (.ifCond .gt off, 3)) (ht : (pc : Int) + off = (tgt : Int)) (ha : R32 a)
    (kt : 0 < a → G M κ nL Q tgt L st σ) (kf : a ≤ 0 → G M κ nL Q (pc + 3) L st σ) : G M κ nL Q pc L (.int (iZ a) :: st) σ := by
  intro H locs ls hP hS hl
  have e := iZ_cmp0 ha
  exact lv_if_gt C.1 C.2.1 hd ht (fun h => kt (by have := e; simp only [e] at h; omega) H locs ls hP hS hl) (fun h => kf (by have := e; simp only [e] at h; omega) H locs ls hP hS hl)
theorem g_icmp_gt (C : Cx M κ own cc nL ret d) {a b off : Int} {tgt : Nat} (hd : decode cc pc = .ok (.if_icmp .gt off, 3)) (ht : (pc : Int) + off = (tgt : Int)) (hab : R32 a ∧ R32 b)
    (kt : b < a → G M κ nL Q tgt L st σ) (kf : a ≤ b → G M κ nL Q (pc + 3) L st σ) : G M κ nL Q pc L (.int (iZ b) :: .int (iZ a) :: st) σ := by
  intro H locs ls hP hS hl
  have e := iZ_cmp hab.1 hab.2
  exact lv_icmp_gt C.1 C.2.1 hd ht (fun h => kt (by simp only [e] at h; omega) H locs ls hP hS hl) (fun h => kf (by simp only [e] at h; omega) H locs ls hP hS hl)
theorem g_ifr_gt (C : Cx M κ own cc nL ret d) {x : Int32} {off : Int} {tgt : Nat} (hd : decode cc pc = .ok (.ifCond .gt off, 3)) (ht : (pc : Int) + off = (tgt : Int))
    (kt : 0 < x → G M κ nL Q tgt L st σ) (kf : ¬ (0 < x) → G M κ nL Q (pc + 3) L st σ) : G M κ nL Q pc L (.int x :: st) σ := by
  intro H locs ls hP hS hl
  exact lv_if_gt C.1 C.2.1 hd ht (fun h => kt h H locs ls hP hS hl) (fun h => kf (by first | exact h | simpa using h) H locs ls hP hS hl)
theorem g_if_le (C : Cx M κ own cc nL ret d) {a off : Int} {tgt : Nat} (hd : decode cc pc = .ok (.ifCond .le off, 3)) (ht : (pc : Int) + off = (tgt : Int)) (ha : R32 a)
    (kt : a ≤ 0 → G M κ nL Q tgt L st σ) (kf : 0 < a → G M κ nL Q (pc + 3) L st σ) : G M κ nL Q pc L (.int (iZ a) :: st) σ := by
  intro H locs ls hP hS hl
  have e := iZ_cmp0 ha
  exact lv_if_le C.1 C.2.1 hd ht (fun h => kt (by have := e; simp only [e] at h; omega) H locs ls hP hS hl) (fun h => kf (by have := e; simp only [e] at h; omega) H locs ls hP hS hl)
theorem g_icmp_le (C : Cx M κ own cc nL ret d) {a b off : Int} {tgt : Nat} (hd : decode cc pc = .ok (.if_icmp .le off, 3)) (ht : (pc : Int) + off = (tgt : Int)) (hab : R32 a ∧ R32 b)
    (kt : a ≤ b → G M κ nL Q tgt L st σ) (kf : b < a → G M κ nL Q (pc + 3) L st σ) : G M κ nL Q pc L (.int (iZ b) :: .int (iZ a) :: st) σ := by
  intro H locs ls hP hS hl
  have e := iZ_cmp hab.1 hab.2
  exact lv_icmp_le C.1 C.2.1 hd ht (fun h => kt (by simp only [e] at h; omega) H locs ls hP hS hl) (fun h => kf (by simp only [e] at h; omega) H locs ls hP hS hl)
theorem g_ifr_le (C : Cx M κ own cc nL ret d) {x : Int32} {off : Int} {tgt : Nat} (hd : decode cc pc = .ok (.ifCond .le off, 3)) (ht : (pc : Int) + off = (tgt : Int))
    (kt : x ≤ 0 → G M κ nL Q tgt L st σ) (kf : ¬ (x ≤ 0) → G M κ nL Q (pc + 3) L st σ) : G M κ nL Q pc L (.int x :: st) σ := by
  intro H locs ls hP hS hl
  exact lv_if_le C.1 C.2.1 hd ht (fun h => kt h H locs ls hP hS hl) (fun h => kf (by first | exact h | simpa using h) H locs ls hP hS hl)
theorem g_ifb_eq (C : Cx M κ own cc nL ret d) {P : Prop} [Decidable P] {off : Int} {tgt : Nat} (hd : decode cc pc = .ok (.ifCond .eq off, 3)) (ht : (pc : Int) + off = (tgt : Int))
    (kt : ¬ P → G M κ nL Q tgt L st σ) (kf : P → G M κ nL Q (pc + 3) L st σ) : G M κ nL Q pc L (.int (iZ (bZ P)) :: st) σ :=
  g_if_eq C hd ht (bZ_R P) (fun h => kt (by unfold bZ at h; split at h <;> simp_all)) (fun h => kf (by unfold bZ at h; split at h <;> simp_all))
theorem g_ifb_ne (C : Cx M κ own cc nL ret d) {P : Prop} [Decidable P] {off : Int} {tgt : Nat} (hd : decode cc pc = .ok (.ifCond .ne off, 3)) (ht : (pc : Int) + off = (tgt : Int))
    (kt : P → G M κ nL Q tgt L st σ) (kf : ¬ P → G M κ nL Q (pc + 3) L st σ) : G M κ nL Q pc L (.int (iZ (bZ P)) :: st) σ :=
  g_if_ne C hd ht (bZ_R P) (fun h => kt (by unfold bZ at h; split at h <;> simp_all)) (fun h => kf (by unfold bZ at h; split at h <;> simp_all))
theorem g_goto (C : Cx M κ own cc nL ret d) {off : Int} {tgt : Nat} (hd : decode cc pc = .ok (.goto off, 3)) (ht : (pc : Int) + off = (tgt : Int))
    (k : G M κ nL Q tgt L st σ) : G M κ nL Q pc L st σ := by
  intro H locs ls hP hS hl
  exact lv_goto C.1 C.2.1 hd ht (k H locs ls hP hS hl)
theorem g_tsw (C : Cx M κ own cc nL ret d) {dflt lo hi a off : Int} {offs : Array Int} {len tgt : Nat} (hd : decode cc pc = .ok (.tableswitch dflt lo hi offs, len)) (ha : R32 a) (h1 : lo ≤ a ∧ a ≤ hi) (ho : offs[(a - lo).toNat]? = some off) (ht : (pc : Int) + off = (tgt : Int))
    (k : G M κ nL Q tgt L st σ) : G M κ nL Q pc L (.int (iZ a) :: st) σ := by
  intro H locs ls hP hS hl
  have e := iZ_toInt ha
  exact lv_tableIn C.1 C.2.1 hd (by rw [e]; omega) (by rw [e]; omega) (by rw [e]; exact ho) ht (k H locs ls hP hS hl)
theorem g_tswd (C : Cx M κ own cc nL ret d) {dflt lo hi a : Int} {offs : Array Int} {len tgt : Nat} (hd : decode cc pc = .ok (.tableswitch dflt lo hi offs, len)) (ha : R32 a) (h1 : a < lo ∨ hi < a) (ht : (pc : Int) + dflt = (tgt : Int))
    (k : G M κ nL Q tgt L st σ) : G M κ nL Q pc L (.int (iZ a) :: st) σ := by
  intro H locs ls hP hS hl
  have e := iZ_toInt ha
  exact lv_tableOut C.1 C.2.1 hd (by rw [e]; exact h1) ht (k H locs ls hP hS hl)
/-- the same goal with another list of locals, another stack, another state, where they are equal -/
theorem g_loc {L' : List (Nat × Value)} (is : List Nat) (h : lv_pick L is = L') (k : G M κ nL Q pc L' st σ) : G M κ nL Q pc L st σ := fun H locs ls hP hS hl => k H locs ls hP hS (lv_sub hl is h)
theorem g_top {v w : Value} (h : v = w) (k : G M κ nL Q pc L (w :: st) σ) : G M κ nL Q pc L (v :: st) σ := h ▸ k
theorem g_st {st' : List Value} (h : st = st') (k : G M κ nL Q pc L st' σ) : G M κ nL Q pc L st σ := h ▸ k
theorem g_sig {σ' : St} (h : σ = σ') (k : G M κ nL Q pc L st σ') : G M κ nL Q pc L st σ := h ▸ k
theorem g_int {z z' : Int} (h : z = z') (k : G M κ nL Q pc L (.int (iZ z') :: st) σ) : G M κ nL Q pc L (.int (iZ z) :: st) σ := h ▸ k
theorem g_raw {x : Int32} {z : Int} (h : x = iZ z) (k : G M κ nL Q pc L (.int (iZ z) :: st) σ) : G M κ nL Q pc L (.int x :: st) σ := h ▸ k
/-! arrays -/
theorem g_iald (C : Cx M κ own cc nL ret d) {k n N : Nat} {z : Int} (hd : decode cc pc = .ok (.iaload, 1)) (hk : kd k = 20) (hN : len k = N) (hz : z = (n : Int)) (hn : n < N) (hb : N < 2147483648)
    (kk : G M κ nL Q (pc + 1) L (.int (iZ (σ.1 k n)) :: st) σ) : G M κ nL Q pc L (.int (iZ z) :: .ref (κ.2.1 k) :: st) σ := by
  intro H locs ls hP hS hl
  obtain ⟨q, hq, hw⟩ := wld_at κ σ (k := k) (by omega)
  rw [cel_i hk] at hw
  subst hz
  refine va_iald C.1 C.2.1 C.K hP q 0 hw rfl (iZ_in rfl (by omega) (by omega)) hd ?_
  rw [iZ_clamp (by omega)]
  exact kk H locs ls hP hS hl
theorem g_fald (C : Cx M κ own cc nL ret d) {k n N : Nat} {z : Int} (hd : decode cc pc = .ok (.faload, 1)) (hk : kd k = 21) (hN : len k = N) (hz : z = (n : Int)) (hn : n < N) (hb : N < 2147483648)
    (kk : G M κ nL Q (pc + 1) L (.float (σ.2.1 k n) :: st) σ) : G M κ nL Q pc L (.int (iZ z) :: .ref (κ.2.1 k) :: st) σ := by
  intro H locs ls hP hS hl
  obtain ⟨q, hq, hw⟩ := wld_at κ σ (k := k) (by omega)
  rw [cel_f hk] at hw
  subst hz
  refine va_fald C.1 C.2.1 C.K hP q 1 hw rfl (iZ_in rfl (by omega) (by omega)) hd ?_
  rw [iZ_clamp (by omega)]
  exact kk H locs ls hP hS hl
theorem g_lald (C : Cx M κ own cc nL ret d) {k n N : Nat} {z : Int} (hd : decode cc pc = .ok (.laload, 1)) (hk : kd k = 22) (hN : len k = N) (hz : z = (n : Int)) (hn : n < N) (hb : N < 2147483648)
    (kk : G M κ nL Q (pc + 1) L (.long (σ.2.2 k n) :: st) σ) : G M κ nL Q pc L (.int (iZ z) :: .ref (κ.2.1 k) :: st) σ := by
  intro H locs ls hP hS hl
  obtain ⟨q, hq, hw⟩ := wld_at κ σ (k := k) (by omega)
  rw [cel_l hk] at hw
  subst hz
  refine va_lald C.1 C.2.1 C.K hP q 2 hw rfl (iZ_in rfl (by omega) (by omega)) hd ?_
  rw [iZ_clamp (by omega)]
  exact kk H locs ls hP hS hl
theorem g_aald (C : Cx M κ own cc nL ret d) {k n N c : Nat} {z : Int} {K : String} (hd : decode cc pc = .ok (.aaload, 1)) (hk : kd k = c) (hc : 22 < c) (ht : (tyk κ)[c - 20]? = some (κ.2.2 (c - 20), .object K)) (hc9 : c ≠ 99) (hN : len k = N) (hz : z = (n : Int)) (hn : n < N) (hb : N < 2147483648) {r : Nat} (hr : rf k n = r)
    (kk : G M κ nL Q (pc + 1) L (.ref (κ.2.1 r) :: st) σ) : G M κ nL Q pc L (.int (iZ z) :: .ref (κ.2.1 k) :: st) σ := by
  intro H locs ls hP hS hl
  obtain ⟨q, hq, hw⟩ := wld_at κ σ (k := k) (by omega)
  rw [cel_r hk hc] at hw
  subst hz
  refine va_aldq C.1 C.2.1 C.K hP q (c - 20) hw ht (iZ_in rfl (by omega) (by omega)) hd ?_
  rw [iZ_clamp (by omega), hr]
  exact kk H locs ls hP hS hl
theorem g_iast (C : Cx M κ own cc nL ret d) {k n N : Nat} {z v : Int} (hd : decode cc pc = .ok (.iastore, 1)) (hk : kd k = 20) (hN : len k = N) (hz : z = (n : Int)) (hn : n < N) (hb : N < 2147483648)
    (kk : G M κ nL Q (pc + 1) L st (sI σ k n v)) : G M κ nL Q pc L (.int (iZ v) :: .int (iZ z) :: .ref (κ.2.1 k) :: st) σ := by
  intro H locs ls hP hS hl
  obtain ⟨q, hq, hw⟩ := wld_at κ σ (k := k) (by omega)
  rw [cel_i hk] at hw
  subst hz
  refine va_iast C.1 C.2.1 C.K hP (wld_D C.I σ) hS q 0 hw rfl (iZ_in rfl (by omega) (by omega)) hd (fun H1 locs1 hP1 _ hS1 => ?_)
  have e : (.inl (κ.2.2 0, len k, .inl (upd (fun j => iZ (σ.1 k j)) (iZ (n : Int)).toNatClampNeg (iZ v))) : va_E) = cel κ (sI σ k n v) k := by
    rw [cel_i hk, iZ_clamp (by omega)]
    congr 3
    congr 1
    funext j
    by_cases hj : j = n
    · simp [upd, sI, hj]
    · simp [upd, sI, hj]
  rw [e, wld_set hq (fun k' h => cel_neI h)] at hP1
  exact kk H1 locs1 ls hP1 hS1 hl
theorem g_fast (C : Cx M κ own cc nL ret d) {k n N : Nat} {z : Int} {v : UInt32} (hd : decode cc pc = .ok (.fastore, 1)) (hk : kd k = 21) (hN : len k = N) (hz : z = (n : Int)) (hn : n < N) (hb : N < 2147483648)
    (kk : G M κ nL Q (pc + 1) L st (sF σ k n v)) : G M κ nL Q pc L (.float v :: .int (iZ z) :: .ref (κ.2.1 k) :: st) σ := by
  intro H locs ls hP hS hl
  obtain ⟨q, hq, hw⟩ := wld_at κ σ (k := k) (by omega)
  rw [cel_f hk] at hw
  subst hz
  refine va_fast C.1 C.2.1 C.K hP (wld_D C.I σ) hS q 1 hw rfl (iZ_in rfl (by omega) (by omega)) hd (fun H1 locs1 hP1 _ hS1 => ?_)
  have e : (.inl (κ.2.2 1, len k, .inr (.inr (.inl (vf_upd (fun j => σ.2.1 k j) (iZ (n : Int)).toNatClampNeg v)))) : va_E) = cel κ (sF σ k n v) k := by
    rw [cel_f hk, iZ_clamp (by omega)]
    congr 5
    congr 1
    funext j
    by_cases hj : j = n
    · simp [vf_upd, sF, hj]
    · simp [vf_upd, sF, hj]
  rw [e, wld_set hq (fun k' h => cel_neF h)] at hP1
  exact kk H1 locs1 ls hP1 hS1 hl
theorem g_last (C : Cx M κ own cc nL ret d) {k n N : Nat} {z : Int} {v : Int64} (hd : decode cc pc = .ok (.lastore, 1)) (hk : kd k = 22) (hN : len k = N) (hz : z = (n : Int)) (hn : n < N) (hb : N < 2147483648)
    (kk : G M κ nL Q (pc + 1) L st (sL σ k n v)) : G M κ nL Q pc L (.long v :: .int (iZ z) :: .ref (κ.2.1 k) :: st) σ := by
  intro H locs ls hP hS hl
  obtain ⟨q, hq, hw⟩ := wld_at κ σ (k := k) (by omega)
  rw [cel_l hk] at hw
  subst hz
  refine va_last C.1 C.2.1 C.K hP (wld_D C.I σ) hS q 2 hw rfl (iZ_in rfl (by omega) (by omega)) hd (fun H1 locs1 hP1 _ hS1 => ?_)
  have e : (.inl (κ.2.2 2, len k, .inr (.inl (vp_updL (fun j => σ.2.2 k j) (iZ (n : Int)).toNatClampNeg v))) : va_E) = cel κ (sL σ k n v) k := by
    rw [cel_l hk, iZ_clamp (by omega)]
    congr 4
    congr 1
    funext j
    by_cases hj : j = n
    · simp [vp_updL, sL, hj]
    · simp [vp_updL, sL, hj]
  rw [e, wld_set hq (fun k' h => cel_neL h)] at hP1
  exact kk H1 locs1 ls hP1 hS1 hl
theorem g_alen (C : Cx M κ own cc nL ret d) {k N : Nat} (hd : decode cc pc = .ok (.arraylength, 1)) (hk : kd k = 20) (hN : len k = N)
    (kk : G M κ nL Q (pc + 1) L (.int (iZ (N : Int)) :: st) σ) : G M κ nL Q pc L (.ref (κ.2.1 k) :: st) σ := by
  intro H locs ls hP hS hl
  obtain ⟨q, hq, hw⟩ := wld_at κ σ (k := k) (by omega)
  rw [cel_i hk] at hw
  refine va_alen C.1 C.2.1 C.K hP q 0 hw rfl (v := iZ (N : Int)) (by rw [hN]; rfl) hd ?_
  exact kk H locs ls hP hS hl
theorem g_alenL (C : Cx M κ own cc nL ret d) {k N : Nat} (hd : decode cc pc = .ok (.arraylength, 1)) (hk : kd k = 22) (hN : len k = N)
    (kk : G M κ nL Q (pc + 1) L (.int (iZ (N : Int)) :: st) σ) : G M κ nL Q pc L (.ref (κ.2.1 k) :: st) σ := by
  intro H locs ls hP hS hl
  obtain ⟨q, hq, hw⟩ := wld_at κ σ (k := k) (by omega)
  rw [cel_l hk] at hw
  refine va_alen C.1 C.2.1 C.K hP q 2 hw rfl (v := iZ (N : Int)) (by rw [hN]; rfl) hd ?_
  exact kk H locs ls hP hS hl
/-! fields: class c, slot j -/
theorem lay_at {c j b : Nat} {f : Nat → Nat → Value} (h : (lay c)[j]? = some b) : ((lay c).mapIdx f)[j]? = some (f j b) := by rw [List.getElem?_mapIdx, h]; rfl
theorem g_get (C : Cx M κ own cc nL ret d) {k c j b i N : Nat} {Cn ref : String} {T : u_T} {v : Value} (hd : decode cc pc = .ok (.getfield i, 3)) (hk : kd k = c) (hc : c < 20) (hcl : vwCl[c]? = some (Cn, T, N)) (hin : ∀ w ∈ u_ws Cn T N, w ∈ lw_g) (hj : j < N) (hlink : Cond.fieldLink own i (T j).1 (T j).2.1 (T j).2.2.1 ∈ lw_g) (hb : (lay c)[j]? = some b) (hv : fld κ σ k j b = v)
    (kk : G M κ nL Q (pc + 3) L (v :: st) σ) : G M κ nL Q pc L (.ref (κ.2.1 k) :: st) σ := by
  intro H locs ls hP hS hl
  obtain ⟨q, hq, hw⟩ := wld_at κ σ (k := k) (by omega)
  rw [cel_o hk hc] at hw
  refine va_get C.1 C.2.1 C.hts hin C.ow C.K hP q hw hcl j hj (C.w hlink) (fun _ h9 => h9) (v := v) (by rw [lay_at hb, hv]) hd ?_
  exact kk H locs ls hP hS hl
theorem g_putv (C : Cx M κ own cc nL ret d) {k c j b i N : Nat} {Cn : String} {T : u_T} {ty0 : Nat → FieldType} {ty : FieldType} {v : Value} {σ' : St} (hd : decode cc pc = .ok (.putfield i, 3)) (hk : kd k = c) (hc : c < 20) (hcl : vwCl[c]? = some (Cn, T, N)) (hin : ∀ w ∈ u_ws Cn T N, w ∈ lw_g) (hj : j < N) (hlink : Cond.fieldLink own i (T j).1 (T j).2.1 (T j).2.2.1 ∈ lw_g) (hb : (lay c)[j]? = some b)
    (hty : ∀ k, k < N → parseFieldDescriptor (T k).2.2.1 = some (ty0 k)) (hnm : ∀ a, a < N → ∀ b, b < N → a ≠ b → (T a).2.1 ≠ (T b).2.1) (hfin : (T j).2.2.2 = false) (hpt : parseFieldDescriptor (T j).2.2.1 = some ty) (hn : narrow ty v = v) (hfit : fits ty v = true)
    (hv : fld κ σ' k j b = v) (ho : ∀ j' b', j' ≠ j → fld κ σ' k j' b' = fld κ σ k j' b') (hne : ∀ k', k' ≠ k → cel κ σ' k' = cel κ σ k')
    (kk : G M κ nL Q (pc + 3) L st σ') : G M κ nL Q pc L (v :: .ref (κ.2.1 k) :: st) σ := by
  intro H locs ls hP hS hl
  obtain ⟨q, hq, hw⟩ := wld_at κ σ (k := k) (by omega)
  rw [cel_o hk hc] at hw
  have hlen : j < ((lay c).mapIdx (fun j b => fld κ σ k j b)).length := by
    rw [List.length_mapIdx]; exact (List.getElem?_eq_some_iff.mp hb).1
  refine va_put C.1 C.2.1 C.hts hin ty0 hty hnm C.ow C.K hP (wld_D C.I σ) hS q hw hcl j hj (C.w hlink) (fun _ h9 => h9) hfin hpt hn hfit hlen hd (fun H1 locs1 hP1 _ hS1 => ?_)
  have e : (.inr (c, ((lay c).mapIdx (fun j b => fld κ σ k j b)).set j v) : va_E) = cel κ σ' k := by
    rw [cel_o hk hc]
    congr 2
    apply List.ext_getElem?
    intro a
    by_cases ha : a = j
    · subst ha
      rw [List.getElem?_set_self hlen, lay_at hb, hv]
    · rw [List.getElem?_set_ne (Ne.symm ha), List.getElem?_mapIdx, List.getElem?_mapIdx]
      cases (lay c)[a]? with
      | none => rfl
      | some b' => simp only [Option.map_some, ho a b' ha]
  rw [e, wld_set hq hne] at hP1
  exact kk H1 locs1 ls hP1 hS1 hl
theorem fld_I {κ : Kp} {σ : St} {k j : Nat} {v : Int} : fld κ (sI σ k j v) k j 0 = .int (iZ v) := by simp [fld, sI]
theorem fld_I' {κ : Kp} {σ : St} {k j : Nat} {v : Int} (j' b' : Nat) (h : j' ≠ j) : fld κ (sI σ k j v) k j' b' = fld κ σ k j' b' := by simp [fld, sI, h]
theorem fld_L {κ : Kp} {σ : St} {k j : Nat} {v : Int64} : fld κ (sL σ k j v) k j 2 = .long v := by simp [fld, sL]
theorem fld_L' {κ : Kp} {σ : St} {k j : Nat} {v : Int64} (j' b' : Nat) (h : j' ≠ j) : fld κ (sL σ k j v) k j' b' = fld κ σ k j' b' := by simp [fld, sL, h]

/-! contracts -/
def Ct (κ : Kp) (l : Launch) (d : Nat) (y : MethodName) (cc : ByteArray) (mL : Nat) (rt : Option FieldType) (av : List Value) (σ : St) (Qc : Array Value → State → Outcome → State → Prop) : Prop :=
  Met l y (wsm y cc mL rt) (rmd d) (va_Pc av (Wd κ σ)) Qc 0 0 (Ak κ)
abbrev qI (κ : Kp) (post : Int → St → Prop) : Array Value → State → Outcome → State → Prop := va_Qi (fun (r : Int32) (u : Int × St) => r = iZ u.1 ∧ post u.1 u.2) (fun u t => Wd κ u.2 t) (Ak κ)
abbrev qF (κ : Kp) (post : UInt32 → St → Prop) : Array Value → State → Outcome → State → Prop := va_Qf (fun (r : UInt32) (u : UInt32 × St) => r = u.1 ∧ post u.1 u.2) (fun u t => Wd κ u.2 t) (Ak κ)
abbrev qJ (κ : Kp) (post : Int64 → St → Prop) : Array Value → State → Outcome → State → Prop := va_Ql (fun (r : Int64) (u : Int64 × St) => r = u.1 ∧ post u.1 u.2) (fun u t => Wd κ u.2 t) (Ak κ)
abbrev qV (κ : Kp) (post : St → Prop) : Array Value → State → Outcome → State → Prop := va_Qv (fun (u : St) => post u) (fun u t => Wd κ u t) (Ak κ)
abbrev qR (κ : Kp) (post : Nat → St → Prop) : Array Value → State → Outcome → State → Prop := va_Qr (fun (u : Nat × St) => post u.1 u.2) (fun u a t => a = κ.2.1 u.1 ∧ Wd κ u.2 t) (Ak κ)
abbrev CtI (κ : Kp) (l : Launch) (d : Nat) (y : MethodName) (cc : ByteArray) (mL : Nat) (rt : FieldType) (av : List Value) (σ : St) (post : Int → St → Prop) : Prop := Ct κ l d y cc mL (some rt) av σ (qI κ post)
abbrev CtF (κ : Kp) (l : Launch) (d : Nat) (y : MethodName) (cc : ByteArray) (mL : Nat) (av : List Value) (σ : St) (post : UInt32 → St → Prop) : Prop := Ct κ l d y cc mL (some .float) av σ (qF κ post)
abbrev CtJ (κ : Kp) (l : Launch) (d : Nat) (y : MethodName) (cc : ByteArray) (mL : Nat) (av : List Value) (σ : St) (post : Int64 → St → Prop) : Prop := Ct κ l d y cc mL (some .long) av σ (qJ κ post)
abbrev CtV (κ : Kp) (l : Launch) (d : Nat) (y : MethodName) (cc : ByteArray) (mL : Nat) (av : List Value) (σ : St) (post : St → Prop) : Prop := Ct κ l d y cc mL none av σ (qV κ post)
abbrev CtR (κ : Kp) (l : Launch) (d : Nat) (y : MethodName) (cc : ByteArray) (mL : Nat) (rt : FieldType) (av : List Value) (σ : St) (post : Nat → St → Prop) : Prop := Ct κ l d y cc mL (some rt) av σ (qR κ post)
abbrev En (M : MC) (κ : Kp) (Qc : Array Value → State → Outcome → State → Prop) : State → Prop := MQ (Mb M) Qc (Ma M) (Ms M) 0 0 (Ak κ)
theorem Ct.ofG {l : Launch} {y : MethodName} {mL : Nat} {rt : Option FieldType} {av : List Value} {Qc : Array Value → State → Outcome → State → Prop} (hI : Ij κ) (hy : plainName y.cls = true) (ho : y.cls = own) (hm : (lg_sl av).length ≤ mL) {L0 : List (Nat × Value)} (hL : lv_args 0 av = L0)
    (h : ∀ M : MC, Cx M κ own cc mL rt d → Ml M = l → G M κ mL (En M κ Qc) 0 L0 [] σ) : Ct κ l d y cc mL rt av σ Qc := by
  refine Met.ofW (cc := cc) (maxL := mL) (ret := rt) hy rfl ?_
  intro p e s m args below meth c s₁ B hml hv
  obtain ⟨rfl, hP, hK⟩ := hv
  rw [lg_entry_eq]
  have hent := lv_entry av (n := mL) hm
  rw [hL] at hent
  exact h (p, l, e, rmd d, s, m, av.toArray, below, meth, c) ⟨B.exec, B.bytes, hml, B.returns, by rw [← ho]; exact findClass_of_methodNamed B.named, fun w hw => atoms_spec (ws := wsm y cc mL rt) B.pre w (List.mem_cons_of_mem _ hw), B.notSynchronized, rfl, hK, hI⟩ rfl s.heap [] _ hP va_S.rf hent
theorem g_ireturn (C : Cx M κ own cc nL (some .int) d) {z : Int} {post : Int → St → Prop} (hd : decode cc pc = .ok (.ireturn, 1)) (h : post z σ) : G M κ nL (En M κ (qI κ post)) pc L [.int (iZ z)] σ := by
  intro H locs ls hP hS hl
  exact W.iret (v := iZ z) C.1 C.2.1 C.2.2.2.1 (fun t ht hW => ⟨⟨iZ z, (z, σ), rfl, ⟨rfl, h⟩, by rw [ht]; exact hP, va_K.moved hW.alike C.K⟩, hS.F ht⟩) hS.2.2 hd C.locks
theorem g_zreturn (C : Cx M κ own cc nL (some .boolean) d) {z : Int} {post : Int → St → Prop} (hd : decode cc pc = .ok (.ireturn, 1)) (hz : z = 0 ∨ z = 1) (h : post z σ) : G M κ nL (En M κ (qI κ post)) pc L [.int (iZ z)] σ := by
  intro H locs ls hP hS hl
  exact W.zret (v := iZ z) C.1 C.2.1 C.2.2.2.1 (by rcases hz with rfl | rfl <;> rfl) (fun t ht hW => ⟨⟨iZ z, (z, σ), rfl, ⟨rfl, h⟩, by rw [ht]; exact hP, va_K.moved hW.alike C.K⟩, hS.F ht⟩) hS.2.2 hd C.locks
theorem g_freturn (C : Cx M κ own cc nL (some .float) d) {z : UInt32} {post : UInt32 → St → Prop} (hd : decode cc pc = .ok (.freturn, 1)) (h : post z σ) : G M κ nL (En M κ (qF κ post)) pc L [.float z] σ := by
  intro H locs ls hP hS hl
  exact W.fret (v := z) C.1 C.2.1 C.2.2.2.1 (fun t ht hW => ⟨⟨z, (z, σ), rfl, ⟨rfl, h⟩, by rw [ht]; exact hP, va_K.moved hW.alike C.K⟩, hS.F ht⟩) hS.2.2 hd C.locks
theorem g_lreturn (C : Cx M κ own cc nL (some .long) d) {z : Int64} {post : Int64 → St → Prop} (hd : decode cc pc = .ok (.lreturn, 1)) (h : post z σ) : G M κ nL (En M κ (qJ κ post)) pc L [.long z] σ := by
  intro H locs ls hP hS hl
  exact W.lret (v := z) C.1 C.2.1 C.2.2.2.1 (fun t ht hW => ⟨⟨z, (z, σ), rfl, ⟨rfl, h⟩, by rw [ht]; exact hP, va_K.moved hW.alike C.K⟩, hS.F ht⟩) hS.2.2 hd C.locks
theorem g_return (C : Cx M κ own cc nL none d) {post : St → Prop} (hd : decode cc pc = .ok (.return_, 1)) (h : post σ) : G M κ nL (En M κ (qV κ post)) pc L [] σ := by
  intro H locs ls hP hS hl
  exact W.vret C.1 C.2.1 C.2.2.2.1 (fun t ht hW => ⟨⟨σ, rfl, h, by rw [ht]; exact hP, va_K.moved hW.alike C.K⟩, hS.F ht⟩) hS.2.2 hd C.locks
theorem g_areturn {k : Nat} {K : String} (C : Cx M κ own cc nL (some (.object K)) d) {post : Nat → St → Prop} (hd : decode cc pc = .ok (.areturn, 1)) (h : post k σ) : G M κ nL (En M κ (qR κ post)) pc L [.ref (κ.2.1 k)] σ := by
  intro H locs ls hP hS hl
  exact W.aret (v := .ref (κ.2.1 k)) C.1 C.2.1 C.2.2.2.1 (Or.inl ⟨K, rfl⟩) (Or.inr ⟨_, rfl⟩) (fun t ht hW => ⟨⟨(k, σ), κ.2.1 k, rfl, h, rfl, by rw [ht]; exact hP, va_K.moved hW.alike C.K⟩, hS.F ht⟩) hS.2.2 hd C.locks
/-! calls -/
theorem tbl_gw {w : Cond} (h : w ∈ lw_g) : (w.onTables && w.keeps) = true ∨ ∃ ty, w = .arrayClass ty := good_of_word (List.mem_filter.mp h).2
theorem gin {ws : List Cond} (h : ∀ w ∈ ws, w ∈ lw_g) : GoodIn lw_g ws := fun w hw => ⟨h w hw, tbl_gw (h w hw)⟩
theorem gin_wsm {y : MethodName} {bc : ByteArray} {mL : Nat} {rt : Option FieldType} (h : Cond.code y bc mL rt ∈ lw_g) : ∀ w ∈ wsm y bc mL rt, w ∈ lw_g := fun w hw => (List.mem_cons.mp hw).elim (fun e => e ▸ h) (fun h => h)
abbrev desc (y : MethodName) (n : Nat) : Prop := y.cls ≠ "java/lang/invoke/MethodHandle" ∧ y.cls ≠ "java/lang/invoke/VarHandle" ∧ (parseMethodDescriptor y.desc).map (fun d => d.parameters.length) = some n
def LkV (own : String) (i : Nat) (y : MethodName) (bc : ByteArray) (mL : Nat) (rt : Option FieldType) (n : Nat) : Prop := GoodIn lw_g (wsV own i y.cls y (wsm y bc mL rt)) ∧ desc y n
theorem LkV.mk {i : Nat} {y : MethodName} {bc : ByteArray} {mL : Nat} {rt : Option FieldType} {n : Nat} (h1 : Cond.methodLink own i y ∈ lw_g) (h2 : Cond.instanceMethod y ∈ lw_g) (h3 : Cond.selects y.cls y y ∈ lw_g) (h4 : Cond.initialized y.cls ∈ lw_g) (h5 : Cond.code y bc mL rt ∈ lw_g) (h6 : desc y n) : LkV own i y bc mL rt n := by
  refine ⟨gin (fun w hw => ?_), h6⟩
  unfold wsV at hw
  rcases List.mem_append.mp hw with h | h
  · simp only [List.mem_cons, List.not_mem_nil, or_false] at h
    rcases h with rfl | rfl | rfl | rfl <;> assumption
  · exact gin_wsm h5 w h
def LkS (own : String) (i : Nat) (y : MethodName) (bc : ByteArray) (mL : Nat) (rt : Option FieldType) (n : Nat) : Prop := GoodIn lw_g (va_wsS own i y (wsm y bc mL rt)) ∧ desc y n
theorem LkS.mk {i : Nat} {y : MethodName} {bc : ByteArray} {mL : Nat} {rt : Option FieldType} {n : Nat} (h1 : Cond.methodLink own i y ∈ lw_g) (h2 : Cond.static y ∈ lw_g) (h4 : Cond.initialized y.cls ∈ lw_g) (h5 : Cond.code y bc mL rt ∈ lw_g) (h6 : desc y n) : LkS own i y bc mL rt n := by
  refine ⟨gin (fun w hw => ?_), h6⟩
  unfold va_wsS at hw
  rcases List.mem_append.mp hw with h | h
  · simp only [List.mem_cons, List.not_mem_nil, or_false] at h
    rcases h with rfl | rfl | rfl <;> assumption
  · exact gin_wsm h5 w h
def LkN (own host : String) (i : Nat) (y : MethodName) (bc : ByteArray) (mL : Nat) (rt : Option FieldType) (n : Nat) : Prop := Cond.methodLinkNest own i y host ∈ lw_g ∧ Cond.static y ∈ lw_g ∧ Cond.initialized y.cls ∈ lw_g ∧ Cond.code y bc mL rt ∈ lw_g ∧ desc y n
theorem Wd_blind {av : List Value} : FrameBlind (va_Pc av (Wd κ σ)) := fun a U g mk q => ⟨q.1, q.2.1, va_K.moved (u := U) (U := U.calling g mk a) (Vm.Alike.refl U.vm) q.2.2⟩
/-- a call that comes back -/
def Rn (M : MC) (κ : Kp) (nL pc : Nat) (L : List (Nat × Value)) (st0 rest : List Value) (σ : St) (Qa : State → Outcome → State → Prop) : Prop :=
  ∀ (H : Heap) (locs : List Loc) (ls : Array Slot), va_P κ.1 vwCl (wld κ σ) H → lv_has ls nL L → va_Run (Mp M) (Ml M) (Me M) (MR M) (Ms M) (Mm M) (Ma M) (Mb M) (Mt M) (Mc M) H locs 0 0 0 0 (F0 (Mm M) pc ls st0) rest Qa (Ak κ)
theorem rn_room (C : Cx M κ own cc nL ret d) {d' mL : Nat} (hdd : d' < d) (hm : mL ≤ 40) : (rmd d').frames + 1 ≤ (MR M).frames ∧ 8 + (mL + 11) + (rmd d').locals ≤ (MR M).locals := by
  rw [C.room]
  show d' + 1 ≤ d ∧ 8 + (mL + 11) + 64 * d' ≤ 64 * d
  omega
theorem rnV (C : Cx M κ own cc nL ret d) {d' i n mL k c N : Nat} {y : MethodName} {bc : ByteArray} {rt : Option FieldType} {As : List Value} {st0 : List Value} {T : u_T} {Cn : String} {Qc : Array Value → State → Outcome → State → Prop} (hct : Ct κ (Ml M) d' y bc mL rt (.ref (κ.2.1 k) :: As) σ Qc) (hlk : LkV own i y bc mL rt n) (hk : kd k = c) (hc : c < 20) (hcl : vwCl[c]? = some (Cn, T, N)) (hcn : y.cls = Cn) (hd : decode cc pc = .ok (.invokevirtual i, 3)) (hdd : d' < d) (hm : mL ≤ 40) (hn : As.length = n) (hs : st0 = As.reverse ++ .ref (κ.2.1 k) :: st) (hst : (st.map fun v => v.category).sum ≤ 8) :
    Rn M κ nL pc L st0 st σ (Qc (Value.ref (κ.2.1 k) :: As).toArray) := by
  intro H locs ls hP hl
  obtain ⟨q, hq, hw⟩ := wld_at κ σ (k := k) (by omega)
  rw [cel_o hk hc] at hw
  refine va_runV (As := As) (rest := st) ⟨C.1, C.2.1, C.2.2.1, C.ow, C.hts⟩ hct (cwV (C := y.cls) n C.hts hlk.1 rfl rfl rfl ⟨rfl, hlk.2⟩ (rn_room C hdd hm)) ⟨Wd_blind, ?_, fun U hU hW => ⟨rfl, by rw [hU]; exact hP, va_K.moved hW.alike C.K⟩⟩ rfl hn hl.1 hs (lv_room hst) hd (by rw [C.room]; exact ⟨Nat.le_refl _, Nat.le_refl _⟩)
  have := va_recv C.K hP hcl hw
  rw [hcn]
  exact this
theorem rnS (C : Cx M κ own cc nL ret d) {d' i n mL : Nat} {y : MethodName} {bc : ByteArray} {rt : Option FieldType} {As : List Value} {st0 : List Value} {Qc : Array Value → State → Outcome → State → Prop} (hct : Ct κ (Ml M) d' y bc mL rt As σ Qc) (hlk : LkS own i y bc mL rt n) (hd : decode cc pc = .ok (.invokestatic i, 3)) (hdd : d' < d) (hm : mL ≤ 40) (hn : As.length = n) (hs : st0 = As.reverse ++ st) (hst : (st.map fun v => v.category).sum ≤ 8) :
    Rn M κ nL pc L st0 st σ (Qc As.toArray) := by
  intro H locs ls hP hl
  exact va_runS (As := As) (rest := st) ⟨C.1, C.2.1, C.2.2.1, C.ow, C.hts⟩ hct (va_cwS n C.hts hlk.1 rfl rfl rfl hlk.2 (rn_room C hdd hm)) ⟨Wd_blind, fun U hU hW => ⟨rfl, by rw [hU]; exact hP, va_K.moved hW.alike C.K⟩⟩ rfl hn hl.1 hs (lv_room hst) hd (by rw [C.room]; exact ⟨Nat.le_refl _, Nat.le_refl _⟩)
theorem rnN (C : Cx M κ own cc nL ret d) {d' i n mL : Nat} {y : MethodName} {bc : ByteArray} {rt : Option FieldType} {host : String} {As : List Value} {st0 : List Value} {Qc : Array Value → State → Outcome → State → Prop} (hct : Ct κ (Ml M) d' y bc mL rt As σ Qc) (hlk : LkN own host i y bc mL rt n) (hd : decode cc pc = .ok (.invokestatic i, 3)) (hdd : d' < d) (hm : mL ≤ 40) (hn : As.length = n) (hs : st0 = As.reverse ++ st) (hst : (st.map fun v => v.category).sum ≤ 8) :
    Rn M κ nL pc L st0 st σ (Qc As.toArray) := by
  intro H locs ls hP hl
  obtain ⟨w1, w2, w3, w4, w5⟩ := hlk
  exact va_runSN (As := As) (rest := st) ⟨C.1, C.2.1, C.2.2.1, C.ow, C.hts⟩ hct ⟨va_cnB (Ts := lw_g) n C.hts (gin (gin_wsm w4)) rfl rfl rfl (va_tabs (u := Ms M) (U := Ms M) rfl rfl (C.w w1)) (C.w w3) w5 (rn_room C hdd hm), C.w w2, trivial⟩ ⟨Wd_blind, fun U hU hW => ⟨rfl, by rw [hU]; exact hP, va_K.moved hW.alike C.K⟩⟩ rfl hn hl.1 hs (lv_room hst) hd (by rw [C.room]; exact ⟨Nat.le_refl _, Nat.le_refl _⟩)
section CALLS
variable {st0 : List Value} {av : Array Value}
theorem g_ci (C : Cx M κ own cc nL ret d) {post : Int → St → Prop} (hr : Rn M κ nL pc L st0 st σ (qI κ post av)) (kk : ∀ z σ', post z σ' → G M κ nL Q (pc + 3) L (.int (iZ z) :: st) σ') : G M κ nL Q pc L st0 σ := by
  intro H locs ls hP hS hl
  refine va_calli (hr H locs ls hP hl) hS (fun q _ h => h) (fun q h => h) (fun r u t H1 locs1 ht hvm hp hB hz hk1 hS1 => ?_)
  obtain ⟨rfl, hp⟩ := hp
  exact kk u.1 u.2 hp H1 locs1 ls (by rw [← ht]; exact hB.1) hS1 hl
theorem g_cf (C : Cx M κ own cc nL ret d) {post : UInt32 → St → Prop} (hr : Rn M κ nL pc L st0 st σ (qF κ post av)) (kk : ∀ z σ', post z σ' → G M κ nL Q (pc + 3) L (.float z :: st) σ') : G M κ nL Q pc L st0 σ := by
  intro H locs ls hP hS hl
  refine va_callf (hr H locs ls hP hl) hS (fun q _ h => h) (fun q h => h) (fun r u t H1 locs1 ht hvm hp hB hz hk1 hS1 => ?_)
  obtain ⟨rfl, hp⟩ := hp
  exact kk u.1 u.2 hp H1 locs1 ls (by rw [← ht]; exact hB.1) hS1 hl
theorem g_cl (C : Cx M κ own cc nL ret d) {post : Int64 → St → Prop} (hr : Rn M κ nL pc L st0 st σ (qJ κ post av)) (kk : ∀ z σ', post z σ' → G M κ nL Q (pc + 3) L (.long z :: st) σ') : G M κ nL Q pc L st0 σ := by
  intro H locs ls hP hS hl
  refine va_calll (hr H locs ls hP hl) hS (fun q _ h => h) (fun q h => h) (fun r u t H1 locs1 ht hvm hp hB hz hk1 hS1 => ?_)
  obtain ⟨rfl, hp⟩ := hp
  exact kk u.1 u.2 hp H1 locs1 ls (by rw [← ht]; exact hB.1) hS1 hl
theorem g_cv (C : Cx M κ own cc nL ret d) {post : St → Prop} (hr : Rn M κ nL pc L st0 st σ (qV κ post av)) (kk : ∀ σ', post σ' → G M κ nL Q (pc + 3) L st σ') : G M κ nL Q pc L st0 σ := by
  intro H locs ls hP hS hl
  refine va_callv (hr H locs ls hP hl) hS (fun q _ h => h) (fun q h => h) (fun u t H1 locs1 ht hvm hp hB hz hk1 hS1 => ?_)
  exact kk u hp H1 locs1 ls (by rw [← ht]; exact hB.1) hS1 hl
theorem g_cr (C : Cx M κ own cc nL ret d) {post : Nat → St → Prop} (hr : Rn M κ nL pc L st0 st σ (qR κ post av)) (kk : ∀ k σ', post k σ' → G M κ nL Q (pc + 3) L (.ref (κ.2.1 k) :: st) σ') : G M κ nL Q pc L st0 σ := by
  intro H locs ls hP hS hl
  refine va_callr (hr H locs ls hP hl) hS (fun q _ h => h) (fun q h => h) (fun u ra t H1 locs1 ht hvm hp hB hz hk1 hS1 => ?_)
  obtain ⟨rfl, hB⟩ := hB
  exact kk u.1 u.2 hp H1 locs1 ls (by rw [← ht]; exact hB.1) hS1 hl
end CALLS
end ROWS
end

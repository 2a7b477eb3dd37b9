/-! THE LAW: one theorem a case -/
theorem l_same {M : MC} {κ : Kp} {b N : Nat} {xs : Nat → Int32} {Q : State → Prop} {pc : Nat} {L : List (Nat × Value)} {st : List Value} {σ : St} (C : CL M κ b N xs) {x : Int32} {off : Int} {tgt : Nat} (hd : decode code pc = .ok (.if_icmp .eq off, 3)) (ht : (pc : Int) + off = (tgt : Int)) (k : GL M κ Q tgt L st σ) : GL M κ Q pc L (.int x :: .int x :: st) σ := by
  intro H locs ls hP hS hl
  exact lv_icmp_eq C.1 C.2.1 hd ht (fun _ => k H locs ls hP hS hl) (fun h => absurd rfl h)
theorem lg_cmp_self (x : Int64) : lg_cmp x x = 0 := by simp [lg_cmp]
theorem wl_0 : Cond.methodLink RL 13 yX9_row ∈ lw_g := mg (mk2 (List.mem_of_getElem? (i := 141) rfl)) rfl
theorem wl_1 : Cond.instanceMethod yX9_row ∈ lw_g := mg (mk2 (List.mem_of_getElem? (i := 142) rfl)) rfl
theorem wl_2 : Cond.selects RX9 yX9_row yX9_row ∈ lw_g := mg (mk2 (List.mem_of_getElem? (i := 143) rfl)) rfl
theorem wl_3 : Cond.initialized RX9 ∈ lw_g := mg (mk1 (List.mem_of_getElem? (i := 1) rfl)) rfl
theorem wl_4 : Cond.code yX9_row cX9_row 4 (some .int) ∈ lw_g := mg (mk2 (List.mem_of_getElem? (i := 144) rfl)) rfl
theorem wl_5 : Cond.methodLink RL 17 yX10_row ∈ lw_g := mg (mk6 (List.mem_of_getElem? (i := 74) rfl)) rfl
theorem wl_6 : Cond.instanceMethod yX10_row ∈ lw_g := mg (mk6 (List.mem_of_getElem? (i := 75) rfl)) rfl
theorem wl_7 : Cond.selects RX10 yX10_row yX10_row ∈ lw_g := mg (mk6 (List.mem_of_getElem? (i := 76) rfl)) rfl
theorem wl_8 : Cond.initialized RX10 ∈ lw_g := mg (mk1 (List.mem_of_getElem? (i := 11) rfl)) rfl
theorem wl_9 : Cond.code yX10_row cX10_row 6 (some .int) ∈ lw_g := mg (mk6 (List.mem_of_getElem? (i := 77) rfl)) rfl
theorem wl_10 : Cond.constantLong R_law 18 4294967295 ∈ lw_g := mg (mk7 (List.mem_of_getElem? (i := 42) rfl)) rfl
theorem wl_11 : Cond.methodLink RL 20 yX9_set ∈ lw_g := mg (mk2 (List.mem_of_getElem? (i := 159) rfl)) rfl
theorem wl_12 : Cond.instanceMethod yX9_set ∈ lw_g := mg (mk2 (List.mem_of_getElem? (i := 160) rfl)) rfl
theorem wl_13 : Cond.selects RX9 yX9_set yX9_set ∈ lw_g := mg (mk2 (List.mem_of_getElem? (i := 161) rfl)) rfl
theorem wl_14 : Cond.code yX9_set cX9_set 6 (some .int) ∈ lw_g := mg (mk2 (List.mem_of_getElem? (i := 162) rfl)) rfl
theorem wl_15 : Cond.methodLink RL 24 yX10_set ∈ lw_g := mg (mk6 (List.mem_of_getElem? (i := 81) rfl)) rfl
theorem wl_16 : Cond.instanceMethod yX10_set ∈ lw_g := mg (mk6 (List.mem_of_getElem? (i := 82) rfl)) rfl
theorem wl_17 : Cond.selects RX10 yX10_set yX10_set ∈ lw_g := mg (mk6 (List.mem_of_getElem? (i := 83) rfl)) rfl
theorem wl_18 : Cond.code yX10_set cX10_set 6 (some .int) ∈ lw_g := mg (mk6 (List.mem_of_getElem? (i := 84) rfl)) rfl
theorem wl_19 : Cond.methodLink RL 25 yX9_copy ∈ lw_g := mg (mk2 (List.mem_of_getElem? (i := 171) rfl)) rfl
theorem wl_20 : Cond.instanceMethod yX9_copy ∈ lw_g := mg (mk2 (List.mem_of_getElem? (i := 172) rfl)) rfl
theorem wl_21 : Cond.selects RX9 yX9_copy yX9_copy ∈ lw_g := mg (mk2 (List.mem_of_getElem? (i := 173) rfl)) rfl
theorem wl_22 : Cond.code yX9_copy cX9_copy 8 (some .int) ∈ lw_g := mg (mk2 (List.mem_of_getElem? (i := 174) rfl)) rfl
theorem wl_23 : Cond.methodLink RL 29 yX10_copy ∈ lw_g := mg (mk6 (List.mem_of_getElem? (i := 92) rfl)) rfl
theorem wl_24 : Cond.instanceMethod yX10_copy ∈ lw_g := mg (mk6 (List.mem_of_getElem? (i := 93) rfl)) rfl
theorem wl_25 : Cond.selects RX10 yX10_copy yX10_copy ∈ lw_g := mg (mk6 (List.mem_of_getElem? (i := 94) rfl)) rfl
theorem wl_26 : Cond.code yX10_copy cX10_copy 11 (some .int) ∈ lw_g := mg (mk6 (List.mem_of_getElem? (i := 95) rfl)) rfl
theorem wl_27 : Cond.methodLink RL 30 yX9_element ∈ lw_g := mg (mk2 (List.mem_of_getElem? (i := 184) rfl)) rfl
theorem wl_28 : Cond.instanceMethod yX9_element ∈ lw_g := mg (mk2 (List.mem_of_getElem? (i := 185) rfl)) rfl
theorem wl_29 : Cond.selects RX9 yX9_element yX9_element ∈ lw_g := mg (mk2 (List.mem_of_getElem? (i := 186) rfl)) rfl
theorem wl_30 : Cond.code yX9_element cX9_element 3 (some .long) ∈ lw_g := mg (mk2 (List.mem_of_getElem? (i := 187) rfl)) rfl
theorem wl_31 : Cond.methodLink RL 34 yX10_element ∈ lw_g := mg (mk6 (List.mem_of_getElem? (i := 100) rfl)) rfl
theorem wl_32 : Cond.instanceMethod yX10_element ∈ lw_g := mg (mk6 (List.mem_of_getElem? (i := 101) rfl)) rfl
theorem wl_33 : Cond.selects RX10 yX10_element yX10_element ∈ lw_g := mg (mk6 (List.mem_of_getElem? (i := 102) rfl)) rfl
theorem wl_34 : Cond.code yX10_element cX10_element 3 (some .long) ∈ lw_g := mg (mk6 (List.mem_of_getElem? (i := 103) rfl)) rfl
theorem wl_35 : Cond.methodLink RL 35 yX9_show ∈ lw_g := mg (mk2 (List.mem_of_getElem? (i := 188) rfl)) rfl
theorem wl_36 : Cond.instanceMethod yX9_show ∈ lw_g := mg (mk2 (List.mem_of_getElem? (i := 189) rfl)) rfl
theorem wl_37 : Cond.selects RX9 yX9_show yX9_show ∈ lw_g := mg (mk2 (List.mem_of_getElem? (i := 190) rfl)) rfl
theorem wl_38 : Cond.code yX9_show cX9_show 3 (some .int) ∈ lw_g := mg (mk2 (List.mem_of_getElem? (i := 191) rfl)) rfl
theorem wl_39 : Cond.methodLink RL 39 yX10_show ∈ lw_g := mg (mk6 (List.mem_of_getElem? (i := 108) rfl)) rfl
theorem wl_40 : Cond.instanceMethod yX10_show ∈ lw_g := mg (mk6 (List.mem_of_getElem? (i := 109) rfl)) rfl
theorem wl_41 : Cond.selects RX10 yX10_show yX10_show ∈ lw_g := mg (mk6 (List.mem_of_getElem? (i := 110) rfl)) rfl
theorem wl_42 : Cond.code yX10_show cX10_show 3 (some .int) ∈ lw_g := mg (mk6 (List.mem_of_getElem? (i := 111) rfl)) rfl
theorem wl_43 : Cond.methodLink RL 40 yX9_holds ∈ lw_g := mg (mk2 (List.mem_of_getElem? (i := 204) rfl)) rfl
theorem wl_44 : Cond.instanceMethod yX9_holds ∈ lw_g := mg (mk2 (List.mem_of_getElem? (i := 205) rfl)) rfl
theorem wl_45 : Cond.selects RX9 yX9_holds yX9_holds ∈ lw_g := mg (mk2 (List.mem_of_getElem? (i := 206) rfl)) rfl
theorem wl_46 : Cond.code yX9_holds cX9_holds 2 (some .int) ∈ lw_g := mg (mk2 (List.mem_of_getElem? (i := 207) rfl)) rfl
theorem wl_47 : Cond.methodLink RL 44 yX10_holds ∈ lw_g := mg (mk6 (List.mem_of_getElem? (i := 112) rfl)) rfl
theorem wl_48 : Cond.instanceMethod yX10_holds ∈ lw_g := mg (mk6 (List.mem_of_getElem? (i := 113) rfl)) rfl
theorem wl_49 : Cond.selects RX10 yX10_holds yX10_holds ∈ lw_g := mg (mk6 (List.mem_of_getElem? (i := 114) rfl)) rfl
theorem wl_50 : Cond.code yX10_holds cX10_holds 2 (some .int) ∈ lw_g := mg (mk6 (List.mem_of_getElem? (i := 115) rfl)) rfl
theorem wl_51 : Cond.methodLink RL 45 yX9_says ∈ lw_g := mg (mk2 (List.mem_of_getElem? (i := 212) rfl)) rfl
theorem wl_52 : Cond.instanceMethod yX9_says ∈ lw_g := mg (mk2 (List.mem_of_getElem? (i := 213) rfl)) rfl
theorem wl_53 : Cond.selects RX9 yX9_says yX9_says ∈ lw_g := mg (mk2 (List.mem_of_getElem? (i := 214) rfl)) rfl
theorem wl_54 : Cond.code yX9_says cX9_says 4 (some .int) ∈ lw_g := mg (mk2 (List.mem_of_getElem? (i := 215) rfl)) rfl
theorem wl_55 : Cond.methodLink RL 48 yX10_says ∈ lw_g := mg (mk6 (List.mem_of_getElem? (i := 116) rfl)) rfl
theorem wl_56 : Cond.instanceMethod yX10_says ∈ lw_g := mg (mk6 (List.mem_of_getElem? (i := 117) rfl)) rfl
theorem wl_57 : Cond.selects RX10 yX10_says yX10_says ∈ lw_g := mg (mk6 (List.mem_of_getElem? (i := 118) rfl)) rfl
theorem wl_58 : Cond.code yX10_says cX10_says 4 (some .int) ∈ lw_g := mg (mk6 (List.mem_of_getElem? (i := 119) rfl)) rfl
theorem wl_59 : Cond.methodLink RL 49 yX9_line ∈ lw_g := mg (mk2 (List.mem_of_getElem? (i := 227) rfl)) rfl
theorem wl_60 : Cond.instanceMethod yX9_line ∈ lw_g := mg (mk2 (List.mem_of_getElem? (i := 228) rfl)) rfl
theorem wl_61 : Cond.selects RX9 yX9_line yX9_line ∈ lw_g := mg (mk2 (List.mem_of_getElem? (i := 229) rfl)) rfl
theorem wl_62 : Cond.code yX9_line cX9_line 5 (some .int) ∈ lw_g := mg (mk2 (List.mem_of_getElem? (i := 230) rfl)) rfl
theorem wl_63 : Cond.methodLink RL 53 yX10_line ∈ lw_g := mg (mk6 (List.mem_of_getElem? (i := 163) rfl)) rfl
theorem wl_64 : Cond.instanceMethod yX10_line ∈ lw_g := mg (mk6 (List.mem_of_getElem? (i := 164) rfl)) rfl
theorem wl_65 : Cond.selects RX10 yX10_line yX10_line ∈ lw_g := mg (mk6 (List.mem_of_getElem? (i := 165) rfl)) rfl
theorem wl_66 : Cond.code yX10_line cX10_line 7 (some .int) ∈ lw_g := mg (mk6 (List.mem_of_getElem? (i := 166) rfl)) rfl
theorem wl_67 : Cond.methodLink RL 54 yX9_read ∈ lw_g := mg (mk2 (List.mem_of_getElem? (i := 235) rfl)) rfl
theorem wl_68 : Cond.instanceMethod yX9_read ∈ lw_g := mg (mk2 (List.mem_of_getElem? (i := 236) rfl)) rfl
theorem wl_69 : Cond.selects RX9 yX9_read yX9_read ∈ lw_g := mg (mk2 (List.mem_of_getElem? (i := 237) rfl)) rfl
theorem wl_70 : Cond.code yX9_read cX9_read 3 (some .int) ∈ lw_g := mg (mk2 (List.mem_of_getElem? (i := 238) rfl)) rfl
theorem wl_71 : Cond.methodLink RL 57 yX10_read ∈ lw_g := mg (mk6 (List.mem_of_getElem? (i := 123) rfl)) rfl
theorem wl_72 : Cond.instanceMethod yX10_read ∈ lw_g := mg (mk6 (List.mem_of_getElem? (i := 124) rfl)) rfl
theorem wl_73 : Cond.selects RX10 yX10_read yX10_read ∈ lw_g := mg (mk6 (List.mem_of_getElem? (i := 125) rfl)) rfl
theorem wl_74 : Cond.code yX10_read cX10_read 5 (some .int) ∈ lw_g := mg (mk6 (List.mem_of_getElem? (i := 126) rfl)) rfl
theorem wl_75 : Cond.methodLink RL 58 yX9_fault ∈ lw_g := mg (mk3 (List.mem_of_getElem? (i := 64) rfl)) rfl
theorem wl_76 : Cond.instanceMethod yX9_fault ∈ lw_g := mg (mk3 (List.mem_of_getElem? (i := 65) rfl)) rfl
theorem wl_77 : Cond.selects RX9 yX9_fault yX9_fault ∈ lw_g := mg (mk3 (List.mem_of_getElem? (i := 66) rfl)) rfl
theorem wl_78 : Cond.code yX9_fault cX9_fault 1 (some .int) ∈ lw_g := mg (mk3 (List.mem_of_getElem? (i := 67) rfl)) rfl
theorem wl_79 : Cond.methodLink RL 62 yX10_fault ∈ lw_g := mg (mk6 (List.mem_of_getElem? (i := 159) rfl)) rfl
theorem wl_80 : Cond.instanceMethod yX10_fault ∈ lw_g := mg (mk6 (List.mem_of_getElem? (i := 160) rfl)) rfl
theorem wl_81 : Cond.selects RX10 yX10_fault yX10_fault ∈ lw_g := mg (mk6 (List.mem_of_getElem? (i := 161) rfl)) rfl
theorem wl_82 : Cond.code yX10_fault cX10_fault 1 (some .int) ∈ lw_g := mg (mk6 (List.mem_of_getElem? (i := 162) rfl)) rfl
theorem wl_83 : Cond.methodLink RL 63 yX9_empty ∈ lw_g := mg (mk3 (List.mem_of_getElem? (i := 68) rfl)) rfl
theorem wl_84 : Cond.instanceMethod yX9_empty ∈ lw_g := mg (mk3 (List.mem_of_getElem? (i := 69) rfl)) rfl
theorem wl_85 : Cond.selects RX9 yX9_empty yX9_empty ∈ lw_g := mg (mk3 (List.mem_of_getElem? (i := 70) rfl)) rfl
theorem wl_86 : Cond.code yX9_empty cX9_empty 3 (some .int) ∈ lw_g := mg (mk3 (List.mem_of_getElem? (i := 71) rfl)) rfl
theorem wl_87 : Cond.methodLink RL 66 yX10_empty ∈ lw_g := mg (mk6 (List.mem_of_getElem? (i := 170) rfl)) rfl
theorem wl_88 : Cond.instanceMethod yX10_empty ∈ lw_g := mg (mk6 (List.mem_of_getElem? (i := 171) rfl)) rfl
theorem wl_89 : Cond.selects RX10 yX10_empty yX10_empty ∈ lw_g := mg (mk6 (List.mem_of_getElem? (i := 172) rfl)) rfl
theorem wl_90 : Cond.code yX10_empty cX10_empty 3 (some .int) ∈ lw_g := mg (mk6 (List.mem_of_getElem? (i := 173) rfl)) rfl
theorem wl_91 : Cond.methodLink RL 67 yX9_put ∈ lw_g := mg (mk3 (List.mem_of_getElem? (i := 72) rfl)) rfl
theorem wl_92 : Cond.instanceMethod yX9_put ∈ lw_g := mg (mk3 (List.mem_of_getElem? (i := 73) rfl)) rfl
theorem wl_93 : Cond.selects RX9 yX9_put yX9_put ∈ lw_g := mg (mk3 (List.mem_of_getElem? (i := 74) rfl)) rfl
theorem wl_94 : Cond.code yX9_put cX9_put 8 (some .int) ∈ lw_g := mg (mk3 (List.mem_of_getElem? (i := 75) rfl)) rfl
theorem wl_95 : Cond.methodLink RL 70 yX10_put ∈ lw_g := mg (mk6 (List.mem_of_getElem? (i := 174) rfl)) rfl
theorem wl_96 : Cond.instanceMethod yX10_put ∈ lw_g := mg (mk6 (List.mem_of_getElem? (i := 175) rfl)) rfl
theorem wl_97 : Cond.selects RX10 yX10_put yX10_put ∈ lw_g := mg (mk6 (List.mem_of_getElem? (i := 176) rfl)) rfl
theorem wl_98 : Cond.code yX10_put cX10_put 7 (some .int) ∈ lw_g := mg (mk6 (List.mem_of_getElem? (i := 177) rfl)) rfl
theorem wl_99 : Cond.methodLink RL 71 yX9_tableOf ∈ lw_g := mg (mk3 (List.mem_of_getElem? (i := 80) rfl)) rfl
theorem wl_100 : Cond.instanceMethod yX9_tableOf ∈ lw_g := mg (mk3 (List.mem_of_getElem? (i := 81) rfl)) rfl
theorem wl_101 : Cond.selects RX9 yX9_tableOf yX9_tableOf ∈ lw_g := mg (mk3 (List.mem_of_getElem? (i := 82) rfl)) rfl
theorem wl_102 : Cond.code yX9_tableOf cX9_tableOf 3 (some .int) ∈ lw_g := mg (mk3 (List.mem_of_getElem? (i := 83) rfl)) rfl
theorem wl_103 : Cond.methodLink RL 74 yX10_tableOf ∈ lw_g := mg (mk6 (List.mem_of_getElem? (i := 178) rfl)) rfl
theorem wl_104 : Cond.instanceMethod yX10_tableOf ∈ lw_g := mg (mk6 (List.mem_of_getElem? (i := 179) rfl)) rfl
theorem wl_105 : Cond.selects RX10 yX10_tableOf yX10_tableOf ∈ lw_g := mg (mk6 (List.mem_of_getElem? (i := 180) rfl)) rfl
theorem wl_106 : Cond.code yX10_tableOf cX10_tableOf 4 (some .int) ∈ lw_g := mg (mk6 (List.mem_of_getElem? (i := 181) rfl)) rfl
theorem wl_107 : Cond.methodLink RL 75 yX9_lineOf ∈ lw_g := mg (mk3 (List.mem_of_getElem? (i := 84) rfl)) rfl
theorem wl_108 : Cond.instanceMethod yX9_lineOf ∈ lw_g := mg (mk3 (List.mem_of_getElem? (i := 85) rfl)) rfl
theorem wl_109 : Cond.selects RX9 yX9_lineOf yX9_lineOf ∈ lw_g := mg (mk3 (List.mem_of_getElem? (i := 86) rfl)) rfl
theorem wl_110 : Cond.code yX9_lineOf cX9_lineOf 4 (some .int) ∈ lw_g := mg (mk3 (List.mem_of_getElem? (i := 87) rfl)) rfl
theorem wl_111 : Cond.methodLink RL 78 yX10_lineOf ∈ lw_g := mg (mk6 (List.mem_of_getElem? (i := 182) rfl)) rfl
theorem wl_112 : Cond.instanceMethod yX10_lineOf ∈ lw_g := mg (mk6 (List.mem_of_getElem? (i := 183) rfl)) rfl
theorem wl_113 : Cond.selects RX10 yX10_lineOf yX10_lineOf ∈ lw_g := mg (mk6 (List.mem_of_getElem? (i := 184) rfl)) rfl
theorem wl_114 : Cond.code yX10_lineOf cX10_lineOf 5 (some .int) ∈ lw_g := mg (mk6 (List.mem_of_getElem? (i := 185) rfl)) rfl
theorem wl_115 : Cond.methodLink RL 79 yX9_bucket ∈ lw_g := mg (mk3 (List.mem_of_getElem? (i := 92) rfl)) rfl
theorem wl_116 : Cond.instanceMethod yX9_bucket ∈ lw_g := mg (mk3 (List.mem_of_getElem? (i := 93) rfl)) rfl
theorem wl_117 : Cond.selects RX9 yX9_bucket yX9_bucket ∈ lw_g := mg (mk3 (List.mem_of_getElem? (i := 94) rfl)) rfl
theorem wl_118 : Cond.code yX9_bucket cX9_bucket 5 (some .int) ∈ lw_g := mg (mk3 (List.mem_of_getElem? (i := 95) rfl)) rfl
theorem wl_119 : Cond.methodLink RL 82 yX10_bucket ∈ lw_g := mg (mk6 (List.mem_of_getElem? (i := 186) rfl)) rfl
theorem wl_120 : Cond.instanceMethod yX10_bucket ∈ lw_g := mg (mk6 (List.mem_of_getElem? (i := 187) rfl)) rfl
theorem wl_121 : Cond.selects RX10 yX10_bucket yX10_bucket ∈ lw_g := mg (mk6 (List.mem_of_getElem? (i := 188) rfl)) rfl
theorem wl_122 : Cond.code yX10_bucket cX10_bucket 4 (some .int) ∈ lw_g := mg (mk6 (List.mem_of_getElem? (i := 189) rfl)) rfl
theorem wl_123 : Cond.methodLink RL 83 yX9_different ∈ lw_g := mg (mk3 (List.mem_of_getElem? (i := 117) rfl)) rfl
theorem wl_124 : Cond.instanceMethod yX9_different ∈ lw_g := mg (mk3 (List.mem_of_getElem? (i := 118) rfl)) rfl
theorem wl_125 : Cond.selects RX9 yX9_different yX9_different ∈ lw_g := mg (mk3 (List.mem_of_getElem? (i := 119) rfl)) rfl
theorem wl_126 : Cond.code yX9_different cX9_different 2 (some .int) ∈ lw_g := mg (mk3 (List.mem_of_getElem? (i := 120) rfl)) rfl
theorem wl_127 : Cond.methodLink RL 86 yX10_different ∈ lw_g := mg (mk6 (List.mem_of_getElem? (i := 190) rfl)) rfl
theorem wl_128 : Cond.instanceMethod yX10_different ∈ lw_g := mg (mk6 (List.mem_of_getElem? (i := 191) rfl)) rfl
theorem wl_129 : Cond.selects RX10 yX10_different yX10_different ∈ lw_g := mg (mk6 (List.mem_of_getElem? (i := 192) rfl)) rfl
theorem wl_130 : Cond.code yX10_different cX10_different 2 (some .int) ∈ lw_g := mg (mk6 (List.mem_of_getElem? (i := 193) rfl)) rfl
theorem wl_131 : Cond.methodLink RL 87 yX9_share ∈ lw_g := mg (mk3 (List.mem_of_getElem? (i := 125) rfl)) rfl
theorem wl_132 : Cond.instanceMethod yX9_share ∈ lw_g := mg (mk3 (List.mem_of_getElem? (i := 126) rfl)) rfl
theorem wl_133 : Cond.selects RX9 yX9_share yX9_share ∈ lw_g := mg (mk3 (List.mem_of_getElem? (i := 127) rfl)) rfl
theorem wl_134 : Cond.code yX9_share cX9_share 4 (some .int) ∈ lw_g := mg (mk3 (List.mem_of_getElem? (i := 128) rfl)) rfl
theorem wl_135 : Cond.methodLink RL 90 yX10_share ∈ lw_g := mg (mk6 (List.mem_of_getElem? (i := 194) rfl)) rfl
theorem wl_136 : Cond.instanceMethod yX10_share ∈ lw_g := mg (mk6 (List.mem_of_getElem? (i := 195) rfl)) rfl
theorem wl_137 : Cond.selects RX10 yX10_share yX10_share ∈ lw_g := mg (mk6 (List.mem_of_getElem? (i := 196) rfl)) rfl
theorem wl_138 : Cond.code yX10_share cX10_share 5 (some .int) ∈ lw_g := mg (mk6 (List.mem_of_getElem? (i := 197) rfl)) rfl
theorem wl_139 : Cond.methodLink RL 91 yX9_filter ∈ lw_g := mg (mk3 (List.mem_of_getElem? (i := 148) rfl)) rfl
theorem wl_140 : Cond.instanceMethod yX9_filter ∈ lw_g := mg (mk3 (List.mem_of_getElem? (i := 149) rfl)) rfl
theorem wl_141 : Cond.selects RX9 yX9_filter yX9_filter ∈ lw_g := mg (mk3 (List.mem_of_getElem? (i := 150) rfl)) rfl
theorem wl_142 : Cond.code yX9_filter cX9_filter 4 (some .int) ∈ lw_g := mg (mk3 (List.mem_of_getElem? (i := 151) rfl)) rfl
theorem wl_143 : Cond.methodLink RL 94 yX10_filter ∈ lw_g := mg (mk6 (List.mem_of_getElem? (i := 201) rfl)) rfl
theorem wl_144 : Cond.instanceMethod yX10_filter ∈ lw_g := mg (mk6 (List.mem_of_getElem? (i := 202) rfl)) rfl
theorem wl_145 : Cond.selects RX10 yX10_filter yX10_filter ∈ lw_g := mg (mk6 (List.mem_of_getElem? (i := 203) rfl)) rfl
theorem wl_146 : Cond.code yX10_filter cX10_filter 5 (some .int) ∈ lw_g := mg (mk6 (List.mem_of_getElem? (i := 204) rfl)) rfl
theorem wl_147 : Cond.methodLink RL 95 yX9_join ∈ lw_g := mg (mk3 (List.mem_of_getElem? (i := 156) rfl)) rfl
theorem wl_148 : Cond.instanceMethod yX9_join ∈ lw_g := mg (mk3 (List.mem_of_getElem? (i := 157) rfl)) rfl
theorem wl_149 : Cond.selects RX9 yX9_join yX9_join ∈ lw_g := mg (mk3 (List.mem_of_getElem? (i := 158) rfl)) rfl
theorem wl_150 : Cond.code yX9_join cX9_join 3 (some .int) ∈ lw_g := mg (mk3 (List.mem_of_getElem? (i := 159) rfl)) rfl
theorem wl_151 : Cond.methodLink RL 98 yX10_join ∈ lw_g := mg (mk6 (List.mem_of_getElem? (i := 205) rfl)) rfl
theorem wl_152 : Cond.instanceMethod yX10_join ∈ lw_g := mg (mk6 (List.mem_of_getElem? (i := 206) rfl)) rfl
theorem wl_153 : Cond.selects RX10 yX10_join yX10_join ∈ lw_g := mg (mk6 (List.mem_of_getElem? (i := 207) rfl)) rfl
theorem wl_154 : Cond.code yX10_join cX10_join 4 (some .int) ∈ lw_g := mg (mk6 (List.mem_of_getElem? (i := 208) rfl)) rfl
theorem wl_155 : Cond.methodLink RL 99 yX9_clear ∈ lw_g := mg (mk3 (List.mem_of_getElem? (i := 168) rfl)) rfl
theorem wl_156 : Cond.instanceMethod yX9_clear ∈ lw_g := mg (mk3 (List.mem_of_getElem? (i := 169) rfl)) rfl
theorem wl_157 : Cond.selects RX9 yX9_clear yX9_clear ∈ lw_g := mg (mk3 (List.mem_of_getElem? (i := 170) rfl)) rfl
theorem wl_158 : Cond.code yX9_clear cX9_clear 2 (some .int) ∈ lw_g := mg (mk3 (List.mem_of_getElem? (i := 171) rfl)) rfl
theorem wl_159 : Cond.methodLink RL 102 yX10_clear ∈ lw_g := mg (mk6 (List.mem_of_getElem? (i := 209) rfl)) rfl
theorem wl_160 : Cond.instanceMethod yX10_clear ∈ lw_g := mg (mk6 (List.mem_of_getElem? (i := 210) rfl)) rfl
theorem wl_161 : Cond.selects RX10 yX10_clear yX10_clear ∈ lw_g := mg (mk6 (List.mem_of_getElem? (i := 211) rfl)) rfl
theorem wl_162 : Cond.code yX10_clear cX10_clear 2 (some .int) ∈ lw_g := mg (mk6 (List.mem_of_getElem? (i := 212) rfl)) rfl
theorem wl_163 : Cond.methodLink RL 103 yX9_filterOf ∈ lw_g := mg (mk3 (List.mem_of_getElem? (i := 172) rfl)) rfl
theorem wl_164 : Cond.instanceMethod yX9_filterOf ∈ lw_g := mg (mk3 (List.mem_of_getElem? (i := 173) rfl)) rfl
theorem wl_165 : Cond.selects RX9 yX9_filterOf yX9_filterOf ∈ lw_g := mg (mk3 (List.mem_of_getElem? (i := 174) rfl)) rfl
theorem wl_166 : Cond.code yX9_filterOf cX9_filterOf 3 (some .int) ∈ lw_g := mg (mk3 (List.mem_of_getElem? (i := 175) rfl)) rfl
theorem wl_167 : Cond.methodLink RL 106 yX10_filterOf ∈ lw_g := mg (mk6 (List.mem_of_getElem? (i := 213) rfl)) rfl
theorem wl_168 : Cond.instanceMethod yX10_filterOf ∈ lw_g := mg (mk6 (List.mem_of_getElem? (i := 214) rfl)) rfl
theorem wl_169 : Cond.selects RX10 yX10_filterOf yX10_filterOf ∈ lw_g := mg (mk6 (List.mem_of_getElem? (i := 215) rfl)) rfl
theorem wl_170 : Cond.code yX10_filterOf cX10_filterOf 3 (some .int) ∈ lw_g := mg (mk6 (List.mem_of_getElem? (i := 216) rfl)) rfl
theorem wl_171 : Cond.methodLink RL 107 yX9_joinOf ∈ lw_g := mg (mk3 (List.mem_of_getElem? (i := 176) rfl)) rfl
theorem wl_172 : Cond.instanceMethod yX9_joinOf ∈ lw_g := mg (mk3 (List.mem_of_getElem? (i := 177) rfl)) rfl
theorem wl_173 : Cond.selects RX9 yX9_joinOf yX9_joinOf ∈ lw_g := mg (mk3 (List.mem_of_getElem? (i := 178) rfl)) rfl
theorem wl_174 : Cond.code yX9_joinOf cX9_joinOf 3 (some .int) ∈ lw_g := mg (mk3 (List.mem_of_getElem? (i := 179) rfl)) rfl
theorem wl_175 : Cond.methodLink RL 110 yX10_joinOf ∈ lw_g := mg (mk6 (List.mem_of_getElem? (i := 217) rfl)) rfl
theorem wl_176 : Cond.instanceMethod yX10_joinOf ∈ lw_g := mg (mk6 (List.mem_of_getElem? (i := 218) rfl)) rfl
theorem wl_177 : Cond.selects RX10 yX10_joinOf yX10_joinOf ∈ lw_g := mg (mk6 (List.mem_of_getElem? (i := 219) rfl)) rfl
theorem wl_178 : Cond.code yX10_joinOf cX10_joinOf 3 (some .int) ∈ lw_g := mg (mk6 (List.mem_of_getElem? (i := 220) rfl)) rfl
theorem wl_179 : Cond.methodLink RL 111 yX9_joinShare ∈ lw_g := mg (mk3 (List.mem_of_getElem? (i := 180) rfl)) rfl
theorem wl_180 : Cond.instanceMethod yX9_joinShare ∈ lw_g := mg (mk3 (List.mem_of_getElem? (i := 181) rfl)) rfl
theorem wl_181 : Cond.selects RX9 yX9_joinShare yX9_joinShare ∈ lw_g := mg (mk3 (List.mem_of_getElem? (i := 182) rfl)) rfl
theorem wl_182 : Cond.code yX9_joinShare cX9_joinShare 2 (some .int) ∈ lw_g := mg (mk3 (List.mem_of_getElem? (i := 183) rfl)) rfl
theorem wl_183 : Cond.methodLink RL 114 yX10_joinShare ∈ lw_g := mg (mk6 (List.mem_of_getElem? (i := 221) rfl)) rfl
theorem wl_184 : Cond.instanceMethod yX10_joinShare ∈ lw_g := mg (mk6 (List.mem_of_getElem? (i := 222) rfl)) rfl
theorem wl_185 : Cond.selects RX10 yX10_joinShare yX10_joinShare ∈ lw_g := mg (mk6 (List.mem_of_getElem? (i := 223) rfl)) rfl
theorem wl_186 : Cond.code yX10_joinShare cX10_joinShare 2 (some .int) ∈ lw_g := mg (mk6 (List.mem_of_getElem? (i := 224) rfl)) rfl
theorem wl_187 : Cond.methodLink RL 115 yX9_thought ∈ lw_g := mg (mk3 (List.mem_of_getElem? (i := 191) rfl)) rfl
theorem wl_188 : Cond.instanceMethod yX9_thought ∈ lw_g := mg (mk3 (List.mem_of_getElem? (i := 192) rfl)) rfl
theorem wl_189 : Cond.selects RX9 yX9_thought yX9_thought ∈ lw_g := mg (mk3 (List.mem_of_getElem? (i := 193) rfl)) rfl
theorem wl_190 : Cond.code yX9_thought cX9_thought 2 (some .int) ∈ lw_g := mg (mk3 (List.mem_of_getElem? (i := 194) rfl)) rfl
theorem wl_191 : Cond.methodLink RL 118 yX10_thought ∈ lw_g := mg (mk6 (List.mem_of_getElem? (i := 225) rfl)) rfl
theorem wl_192 : Cond.instanceMethod yX10_thought ∈ lw_g := mg (mk6 (List.mem_of_getElem? (i := 226) rfl)) rfl
theorem wl_193 : Cond.selects RX10 yX10_thought yX10_thought ∈ lw_g := mg (mk6 (List.mem_of_getElem? (i := 227) rfl)) rfl
theorem wl_194 : Cond.code yX10_thought cX10_thought 2 (some .int) ∈ lw_g := mg (mk6 (List.mem_of_getElem? (i := 228) rfl)) rfl
theorem wl_195 : Cond.methodLink RL 119 yX9_sorting ∈ lw_g := mg (mk3 (List.mem_of_getElem? (i := 219) rfl)) rfl
theorem wl_196 : Cond.instanceMethod yX9_sorting ∈ lw_g := mg (mk3 (List.mem_of_getElem? (i := 220) rfl)) rfl
theorem wl_197 : Cond.selects RX9 yX9_sorting yX9_sorting ∈ lw_g := mg (mk3 (List.mem_of_getElem? (i := 221) rfl)) rfl
theorem wl_198 : Cond.code yX9_sorting cX9_sorting 2 (some .int) ∈ lw_g := mg (mk3 (List.mem_of_getElem? (i := 222) rfl)) rfl
theorem wl_199 : Cond.methodLink RL 122 yX10_sorting ∈ lw_g := mg (mk6 (List.mem_of_getElem? (i := 229) rfl)) rfl
theorem wl_200 : Cond.instanceMethod yX10_sorting ∈ lw_g := mg (mk6 (List.mem_of_getElem? (i := 230) rfl)) rfl
theorem wl_201 : Cond.selects RX10 yX10_sorting yX10_sorting ∈ lw_g := mg (mk6 (List.mem_of_getElem? (i := 231) rfl)) rfl
theorem wl_202 : Cond.code yX10_sorting cX10_sorting 2 (some .int) ∈ lw_g := mg (mk6 (List.mem_of_getElem? (i := 232) rfl)) rfl
theorem wl_203 : Cond.methodLink RL 123 yX9_cost ∈ lw_g := mg (mk3 (List.mem_of_getElem? (i := 226) rfl)) rfl
theorem wl_204 : Cond.instanceMethod yX9_cost ∈ lw_g := mg (mk3 (List.mem_of_getElem? (i := 227) rfl)) rfl
theorem wl_205 : Cond.selects RX9 yX9_cost yX9_cost ∈ lw_g := mg (mk3 (List.mem_of_getElem? (i := 228) rfl)) rfl
theorem wl_206 : Cond.code yX9_cost cX9_cost 4 (some .int) ∈ lw_g := mg (mk3 (List.mem_of_getElem? (i := 229) rfl)) rfl
theorem wl_207 : Cond.methodLink RL 126 yX10_cost ∈ lw_g := mg (mk6 (List.mem_of_getElem? (i := 32) rfl)) rfl
theorem wl_208 : Cond.instanceMethod yX10_cost ∈ lw_g := mg (mk6 (List.mem_of_getElem? (i := 33) rfl)) rfl
theorem wl_209 : Cond.selects RX10 yX10_cost yX10_cost ∈ lw_g := mg (mk6 (List.mem_of_getElem? (i := 34) rfl)) rfl
theorem wl_210 : Cond.code yX10_cost cX10_cost 3 (some .int) ∈ lw_g := mg (mk6 (List.mem_of_getElem? (i := 35) rfl)) rfl
theorem wl_211 : Cond.methodLink RL 127 yX9_plan ∈ lw_g := mg (mk4 (List.mem_of_getElem? (i := 41) rfl)) rfl
theorem wl_212 : Cond.instanceMethod yX9_plan ∈ lw_g := mg (mk4 (List.mem_of_getElem? (i := 42) rfl)) rfl
theorem wl_213 : Cond.selects RX9 yX9_plan yX9_plan ∈ lw_g := mg (mk4 (List.mem_of_getElem? (i := 43) rfl)) rfl
theorem wl_214 : Cond.code yX9_plan cX9_plan 4 (some .int) ∈ lw_g := mg (mk4 (List.mem_of_getElem? (i := 44) rfl)) rfl
theorem wl_215 : Cond.methodLink RL 130 yX10_plan ∈ lw_g := mg (mk5 (List.mem_of_getElem? (i := 123) rfl)) rfl
theorem wl_216 : Cond.instanceMethod yX10_plan ∈ lw_g := mg (mk5 (List.mem_of_getElem? (i := 124) rfl)) rfl
theorem wl_217 : Cond.selects RX10 yX10_plan yX10_plan ∈ lw_g := mg (mk5 (List.mem_of_getElem? (i := 125) rfl)) rfl
theorem wl_218 : Cond.code yX10_plan cX10_plan 4 (some .int) ∈ lw_g := mg (mk5 (List.mem_of_getElem? (i := 126) rfl)) rfl
theorem wl_219 : Cond.methodLink RL 131 yX9_nodeOf ∈ lw_g := mg (mk4 (List.mem_of_getElem? (i := 59) rfl)) rfl
theorem wl_220 : Cond.instanceMethod yX9_nodeOf ∈ lw_g := mg (mk4 (List.mem_of_getElem? (i := 60) rfl)) rfl
theorem wl_221 : Cond.selects RX9 yX9_nodeOf yX9_nodeOf ∈ lw_g := mg (mk4 (List.mem_of_getElem? (i := 61) rfl)) rfl
theorem wl_222 : Cond.code yX9_nodeOf cX9_nodeOf 3 (some .int) ∈ lw_g := mg (mk4 (List.mem_of_getElem? (i := 62) rfl)) rfl
theorem wl_223 : Cond.methodLink RL 134 yX10_nodeOf ∈ lw_g := mg (mk6 (List.mem_of_getElem? (i := 36) rfl)) rfl
theorem wl_224 : Cond.instanceMethod yX10_nodeOf ∈ lw_g := mg (mk6 (List.mem_of_getElem? (i := 37) rfl)) rfl
theorem wl_225 : Cond.selects RX10 yX10_nodeOf yX10_nodeOf ∈ lw_g := mg (mk6 (List.mem_of_getElem? (i := 38) rfl)) rfl
theorem wl_226 : Cond.code yX10_nodeOf cX10_nodeOf 3 (some .int) ∈ lw_g := mg (mk6 (List.mem_of_getElem? (i := 39) rfl)) rfl
theorem wl_227 : Cond.methodLink RL 135 yX9_really ∈ lw_g := mg (mk4 (List.mem_of_getElem? (i := 63) rfl)) rfl
theorem wl_228 : Cond.instanceMethod yX9_really ∈ lw_g := mg (mk4 (List.mem_of_getElem? (i := 64) rfl)) rfl
theorem wl_229 : Cond.selects RX9 yX9_really yX9_really ∈ lw_g := mg (mk4 (List.mem_of_getElem? (i := 65) rfl)) rfl
theorem wl_230 : Cond.code yX9_really cX9_really 3 (some .int) ∈ lw_g := mg (mk4 (List.mem_of_getElem? (i := 66) rfl)) rfl
theorem wl_231 : Cond.methodLink RL 138 yX10_really ∈ lw_g := mg (mk6 (List.mem_of_getElem? (i := 40) rfl)) rfl
theorem wl_232 : Cond.instanceMethod yX10_really ∈ lw_g := mg (mk6 (List.mem_of_getElem? (i := 41) rfl)) rfl
theorem wl_233 : Cond.selects RX10 yX10_really yX10_really ∈ lw_g := mg (mk6 (List.mem_of_getElem? (i := 42) rfl)) rfl
theorem wl_234 : Cond.code yX10_really cX10_really 2 (some .int) ∈ lw_g := mg (mk6 (List.mem_of_getElem? (i := 43) rfl)) rfl
theorem wl_235 : Cond.methodLink RL 139 yX9_sum ∈ lw_g := mg (mk4 (List.mem_of_getElem? (i := 114) rfl)) rfl
theorem wl_236 : Cond.instanceMethod yX9_sum ∈ lw_g := mg (mk4 (List.mem_of_getElem? (i := 115) rfl)) rfl
theorem wl_237 : Cond.selects RX9 yX9_sum yX9_sum ∈ lw_g := mg (mk4 (List.mem_of_getElem? (i := 116) rfl)) rfl
theorem wl_238 : Cond.code yX9_sum cX9_sum 4 (some .long) ∈ lw_g := mg (mk4 (List.mem_of_getElem? (i := 117) rfl)) rfl
theorem wl_239 : Cond.methodLink RL 142 yX10_sum ∈ lw_g := mg (mk6 (List.mem_of_getElem? (i := 63) rfl)) rfl
theorem wl_240 : Cond.instanceMethod yX10_sum ∈ lw_g := mg (mk6 (List.mem_of_getElem? (i := 64) rfl)) rfl
theorem wl_241 : Cond.selects RX10 yX10_sum yX10_sum ∈ lw_g := mg (mk6 (List.mem_of_getElem? (i := 65) rfl)) rfl
theorem wl_242 : Cond.code yX10_sum cX10_sum 4 (some .long) ∈ lw_g := mg (mk6 (List.mem_of_getElem? (i := 66) rfl)) rfl
theorem wl_243 : Cond.methodLink RL 143 yX9_wrongBy ∈ lw_g := mg (mk4 (List.mem_of_getElem? (i := 123) rfl)) rfl
theorem wl_244 : Cond.instanceMethod yX9_wrongBy ∈ lw_g := mg (mk4 (List.mem_of_getElem? (i := 124) rfl)) rfl
theorem wl_245 : Cond.selects RX9 yX9_wrongBy yX9_wrongBy ∈ lw_g := mg (mk4 (List.mem_of_getElem? (i := 125) rfl)) rfl
theorem wl_246 : Cond.code yX9_wrongBy cX9_wrongBy 3 (some .int) ∈ lw_g := mg (mk4 (List.mem_of_getElem? (i := 126) rfl)) rfl
theorem wl_247 : Cond.methodLink RL 146 yX10_wrongBy ∈ lw_g := mg (mk6 (List.mem_of_getElem? (i := 70) rfl)) rfl
theorem wl_248 : Cond.instanceMethod yX10_wrongBy ∈ lw_g := mg (mk6 (List.mem_of_getElem? (i := 71) rfl)) rfl
theorem wl_249 : Cond.selects RX10 yX10_wrongBy yX10_wrongBy ∈ lw_g := mg (mk6 (List.mem_of_getElem? (i := 72) rfl)) rfl
theorem wl_250 : Cond.code yX10_wrongBy cX10_wrongBy 6 (some .int) ∈ lw_g := mg (mk6 (List.mem_of_getElem? (i := 73) rfl)) rfl
theorem wl_251 : Cond.methodLink RL 147 yX9_judge ∈ lw_g := mg (mk4 (List.mem_of_getElem? (i := 130) rfl)) rfl
theorem wl_252 : Cond.instanceMethod yX9_judge ∈ lw_g := mg (mk4 (List.mem_of_getElem? (i := 131) rfl)) rfl
theorem wl_253 : Cond.selects RX9 yX9_judge yX9_judge ∈ lw_g := mg (mk4 (List.mem_of_getElem? (i := 132) rfl)) rfl
theorem wl_254 : Cond.code yX9_judge cX9_judge 5 (some .int) ∈ lw_g := mg (mk4 (List.mem_of_getElem? (i := 133) rfl)) rfl
theorem wl_255 : Cond.methodLink RL 150 yX10_judge ∈ lw_g := mg (mk6 (List.mem_of_getElem? (i := 233) rfl)) rfl
theorem wl_256 : Cond.instanceMethod yX10_judge ∈ lw_g := mg (mk6 (List.mem_of_getElem? (i := 234) rfl)) rfl
theorem wl_257 : Cond.selects RX10 yX10_judge yX10_judge ∈ lw_g := mg (mk6 (List.mem_of_getElem? (i := 235) rfl)) rfl
theorem wl_258 : Cond.code yX10_judge cX10_judge 5 (some .int) ∈ lw_g := mg (mk6 (List.mem_of_getElem? (i := 236) rfl)) rfl
theorem wl_259 : Cond.methodLink RL 151 yX9_drawn ∈ lw_g := mg (mk4 (List.mem_of_getElem? (i := 135) rfl)) rfl
theorem wl_260 : Cond.instanceMethod yX9_drawn ∈ lw_g := mg (mk4 (List.mem_of_getElem? (i := 136) rfl)) rfl
theorem wl_261 : Cond.selects RX9 yX9_drawn yX9_drawn ∈ lw_g := mg (mk4 (List.mem_of_getElem? (i := 137) rfl)) rfl
theorem wl_262 : Cond.code yX9_drawn cX9_drawn 4 (some .int) ∈ lw_g := mg (mk4 (List.mem_of_getElem? (i := 138) rfl)) rfl
theorem wl_263 : Cond.methodLink RL 154 yX10_drawn ∈ lw_g := mg (mk6 (List.mem_of_getElem? (i := 237) rfl)) rfl
theorem wl_264 : Cond.instanceMethod yX10_drawn ∈ lw_g := mg (mk6 (List.mem_of_getElem? (i := 238) rfl)) rfl
theorem wl_265 : Cond.selects RX10 yX10_drawn yX10_drawn ∈ lw_g := mg (mk6 (List.mem_of_getElem? (i := 239) rfl)) rfl
theorem wl_266 : Cond.code yX10_drawn cX10_drawn 4 (some .int) ∈ lw_g := mg (mk7 (List.mem_of_getElem? (i := 0) rfl)) rfl
theorem wl_267 : Cond.methodLink RL 155 yX9_seed ∈ lw_g := mg (mk4 (List.mem_of_getElem? (i := 149) rfl)) rfl
theorem wl_268 : Cond.instanceMethod yX9_seed ∈ lw_g := mg (mk4 (List.mem_of_getElem? (i := 150) rfl)) rfl
theorem wl_269 : Cond.selects RX9 yX9_seed yX9_seed ∈ lw_g := mg (mk4 (List.mem_of_getElem? (i := 151) rfl)) rfl
theorem wl_270 : Cond.code yX9_seed cX9_seed 3 (some .int) ∈ lw_g := mg (mk4 (List.mem_of_getElem? (i := 152) rfl)) rfl
theorem wl_271 : Cond.methodLink RL 158 yX10_seed ∈ lw_g := mg (mk7 (List.mem_of_getElem? (i := 10) rfl)) rfl
theorem wl_272 : Cond.instanceMethod yX10_seed ∈ lw_g := mg (mk7 (List.mem_of_getElem? (i := 11) rfl)) rfl
theorem wl_273 : Cond.selects RX10 yX10_seed yX10_seed ∈ lw_g := mg (mk7 (List.mem_of_getElem? (i := 12) rfl)) rfl
theorem wl_274 : Cond.code yX10_seed cX10_seed 3 (some .int) ∈ lw_g := mg (mk7 (List.mem_of_getElem? (i := 13) rfl)) rfl
theorem wl_275 : Cond.methodLink RL 159 yX9_image ∈ lw_g := mg (mk4 (List.mem_of_getElem? (i := 153) rfl)) rfl
theorem wl_276 : Cond.instanceMethod yX9_image ∈ lw_g := mg (mk4 (List.mem_of_getElem? (i := 154) rfl)) rfl
theorem wl_277 : Cond.selects RX9 yX9_image yX9_image ∈ lw_g := mg (mk4 (List.mem_of_getElem? (i := 155) rfl)) rfl
theorem wl_278 : Cond.code yX9_image cX9_image 1 (some .int) ∈ lw_g := mg (mk4 (List.mem_of_getElem? (i := 156) rfl)) rfl
theorem wl_279 : Cond.methodLink RL 162 yX10_image ∈ lw_g := mg (mk7 (List.mem_of_getElem? (i := 14) rfl)) rfl
theorem wl_280 : Cond.instanceMethod yX10_image ∈ lw_g := mg (mk7 (List.mem_of_getElem? (i := 15) rfl)) rfl
theorem wl_281 : Cond.selects RX10 yX10_image yX10_image ∈ lw_g := mg (mk7 (List.mem_of_getElem? (i := 16) rfl)) rfl
theorem wl_282 : Cond.code yX10_image cX10_image 1 (some .int) ∈ lw_g := mg (mk7 (List.mem_of_getElem? (i := 17) rfl)) rfl
theorem wl_283 : Cond.methodLink RL 163 yX9_restore ∈ lw_g := mg (mk4 (List.mem_of_getElem? (i := 171) rfl)) rfl
theorem wl_284 : Cond.instanceMethod yX9_restore ∈ lw_g := mg (mk4 (List.mem_of_getElem? (i := 172) rfl)) rfl
theorem wl_285 : Cond.selects RX9 yX9_restore yX9_restore ∈ lw_g := mg (mk4 (List.mem_of_getElem? (i := 173) rfl)) rfl
theorem wl_286 : Cond.code yX9_restore cX9_restore 1 (some .int) ∈ lw_g := mg (mk4 (List.mem_of_getElem? (i := 174) rfl)) rfl
theorem wl_287 : Cond.methodLink RL 166 yX10_restore ∈ lw_g := mg (mk7 (List.mem_of_getElem? (i := 34) rfl)) rfl
theorem wl_288 : Cond.instanceMethod yX10_restore ∈ lw_g := mg (mk7 (List.mem_of_getElem? (i := 35) rfl)) rfl
theorem wl_289 : Cond.selects RX10 yX10_restore yX10_restore ∈ lw_g := mg (mk7 (List.mem_of_getElem? (i := 36) rfl)) rfl
theorem wl_290 : Cond.code yX10_restore cX10_restore 1 (some .int) ∈ lw_g := mg (mk7 (List.mem_of_getElem? (i := 37) rfl)) rfl
theorem wl_291 : Cond.methodLink RL 167 yX9_status ∈ lw_g := mg (mk4 (List.mem_of_getElem? (i := 175) rfl)) rfl
theorem wl_292 : Cond.instanceMethod yX9_status ∈ lw_g := mg (mk4 (List.mem_of_getElem? (i := 176) rfl)) rfl
theorem wl_293 : Cond.selects RX9 yX9_status yX9_status ∈ lw_g := mg (mk4 (List.mem_of_getElem? (i := 177) rfl)) rfl
theorem wl_294 : Cond.code yX9_status cX9_status 2 (some .int) ∈ lw_g := mg (mk4 (List.mem_of_getElem? (i := 178) rfl)) rfl
theorem wl_295 : Cond.methodLink RL 170 yX10_status ∈ lw_g := mg (mk7 (List.mem_of_getElem? (i := 38) rfl)) rfl
theorem wl_296 : Cond.instanceMethod yX10_status ∈ lw_g := mg (mk7 (List.mem_of_getElem? (i := 39) rfl)) rfl
theorem wl_297 : Cond.selects RX10 yX10_status yX10_status ∈ lw_g := mg (mk7 (List.mem_of_getElem? (i := 40) rfl)) rfl
theorem wl_298 : Cond.code yX10_status cX10_status 2 (some .int) ∈ lw_g := mg (mk7 (List.mem_of_getElem? (i := 41) rfl)) rfl
set_option maxHeartbeats 4000000 in
set_option maxRecDepth 100000 in
theorem law_row {M : MC} {κ : Kp} {b N : Nat} {xs : Nat → Int32} {Q : State → Prop} {σ : St} (C : CL M κ b N xs) {V : Vw} (hX : XV σ V) (hM : MV σ V) (hO : OKV V) {i : Nat} (hi : i + 6 ≤ N) (hN : N ≤ 3072) (K : ∀ σ' V', XV σ' V' → MV σ' V' → OKV V' → GL M κ Q 1369 [(3, .int (iZ (i : Int))), (0, .ref b), (1, .ref (κ.2.1 76)), (2, .ref (κ.2.1 105))] [] σ') : GL M κ Q 196 [(3, .int (iZ (i : Int))), (0, .ref b), (1, .ref (κ.2.1 76)), (2, .ref (κ.2.1 105))] [] σ := by
  refine l_aload_n C dl_196 rfl ?_
  refine l_aload_n C dl_197 rfl ?_
  refine l_iload_n C dl_198 rfl ?_
  refine l_iconst (z := 1) C dl_199 rfl ?_
  refine l_iadd C dl_200 ?_
  refine l_sld (j := i + 1) C dl_201 (by omega) (by omega) hN ?_
  refine l_aload_n C dl_202 rfl ?_
  refine l_pc (pc' := 203) rfl ?_
  refine l_iload_n C dl_203 rfl ?_
  refine l_iconst (z := 2) C dl_204 rfl ?_
  refine l_iadd C dl_205 ?_
  refine l_sld (j := i + 2) C dl_206 (by omega) (by omega) hN ?_
  refine l_aload_n C dl_207 rfl ?_
  refine l_iload_n C dl_208 rfl ?_
  refine l_iconst (z := 3) C dl_209 rfl ?_
  refine l_iadd C dl_210 ?_
  refine l_pc (pc' := 211) rfl ?_
  refine l_sld (j := i + 3) C dl_211 (by omega) (by omega) hN ?_
  refine l_ci C (rnL (n := 3) (As := [.int (iZ (xv xs (i + 1))), .int (iZ (xv xs (i + 2))), .int (iZ (xv xs (i + 3)))]) C (c_X9_row C.I (Ml M) σ hX hO (x := (xv xs (i + 1))) (so := (xv xs (i + 2))) (n := (xv xs (i + 3)))  xv_r xv_r xv_r ) (LkV.mk wl_0 wl_1 wl_2 wl_3 wl_4 ⟨by decide +kernel, by decide +kernel, by decide +kernel⟩) (k := 76) rfl (by decide) rfl rfl dl_212 (by decide) (by decide) rfl rfl (Nat.le_of_ble_eq_true rfl)) (fun z1 σ1 ⟨hz1, hX1, hF1⟩ => ?_)
  have hM1 := hM.frX hF1
  refine l_aload_n C dl_215 rfl ?_
  refine l_aload_n C dl_216 rfl ?_
  refine l_iload_n C dl_217 rfl ?_
  refine l_iconst (z := 1) C dl_218 rfl ?_
  refine l_iadd C dl_219 ?_
  refine l_sld (j := i + 1) C dl_220 (by omega) (by omega) hN ?_
  refine l_pc (pc' := 221) rfl ?_
  refine l_aload_n C dl_221 rfl ?_
  refine l_iload_n C dl_222 rfl ?_
  refine l_iconst (z := 2) C dl_223 rfl ?_
  refine l_iadd C dl_224 ?_
  refine l_sld (j := i + 2) C dl_225 (by omega) (by omega) hN ?_
  refine l_aload_n C dl_226 rfl ?_
  refine l_iload_n C dl_227 rfl ?_
  refine l_iconst (z := 3) C dl_228 rfl ?_
  refine l_pc (pc' := 229) rfl ?_
  refine l_iadd C dl_229 ?_
  refine l_sld (j := i + 3) C dl_230 (by omega) (by omega) hN ?_
  refine l_ci C (rnL (n := 3) (As := [.int (iZ (xv xs (i + 1))), .int (iZ (xv xs (i + 2))), .int (iZ (xv xs (i + 3)))]) C (c_X10_row C.I (Ml M) σ1 hM1 hO (x := (xv xs (i + 1))) (so := (xv xs (i + 2))) (n := (xv xs (i + 3)))  xv_r xv_r xv_r ) (LkV.mk wl_5 wl_6 wl_7 wl_8 wl_9 ⟨by decide +kernel, by decide +kernel, by decide +kernel⟩) (k := 105) rfl (by decide) rfl rfl dl_231 (by decide) (by decide) rfl rfl (Nat.le_of_ble_eq_true rfl)) (fun z2 σ2 ⟨hz2, hM2, hF2⟩ => ?_)
  have hO2 := k_row hO (xv xs (i + 1)) (xv xs (i + 2)) (xv xs (i + 3))
  have hX2 := hX1.frY hO2 hF2
  subst z1
  subst z2
  refine l_same (tgt := 1369) C dl_234 (by decide) ?_
  exact K _ _ hX2 hM2 hO2
set_option maxHeartbeats 4000000 in
set_option maxRecDepth 100000 in
theorem law_set {M : MC} {κ : Kp} {b N : Nat} {xs : Nat → Int32} {Q : State → Prop} {σ : St} (C : CL M κ b N xs) {V : Vw} (hX : XV σ V) (hM : MV σ V) (hO : OKV V) {i : Nat} (hi : i + 6 ≤ N) (hN : N ≤ 3072) (K : ∀ σ' V', XV σ' V' → MV σ' V' → OKV V' → GL M κ Q 1369 [(3, .int (iZ (i : Int))), (0, .ref b), (1, .ref (κ.2.1 76)), (2, .ref (κ.2.1 105))] [] σ') : GL M κ Q 239 [(3, .int (iZ (i : Int))), (0, .ref b), (1, .ref (κ.2.1 76)), (2, .ref (κ.2.1 105))] [] σ := by
  refine l_aload_n C dl_239 rfl ?_
  refine l_aload_n C dl_240 rfl ?_
  refine l_iload_n C dl_241 rfl ?_
  refine l_iconst (z := 1) C dl_242 rfl ?_
  refine l_iadd C dl_243 ?_
  refine l_sld (j := i + 1) C dl_244 (by omega) (by omega) hN ?_
  refine l_aload_n C dl_245 rfl ?_
  refine l_pc (pc' := 246) rfl ?_
  refine l_iload_n C dl_246 rfl ?_
  refine l_iconst (z := 2) C dl_247 rfl ?_
  refine l_iadd C dl_248 ?_
  refine l_sld (j := i + 2) C dl_249 (by omega) (by omega) hN ?_
  refine l_aload_n C dl_250 rfl ?_
  refine l_iload_n C dl_251 rfl ?_
  refine l_iconst (z := 3) C dl_252 rfl ?_
  refine l_iadd C dl_253 ?_
  refine l_pc (pc' := 254) rfl ?_
  refine l_sld (j := i + 3) C dl_254 (by omega) (by omega) hN ?_
  refine l_i2l C dl_255 ?_
  refine l_bipush (z := 32) C dl_256 rfl ?_
  refine l_lshl C dl_258 ?_
  refine l_aload_n C dl_259 rfl ?_
  refine l_iload_n C dl_260 rfl ?_
  refine l_iconst (z := 4) C dl_261 rfl ?_
  refine l_iadd C dl_262 ?_
  refine l_pc (pc' := 263) rfl ?_
  refine l_sld (j := i + 4) C dl_263 (by omega) (by omega) hN ?_
  refine l_i2l C dl_264 ?_
  refine l_ldc2 C dl_265 wl_10 ?_
  refine l_land C dl_268 ?_
  refine l_lor C dl_269 ?_
  refine l_ci C (rnL (n := 3) (As := [.int (iZ (xv xs (i + 1))), .int (iZ (xv xs (i + 2))), .long (((iZ (xv xs (i + 3))).toInt64 <<< ((iZ 32).toInt64 &&& 63)) ||| ((iZ (xv xs (i + 4))).toInt64 &&& 4294967295))]) C (c_X9_set C.I (Ml M) σ hX hO (x := (xv xs (i + 1))) (i := (xv xs (i + 2))) (v := (((iZ (xv xs (i + 3))).toInt64 <<< ((iZ 32).toInt64 &&& 63)) ||| ((iZ (xv xs (i + 4))).toInt64 &&& 4294967295))) xv_r xv_r ) (LkV.mk wl_11 wl_12 wl_13 wl_3 wl_14 ⟨by decide +kernel, by decide +kernel, by decide +kernel⟩) (k := 76) rfl (by decide) rfl rfl dl_270 (by decide) (by decide) rfl rfl (Nat.le_of_ble_eq_true rfl)) (fun z1 σ1 ⟨hz1, hX1, hF1⟩ => ?_)
  have hM1 := hM.frX hF1
  refine l_aload_n C dl_273 rfl ?_
  refine l_aload_n C dl_274 rfl ?_
  refine l_pc (pc' := 275) rfl ?_
  refine l_iload_n C dl_275 rfl ?_
  refine l_iconst (z := 1) C dl_276 rfl ?_
  refine l_iadd C dl_277 ?_
  refine l_sld (j := i + 1) C dl_278 (by omega) (by omega) hN ?_
  refine l_aload_n C dl_279 rfl ?_
  refine l_iload_n C dl_280 rfl ?_
  refine l_iconst (z := 2) C dl_281 rfl ?_
  refine l_iadd C dl_282 ?_
  refine l_pc (pc' := 283) rfl ?_
  refine l_sld (j := i + 2) C dl_283 (by omega) (by omega) hN ?_
  refine l_aload_n C dl_284 rfl ?_
  refine l_iload_n C dl_285 rfl ?_
  refine l_iconst (z := 3) C dl_286 rfl ?_
  refine l_iadd C dl_287 ?_
  refine l_sld (j := i + 3) C dl_288 (by omega) (by omega) hN ?_
  refine l_i2l C dl_289 ?_
  refine l_bipush (z := 32) C dl_290 rfl ?_
  refine l_pc (pc' := 292) rfl ?_
  refine l_lshl C dl_292 ?_
  refine l_aload_n C dl_293 rfl ?_
  refine l_iload_n C dl_294 rfl ?_
  refine l_iconst (z := 4) C dl_295 rfl ?_
  refine l_iadd C dl_296 ?_
  refine l_sld (j := i + 4) C dl_297 (by omega) (by omega) hN ?_
  refine l_i2l C dl_298 ?_
  refine l_ldc2 C dl_299 wl_10 ?_
  refine l_pc (pc' := 302) rfl ?_
  refine l_land C dl_302 ?_
  refine l_lor C dl_303 ?_
  refine l_ci C (rnL (n := 3) (As := [.int (iZ (xv xs (i + 1))), .int (iZ (xv xs (i + 2))), .long (((iZ (xv xs (i + 3))).toInt64 <<< ((iZ 32).toInt64 &&& 63)) ||| ((iZ (xv xs (i + 4))).toInt64 &&& 4294967295))]) C (c_X10_set C.I (Ml M) σ1 hM1 hO (x := (xv xs (i + 1))) (i := (xv xs (i + 2))) (v := (((iZ (xv xs (i + 3))).toInt64 <<< ((iZ 32).toInt64 &&& 63)) ||| ((iZ (xv xs (i + 4))).toInt64 &&& 4294967295))) xv_r xv_r ) (LkV.mk wl_15 wl_16 wl_17 wl_8 wl_18 ⟨by decide +kernel, by decide +kernel, by decide +kernel⟩) (k := 105) rfl (by decide) rfl rfl dl_304 (by decide) (by decide) rfl rfl (Nat.le_of_ble_eq_true rfl)) (fun z2 σ2 ⟨hz2, hM2, hF2⟩ => ?_)
  have hO2 := k_set hO (xv xs (i + 1)) (xv xs (i + 2)) (((iZ (xv xs (i + 3))).toInt64 <<< ((iZ 32).toInt64 &&& 63)) ||| ((iZ (xv xs (i + 4))).toInt64 &&& 4294967295))
  have hX2 := hX1.frY hO2 hF2
  subst z1
  subst z2
  refine l_same (tgt := 1369) C dl_307 (by decide) ?_
  exact K _ _ hX2 hM2 hO2
set_option maxHeartbeats 4000000 in
set_option maxRecDepth 100000 in
theorem law_copy {M : MC} {κ : Kp} {b N : Nat} {xs : Nat → Int32} {Q : State → Prop} {σ : St} (C : CL M κ b N xs) {V : Vw} (hX : XV σ V) (hM : MV σ V) (hO : OKV V) {i : Nat} (hi : i + 6 ≤ N) (hN : N ≤ 3072) (K : ∀ σ' V', XV σ' V' → MV σ' V' → OKV V' → GL M κ Q 1369 [(3, .int (iZ (i : Int))), (0, .ref b), (1, .ref (κ.2.1 76)), (2, .ref (κ.2.1 105))] [] σ') : GL M κ Q 312 [(3, .int (iZ (i : Int))), (0, .ref b), (1, .ref (κ.2.1 76)), (2, .ref (κ.2.1 105))] [] σ := by
  refine l_aload_n C dl_312 rfl ?_
  refine l_aload_n C dl_313 rfl ?_
  refine l_iload_n C dl_314 rfl ?_
  refine l_iconst (z := 1) C dl_315 rfl ?_
  refine l_iadd C dl_316 ?_
  refine l_sld (j := i + 1) C dl_317 (by omega) (by omega) hN ?_
  refine l_aload_n C dl_318 rfl ?_
  refine l_pc (pc' := 319) rfl ?_
  refine l_iload_n C dl_319 rfl ?_
  refine l_iconst (z := 2) C dl_320 rfl ?_
  refine l_iadd C dl_321 ?_
  refine l_sld (j := i + 2) C dl_322 (by omega) (by omega) hN ?_
  refine l_aload_n C dl_323 rfl ?_
  refine l_iload_n C dl_324 rfl ?_
  refine l_iconst (z := 3) C dl_325 rfl ?_
  refine l_iadd C dl_326 ?_
  refine l_pc (pc' := 327) rfl ?_
  refine l_sld (j := i + 3) C dl_327 (by omega) (by omega) hN ?_
  refine l_aload_n C dl_328 rfl ?_
  refine l_iload_n C dl_329 rfl ?_
  refine l_iconst (z := 4) C dl_330 rfl ?_
  refine l_iadd C dl_331 ?_
  refine l_sld (j := i + 4) C dl_332 (by omega) (by omega) hN ?_
  refine l_aload_n C dl_333 rfl ?_
  refine l_iload_n C dl_334 rfl ?_
  refine l_pc (pc' := 335) rfl ?_
  refine l_iconst (z := 5) C dl_335 rfl ?_
  refine l_iadd C dl_336 ?_
  refine l_sld (j := i + 5) C dl_337 (by omega) (by omega) hN ?_
  refine l_ci C (rnL (n := 5) (As := [.int (iZ (xv xs (i + 1))), .int (iZ (xv xs (i + 2))), .int (iZ (xv xs (i + 3))), .int (iZ (xv xs (i + 4))), .int (iZ (xv xs (i + 5)))]) C (c_X9_copy C.I (Ml M) σ hX hO (x := (xv xs (i + 1))) (y := (xv xs (i + 2))) (i := (xv xs (i + 3))) (j := (xv xs (i + 4))) (n := (xv xs (i + 5)))  xv_r xv_r xv_r xv_r xv_r ) (LkV.mk wl_19 wl_20 wl_21 wl_3 wl_22 ⟨by decide +kernel, by decide +kernel, by decide +kernel⟩) (k := 76) rfl (by decide) rfl rfl dl_338 (by decide) (by decide) rfl rfl (Nat.le_of_ble_eq_true rfl)) (fun z1 σ1 ⟨hz1, hX1, hF1⟩ => ?_)
  have hM1 := hM.frX hF1
  refine l_aload_n C dl_341 rfl ?_
  refine l_aload_n C dl_342 rfl ?_
  refine l_iload_n C dl_343 rfl ?_
  refine l_iconst (z := 1) C dl_344 rfl ?_
  refine l_pc (pc' := 345) rfl ?_
  refine l_iadd C dl_345 ?_
  refine l_sld (j := i + 1) C dl_346 (by omega) (by omega) hN ?_
  refine l_aload_n C dl_347 rfl ?_
  refine l_iload_n C dl_348 rfl ?_
  refine l_iconst (z := 2) C dl_349 rfl ?_
  refine l_iadd C dl_350 ?_
  refine l_sld (j := i + 2) C dl_351 (by omega) (by omega) hN ?_
  refine l_aload_n C dl_352 rfl ?_
  refine l_pc (pc' := 353) rfl ?_
  refine l_iload_n C dl_353 rfl ?_
  refine l_iconst (z := 3) C dl_354 rfl ?_
  refine l_iadd C dl_355 ?_
  refine l_sld (j := i + 3) C dl_356 (by omega) (by omega) hN ?_
  refine l_aload_n C dl_357 rfl ?_
  refine l_iload_n C dl_358 rfl ?_
  refine l_iconst (z := 4) C dl_359 rfl ?_
  refine l_iadd C dl_360 ?_
  refine l_pc (pc' := 361) rfl ?_
  refine l_sld (j := i + 4) C dl_361 (by omega) (by omega) hN ?_
  refine l_aload_n C dl_362 rfl ?_
  refine l_iload_n C dl_363 rfl ?_
  refine l_iconst (z := 5) C dl_364 rfl ?_
  refine l_iadd C dl_365 ?_
  refine l_sld (j := i + 5) C dl_366 (by omega) (by omega) hN ?_
  refine l_ci C (rnL (n := 5) (As := [.int (iZ (xv xs (i + 1))), .int (iZ (xv xs (i + 2))), .int (iZ (xv xs (i + 3))), .int (iZ (xv xs (i + 4))), .int (iZ (xv xs (i + 5)))]) C (c_X10_copy C.I (Ml M) σ1 hM1 hO (x := (xv xs (i + 1))) (y := (xv xs (i + 2))) (i := (xv xs (i + 3))) (j := (xv xs (i + 4))) (n := (xv xs (i + 5)))  xv_r xv_r xv_r xv_r xv_r ) (LkV.mk wl_23 wl_24 wl_25 wl_8 wl_26 ⟨by decide +kernel, by decide +kernel, by decide +kernel⟩) (k := 105) rfl (by decide) rfl rfl dl_367 (by decide) (by decide) rfl rfl (Nat.le_of_ble_eq_true rfl)) (fun z2 σ2 ⟨hz2, hM2, hF2⟩ => ?_)
  have hO2 := k_copy hO (xv xs (i + 1)) (xv xs (i + 2)) (xv xs (i + 3)) (xv xs (i + 4)) (xv xs (i + 5))
  have hX2 := hX1.frY hO2 hF2
  subst z1
  subst z2
  refine l_same (tgt := 1369) C dl_370 (by decide) ?_
  exact K _ _ hX2 hM2 hO2
set_option maxHeartbeats 4000000 in
set_option maxRecDepth 100000 in
theorem law_element {M : MC} {κ : Kp} {b N : Nat} {xs : Nat → Int32} {Q : State → Prop} {σ : St} (C : CL M κ b N xs) {V : Vw} (hX : XV σ V) (hM : MV σ V) (hO : OKV V) {i : Nat} (hi : i + 6 ≤ N) (hN : N ≤ 3072) (K : ∀ σ' V', XV σ' V' → MV σ' V' → OKV V' → GL M κ Q 1369 [(3, .int (iZ (i : Int))), (0, .ref b), (1, .ref (κ.2.1 76)), (2, .ref (κ.2.1 105))] [] σ') : GL M κ Q 375 [(3, .int (iZ (i : Int))), (0, .ref b), (1, .ref (κ.2.1 76)), (2, .ref (κ.2.1 105))] [] σ := by
  refine l_aload_n C dl_375 rfl ?_
  refine l_aload_n C dl_376 rfl ?_
  refine l_iload_n C dl_377 rfl ?_
  refine l_iconst (z := 1) C dl_378 rfl ?_
  refine l_iadd C dl_379 ?_
  refine l_sld (j := i + 1) C dl_380 (by omega) (by omega) hN ?_
  refine l_aload_n C dl_381 rfl ?_
  refine l_pc (pc' := 382) rfl ?_
  refine l_iload_n C dl_382 rfl ?_
  refine l_iconst (z := 2) C dl_383 rfl ?_
  refine l_iadd C dl_384 ?_
  refine l_sld (j := i + 2) C dl_385 (by omega) (by omega) hN ?_
  refine l_cl C (rnL (n := 2) (As := [.int (iZ (xv xs (i + 1))), .int (iZ (xv xs (i + 2)))]) C (c_X9_element C.I (Ml M) σ hX hO (x := (xv xs (i + 1))) (i := (xv xs (i + 2)))  xv_r xv_r ) (LkV.mk wl_27 wl_28 wl_29 wl_3 wl_30 ⟨by decide +kernel, by decide +kernel, by decide +kernel⟩) (k := 76) rfl (by decide) rfl rfl dl_386 (by decide) (by decide) rfl rfl (Nat.le_of_ble_eq_true rfl)) (fun z1 σ1 ⟨hz1, hX1, hF1⟩ => ?_)
  have hM1 := hM.frX hF1
  refine l_aload_n C dl_389 rfl ?_
  refine l_aload_n C dl_390 rfl ?_
  refine l_iload_n C dl_391 rfl ?_
  refine l_pc (pc' := 392) rfl ?_
  refine l_iconst (z := 1) C dl_392 rfl ?_
  refine l_iadd C dl_393 ?_
  refine l_sld (j := i + 1) C dl_394 (by omega) (by omega) hN ?_
  refine l_aload_n C dl_395 rfl ?_
  refine l_iload_n C dl_396 rfl ?_
  refine l_iconst (z := 2) C dl_397 rfl ?_
  refine l_iadd C dl_398 ?_
  refine l_sld (j := i + 2) C dl_399 (by omega) (by omega) hN ?_
  refine l_pc (pc' := 400) rfl ?_
  refine l_cl C (rnL (n := 2) (As := [.int (iZ (xv xs (i + 1))), .int (iZ (xv xs (i + 2)))]) C (c_X10_element C.I (Ml M) σ1 hM1 hO (x := (xv xs (i + 1))) (i := (xv xs (i + 2)))  xv_r xv_r ) (LkV.mk wl_31 wl_32 wl_33 wl_8 wl_34 ⟨by decide +kernel, by decide +kernel, by decide +kernel⟩) (k := 105) rfl (by decide) rfl rfl dl_400 (by decide) (by decide) rfl rfl (Nat.le_of_ble_eq_true rfl)) (fun z2 σ2 ⟨hz2, hM2, hF2⟩ => ?_)
  have hX2 := hX1.frY hO hF2
  subst z1
  subst z2
  refine l_lcmp C dl_403 ?_
  refine l_ifr_eq (tgt := 1369) C dl_404 (by decide) (fun _ => ?_) (fun e => absurd (lg_cmp_self _) e)
  exact K _ _ hX2 hM2 hO
set_option maxHeartbeats 4000000 in
set_option maxRecDepth 100000 in
theorem law_show {M : MC} {κ : Kp} {b N : Nat} {xs : Nat → Int32} {Q : State → Prop} {σ : St} (C : CL M κ b N xs) {V : Vw} (hX : XV σ V) (hM : MV σ V) (hO : OKV V) {i : Nat} (hi : i + 6 ≤ N) (hN : N ≤ 3072) (K : ∀ σ' V', XV σ' V' → MV σ' V' → OKV V' → GL M κ Q 1369 [(3, .int (iZ (i : Int))), (0, .ref b), (1, .ref (κ.2.1 76)), (2, .ref (κ.2.1 105))] [] σ') : GL M κ Q 409 [(3, .int (iZ (i : Int))), (0, .ref b), (1, .ref (κ.2.1 76)), (2, .ref (κ.2.1 105))] [] σ := by
  refine l_aload_n C dl_409 rfl ?_
  refine l_aload_n C dl_410 rfl ?_
  refine l_iload_n C dl_411 rfl ?_
  refine l_iconst (z := 1) C dl_412 rfl ?_
  refine l_iadd C dl_413 ?_
  refine l_sld (j := i + 1) C dl_414 (by omega) (by omega) hN ?_
  refine l_aload_n C dl_415 rfl ?_
  refine l_pc (pc' := 416) rfl ?_
  refine l_iload_n C dl_416 rfl ?_
  refine l_iconst (z := 2) C dl_417 rfl ?_
  refine l_iadd C dl_418 ?_
  refine l_sld (j := i + 2) C dl_419 (by omega) (by omega) hN ?_
  refine l_ci C (rnL (n := 2) (As := [.int (iZ (xv xs (i + 1))), .int (iZ (xv xs (i + 2)))]) C (c_X9_show C.I (Ml M) σ hX hO (x := (xv xs (i + 1))) (nd := (xv xs (i + 2)))  xv_r xv_r ) (LkV.mk wl_35 wl_36 wl_37 wl_3 wl_38 ⟨by decide +kernel, by decide +kernel, by decide +kernel⟩) (k := 76) rfl (by decide) rfl rfl dl_420 (by decide) (by decide) rfl rfl (Nat.le_of_ble_eq_true rfl)) (fun z1 σ1 ⟨hz1, hX1, hF1⟩ => ?_)
  have hM1 := hM.frX hF1
  refine l_aload_n C dl_423 rfl ?_
  refine l_aload_n C dl_424 rfl ?_
  refine l_iload_n C dl_425 rfl ?_
  refine l_pc (pc' := 426) rfl ?_
  refine l_iconst (z := 1) C dl_426 rfl ?_
  refine l_iadd C dl_427 ?_
  refine l_sld (j := i + 1) C dl_428 (by omega) (by omega) hN ?_
  refine l_aload_n C dl_429 rfl ?_
  refine l_iload_n C dl_430 rfl ?_
  refine l_iconst (z := 2) C dl_431 rfl ?_
  refine l_iadd C dl_432 ?_
  refine l_sld (j := i + 2) C dl_433 (by omega) (by omega) hN ?_
  refine l_pc (pc' := 434) rfl ?_
  refine l_ci C (rnL (n := 2) (As := [.int (iZ (xv xs (i + 1))), .int (iZ (xv xs (i + 2)))]) C (c_X10_show C.I (Ml M) σ1 hM1 hO (x := (xv xs (i + 1))) (nd := (xv xs (i + 2)))  xv_r xv_r ) (LkV.mk wl_39 wl_40 wl_41 wl_8 wl_42 ⟨by decide +kernel, by decide +kernel, by decide +kernel⟩) (k := 105) rfl (by decide) rfl rfl dl_434 (by decide) (by decide) rfl rfl (Nat.le_of_ble_eq_true rfl)) (fun z2 σ2 ⟨hz2, hM2, hF2⟩ => ?_)
  have hO2 := k_show hO (xv xs (i + 1)) (xv xs (i + 2))
  have hX2 := hX1.frY hO2 hF2
  subst z1
  subst z2
  refine l_same (tgt := 1369) C dl_437 (by decide) ?_
  exact K _ _ hX2 hM2 hO2
set_option maxHeartbeats 4000000 in
set_option maxRecDepth 100000 in
theorem law_holds {M : MC} {κ : Kp} {b N : Nat} {xs : Nat → Int32} {Q : State → Prop} {σ : St} (C : CL M κ b N xs) {V : Vw} (hX : XV σ V) (hM : MV σ V) (hO : OKV V) {i : Nat} (hi : i + 6 ≤ N) (hN : N ≤ 3072) (K : ∀ σ' V', XV σ' V' → MV σ' V' → OKV V' → GL M κ Q 1369 [(3, .int (iZ (i : Int))), (0, .ref b), (1, .ref (κ.2.1 76)), (2, .ref (κ.2.1 105))] [] σ') : GL M κ Q 442 [(3, .int (iZ (i : Int))), (0, .ref b), (1, .ref (κ.2.1 76)), (2, .ref (κ.2.1 105))] [] σ := by
  refine l_aload_n C dl_442 rfl ?_
  refine l_aload_n C dl_443 rfl ?_
  refine l_iload_n C dl_444 rfl ?_
  refine l_iconst (z := 1) C dl_445 rfl ?_
  refine l_iadd C dl_446 ?_
  refine l_sld (j := i + 1) C dl_447 (by omega) (by omega) hN ?_
  refine l_ci C (rnL (n := 1) (As := [.int (iZ (xv xs (i + 1)))]) C (c_X9_holds C.I (Ml M) σ hX hO (x := (xv xs (i + 1)))  xv_r ) (LkV.mk wl_43 wl_44 wl_45 wl_3 wl_46 ⟨by decide +kernel, by decide +kernel, by decide +kernel⟩) (k := 76) rfl (by decide) rfl rfl dl_448 (by decide) (by decide) rfl rfl (Nat.le_of_ble_eq_true rfl)) (fun z1 σ1 ⟨hz1, hX1, hF1⟩ => ?_)
  have hM1 := hM.frX hF1
  refine l_pc (pc' := 451) rfl ?_
  refine l_aload_n C dl_451 rfl ?_
  refine l_aload_n C dl_452 rfl ?_
  refine l_iload_n C dl_453 rfl ?_
  refine l_iconst (z := 1) C dl_454 rfl ?_
  refine l_iadd C dl_455 ?_
  refine l_sld (j := i + 1) C dl_456 (by omega) (by omega) hN ?_
  refine l_ci C (rnL (n := 1) (As := [.int (iZ (xv xs (i + 1)))]) C (c_X10_holds C.I (Ml M) σ1 hM1 hO (x := (xv xs (i + 1)))  xv_r ) (LkV.mk wl_47 wl_48 wl_49 wl_8 wl_50 ⟨by decide +kernel, by decide +kernel, by decide +kernel⟩) (k := 105) rfl (by decide) rfl rfl dl_457 (by decide) (by decide) rfl rfl (Nat.le_of_ble_eq_true rfl)) (fun z2 σ2 ⟨hz2, hM2, hF2⟩ => ?_)
  have hX2 := hX1.frY hO hF2
  subst z1
  subst z2
  refine l_same (tgt := 1369) C dl_460 (by decide) ?_
  exact K _ _ hX2 hM2 hO
set_option maxHeartbeats 4000000 in
set_option maxRecDepth 100000 in
theorem law_says {M : MC} {κ : Kp} {b N : Nat} {xs : Nat → Int32} {Q : State → Prop} {σ : St} (C : CL M κ b N xs) {V : Vw} (hX : XV σ V) (hM : MV σ V) (hO : OKV V) {i : Nat} (hi : i + 6 ≤ N) (hN : N ≤ 3072) (K : ∀ σ' V', XV σ' V' → MV σ' V' → OKV V' → GL M κ Q 1369 [(3, .int (iZ (i : Int))), (0, .ref b), (1, .ref (κ.2.1 76)), (2, .ref (κ.2.1 105))] [] σ') : GL M κ Q 465 [(3, .int (iZ (i : Int))), (0, .ref b), (1, .ref (κ.2.1 76)), (2, .ref (κ.2.1 105))] [] σ := by
  refine l_aload_n C dl_465 rfl ?_
  refine l_aload_n C dl_466 rfl ?_
  refine l_iload_n C dl_467 rfl ?_
  refine l_iconst (z := 1) C dl_468 rfl ?_
  refine l_iadd C dl_469 ?_
  refine l_sld (j := i + 1) C dl_470 (by omega) (by omega) hN ?_
  refine l_aload_n C dl_471 rfl ?_
  refine l_pc (pc' := 472) rfl ?_
  refine l_iload_n C dl_472 rfl ?_
  refine l_iconst (z := 2) C dl_473 rfl ?_
  refine l_iadd C dl_474 ?_
  refine l_sld (j := i + 2) C dl_475 (by omega) (by omega) hN ?_
  refine l_ci C (rnL (n := 2) (As := [.int (iZ (xv xs (i + 1))), .int (iZ (xv xs (i + 2)))]) C (c_X9_says C.I (Ml M) σ hX hO (x := (xv xs (i + 1))) (a := (xv xs (i + 2)))  xv_r xv_r ) (LkV.mk wl_51 wl_52 wl_53 wl_3 wl_54 ⟨by decide +kernel, by decide +kernel, by decide +kernel⟩) (k := 76) rfl (by decide) rfl rfl dl_476 (by decide) (by decide) rfl rfl (Nat.le_of_ble_eq_true rfl)) (fun z1 σ1 ⟨hz1, hX1, hF1⟩ => ?_)
  have hM1 := hM.frX hF1
  refine l_aload_n C dl_479 rfl ?_
  refine l_aload_n C dl_480 rfl ?_
  refine l_iload_n C dl_481 rfl ?_
  refine l_pc (pc' := 482) rfl ?_
  refine l_iconst (z := 1) C dl_482 rfl ?_
  refine l_iadd C dl_483 ?_
  refine l_sld (j := i + 1) C dl_484 (by omega) (by omega) hN ?_
  refine l_aload_n C dl_485 rfl ?_
  refine l_iload_n C dl_486 rfl ?_
  refine l_iconst (z := 2) C dl_487 rfl ?_
  refine l_iadd C dl_488 ?_
  refine l_sld (j := i + 2) C dl_489 (by omega) (by omega) hN ?_
  refine l_pc (pc' := 490) rfl ?_
  refine l_ci C (rnL (n := 2) (As := [.int (iZ (xv xs (i + 1))), .int (iZ (xv xs (i + 2)))]) C (c_X10_says C.I (Ml M) σ1 hM1 hO (x := (xv xs (i + 1))) (a := (xv xs (i + 2)))  xv_r xv_r ) (LkV.mk wl_55 wl_56 wl_57 wl_8 wl_58 ⟨by decide +kernel, by decide +kernel, by decide +kernel⟩) (k := 105) rfl (by decide) rfl rfl dl_490 (by decide) (by decide) rfl rfl (Nat.le_of_ble_eq_true rfl)) (fun z2 σ2 ⟨hz2, hM2, hF2⟩ => ?_)
  have hO2 := k_says hO (xv xs (i + 1)) (xv xs (i + 2))
  have hX2 := hX1.frY hO2 hF2
  subst z1
  subst z2
  refine l_same (tgt := 1369) C dl_493 (by decide) ?_
  exact K _ _ hX2 hM2 hO2
set_option maxHeartbeats 4000000 in
set_option maxRecDepth 100000 in
theorem law_line {M : MC} {κ : Kp} {b N : Nat} {xs : Nat → Int32} {Q : State → Prop} {σ : St} (C : CL M κ b N xs) {V : Vw} (hX : XV σ V) (hM : MV σ V) (hO : OKV V) {i : Nat} (hi : i + 6 ≤ N) (hN : N ≤ 3072) (K : ∀ σ' V', XV σ' V' → MV σ' V' → OKV V' → GL M κ Q 1369 [(3, .int (iZ (i : Int))), (0, .ref b), (1, .ref (κ.2.1 76)), (2, .ref (κ.2.1 105))] [] σ') : GL M κ Q 498 [(3, .int (iZ (i : Int))), (0, .ref b), (1, .ref (κ.2.1 76)), (2, .ref (κ.2.1 105))] [] σ := by
  refine l_aload_n C dl_498 rfl ?_
  refine l_aload_n C dl_499 rfl ?_
  refine l_iload_n C dl_500 rfl ?_
  refine l_iconst (z := 1) C dl_501 rfl ?_
  refine l_iadd C dl_502 ?_
  refine l_sld (j := i + 1) C dl_503 (by omega) (by omega) hN ?_
  refine l_aload_n C dl_504 rfl ?_
  refine l_pc (pc' := 505) rfl ?_
  refine l_iload_n C dl_505 rfl ?_
  refine l_iconst (z := 2) C dl_506 rfl ?_
  refine l_iadd C dl_507 ?_
  refine l_sld (j := i + 2) C dl_508 (by omega) (by omega) hN ?_
  refine l_aload_n C dl_509 rfl ?_
  refine l_iload_n C dl_510 rfl ?_
  refine l_iconst (z := 3) C dl_511 rfl ?_
  refine l_iadd C dl_512 ?_
  refine l_pc (pc' := 513) rfl ?_
  refine l_sld (j := i + 3) C dl_513 (by omega) (by omega) hN ?_
  refine l_aload_n C dl_514 rfl ?_
  refine l_iload_n C dl_515 rfl ?_
  refine l_iconst (z := 4) C dl_516 rfl ?_
  refine l_iadd C dl_517 ?_
  refine l_sld (j := i + 4) C dl_518 (by omega) (by omega) hN ?_
  refine l_ci C (rnL (n := 4) (As := [.int (iZ (xv xs (i + 1))), .int (iZ (xv xs (i + 2))), .int (iZ (xv xs (i + 3))), .int (iZ (xv xs (i + 4)))]) C (c_X9_line C.I (Ml M) σ hX hO (t := (xv xs (i + 1))) (a := (xv xs (i + 2))) (b := (xv xs (i + 3))) (c := (xv xs (i + 4)))  xv_r xv_r xv_r xv_r ) (LkV.mk wl_59 wl_60 wl_61 wl_3 wl_62 ⟨by decide +kernel, by decide +kernel, by decide +kernel⟩) (k := 76) rfl (by decide) rfl rfl dl_519 (by decide) (by decide) rfl rfl (Nat.le_of_ble_eq_true rfl)) (fun z1 σ1 ⟨hz1, hX1, hF1⟩ => ?_)
  have hM1 := hM.frX hF1
  refine l_aload_n C dl_522 rfl ?_
  refine l_pc (pc' := 523) rfl ?_
  refine l_aload_n C dl_523 rfl ?_
  refine l_iload_n C dl_524 rfl ?_
  refine l_iconst (z := 1) C dl_525 rfl ?_
  refine l_iadd C dl_526 ?_
  refine l_sld (j := i + 1) C dl_527 (by omega) (by omega) hN ?_
  refine l_aload_n C dl_528 rfl ?_
  refine l_iload_n C dl_529 rfl ?_
  refine l_iconst (z := 2) C dl_530 rfl ?_
  refine l_pc (pc' := 531) rfl ?_
  refine l_iadd C dl_531 ?_
  refine l_sld (j := i + 2) C dl_532 (by omega) (by omega) hN ?_
  refine l_aload_n C dl_533 rfl ?_
  refine l_iload_n C dl_534 rfl ?_
  refine l_iconst (z := 3) C dl_535 rfl ?_
  refine l_iadd C dl_536 ?_
  refine l_sld (j := i + 3) C dl_537 (by omega) (by omega) hN ?_
  refine l_aload_n C dl_538 rfl ?_
  refine l_pc (pc' := 539) rfl ?_
  refine l_iload_n C dl_539 rfl ?_
  refine l_iconst (z := 4) C dl_540 rfl ?_
  refine l_iadd C dl_541 ?_
  refine l_sld (j := i + 4) C dl_542 (by omega) (by omega) hN ?_
  refine l_ci C (rnL (n := 4) (As := [.int (iZ (xv xs (i + 1))), .int (iZ (xv xs (i + 2))), .int (iZ (xv xs (i + 3))), .int (iZ (xv xs (i + 4)))]) C (c_X10_line C.I (Ml M) σ1 hM1 hO (t := (xv xs (i + 1))) (a := (xv xs (i + 2))) (b := (xv xs (i + 3))) (c := (xv xs (i + 4)))  xv_r xv_r xv_r xv_r ) (LkV.mk wl_63 wl_64 wl_65 wl_8 wl_66 ⟨by decide +kernel, by decide +kernel, by decide +kernel⟩) (k := 105) rfl (by decide) rfl rfl dl_543 (by decide) (by decide) rfl rfl (Nat.le_of_ble_eq_true rfl)) (fun z2 σ2 ⟨hz2, hM2, hF2⟩ => ?_)
  have hO2 := k_line hO (xv xs (i + 1)) (xv xs (i + 2)) (xv xs (i + 3)) (xv xs (i + 4))
  have hX2 := hX1.frY hO2 hF2
  subst z1
  subst z2
  refine l_same (tgt := 1369) C dl_546 (by decide) ?_
  exact K _ _ hX2 hM2 hO2
set_option maxHeartbeats 4000000 in
set_option maxRecDepth 100000 in
theorem law_read {M : MC} {κ : Kp} {b N : Nat} {xs : Nat → Int32} {Q : State → Prop} {σ : St} (C : CL M κ b N xs) {V : Vw} (hX : XV σ V) (hM : MV σ V) (hO : OKV V) {i : Nat} (hi : i + 6 ≤ N) (hN : N ≤ 3072) (K : ∀ σ' V', XV σ' V' → MV σ' V' → OKV V' → GL M κ Q 1369 [(3, .int (iZ (i : Int))), (0, .ref b), (1, .ref (κ.2.1 76)), (2, .ref (κ.2.1 105))] [] σ') : GL M κ Q 551 [(3, .int (iZ (i : Int))), (0, .ref b), (1, .ref (κ.2.1 76)), (2, .ref (κ.2.1 105))] [] σ := by
  refine l_aload_n C dl_551 rfl ?_
  refine l_aload_n C dl_552 rfl ?_
  refine l_iload_n C dl_553 rfl ?_
  refine l_iconst (z := 1) C dl_554 rfl ?_
  refine l_iadd C dl_555 ?_
  refine l_sld (j := i + 1) C dl_556 (by omega) (by omega) hN ?_
  refine l_ci C (rnL (n := 1) (As := [.int (iZ (xv xs (i + 1)))]) C (c_X9_read C.I (Ml M) σ hX hO (x := (xv xs (i + 1)))  xv_r ) (LkV.mk wl_67 wl_68 wl_69 wl_3 wl_70 ⟨by decide +kernel, by decide +kernel, by decide +kernel⟩) (k := 76) rfl (by decide) rfl rfl dl_557 (by decide) (by decide) rfl rfl (Nat.le_of_ble_eq_true rfl)) (fun z1 σ1 ⟨hz1, hX1, hF1⟩ => ?_)
  have hM1 := hM.frX hF1
  refine l_pc (pc' := 560) rfl ?_
  refine l_aload_n C dl_560 rfl ?_
  refine l_aload_n C dl_561 rfl ?_
  refine l_iload_n C dl_562 rfl ?_
  refine l_iconst (z := 1) C dl_563 rfl ?_
  refine l_iadd C dl_564 ?_
  refine l_sld (j := i + 1) C dl_565 (by omega) (by omega) hN ?_
  refine l_ci C (rnL (n := 1) (As := [.int (iZ (xv xs (i + 1)))]) C (c_X10_read C.I (Ml M) σ1 hM1 hO (x := (xv xs (i + 1)))  xv_r ) (LkV.mk wl_71 wl_72 wl_73 wl_8 wl_74 ⟨by decide +kernel, by decide +kernel, by decide +kernel⟩) (k := 105) rfl (by decide) rfl rfl dl_566 (by decide) (by decide) rfl rfl (Nat.le_of_ble_eq_true rfl)) (fun z2 σ2 ⟨hz2, hM2, hF2, hO2⟩ => ?_)
  have hX2 := hX1.frY hO2 hF2
  subst z1
  subst z2
  refine l_same (tgt := 1369) C dl_569 (by decide) ?_
  exact K _ _ hX2 hM2 hO2
set_option maxHeartbeats 4000000 in
set_option maxRecDepth 100000 in
theorem law_fault {M : MC} {κ : Kp} {b N : Nat} {xs : Nat → Int32} {Q : State → Prop} {σ : St} (C : CL M κ b N xs) {V : Vw} (hX : XV σ V) (hM : MV σ V) (hO : OKV V) {i : Nat} (hi : i + 6 ≤ N) (hN : N ≤ 3072) (K : ∀ σ' V', XV σ' V' → MV σ' V' → OKV V' → GL M κ Q 1369 [(3, .int (iZ (i : Int))), (0, .ref b), (1, .ref (κ.2.1 76)), (2, .ref (κ.2.1 105))] [] σ') : GL M κ Q 574 [(3, .int (iZ (i : Int))), (0, .ref b), (1, .ref (κ.2.1 76)), (2, .ref (κ.2.1 105))] [] σ := by
  refine l_aload_n C dl_574 rfl ?_
  refine l_ci C (rnL (n := 0) (As := []) C (c_X9_fault C.I (Ml M) σ hX hO   ) (LkV.mk wl_75 wl_76 wl_77 wl_3 wl_78 ⟨by decide +kernel, by decide +kernel, by decide +kernel⟩) (k := 76) rfl (by decide) rfl rfl dl_575 (by decide) (by decide) rfl rfl (Nat.le_of_ble_eq_true rfl)) (fun z1 σ1 ⟨hz1, hX1, hF1⟩ => ?_)
  have hM1 := hM.frX hF1
  refine l_aload_n C dl_578 rfl ?_
  refine l_ci C (rnL (n := 0) (As := []) C (c_X10_fault C.I (Ml M) σ1 hM1 hO   ) (LkV.mk wl_79 wl_80 wl_81 wl_8 wl_82 ⟨by decide +kernel, by decide +kernel, by decide +kernel⟩) (k := 105) rfl (by decide) rfl rfl dl_579 (by decide) (by decide) rfl rfl (Nat.le_of_ble_eq_true rfl)) (fun z2 σ2 ⟨hz2, hM2, hF2⟩ => ?_)
  have hX2 := hX1.frY hO hF2
  subst z1
  subst z2
  refine l_same (tgt := 1369) C dl_582 (by decide) ?_
  exact K _ _ hX2 hM2 hO
set_option maxHeartbeats 4000000 in
set_option maxRecDepth 100000 in
theorem law_empty {M : MC} {κ : Kp} {b N : Nat} {xs : Nat → Int32} {Q : State → Prop} {σ : St} (C : CL M κ b N xs) {V : Vw} (hX : XV σ V) (hM : MV σ V) (hO : OKV V) {i : Nat} (hi : i + 6 ≤ N) (hN : N ≤ 3072) (K : ∀ σ' V', XV σ' V' → MV σ' V' → OKV V' → GL M κ Q 1369 [(3, .int (iZ (i : Int))), (0, .ref b), (1, .ref (κ.2.1 76)), (2, .ref (κ.2.1 105))] [] σ') : GL M κ Q 587 [(3, .int (iZ (i : Int))), (0, .ref b), (1, .ref (κ.2.1 76)), (2, .ref (κ.2.1 105))] [] σ := by
  refine l_aload_n C dl_587 rfl ?_
  refine l_aload_n C dl_588 rfl ?_
  refine l_iload_n C dl_589 rfl ?_
  refine l_iconst (z := 1) C dl_590 rfl ?_
  refine l_iadd C dl_591 ?_
  refine l_sld (j := i + 1) C dl_592 (by omega) (by omega) hN ?_
  refine l_ci C (rnL (n := 1) (As := [.int (iZ (xv xs (i + 1)))]) C (c_X9_empty C.I (Ml M) σ hX hO (t := (xv xs (i + 1)))  xv_r ) (LkV.mk wl_83 wl_84 wl_85 wl_3 wl_86 ⟨by decide +kernel, by decide +kernel, by decide +kernel⟩) (k := 76) rfl (by decide) rfl rfl dl_593 (by decide) (by decide) rfl rfl (Nat.le_of_ble_eq_true rfl)) (fun z1 σ1 ⟨hz1, hX1, hF1⟩ => ?_)
  have hM1 := hM.frX hF1
  refine l_pc (pc' := 596) rfl ?_
  refine l_aload_n C dl_596 rfl ?_
  refine l_aload_n C dl_597 rfl ?_
  refine l_iload_n C dl_598 rfl ?_
  refine l_iconst (z := 1) C dl_599 rfl ?_
  refine l_iadd C dl_600 ?_
  refine l_sld (j := i + 1) C dl_601 (by omega) (by omega) hN ?_
  refine l_ci C (rnL (n := 1) (As := [.int (iZ (xv xs (i + 1)))]) C (c_X10_empty C.I (Ml M) σ1 hM1 hO (t := (xv xs (i + 1)))  xv_r ) (LkV.mk wl_87 wl_88 wl_89 wl_8 wl_90 ⟨by decide +kernel, by decide +kernel, by decide +kernel⟩) (k := 105) rfl (by decide) rfl rfl dl_602 (by decide) (by decide) rfl rfl (Nat.le_of_ble_eq_true rfl)) (fun z2 σ2 ⟨hz2, hM2, hF2⟩ => ?_)
  have hO2 := k_empty hO (xv xs (i + 1))
  have hX2 := hX1.frY hO2 hF2
  subst z1
  subst z2
  refine l_same (tgt := 1369) C dl_605 (by decide) ?_
  exact K _ _ hX2 hM2 hO2
set_option maxHeartbeats 4000000 in
set_option maxRecDepth 100000 in
theorem law_put {M : MC} {κ : Kp} {b N : Nat} {xs : Nat → Int32} {Q : State → Prop} {σ : St} (C : CL M κ b N xs) {V : Vw} (hX : XV σ V) (hM : MV σ V) (hO : OKV V) {i : Nat} (hi : i + 6 ≤ N) (hN : N ≤ 3072) (K : ∀ σ' V', XV σ' V' → MV σ' V' → OKV V' → GL M κ Q 1369 [(3, .int (iZ (i : Int))), (0, .ref b), (1, .ref (κ.2.1 76)), (2, .ref (κ.2.1 105))] [] σ') : GL M κ Q 610 [(3, .int (iZ (i : Int))), (0, .ref b), (1, .ref (κ.2.1 76)), (2, .ref (κ.2.1 105))] [] σ := by
  refine l_aload_n C dl_610 rfl ?_
  refine l_aload_n C dl_611 rfl ?_
  refine l_iload_n C dl_612 rfl ?_
  refine l_iconst (z := 1) C dl_613 rfl ?_
  refine l_iadd C dl_614 ?_
  refine l_sld (j := i + 1) C dl_615 (by omega) (by omega) hN ?_
  refine l_aload_n C dl_616 rfl ?_
  refine l_pc (pc' := 617) rfl ?_
  refine l_iload_n C dl_617 rfl ?_
  refine l_iconst (z := 2) C dl_618 rfl ?_
  refine l_iadd C dl_619 ?_
  refine l_sld (j := i + 2) C dl_620 (by omega) (by omega) hN ?_
  refine l_aload_n C dl_621 rfl ?_
  refine l_iload_n C dl_622 rfl ?_
  refine l_iconst (z := 3) C dl_623 rfl ?_
  refine l_iadd C dl_624 ?_
  refine l_pc (pc' := 625) rfl ?_
  refine l_sld (j := i + 3) C dl_625 (by omega) (by omega) hN ?_
  refine l_ci C (rnL (n := 3) (As := [.int (iZ (xv xs (i + 1))), .int (iZ (xv xs (i + 2))), .int (iZ (xv xs (i + 3)))]) C (c_X9_put C.I (Ml M) σ hX hO (t := (xv xs (i + 1))) (a := (xv xs (i + 2))) (v := (xv xs (i + 3)))  xv_r xv_r xv_r ) (LkV.mk wl_91 wl_92 wl_93 wl_3 wl_94 ⟨by decide +kernel, by decide +kernel, by decide +kernel⟩) (k := 76) rfl (by decide) rfl rfl dl_626 (by decide) (by decide) rfl rfl (Nat.le_of_ble_eq_true rfl)) (fun z1 σ1 ⟨hz1, hX1, hF1⟩ => ?_)
  have hM1 := hM.frX hF1
  refine l_aload_n C dl_629 rfl ?_
  refine l_aload_n C dl_630 rfl ?_
  refine l_iload_n C dl_631 rfl ?_
  refine l_iconst (z := 1) C dl_632 rfl ?_
  refine l_iadd C dl_633 ?_
  refine l_sld (j := i + 1) C dl_634 (by omega) (by omega) hN ?_
  refine l_pc (pc' := 635) rfl ?_
  refine l_aload_n C dl_635 rfl ?_
  refine l_iload_n C dl_636 rfl ?_
  refine l_iconst (z := 2) C dl_637 rfl ?_
  refine l_iadd C dl_638 ?_
  refine l_sld (j := i + 2) C dl_639 (by omega) (by omega) hN ?_
  refine l_aload_n C dl_640 rfl ?_
  refine l_iload_n C dl_641 rfl ?_
  refine l_iconst (z := 3) C dl_642 rfl ?_
  refine l_pc (pc' := 643) rfl ?_
  refine l_iadd C dl_643 ?_
  refine l_sld (j := i + 3) C dl_644 (by omega) (by omega) hN ?_
  refine l_ci C (rnL (n := 3) (As := [.int (iZ (xv xs (i + 1))), .int (iZ (xv xs (i + 2))), .int (iZ (xv xs (i + 3)))]) C (c_X10_put C.I (Ml M) σ1 hM1 hO (t := (xv xs (i + 1))) (a := (xv xs (i + 2))) (v := (xv xs (i + 3)))  xv_r xv_r xv_r ) (LkV.mk wl_95 wl_96 wl_97 wl_8 wl_98 ⟨by decide +kernel, by decide +kernel, by decide +kernel⟩) (k := 105) rfl (by decide) rfl rfl dl_645 (by decide) (by decide) rfl rfl (Nat.le_of_ble_eq_true rfl)) (fun z2 σ2 ⟨hz2, hM2, hF2⟩ => ?_)
  have hO2 := k_put hO (xv xs (i + 1)) (xv xs (i + 2)) (xv xs (i + 3))
  have hX2 := hX1.frY hO2 hF2
  subst z1
  subst z2
  refine l_same (tgt := 1369) C dl_648 (by decide) ?_
  exact K _ _ hX2 hM2 hO2
set_option maxHeartbeats 4000000 in
set_option maxRecDepth 100000 in
theorem law_tableOf {M : MC} {κ : Kp} {b N : Nat} {xs : Nat → Int32} {Q : State → Prop} {σ : St} (C : CL M κ b N xs) {V : Vw} (hX : XV σ V) (hM : MV σ V) (hO : OKV V) {i : Nat} (hi : i + 6 ≤ N) (hN : N ≤ 3072) (K : ∀ σ' V', XV σ' V' → MV σ' V' → OKV V' → GL M κ Q 1369 [(3, .int (iZ (i : Int))), (0, .ref b), (1, .ref (κ.2.1 76)), (2, .ref (κ.2.1 105))] [] σ') : GL M κ Q 653 [(3, .int (iZ (i : Int))), (0, .ref b), (1, .ref (κ.2.1 76)), (2, .ref (κ.2.1 105))] [] σ := by
  refine l_aload_n C dl_653 rfl ?_
  refine l_aload_n C dl_654 rfl ?_
  refine l_iload_n C dl_655 rfl ?_
  refine l_iconst (z := 1) C dl_656 rfl ?_
  refine l_iadd C dl_657 ?_
  refine l_sld (j := i + 1) C dl_658 (by omega) (by omega) hN ?_
  refine l_aload_n C dl_659 rfl ?_
  refine l_pc (pc' := 660) rfl ?_
  refine l_iload_n C dl_660 rfl ?_
  refine l_iconst (z := 2) C dl_661 rfl ?_
  refine l_iadd C dl_662 ?_
  refine l_sld (j := i + 2) C dl_663 (by omega) (by omega) hN ?_
  refine l_ci C (rnL (n := 2) (As := [.int (iZ (xv xs (i + 1))), .int (iZ (xv xs (i + 2)))]) C (c_X9_tableOf C.I (Ml M) σ hX hO (t := (xv xs (i + 1))) (a := (xv xs (i + 2)))  xv_r xv_r ) (LkV.mk wl_99 wl_100 wl_101 wl_3 wl_102 ⟨by decide +kernel, by decide +kernel, by decide +kernel⟩) (k := 76) rfl (by decide) rfl rfl dl_664 (by decide) (by decide) rfl rfl (Nat.le_of_ble_eq_true rfl)) (fun z1 σ1 ⟨hz1, hX1, hF1⟩ => ?_)
  have hM1 := hM.frX hF1
  refine l_aload_n C dl_667 rfl ?_
  refine l_aload_n C dl_668 rfl ?_
  refine l_iload_n C dl_669 rfl ?_
  refine l_pc (pc' := 670) rfl ?_
  refine l_iconst (z := 1) C dl_670 rfl ?_
  refine l_iadd C dl_671 ?_
  refine l_sld (j := i + 1) C dl_672 (by omega) (by omega) hN ?_
  refine l_aload_n C dl_673 rfl ?_
  refine l_iload_n C dl_674 rfl ?_
  refine l_iconst (z := 2) C dl_675 rfl ?_
  refine l_iadd C dl_676 ?_
  refine l_sld (j := i + 2) C dl_677 (by omega) (by omega) hN ?_
  refine l_pc (pc' := 678) rfl ?_
  refine l_ci C (rnL (n := 2) (As := [.int (iZ (xv xs (i + 1))), .int (iZ (xv xs (i + 2)))]) C (c_X10_tableOf C.I (Ml M) σ1 hM1 hO (t := (xv xs (i + 1))) (a := (xv xs (i + 2)))  xv_r xv_r ) (LkV.mk wl_103 wl_104 wl_105 wl_8 wl_106 ⟨by decide +kernel, by decide +kernel, by decide +kernel⟩) (k := 105) rfl (by decide) rfl rfl dl_678 (by decide) (by decide) rfl rfl (Nat.le_of_ble_eq_true rfl)) (fun z2 σ2 ⟨hz2, hM2, hF2⟩ => ?_)
  have hO2 := k_tableOf hO (xv xs (i + 1)) (xv xs (i + 2))
  have hX2 := hX1.frY hO2 hF2
  subst z1
  subst z2
  refine l_same (tgt := 1369) C dl_681 (by decide) ?_
  exact K _ _ hX2 hM2 hO2
set_option maxHeartbeats 4000000 in
set_option maxRecDepth 100000 in
theorem law_lineOf {M : MC} {κ : Kp} {b N : Nat} {xs : Nat → Int32} {Q : State → Prop} {σ : St} (C : CL M κ b N xs) {V : Vw} (hX : XV σ V) (hM : MV σ V) (hO : OKV V) {i : Nat} (hi : i + 6 ≤ N) (hN : N ≤ 3072) (K : ∀ σ' V', XV σ' V' → MV σ' V' → OKV V' → GL M κ Q 1369 [(3, .int (iZ (i : Int))), (0, .ref b), (1, .ref (κ.2.1 76)), (2, .ref (κ.2.1 105))] [] σ') : GL M κ Q 686 [(3, .int (iZ (i : Int))), (0, .ref b), (1, .ref (κ.2.1 76)), (2, .ref (κ.2.1 105))] [] σ := by
  refine l_aload_n C dl_686 rfl ?_
  refine l_aload_n C dl_687 rfl ?_
  refine l_iload_n C dl_688 rfl ?_
  refine l_iconst (z := 1) C dl_689 rfl ?_
  refine l_iadd C dl_690 ?_
  refine l_sld (j := i + 1) C dl_691 (by omega) (by omega) hN ?_
  refine l_aload_n C dl_692 rfl ?_
  refine l_pc (pc' := 693) rfl ?_
  refine l_iload_n C dl_693 rfl ?_
  refine l_iconst (z := 2) C dl_694 rfl ?_
  refine l_iadd C dl_695 ?_
  refine l_sld (j := i + 2) C dl_696 (by omega) (by omega) hN ?_
  refine l_aload_n C dl_697 rfl ?_
  refine l_iload_n C dl_698 rfl ?_
  refine l_iconst (z := 3) C dl_699 rfl ?_
  refine l_iadd C dl_700 ?_
  refine l_pc (pc' := 701) rfl ?_
  refine l_sld (j := i + 3) C dl_701 (by omega) (by omega) hN ?_
  refine l_ci C (rnL (n := 3) (As := [.int (iZ (xv xs (i + 1))), .int (iZ (xv xs (i + 2))), .int (iZ (xv xs (i + 3)))]) C (c_X9_lineOf C.I (Ml M) σ hX hO (t := (xv xs (i + 1))) (i := (xv xs (i + 2))) (c := (xv xs (i + 3)))  xv_r xv_r xv_r ) (LkV.mk wl_107 wl_108 wl_109 wl_3 wl_110 ⟨by decide +kernel, by decide +kernel, by decide +kernel⟩) (k := 76) rfl (by decide) rfl rfl dl_702 (by decide) (by decide) rfl rfl (Nat.le_of_ble_eq_true rfl)) (fun z1 σ1 ⟨hz1, hX1, hF1⟩ => ?_)
  have hM1 := hM.frX hF1
  refine l_aload_n C dl_705 rfl ?_
  refine l_aload_n C dl_706 rfl ?_
  refine l_iload_n C dl_707 rfl ?_
  refine l_iconst (z := 1) C dl_708 rfl ?_
  refine l_iadd C dl_709 ?_
  refine l_sld (j := i + 1) C dl_710 (by omega) (by omega) hN ?_
  refine l_pc (pc' := 711) rfl ?_
  refine l_aload_n C dl_711 rfl ?_
  refine l_iload_n C dl_712 rfl ?_
  refine l_iconst (z := 2) C dl_713 rfl ?_
  refine l_iadd C dl_714 ?_
  refine l_sld (j := i + 2) C dl_715 (by omega) (by omega) hN ?_
  refine l_aload_n C dl_716 rfl ?_
  refine l_iload_n C dl_717 rfl ?_
  refine l_iconst (z := 3) C dl_718 rfl ?_
  refine l_pc (pc' := 719) rfl ?_
  refine l_iadd C dl_719 ?_
  refine l_sld (j := i + 3) C dl_720 (by omega) (by omega) hN ?_
  refine l_ci C (rnL (n := 3) (As := [.int (iZ (xv xs (i + 1))), .int (iZ (xv xs (i + 2))), .int (iZ (xv xs (i + 3)))]) C (c_X10_lineOf C.I (Ml M) σ1 hM1 hO (t := (xv xs (i + 1))) (i := (xv xs (i + 2))) (c := (xv xs (i + 3)))  xv_r xv_r xv_r ) (LkV.mk wl_111 wl_112 wl_113 wl_8 wl_114 ⟨by decide +kernel, by decide +kernel, by decide +kernel⟩) (k := 105) rfl (by decide) rfl rfl dl_721 (by decide) (by decide) rfl rfl (Nat.le_of_ble_eq_true rfl)) (fun z2 σ2 ⟨hz2, hM2, hF2⟩ => ?_)
  have hO2 := k_lineOf hO (xv xs (i + 1)) (xv xs (i + 2)) (xv xs (i + 3))
  have hX2 := hX1.frY hO2 hF2
  subst z1
  subst z2
  refine l_same (tgt := 1369) C dl_724 (by decide) ?_
  exact K _ _ hX2 hM2 hO2
set_option maxHeartbeats 4000000 in
set_option maxRecDepth 100000 in
theorem law_bucket {M : MC} {κ : Kp} {b N : Nat} {xs : Nat → Int32} {Q : State → Prop} {σ : St} (C : CL M κ b N xs) {V : Vw} (hX : XV σ V) (hM : MV σ V) (hO : OKV V) {i : Nat} (hi : i + 6 ≤ N) (hN : N ≤ 3072) (K : ∀ σ' V', XV σ' V' → MV σ' V' → OKV V' → GL M κ Q 1369 [(3, .int (iZ (i : Int))), (0, .ref b), (1, .ref (κ.2.1 76)), (2, .ref (κ.2.1 105))] [] σ') : GL M κ Q 729 [(3, .int (iZ (i : Int))), (0, .ref b), (1, .ref (κ.2.1 76)), (2, .ref (κ.2.1 105))] [] σ := by
  refine l_aload_n C dl_729 rfl ?_
  refine l_aload_n C dl_730 rfl ?_
  refine l_iload_n C dl_731 rfl ?_
  refine l_iconst (z := 1) C dl_732 rfl ?_
  refine l_iadd C dl_733 ?_
  refine l_sld (j := i + 1) C dl_734 (by omega) (by omega) hN ?_
  refine l_aload_n C dl_735 rfl ?_
  refine l_pc (pc' := 736) rfl ?_
  refine l_iload_n C dl_736 rfl ?_
  refine l_iconst (z := 2) C dl_737 rfl ?_
  refine l_iadd C dl_738 ?_
  refine l_sld (j := i + 2) C dl_739 (by omega) (by omega) hN ?_
  refine l_aload_n C dl_740 rfl ?_
  refine l_iload_n C dl_741 rfl ?_
  refine l_iconst (z := 3) C dl_742 rfl ?_
  refine l_iadd C dl_743 ?_
  refine l_pc (pc' := 744) rfl ?_
  refine l_sld (j := i + 3) C dl_744 (by omega) (by omega) hN ?_
  refine l_ci C (rnL (n := 3) (As := [.int (iZ (xv xs (i + 1))), .int (iZ (xv xs (i + 2))), .int (iZ (xv xs (i + 3)))]) C (c_X9_bucket C.I (Ml M) σ hX hO (p := (xv xs (i + 1))) (b := (xv xs (i + 2))) (a := (xv xs (i + 3)))  xv_r xv_r xv_r ) (LkV.mk wl_115 wl_116 wl_117 wl_3 wl_118 ⟨by decide +kernel, by decide +kernel, by decide +kernel⟩) (k := 76) rfl (by decide) rfl rfl dl_745 (by decide) (by decide) rfl rfl (Nat.le_of_ble_eq_true rfl)) (fun z1 σ1 ⟨hz1, hX1, hF1⟩ => ?_)
  have hM1 := hM.frX hF1
  refine l_aload_n C dl_748 rfl ?_
  refine l_aload_n C dl_749 rfl ?_
  refine l_iload_n C dl_750 rfl ?_
  refine l_iconst (z := 1) C dl_751 rfl ?_
  refine l_iadd C dl_752 ?_
  refine l_sld (j := i + 1) C dl_753 (by omega) (by omega) hN ?_
  refine l_pc (pc' := 754) rfl ?_
  refine l_aload_n C dl_754 rfl ?_
  refine l_iload_n C dl_755 rfl ?_
  refine l_iconst (z := 2) C dl_756 rfl ?_
  refine l_iadd C dl_757 ?_
  refine l_sld (j := i + 2) C dl_758 (by omega) (by omega) hN ?_
  refine l_aload_n C dl_759 rfl ?_
  refine l_iload_n C dl_760 rfl ?_
  refine l_iconst (z := 3) C dl_761 rfl ?_
  refine l_pc (pc' := 762) rfl ?_
  refine l_iadd C dl_762 ?_
  refine l_sld (j := i + 3) C dl_763 (by omega) (by omega) hN ?_
  refine l_ci C (rnL (n := 3) (As := [.int (iZ (xv xs (i + 1))), .int (iZ (xv xs (i + 2))), .int (iZ (xv xs (i + 3)))]) C (c_X10_bucket C.I (Ml M) σ1 hM1 hO (p := (xv xs (i + 1))) (b := (xv xs (i + 2))) (a := (xv xs (i + 3)))  xv_r xv_r xv_r ) (LkV.mk wl_119 wl_120 wl_121 wl_8 wl_122 ⟨by decide +kernel, by decide +kernel, by decide +kernel⟩) (k := 105) rfl (by decide) rfl rfl dl_764 (by decide) (by decide) rfl rfl (Nat.le_of_ble_eq_true rfl)) (fun z2 σ2 ⟨hz2, hM2, hF2⟩ => ?_)
  have hO2 := k_bucket hO (xv xs (i + 1)) (xv xs (i + 2)) (xv xs (i + 3))
  have hX2 := hX1.frY hO2 hF2
  subst z1
  subst z2
  refine l_same (tgt := 1369) C dl_767 (by decide) ?_
  exact K _ _ hX2 hM2 hO2
set_option maxHeartbeats 4000000 in
set_option maxRecDepth 100000 in
theorem law_different {M : MC} {κ : Kp} {b N : Nat} {xs : Nat → Int32} {Q : State → Prop} {σ : St} (C : CL M κ b N xs) {V : Vw} (hX : XV σ V) (hM : MV σ V) (hO : OKV V) {i : Nat} (hi : i + 6 ≤ N) (hN : N ≤ 3072) (K : ∀ σ' V', XV σ' V' → MV σ' V' → OKV V' → GL M κ Q 1369 [(3, .int (iZ (i : Int))), (0, .ref b), (1, .ref (κ.2.1 76)), (2, .ref (κ.2.1 105))] [] σ') : GL M κ Q 772 [(3, .int (iZ (i : Int))), (0, .ref b), (1, .ref (κ.2.1 76)), (2, .ref (κ.2.1 105))] [] σ := by
  refine l_aload_n C dl_772 rfl ?_
  refine l_aload_n C dl_773 rfl ?_
  refine l_iload_n C dl_774 rfl ?_
  refine l_iconst (z := 1) C dl_775 rfl ?_
  refine l_iadd C dl_776 ?_
  refine l_sld (j := i + 1) C dl_777 (by omega) (by omega) hN ?_
  refine l_ci C (rnL (n := 1) (As := [.int (iZ (xv xs (i + 1)))]) C (c_X9_different C.I (Ml M) σ hX hO (p := (xv xs (i + 1)))  xv_r ) (LkV.mk wl_123 wl_124 wl_125 wl_3 wl_126 ⟨by decide +kernel, by decide +kernel, by decide +kernel⟩) (k := 76) rfl (by decide) rfl rfl dl_778 (by decide) (by decide) rfl rfl (Nat.le_of_ble_eq_true rfl)) (fun z1 σ1 ⟨hz1, hX1, hF1⟩ => ?_)
  have hM1 := hM.frX hF1
  refine l_pc (pc' := 781) rfl ?_
  refine l_aload_n C dl_781 rfl ?_
  refine l_aload_n C dl_782 rfl ?_
  refine l_iload_n C dl_783 rfl ?_
  refine l_iconst (z := 1) C dl_784 rfl ?_
  refine l_iadd C dl_785 ?_
  refine l_sld (j := i + 1) C dl_786 (by omega) (by omega) hN ?_
  refine l_ci C (rnL (n := 1) (As := [.int (iZ (xv xs (i + 1)))]) C (c_X10_different C.I (Ml M) σ1 hM1 hO (p := (xv xs (i + 1)))  xv_r ) (LkV.mk wl_127 wl_128 wl_129 wl_8 wl_130 ⟨by decide +kernel, by decide +kernel, by decide +kernel⟩) (k := 105) rfl (by decide) rfl rfl dl_787 (by decide) (by decide) rfl rfl (Nat.le_of_ble_eq_true rfl)) (fun z2 σ2 ⟨hz2, hM2, hF2⟩ => ?_)
  have hO2 := k_different hO (xv xs (i + 1))
  have hX2 := hX1.frY hO2 hF2
  subst z1
  subst z2
  refine l_same (tgt := 1369) C dl_790 (by decide) ?_
  exact K _ _ hX2 hM2 hO2
set_option maxHeartbeats 4000000 in
set_option maxRecDepth 100000 in
theorem law_share {M : MC} {κ : Kp} {b N : Nat} {xs : Nat → Int32} {Q : State → Prop} {σ : St} (C : CL M κ b N xs) {V : Vw} (hX : XV σ V) (hM : MV σ V) (hO : OKV V) {i : Nat} (hi : i + 6 ≤ N) (hN : N ≤ 3072) (K : ∀ σ' V', XV σ' V' → MV σ' V' → OKV V' → GL M κ Q 1369 [(3, .int (iZ (i : Int))), (0, .ref b), (1, .ref (κ.2.1 76)), (2, .ref (κ.2.1 105))] [] σ') : GL M κ Q 795 [(3, .int (iZ (i : Int))), (0, .ref b), (1, .ref (κ.2.1 76)), (2, .ref (κ.2.1 105))] [] σ := by
  refine l_aload_n C dl_795 rfl ?_
  refine l_aload_n C dl_796 rfl ?_
  refine l_iload_n C dl_797 rfl ?_
  refine l_iconst (z := 1) C dl_798 rfl ?_
  refine l_iadd C dl_799 ?_
  refine l_sld (j := i + 1) C dl_800 (by omega) (by omega) hN ?_
  refine l_aload_n C dl_801 rfl ?_
  refine l_pc (pc' := 802) rfl ?_
  refine l_iload_n C dl_802 rfl ?_
  refine l_iconst (z := 2) C dl_803 rfl ?_
  refine l_iadd C dl_804 ?_
  refine l_sld (j := i + 2) C dl_805 (by omega) (by omega) hN ?_
  refine l_aload_n C dl_806 rfl ?_
  refine l_iload_n C dl_807 rfl ?_
  refine l_iconst (z := 3) C dl_808 rfl ?_
  refine l_iadd C dl_809 ?_
  refine l_pc (pc' := 810) rfl ?_
  refine l_sld (j := i + 3) C dl_810 (by omega) (by omega) hN ?_
  refine l_ci C (rnL (n := 3) (As := [.int (iZ (xv xs (i + 1))), .int (iZ (xv xs (i + 2))), .int (iZ (xv xs (i + 3)))]) C (c_X9_share C.I (Ml M) σ hX hO (p := (xv xs (i + 1))) (s := (xv xs (i + 2))) (v := (xv xs (i + 3)))  xv_r xv_r xv_r ) (LkV.mk wl_131 wl_132 wl_133 wl_3 wl_134 ⟨by decide +kernel, by decide +kernel, by decide +kernel⟩) (k := 76) rfl (by decide) rfl rfl dl_811 (by decide) (by decide) rfl rfl (Nat.le_of_ble_eq_true rfl)) (fun z1 σ1 ⟨hz1, hX1, hF1⟩ => ?_)
  have hM1 := hM.frX hF1
  refine l_aload_n C dl_814 rfl ?_
  refine l_aload_n C dl_815 rfl ?_
  refine l_iload_n C dl_816 rfl ?_
  refine l_iconst (z := 1) C dl_817 rfl ?_
  refine l_iadd C dl_818 ?_
  refine l_sld (j := i + 1) C dl_819 (by omega) (by omega) hN ?_
  refine l_pc (pc' := 820) rfl ?_
  refine l_aload_n C dl_820 rfl ?_
  refine l_iload_n C dl_821 rfl ?_
  refine l_iconst (z := 2) C dl_822 rfl ?_
  refine l_iadd C dl_823 ?_
  refine l_sld (j := i + 2) C dl_824 (by omega) (by omega) hN ?_
  refine l_aload_n C dl_825 rfl ?_
  refine l_iload_n C dl_826 rfl ?_
  refine l_iconst (z := 3) C dl_827 rfl ?_
  refine l_pc (pc' := 828) rfl ?_
  refine l_iadd C dl_828 ?_
  refine l_sld (j := i + 3) C dl_829 (by omega) (by omega) hN ?_
  refine l_ci C (rnL (n := 3) (As := [.int (iZ (xv xs (i + 1))), .int (iZ (xv xs (i + 2))), .int (iZ (xv xs (i + 3)))]) C (c_X10_share C.I (Ml M) σ1 hM1 hO (p := (xv xs (i + 1))) (s := (xv xs (i + 2))) (v := (xv xs (i + 3)))  xv_r xv_r xv_r ) (LkV.mk wl_135 wl_136 wl_137 wl_8 wl_138 ⟨by decide +kernel, by decide +kernel, by decide +kernel⟩) (k := 105) rfl (by decide) rfl rfl dl_830 (by decide) (by decide) rfl rfl (Nat.le_of_ble_eq_true rfl)) (fun z2 σ2 ⟨hz2, hM2, hF2⟩ => ?_)
  have hO2 := k_share hO (xv xs (i + 1)) (xv xs (i + 2)) (xv xs (i + 3))
  have hX2 := hX1.frY hO2 hF2
  subst z1
  subst z2
  refine l_same (tgt := 1369) C dl_833 (by decide) ?_
  exact K _ _ hX2 hM2 hO2
set_option maxHeartbeats 4000000 in
set_option maxRecDepth 100000 in
theorem law_filter {M : MC} {κ : Kp} {b N : Nat} {xs : Nat → Int32} {Q : State → Prop} {σ : St} (C : CL M κ b N xs) {V : Vw} (hX : XV σ V) (hM : MV σ V) (hO : OKV V) {i : Nat} (hi : i + 6 ≤ N) (hN : N ≤ 3072) (K : ∀ σ' V', XV σ' V' → MV σ' V' → OKV V' → GL M κ Q 1369 [(3, .int (iZ (i : Int))), (0, .ref b), (1, .ref (κ.2.1 76)), (2, .ref (κ.2.1 105))] [] σ') : GL M κ Q 838 [(3, .int (iZ (i : Int))), (0, .ref b), (1, .ref (κ.2.1 76)), (2, .ref (κ.2.1 105))] [] σ := by
  refine l_aload_n C dl_838 rfl ?_
  refine l_aload_n C dl_839 rfl ?_
  refine l_iload_n C dl_840 rfl ?_
  refine l_iconst (z := 1) C dl_841 rfl ?_
  refine l_iadd C dl_842 ?_
  refine l_sld (j := i + 1) C dl_843 (by omega) (by omega) hN ?_
  refine l_aload_n C dl_844 rfl ?_
  refine l_pc (pc' := 845) rfl ?_
  refine l_iload_n C dl_845 rfl ?_
  refine l_iconst (z := 2) C dl_846 rfl ?_
  refine l_iadd C dl_847 ?_
  refine l_sld (j := i + 2) C dl_848 (by omega) (by omega) hN ?_
  refine l_aload_n C dl_849 rfl ?_
  refine l_iload_n C dl_850 rfl ?_
  refine l_iconst (z := 3) C dl_851 rfl ?_
  refine l_iadd C dl_852 ?_
  refine l_pc (pc' := 853) rfl ?_
  refine l_sld (j := i + 3) C dl_853 (by omega) (by omega) hN ?_
  refine l_ci C (rnL (n := 3) (As := [.int (iZ (xv xs (i + 1))), .int (iZ (xv xs (i + 2))), .int (iZ (xv xs (i + 3)))]) C (c_X9_filter C.I (Ml M) σ hX hO (p := (xv xs (i + 1))) (s := (xv xs (i + 2))) (v := (xv xs (i + 3)))  xv_r xv_r xv_r ) (LkV.mk wl_139 wl_140 wl_141 wl_3 wl_142 ⟨by decide +kernel, by decide +kernel, by decide +kernel⟩) (k := 76) rfl (by decide) rfl rfl dl_854 (by decide) (by decide) rfl rfl (Nat.le_of_ble_eq_true rfl)) (fun z1 σ1 ⟨hz1, hX1, hF1⟩ => ?_)
  have hM1 := hM.frX hF1
  refine l_aload_n C dl_857 rfl ?_
  refine l_aload_n C dl_858 rfl ?_
  refine l_iload_n C dl_859 rfl ?_
  refine l_iconst (z := 1) C dl_860 rfl ?_
  refine l_iadd C dl_861 ?_
  refine l_sld (j := i + 1) C dl_862 (by omega) (by omega) hN ?_
  refine l_pc (pc' := 863) rfl ?_
  refine l_aload_n C dl_863 rfl ?_
  refine l_iload_n C dl_864 rfl ?_
  refine l_iconst (z := 2) C dl_865 rfl ?_
  refine l_iadd C dl_866 ?_
  refine l_sld (j := i + 2) C dl_867 (by omega) (by omega) hN ?_
  refine l_aload_n C dl_868 rfl ?_
  refine l_iload_n C dl_869 rfl ?_
  refine l_iconst (z := 3) C dl_870 rfl ?_
  refine l_pc (pc' := 871) rfl ?_
  refine l_iadd C dl_871 ?_
  refine l_sld (j := i + 3) C dl_872 (by omega) (by omega) hN ?_
  refine l_ci C (rnL (n := 3) (As := [.int (iZ (xv xs (i + 1))), .int (iZ (xv xs (i + 2))), .int (iZ (xv xs (i + 3)))]) C (c_X10_filter C.I (Ml M) σ1 hM1 hO (p := (xv xs (i + 1))) (s := (xv xs (i + 2))) (v := (xv xs (i + 3)))  xv_r xv_r xv_r ) (LkV.mk wl_143 wl_144 wl_145 wl_8 wl_146 ⟨by decide +kernel, by decide +kernel, by decide +kernel⟩) (k := 105) rfl (by decide) rfl rfl dl_873 (by decide) (by decide) rfl rfl (Nat.le_of_ble_eq_true rfl)) (fun z2 σ2 ⟨hz2, hM2, hF2⟩ => ?_)
  have hO2 := k_filter hO (xv xs (i + 1)) (xv xs (i + 2)) (xv xs (i + 3))
  have hX2 := hX1.frY hO2 hF2
  subst z1
  subst z2
  refine l_same (tgt := 1369) C dl_876 (by decide) ?_
  exact K _ _ hX2 hM2 hO2
set_option maxHeartbeats 4000000 in
set_option maxRecDepth 100000 in
theorem law_join {M : MC} {κ : Kp} {b N : Nat} {xs : Nat → Int32} {Q : State → Prop} {σ : St} (C : CL M κ b N xs) {V : Vw} (hX : XV σ V) (hM : MV σ V) (hO : OKV V) {i : Nat} (hi : i + 6 ≤ N) (hN : N ≤ 3072) (K : ∀ σ' V', XV σ' V' → MV σ' V' → OKV V' → GL M κ Q 1369 [(3, .int (iZ (i : Int))), (0, .ref b), (1, .ref (κ.2.1 76)), (2, .ref (κ.2.1 105))] [] σ') : GL M κ Q 881 [(3, .int (iZ (i : Int))), (0, .ref b), (1, .ref (κ.2.1 76)), (2, .ref (κ.2.1 105))] [] σ := by
  refine l_aload_n C dl_881 rfl ?_
  refine l_aload_n C dl_882 rfl ?_
  refine l_iload_n C dl_883 rfl ?_
  refine l_iconst (z := 1) C dl_884 rfl ?_
  refine l_iadd C dl_885 ?_
  refine l_sld (j := i + 1) C dl_886 (by omega) (by omega) hN ?_
  refine l_aload_n C dl_887 rfl ?_
  refine l_pc (pc' := 888) rfl ?_
  refine l_iload_n C dl_888 rfl ?_
  refine l_iconst (z := 2) C dl_889 rfl ?_
  refine l_iadd C dl_890 ?_
  refine l_sld (j := i + 2) C dl_891 (by omega) (by omega) hN ?_
  refine l_ci C (rnL (n := 2) (As := [.int (iZ (xv xs (i + 1))), .int (iZ (xv xs (i + 2)))]) C (c_X9_join C.I (Ml M) σ hX hO (p := (xv xs (i + 1))) (q := (xv xs (i + 2)))  xv_r xv_r ) (LkV.mk wl_147 wl_148 wl_149 wl_3 wl_150 ⟨by decide +kernel, by decide +kernel, by decide +kernel⟩) (k := 76) rfl (by decide) rfl rfl dl_892 (by decide) (by decide) rfl rfl (Nat.le_of_ble_eq_true rfl)) (fun z1 σ1 ⟨hz1, hX1, hF1⟩ => ?_)
  have hM1 := hM.frX hF1
  refine l_aload_n C dl_895 rfl ?_
  refine l_aload_n C dl_896 rfl ?_
  refine l_iload_n C dl_897 rfl ?_
  refine l_pc (pc' := 898) rfl ?_
  refine l_iconst (z := 1) C dl_898 rfl ?_
  refine l_iadd C dl_899 ?_
  refine l_sld (j := i + 1) C dl_900 (by omega) (by omega) hN ?_
  refine l_aload_n C dl_901 rfl ?_
  refine l_iload_n C dl_902 rfl ?_
  refine l_iconst (z := 2) C dl_903 rfl ?_
  refine l_iadd C dl_904 ?_
  refine l_sld (j := i + 2) C dl_905 (by omega) (by omega) hN ?_
  refine l_pc (pc' := 906) rfl ?_
  refine l_ci C (rnL (n := 2) (As := [.int (iZ (xv xs (i + 1))), .int (iZ (xv xs (i + 2)))]) C (c_X10_join C.I (Ml M) σ1 hM1 hO (p := (xv xs (i + 1))) (q := (xv xs (i + 2)))  xv_r xv_r ) (LkV.mk wl_151 wl_152 wl_153 wl_8 wl_154 ⟨by decide +kernel, by decide +kernel, by decide +kernel⟩) (k := 105) rfl (by decide) rfl rfl dl_906 (by decide) (by decide) rfl rfl (Nat.le_of_ble_eq_true rfl)) (fun z2 σ2 ⟨hz2, hM2, hF2⟩ => ?_)
  have hO2 := k_join hO (xv xs (i + 1)) (xv xs (i + 2))
  have hX2 := hX1.frY hO2 hF2
  subst z1
  subst z2
  refine l_same (tgt := 1369) C dl_909 (by decide) ?_
  exact K _ _ hX2 hM2 hO2
set_option maxHeartbeats 4000000 in
set_option maxRecDepth 100000 in
theorem law_clear {M : MC} {κ : Kp} {b N : Nat} {xs : Nat → Int32} {Q : State → Prop} {σ : St} (C : CL M κ b N xs) {V : Vw} (hX : XV σ V) (hM : MV σ V) (hO : OKV V) {i : Nat} (hi : i + 6 ≤ N) (hN : N ≤ 3072) (K : ∀ σ' V', XV σ' V' → MV σ' V' → OKV V' → GL M κ Q 1369 [(3, .int (iZ (i : Int))), (0, .ref b), (1, .ref (κ.2.1 76)), (2, .ref (κ.2.1 105))] [] σ') : GL M κ Q 914 [(3, .int (iZ (i : Int))), (0, .ref b), (1, .ref (κ.2.1 76)), (2, .ref (κ.2.1 105))] [] σ := by
  refine l_aload_n C dl_914 rfl ?_
  refine l_ci C (rnL (n := 0) (As := []) C (c_X9_clear C.I (Ml M) σ hX hO   ) (LkV.mk wl_155 wl_156 wl_157 wl_3 wl_158 ⟨by decide +kernel, by decide +kernel, by decide +kernel⟩) (k := 76) rfl (by decide) rfl rfl dl_915 (by decide) (by decide) rfl rfl (Nat.le_of_ble_eq_true rfl)) (fun z1 σ1 ⟨hz1, hX1, hF1⟩ => ?_)
  have hM1 := hM.frX hF1
  refine l_aload_n C dl_918 rfl ?_
  refine l_ci C (rnL (n := 0) (As := []) C (c_X10_clear C.I (Ml M) σ1 hM1 hO   ) (LkV.mk wl_159 wl_160 wl_161 wl_8 wl_162 ⟨by decide +kernel, by decide +kernel, by decide +kernel⟩) (k := 105) rfl (by decide) rfl rfl dl_919 (by decide) (by decide) rfl rfl (Nat.le_of_ble_eq_true rfl)) (fun z2 σ2 ⟨hz2, hM2, hF2⟩ => ?_)
  have hO2 := k_clear hO
  have hX2 := hX1.frY hO2 hF2
  subst z1
  subst z2
  refine l_same (tgt := 1369) C dl_922 (by decide) ?_
  exact K _ _ hX2 hM2 hO2
set_option maxHeartbeats 4000000 in
set_option maxRecDepth 100000 in
theorem law_filterOf {M : MC} {κ : Kp} {b N : Nat} {xs : Nat → Int32} {Q : State → Prop} {σ : St} (C : CL M κ b N xs) {V : Vw} (hX : XV σ V) (hM : MV σ V) (hO : OKV V) {i : Nat} (hi : i + 6 ≤ N) (hN : N ≤ 3072) (K : ∀ σ' V', XV σ' V' → MV σ' V' → OKV V' → GL M κ Q 1369 [(3, .int (iZ (i : Int))), (0, .ref b), (1, .ref (κ.2.1 76)), (2, .ref (κ.2.1 105))] [] σ') : GL M κ Q 927 [(3, .int (iZ (i : Int))), (0, .ref b), (1, .ref (κ.2.1 76)), (2, .ref (κ.2.1 105))] [] σ := by
  refine l_aload_n C dl_927 rfl ?_
  refine l_aload_n C dl_928 rfl ?_
  refine l_iload_n C dl_929 rfl ?_
  refine l_iconst (z := 1) C dl_930 rfl ?_
  refine l_iadd C dl_931 ?_
  refine l_sld (j := i + 1) C dl_932 (by omega) (by omega) hN ?_
  refine l_aload_n C dl_933 rfl ?_
  refine l_pc (pc' := 934) rfl ?_
  refine l_iload_n C dl_934 rfl ?_
  refine l_iconst (z := 2) C dl_935 rfl ?_
  refine l_iadd C dl_936 ?_
  refine l_sld (j := i + 2) C dl_937 (by omega) (by omega) hN ?_
  refine l_ci C (rnL (n := 2) (As := [.int (iZ (xv xs (i + 1))), .int (iZ (xv xs (i + 2)))]) C (c_X9_filterOf C.I (Ml M) σ hX hO (f := (xv xs (i + 1))) (a := (xv xs (i + 2)))  xv_r xv_r ) (LkV.mk wl_163 wl_164 wl_165 wl_3 wl_166 ⟨by decide +kernel, by decide +kernel, by decide +kernel⟩) (k := 76) rfl (by decide) rfl rfl dl_938 (by decide) (by decide) rfl rfl (Nat.le_of_ble_eq_true rfl)) (fun z1 σ1 ⟨hz1, hX1, hF1⟩ => ?_)
  have hM1 := hM.frX hF1
  refine l_aload_n C dl_941 rfl ?_
  refine l_aload_n C dl_942 rfl ?_
  refine l_iload_n C dl_943 rfl ?_
  refine l_pc (pc' := 944) rfl ?_
  refine l_iconst (z := 1) C dl_944 rfl ?_
  refine l_iadd C dl_945 ?_
  refine l_sld (j := i + 1) C dl_946 (by omega) (by omega) hN ?_
  refine l_aload_n C dl_947 rfl ?_
  refine l_iload_n C dl_948 rfl ?_
  refine l_iconst (z := 2) C dl_949 rfl ?_
  refine l_iadd C dl_950 ?_
  refine l_sld (j := i + 2) C dl_951 (by omega) (by omega) hN ?_
  refine l_pc (pc' := 952) rfl ?_
  refine l_ci C (rnL (n := 2) (As := [.int (iZ (xv xs (i + 1))), .int (iZ (xv xs (i + 2)))]) C (c_X10_filterOf C.I (Ml M) σ1 hM1 hO (f := (xv xs (i + 1))) (a := (xv xs (i + 2)))  xv_r xv_r ) (LkV.mk wl_167 wl_168 wl_169 wl_8 wl_170 ⟨by decide +kernel, by decide +kernel, by decide +kernel⟩) (k := 105) rfl (by decide) rfl rfl dl_952 (by decide) (by decide) rfl rfl (Nat.le_of_ble_eq_true rfl)) (fun z2 σ2 ⟨hz2, hM2, hF2⟩ => ?_)
  have hO2 := k_filterOf hO (xv xs (i + 1)) (xv xs (i + 2))
  have hX2 := hX1.frY hO2 hF2
  subst z1
  subst z2
  refine l_same (tgt := 1369) C dl_955 (by decide) ?_
  exact K _ _ hX2 hM2 hO2
set_option maxHeartbeats 4000000 in
set_option maxRecDepth 100000 in
theorem law_joinOf {M : MC} {κ : Kp} {b N : Nat} {xs : Nat → Int32} {Q : State → Prop} {σ : St} (C : CL M κ b N xs) {V : Vw} (hX : XV σ V) (hM : MV σ V) (hO : OKV V) {i : Nat} (hi : i + 6 ≤ N) (hN : N ≤ 3072) (K : ∀ σ' V', XV σ' V' → MV σ' V' → OKV V' → GL M κ Q 1369 [(3, .int (iZ (i : Int))), (0, .ref b), (1, .ref (κ.2.1 76)), (2, .ref (κ.2.1 105))] [] σ') : GL M κ Q 960 [(3, .int (iZ (i : Int))), (0, .ref b), (1, .ref (κ.2.1 76)), (2, .ref (κ.2.1 105))] [] σ := by
  refine l_aload_n C dl_960 rfl ?_
  refine l_aload_n C dl_961 rfl ?_
  refine l_iload_n C dl_962 rfl ?_
  refine l_iconst (z := 1) C dl_963 rfl ?_
  refine l_iadd C dl_964 ?_
  refine l_sld (j := i + 1) C dl_965 (by omega) (by omega) hN ?_
  refine l_aload_n C dl_966 rfl ?_
  refine l_pc (pc' := 967) rfl ?_
  refine l_iload_n C dl_967 rfl ?_
  refine l_iconst (z := 2) C dl_968 rfl ?_
  refine l_iadd C dl_969 ?_
  refine l_sld (j := i + 2) C dl_970 (by omega) (by omega) hN ?_
  refine l_ci C (rnL (n := 2) (As := [.int (iZ (xv xs (i + 1))), .int (iZ (xv xs (i + 2)))]) C (c_X9_joinOf C.I (Ml M) σ hX hO (j := (xv xs (i + 1))) (a := (xv xs (i + 2)))  xv_r xv_r ) (LkV.mk wl_171 wl_172 wl_173 wl_3 wl_174 ⟨by decide +kernel, by decide +kernel, by decide +kernel⟩) (k := 76) rfl (by decide) rfl rfl dl_971 (by decide) (by decide) rfl rfl (Nat.le_of_ble_eq_true rfl)) (fun z1 σ1 ⟨hz1, hX1, hF1⟩ => ?_)
  have hM1 := hM.frX hF1
  refine l_aload_n C dl_974 rfl ?_
  refine l_aload_n C dl_975 rfl ?_
  refine l_iload_n C dl_976 rfl ?_
  refine l_pc (pc' := 977) rfl ?_
  refine l_iconst (z := 1) C dl_977 rfl ?_
  refine l_iadd C dl_978 ?_
  refine l_sld (j := i + 1) C dl_979 (by omega) (by omega) hN ?_
  refine l_aload_n C dl_980 rfl ?_
  refine l_iload_n C dl_981 rfl ?_
  refine l_iconst (z := 2) C dl_982 rfl ?_
  refine l_iadd C dl_983 ?_
  refine l_sld (j := i + 2) C dl_984 (by omega) (by omega) hN ?_
  refine l_pc (pc' := 985) rfl ?_
  refine l_ci C (rnL (n := 2) (As := [.int (iZ (xv xs (i + 1))), .int (iZ (xv xs (i + 2)))]) C (c_X10_joinOf C.I (Ml M) σ1 hM1 hO (j := (xv xs (i + 1))) (a := (xv xs (i + 2)))  xv_r xv_r ) (LkV.mk wl_175 wl_176 wl_177 wl_8 wl_178 ⟨by decide +kernel, by decide +kernel, by decide +kernel⟩) (k := 105) rfl (by decide) rfl rfl dl_985 (by decide) (by decide) rfl rfl (Nat.le_of_ble_eq_true rfl)) (fun z2 σ2 ⟨hz2, hM2, hF2⟩ => ?_)
  have hO2 := k_joinOf hO (xv xs (i + 1)) (xv xs (i + 2))
  have hX2 := hX1.frY hO2 hF2
  subst z1
  subst z2
  refine l_same (tgt := 1369) C dl_988 (by decide) ?_
  exact K _ _ hX2 hM2 hO2
set_option maxHeartbeats 4000000 in
set_option maxRecDepth 100000 in
theorem law_joinShare {M : MC} {κ : Kp} {b N : Nat} {xs : Nat → Int32} {Q : State → Prop} {σ : St} (C : CL M κ b N xs) {V : Vw} (hX : XV σ V) (hM : MV σ V) (hO : OKV V) {i : Nat} (hi : i + 6 ≤ N) (hN : N ≤ 3072) (K : ∀ σ' V', XV σ' V' → MV σ' V' → OKV V' → GL M κ Q 1369 [(3, .int (iZ (i : Int))), (0, .ref b), (1, .ref (κ.2.1 76)), (2, .ref (κ.2.1 105))] [] σ') : GL M κ Q 993 [(3, .int (iZ (i : Int))), (0, .ref b), (1, .ref (κ.2.1 76)), (2, .ref (κ.2.1 105))] [] σ := by
  refine l_aload_n C dl_993 rfl ?_
  refine l_aload_n C dl_994 rfl ?_
  refine l_iload_n C dl_995 rfl ?_
  refine l_iconst (z := 1) C dl_996 rfl ?_
  refine l_iadd C dl_997 ?_
  refine l_sld (j := i + 1) C dl_998 (by omega) (by omega) hN ?_
  refine l_ci C (rnL (n := 1) (As := [.int (iZ (xv xs (i + 1)))]) C (c_X9_joinShare C.I (Ml M) σ hX hO (j := (xv xs (i + 1)))  xv_r ) (LkV.mk wl_179 wl_180 wl_181 wl_3 wl_182 ⟨by decide +kernel, by decide +kernel, by decide +kernel⟩) (k := 76) rfl (by decide) rfl rfl dl_999 (by decide) (by decide) rfl rfl (Nat.le_of_ble_eq_true rfl)) (fun z1 σ1 ⟨hz1, hX1, hF1⟩ => ?_)
  have hM1 := hM.frX hF1
  refine l_pc (pc' := 1002) rfl ?_
  refine l_aload_n C dl_1002 rfl ?_
  refine l_aload_n C dl_1003 rfl ?_
  refine l_iload_n C dl_1004 rfl ?_
  refine l_iconst (z := 1) C dl_1005 rfl ?_
  refine l_iadd C dl_1006 ?_
  refine l_sld (j := i + 1) C dl_1007 (by omega) (by omega) hN ?_
  refine l_ci C (rnL (n := 1) (As := [.int (iZ (xv xs (i + 1)))]) C (c_X10_joinShare C.I (Ml M) σ1 hM1 hO (j := (xv xs (i + 1)))  xv_r ) (LkV.mk wl_183 wl_184 wl_185 wl_8 wl_186 ⟨by decide +kernel, by decide +kernel, by decide +kernel⟩) (k := 105) rfl (by decide) rfl rfl dl_1008 (by decide) (by decide) rfl rfl (Nat.le_of_ble_eq_true rfl)) (fun z2 σ2 ⟨hz2, hM2, hF2⟩ => ?_)
  have hO2 := k_joinShare hO (xv xs (i + 1))
  have hX2 := hX1.frY hO2 hF2
  subst z1
  subst z2
  refine l_same (tgt := 1369) C dl_1011 (by decide) ?_
  exact K _ _ hX2 hM2 hO2
set_option maxHeartbeats 4000000 in
set_option maxRecDepth 100000 in
theorem law_thought {M : MC} {κ : Kp} {b N : Nat} {xs : Nat → Int32} {Q : State → Prop} {σ : St} (C : CL M κ b N xs) {V : Vw} (hX : XV σ V) (hM : MV σ V) (hO : OKV V) {i : Nat} (hi : i + 6 ≤ N) (hN : N ≤ 3072) (K : ∀ σ' V', XV σ' V' → MV σ' V' → OKV V' → GL M κ Q 1369 [(3, .int (iZ (i : Int))), (0, .ref b), (1, .ref (κ.2.1 76)), (2, .ref (κ.2.1 105))] [] σ') : GL M κ Q 1016 [(3, .int (iZ (i : Int))), (0, .ref b), (1, .ref (κ.2.1 76)), (2, .ref (κ.2.1 105))] [] σ := by
  refine l_aload_n C dl_1016 rfl ?_
  refine l_aload_n C dl_1017 rfl ?_
  refine l_iload_n C dl_1018 rfl ?_
  refine l_iconst (z := 1) C dl_1019 rfl ?_
  refine l_iadd C dl_1020 ?_
  refine l_sld (j := i + 1) C dl_1021 (by omega) (by omega) hN ?_
  refine l_ci C (rnL (n := 1) (As := [.int (iZ (xv xs (i + 1)))]) C (c_X9_thought C.I (Ml M) σ hX hO (s := (xv xs (i + 1)))  xv_r ) (LkV.mk wl_187 wl_188 wl_189 wl_3 wl_190 ⟨by decide +kernel, by decide +kernel, by decide +kernel⟩) (k := 76) rfl (by decide) rfl rfl dl_1022 (by decide) (by decide) rfl rfl (Nat.le_of_ble_eq_true rfl)) (fun z1 σ1 ⟨hz1, hX1, hF1⟩ => ?_)
  have hM1 := hM.frX hF1
  refine l_pc (pc' := 1025) rfl ?_
  refine l_aload_n C dl_1025 rfl ?_
  refine l_aload_n C dl_1026 rfl ?_
  refine l_iload_n C dl_1027 rfl ?_
  refine l_iconst (z := 1) C dl_1028 rfl ?_
  refine l_iadd C dl_1029 ?_
  refine l_sld (j := i + 1) C dl_1030 (by omega) (by omega) hN ?_
  refine l_ci C (rnL (n := 1) (As := [.int (iZ (xv xs (i + 1)))]) C (c_X10_thought C.I (Ml M) σ1 hM1 hO (s := (xv xs (i + 1)))  xv_r ) (LkV.mk wl_191 wl_192 wl_193 wl_8 wl_194 ⟨by decide +kernel, by decide +kernel, by decide +kernel⟩) (k := 105) rfl (by decide) rfl rfl dl_1031 (by decide) (by decide) rfl rfl (Nat.le_of_ble_eq_true rfl)) (fun z2 σ2 ⟨hz2, hM2, hF2⟩ => ?_)
  have hO2 := k_thought hO (xv xs (i + 1))
  have hX2 := hX1.frY hO2 hF2
  subst z1
  subst z2
  refine l_same (tgt := 1369) C dl_1034 (by decide) ?_
  exact K _ _ hX2 hM2 hO2
set_option maxHeartbeats 4000000 in
set_option maxRecDepth 100000 in
theorem law_sorting {M : MC} {κ : Kp} {b N : Nat} {xs : Nat → Int32} {Q : State → Prop} {σ : St} (C : CL M κ b N xs) {V : Vw} (hX : XV σ V) (hM : MV σ V) (hO : OKV V) {i : Nat} (hi : i + 6 ≤ N) (hN : N ≤ 3072) (K : ∀ σ' V', XV σ' V' → MV σ' V' → OKV V' → GL M κ Q 1369 [(3, .int (iZ (i : Int))), (0, .ref b), (1, .ref (κ.2.1 76)), (2, .ref (κ.2.1 105))] [] σ') : GL M κ Q 1039 [(3, .int (iZ (i : Int))), (0, .ref b), (1, .ref (κ.2.1 76)), (2, .ref (κ.2.1 105))] [] σ := by
  refine l_aload_n C dl_1039 rfl ?_
  refine l_aload_n C dl_1040 rfl ?_
  refine l_iload_n C dl_1041 rfl ?_
  refine l_iconst (z := 1) C dl_1042 rfl ?_
  refine l_iadd C dl_1043 ?_
  refine l_sld (j := i + 1) C dl_1044 (by omega) (by omega) hN ?_
  refine l_ci C (rnL (n := 1) (As := [.int (iZ (xv xs (i + 1)))]) C (c_X9_sorting C.I (Ml M) σ hX hO (s := (xv xs (i + 1)))  xv_r ) (LkV.mk wl_195 wl_196 wl_197 wl_3 wl_198 ⟨by decide +kernel, by decide +kernel, by decide +kernel⟩) (k := 76) rfl (by decide) rfl rfl dl_1045 (by decide) (by decide) rfl rfl (Nat.le_of_ble_eq_true rfl)) (fun z1 σ1 ⟨hz1, hX1, hF1⟩ => ?_)
  have hM1 := hM.frX hF1
  refine l_pc (pc' := 1048) rfl ?_
  refine l_aload_n C dl_1048 rfl ?_
  refine l_aload_n C dl_1049 rfl ?_
  refine l_iload_n C dl_1050 rfl ?_
  refine l_iconst (z := 1) C dl_1051 rfl ?_
  refine l_iadd C dl_1052 ?_
  refine l_sld (j := i + 1) C dl_1053 (by omega) (by omega) hN ?_
  refine l_ci C (rnL (n := 1) (As := [.int (iZ (xv xs (i + 1)))]) C (c_X10_sorting C.I (Ml M) σ1 hM1 hO (s := (xv xs (i + 1)))  xv_r ) (LkV.mk wl_199 wl_200 wl_201 wl_8 wl_202 ⟨by decide +kernel, by decide +kernel, by decide +kernel⟩) (k := 105) rfl (by decide) rfl rfl dl_1054 (by decide) (by decide) rfl rfl (Nat.le_of_ble_eq_true rfl)) (fun z2 σ2 ⟨hz2, hM2, hF2⟩ => ?_)
  have hO2 := k_sorting hO (xv xs (i + 1))
  have hX2 := hX1.frY hO2 hF2
  subst z1
  subst z2
  refine l_same (tgt := 1369) C dl_1057 (by decide) ?_
  exact K _ _ hX2 hM2 hO2
set_option maxHeartbeats 4000000 in
set_option maxRecDepth 100000 in
theorem law_cost {M : MC} {κ : Kp} {b N : Nat} {xs : Nat → Int32} {Q : State → Prop} {σ : St} (C : CL M κ b N xs) {V : Vw} (hX : XV σ V) (hM : MV σ V) (hO : OKV V) {i : Nat} (hi : i + 6 ≤ N) (hN : N ≤ 3072) (K : ∀ σ' V', XV σ' V' → MV σ' V' → OKV V' → GL M κ Q 1369 [(3, .int (iZ (i : Int))), (0, .ref b), (1, .ref (κ.2.1 76)), (2, .ref (κ.2.1 105))] [] σ') : GL M κ Q 1062 [(3, .int (iZ (i : Int))), (0, .ref b), (1, .ref (κ.2.1 76)), (2, .ref (κ.2.1 105))] [] σ := by
  refine l_aload_n C dl_1062 rfl ?_
  refine l_aload_n C dl_1063 rfl ?_
  refine l_iload_n C dl_1064 rfl ?_
  refine l_iconst (z := 1) C dl_1065 rfl ?_
  refine l_iadd C dl_1066 ?_
  refine l_sld (j := i + 1) C dl_1067 (by omega) (by omega) hN ?_
  refine l_aload_n C dl_1068 rfl ?_
  refine l_pc (pc' := 1069) rfl ?_
  refine l_iload_n C dl_1069 rfl ?_
  refine l_iconst (z := 2) C dl_1070 rfl ?_
  refine l_iadd C dl_1071 ?_
  refine l_sld (j := i + 2) C dl_1072 (by omega) (by omega) hN ?_
  refine l_ci C (rnL (n := 2) (As := [.int (iZ (xv xs (i + 1))), .int (iZ (xv xs (i + 2)))]) C (c_X9_cost C.I (Ml M) σ hX hO (s := (xv xs (i + 1))) (o := (xv xs (i + 2)))  xv_r xv_r ) (LkV.mk wl_203 wl_204 wl_205 wl_3 wl_206 ⟨by decide +kernel, by decide +kernel, by decide +kernel⟩) (k := 76) rfl (by decide) rfl rfl dl_1073 (by decide) (by decide) rfl rfl (Nat.le_of_ble_eq_true rfl)) (fun z1 σ1 ⟨hz1, hX1, hF1⟩ => ?_)
  have hM1 := hM.frX hF1
  refine l_aload_n C dl_1076 rfl ?_
  refine l_aload_n C dl_1077 rfl ?_
  refine l_iload_n C dl_1078 rfl ?_
  refine l_pc (pc' := 1079) rfl ?_
  refine l_iconst (z := 1) C dl_1079 rfl ?_
  refine l_iadd C dl_1080 ?_
  refine l_sld (j := i + 1) C dl_1081 (by omega) (by omega) hN ?_
  refine l_aload_n C dl_1082 rfl ?_
  refine l_iload_n C dl_1083 rfl ?_
  refine l_iconst (z := 2) C dl_1084 rfl ?_
  refine l_iadd C dl_1085 ?_
  refine l_sld (j := i + 2) C dl_1086 (by omega) (by omega) hN ?_
  refine l_pc (pc' := 1087) rfl ?_
  refine l_ci C (rnL (n := 2) (As := [.int (iZ (xv xs (i + 1))), .int (iZ (xv xs (i + 2)))]) C (c_X10_cost C.I (Ml M) σ1 hM1 hO (s := (xv xs (i + 1))) (o := (xv xs (i + 2)))  xv_r xv_r ) (LkV.mk wl_207 wl_208 wl_209 wl_8 wl_210 ⟨by decide +kernel, by decide +kernel, by decide +kernel⟩) (k := 105) rfl (by decide) rfl rfl dl_1087 (by decide) (by decide) rfl rfl (Nat.le_of_ble_eq_true rfl)) (fun z2 σ2 ⟨hz2, hM2, hF2⟩ => ?_)
  have hO2 := k_cost hO (xv xs (i + 1)) (xv xs (i + 2))
  have hX2 := hX1.frY hO2 hF2
  subst z1
  subst z2
  refine l_same (tgt := 1369) C dl_1090 (by decide) ?_
  exact K _ _ hX2 hM2 hO2
set_option maxHeartbeats 4000000 in
set_option maxRecDepth 100000 in
theorem law_plan {M : MC} {κ : Kp} {b N : Nat} {xs : Nat → Int32} {Q : State → Prop} {σ : St} (C : CL M κ b N xs) {V : Vw} (hX : XV σ V) (hM : MV σ V) (hO : OKV V) {i : Nat} (hi : i + 6 ≤ N) (hN : N ≤ 3072) (K : ∀ σ' V', XV σ' V' → MV σ' V' → OKV V' → GL M κ Q 1369 [(3, .int (iZ (i : Int))), (0, .ref b), (1, .ref (κ.2.1 76)), (2, .ref (κ.2.1 105))] [] σ') : GL M κ Q 1095 [(3, .int (iZ (i : Int))), (0, .ref b), (1, .ref (κ.2.1 76)), (2, .ref (κ.2.1 105))] [] σ := by
  refine l_aload_n C dl_1095 rfl ?_
  refine l_aload_n C dl_1096 rfl ?_
  refine l_iload_n C dl_1097 rfl ?_
  refine l_iconst (z := 1) C dl_1098 rfl ?_
  refine l_iadd C dl_1099 ?_
  refine l_sld (j := i + 1) C dl_1100 (by omega) (by omega) hN ?_
  refine l_aload_n C dl_1101 rfl ?_
  refine l_pc (pc' := 1102) rfl ?_
  refine l_iload_n C dl_1102 rfl ?_
  refine l_iconst (z := 2) C dl_1103 rfl ?_
  refine l_iadd C dl_1104 ?_
  refine l_sld (j := i + 2) C dl_1105 (by omega) (by omega) hN ?_
  refine l_ci C (rnL (n := 2) (As := [.int (iZ (xv xs (i + 1))), .int (iZ (xv xs (i + 2)))]) C (c_X9_plan C.I (Ml M) σ hX hO (s := (xv xs (i + 1))) (o := (xv xs (i + 2)))  xv_r xv_r ) (LkV.mk wl_211 wl_212 wl_213 wl_3 wl_214 ⟨by decide +kernel, by decide +kernel, by decide +kernel⟩) (k := 76) rfl (by decide) rfl rfl dl_1106 (by decide) (by decide) rfl rfl (Nat.le_of_ble_eq_true rfl)) (fun z1 σ1 ⟨hz1, hX1, hF1⟩ => ?_)
  have hM1 := hM.frX hF1
  refine l_aload_n C dl_1109 rfl ?_
  refine l_aload_n C dl_1110 rfl ?_
  refine l_iload_n C dl_1111 rfl ?_
  refine l_pc (pc' := 1112) rfl ?_
  refine l_iconst (z := 1) C dl_1112 rfl ?_
  refine l_iadd C dl_1113 ?_
  refine l_sld (j := i + 1) C dl_1114 (by omega) (by omega) hN ?_
  refine l_aload_n C dl_1115 rfl ?_
  refine l_iload_n C dl_1116 rfl ?_
  refine l_iconst (z := 2) C dl_1117 rfl ?_
  refine l_iadd C dl_1118 ?_
  refine l_sld (j := i + 2) C dl_1119 (by omega) (by omega) hN ?_
  refine l_pc (pc' := 1120) rfl ?_
  refine l_ci C (rnL (n := 2) (As := [.int (iZ (xv xs (i + 1))), .int (iZ (xv xs (i + 2)))]) C (c_X10_plan C.I (Ml M) σ1 hM1 hO (s := (xv xs (i + 1))) (o := (xv xs (i + 2)))  xv_r xv_r ) (LkV.mk wl_215 wl_216 wl_217 wl_8 wl_218 ⟨by decide +kernel, by decide +kernel, by decide +kernel⟩) (k := 105) rfl (by decide) rfl rfl dl_1120 (by decide) (by decide) rfl rfl (Nat.le_of_ble_eq_true rfl)) (fun z2 σ2 ⟨hz2, hM2, hF2⟩ => ?_)
  have hO2 := k_plan hO (xv xs (i + 1)) (xv xs (i + 2))
  have hX2 := hX1.frY hO2 hF2
  subst z1
  subst z2
  refine l_same (tgt := 1369) C dl_1123 (by decide) ?_
  exact K _ _ hX2 hM2 hO2
set_option maxHeartbeats 4000000 in
set_option maxRecDepth 100000 in
theorem law_nodeOf {M : MC} {κ : Kp} {b N : Nat} {xs : Nat → Int32} {Q : State → Prop} {σ : St} (C : CL M κ b N xs) {V : Vw} (hX : XV σ V) (hM : MV σ V) (hO : OKV V) {i : Nat} (hi : i + 6 ≤ N) (hN : N ≤ 3072) (K : ∀ σ' V', XV σ' V' → MV σ' V' → OKV V' → GL M κ Q 1369 [(3, .int (iZ (i : Int))), (0, .ref b), (1, .ref (κ.2.1 76)), (2, .ref (κ.2.1 105))] [] σ') : GL M κ Q 1128 [(3, .int (iZ (i : Int))), (0, .ref b), (1, .ref (κ.2.1 76)), (2, .ref (κ.2.1 105))] [] σ := by
  refine l_aload_n C dl_1128 rfl ?_
  refine l_aload_n C dl_1129 rfl ?_
  refine l_iload_n C dl_1130 rfl ?_
  refine l_iconst (z := 1) C dl_1131 rfl ?_
  refine l_iadd C dl_1132 ?_
  refine l_sld (j := i + 1) C dl_1133 (by omega) (by omega) hN ?_
  refine l_aload_n C dl_1134 rfl ?_
  refine l_pc (pc' := 1135) rfl ?_
  refine l_iload_n C dl_1135 rfl ?_
  refine l_iconst (z := 2) C dl_1136 rfl ?_
  refine l_iadd C dl_1137 ?_
  refine l_sld (j := i + 2) C dl_1138 (by omega) (by omega) hN ?_
  refine l_ci C (rnL (n := 2) (As := [.int (iZ (xv xs (i + 1))), .int (iZ (xv xs (i + 2)))]) C (c_X9_nodeOf C.I (Ml M) σ hX hO (i := (xv xs (i + 1))) (a := (xv xs (i + 2)))  xv_r xv_r ) (LkV.mk wl_219 wl_220 wl_221 wl_3 wl_222 ⟨by decide +kernel, by decide +kernel, by decide +kernel⟩) (k := 76) rfl (by decide) rfl rfl dl_1139 (by decide) (by decide) rfl rfl (Nat.le_of_ble_eq_true rfl)) (fun z1 σ1 ⟨hz1, hX1, hF1⟩ => ?_)
  have hM1 := hM.frX hF1
  refine l_aload_n C dl_1142 rfl ?_
  refine l_aload_n C dl_1143 rfl ?_
  refine l_iload_n C dl_1144 rfl ?_
  refine l_pc (pc' := 1145) rfl ?_
  refine l_iconst (z := 1) C dl_1145 rfl ?_
  refine l_iadd C dl_1146 ?_
  refine l_sld (j := i + 1) C dl_1147 (by omega) (by omega) hN ?_
  refine l_aload_n C dl_1148 rfl ?_
  refine l_iload_n C dl_1149 rfl ?_
  refine l_iconst (z := 2) C dl_1150 rfl ?_
  refine l_iadd C dl_1151 ?_
  refine l_sld (j := i + 2) C dl_1152 (by omega) (by omega) hN ?_
  refine l_pc (pc' := 1153) rfl ?_
  refine l_ci C (rnL (n := 2) (As := [.int (iZ (xv xs (i + 1))), .int (iZ (xv xs (i + 2)))]) C (c_X10_nodeOf C.I (Ml M) σ1 hM1 hO (i := (xv xs (i + 1))) (a := (xv xs (i + 2)))  xv_r xv_r ) (LkV.mk wl_223 wl_224 wl_225 wl_8 wl_226 ⟨by decide +kernel, by decide +kernel, by decide +kernel⟩) (k := 105) rfl (by decide) rfl rfl dl_1153 (by decide) (by decide) rfl rfl (Nat.le_of_ble_eq_true rfl)) (fun z2 σ2 ⟨hz2, hM2, hF2⟩ => ?_)
  have hO2 := k_nodeOf hO (xv xs (i + 1)) (xv xs (i + 2))
  have hX2 := hX1.frY hO2 hF2
  subst z1
  subst z2
  refine l_same (tgt := 1369) C dl_1156 (by decide) ?_
  exact K _ _ hX2 hM2 hO2
set_option maxHeartbeats 4000000 in
set_option maxRecDepth 100000 in
theorem law_really {M : MC} {κ : Kp} {b N : Nat} {xs : Nat → Int32} {Q : State → Prop} {σ : St} (C : CL M κ b N xs) {V : Vw} (hX : XV σ V) (hM : MV σ V) (hO : OKV V) {i : Nat} (hi : i + 6 ≤ N) (hN : N ≤ 3072) (K : ∀ σ' V', XV σ' V' → MV σ' V' → OKV V' → GL M κ Q 1369 [(3, .int (iZ (i : Int))), (0, .ref b), (1, .ref (κ.2.1 76)), (2, .ref (κ.2.1 105))] [] σ') : GL M κ Q 1161 [(3, .int (iZ (i : Int))), (0, .ref b), (1, .ref (κ.2.1 76)), (2, .ref (κ.2.1 105))] [] σ := by
  refine l_aload_n C dl_1161 rfl ?_
  refine l_aload_n C dl_1162 rfl ?_
  refine l_iload_n C dl_1163 rfl ?_
  refine l_iconst (z := 1) C dl_1164 rfl ?_
  refine l_iadd C dl_1165 ?_
  refine l_sld (j := i + 1) C dl_1166 (by omega) (by omega) hN ?_
  refine l_ci C (rnL (n := 1) (As := [.int (iZ (xv xs (i + 1)))]) C (c_X9_really C.I (Ml M) σ hX hO (s := (xv xs (i + 1)))  xv_r ) (LkV.mk wl_227 wl_228 wl_229 wl_3 wl_230 ⟨by decide +kernel, by decide +kernel, by decide +kernel⟩) (k := 76) rfl (by decide) rfl rfl dl_1167 (by decide) (by decide) rfl rfl (Nat.le_of_ble_eq_true rfl)) (fun z1 σ1 ⟨hz1, hX1, hF1⟩ => ?_)
  have hM1 := hM.frX hF1
  refine l_pc (pc' := 1170) rfl ?_
  refine l_aload_n C dl_1170 rfl ?_
  refine l_aload_n C dl_1171 rfl ?_
  refine l_iload_n C dl_1172 rfl ?_
  refine l_iconst (z := 1) C dl_1173 rfl ?_
  refine l_iadd C dl_1174 ?_
  refine l_sld (j := i + 1) C dl_1175 (by omega) (by omega) hN ?_
  refine l_ci C (rnL (n := 1) (As := [.int (iZ (xv xs (i + 1)))]) C (c_X10_really C.I (Ml M) σ1 hM1 hO (s := (xv xs (i + 1)))  xv_r ) (LkV.mk wl_231 wl_232 wl_233 wl_8 wl_234 ⟨by decide +kernel, by decide +kernel, by decide +kernel⟩) (k := 105) rfl (by decide) rfl rfl dl_1176 (by decide) (by decide) rfl rfl (Nat.le_of_ble_eq_true rfl)) (fun z2 σ2 ⟨hz2, hM2, hF2⟩ => ?_)
  have hO2 := k_really hO (xv xs (i + 1))
  have hX2 := hX1.frY hO2 hF2
  subst z1
  subst z2
  refine l_same (tgt := 1369) C dl_1179 (by decide) ?_
  exact K _ _ hX2 hM2 hO2
set_option maxHeartbeats 4000000 in
set_option maxRecDepth 100000 in
theorem law_sum {M : MC} {κ : Kp} {b N : Nat} {xs : Nat → Int32} {Q : State → Prop} {σ : St} (C : CL M κ b N xs) {V : Vw} (hX : XV σ V) (hM : MV σ V) (hO : OKV V) {i : Nat} (hi : i + 6 ≤ N) (hN : N ≤ 3072) (K : ∀ σ' V', XV σ' V' → MV σ' V' → OKV V' → GL M κ Q 1369 [(3, .int (iZ (i : Int))), (0, .ref b), (1, .ref (κ.2.1 76)), (2, .ref (κ.2.1 105))] [] σ') : GL M κ Q 1184 [(3, .int (iZ (i : Int))), (0, .ref b), (1, .ref (κ.2.1 76)), (2, .ref (κ.2.1 105))] [] σ := by
  refine l_aload_n C dl_1184 rfl ?_
  refine l_aload_n C dl_1185 rfl ?_
  refine l_iload_n C dl_1186 rfl ?_
  refine l_iconst (z := 1) C dl_1187 rfl ?_
  refine l_iadd C dl_1188 ?_
  refine l_sld (j := i + 1) C dl_1189 (by omega) (by omega) hN ?_
  refine l_aload_n C dl_1190 rfl ?_
  refine l_pc (pc' := 1191) rfl ?_
  refine l_iload_n C dl_1191 rfl ?_
  refine l_iconst (z := 2) C dl_1192 rfl ?_
  refine l_iadd C dl_1193 ?_
  refine l_sld (j := i + 2) C dl_1194 (by omega) (by omega) hN ?_
  refine l_cl C (rnL (n := 2) (As := [.int (iZ (xv xs (i + 1))), .int (iZ (xv xs (i + 2)))]) C (c_X9_sum C.I (Ml M) σ hX hO (s := (xv xs (i + 1))) (p := (xv xs (i + 2)))  xv_r xv_r ) (LkV.mk wl_235 wl_236 wl_237 wl_3 wl_238 ⟨by decide +kernel, by decide +kernel, by decide +kernel⟩) (k := 76) rfl (by decide) rfl rfl dl_1195 (by decide) (by decide) rfl rfl (Nat.le_of_ble_eq_true rfl)) (fun z1 σ1 ⟨hz1, hX1, hF1⟩ => ?_)
  have hM1 := hM.frX hF1
  refine l_aload_n C dl_1198 rfl ?_
  refine l_aload_n C dl_1199 rfl ?_
  refine l_iload_n C dl_1200 rfl ?_
  refine l_pc (pc' := 1201) rfl ?_
  refine l_iconst (z := 1) C dl_1201 rfl ?_
  refine l_iadd C dl_1202 ?_
  refine l_sld (j := i + 1) C dl_1203 (by omega) (by omega) hN ?_
  refine l_aload_n C dl_1204 rfl ?_
  refine l_iload_n C dl_1205 rfl ?_
  refine l_iconst (z := 2) C dl_1206 rfl ?_
  refine l_iadd C dl_1207 ?_
  refine l_sld (j := i + 2) C dl_1208 (by omega) (by omega) hN ?_
  refine l_pc (pc' := 1209) rfl ?_
  refine l_cl C (rnL (n := 2) (As := [.int (iZ (xv xs (i + 1))), .int (iZ (xv xs (i + 2)))]) C (c_X10_sum C.I (Ml M) σ1 hM1 hO (s := (xv xs (i + 1))) (p := (xv xs (i + 2)))  xv_r xv_r ) (LkV.mk wl_239 wl_240 wl_241 wl_8 wl_242 ⟨by decide +kernel, by decide +kernel, by decide +kernel⟩) (k := 105) rfl (by decide) rfl rfl dl_1209 (by decide) (by decide) rfl rfl (Nat.le_of_ble_eq_true rfl)) (fun z2 σ2 ⟨hz2, hM2, hF2⟩ => ?_)
  have hO2 := k_sum hO (xv xs (i + 1)) (xv xs (i + 2))
  have hX2 := hX1.frY hO2 hF2
  subst z1
  subst z2
  refine l_lcmp C dl_1212 ?_
  refine l_ifr_eq (tgt := 1369) C dl_1213 (by decide) (fun _ => ?_) (fun e => absurd (lg_cmp_self _) e)
  exact K _ _ hX2 hM2 hO2
set_option maxHeartbeats 4000000 in
set_option maxRecDepth 100000 in
theorem law_wrongBy {M : MC} {κ : Kp} {b N : Nat} {xs : Nat → Int32} {Q : State → Prop} {σ : St} (C : CL M κ b N xs) {V : Vw} (hX : XV σ V) (hM : MV σ V) (hO : OKV V) {i : Nat} (hi : i + 6 ≤ N) (hN : N ≤ 3072) (K : ∀ σ' V', XV σ' V' → MV σ' V' → OKV V' → GL M κ Q 1369 [(3, .int (iZ (i : Int))), (0, .ref b), (1, .ref (κ.2.1 76)), (2, .ref (κ.2.1 105))] [] σ') : GL M κ Q 1218 [(3, .int (iZ (i : Int))), (0, .ref b), (1, .ref (κ.2.1 76)), (2, .ref (κ.2.1 105))] [] σ := by
  refine l_aload_n C dl_1218 rfl ?_
  refine l_aload_n C dl_1219 rfl ?_
  refine l_iload_n C dl_1220 rfl ?_
  refine l_iconst (z := 1) C dl_1221 rfl ?_
  refine l_iadd C dl_1222 ?_
  refine l_sld (j := i + 1) C dl_1223 (by omega) (by omega) hN ?_
  refine l_ci C (rnL (n := 1) (As := [.int (iZ (xv xs (i + 1)))]) C (c_X9_wrongBy C.I (Ml M) σ hX hO (s := (xv xs (i + 1)))  xv_r ) (LkV.mk wl_243 wl_244 wl_245 wl_3 wl_246 ⟨by decide +kernel, by decide +kernel, by decide +kernel⟩) (k := 76) rfl (by decide) rfl rfl dl_1224 (by decide) (by decide) rfl rfl (Nat.le_of_ble_eq_true rfl)) (fun z1 σ1 ⟨hz1, hX1, hF1⟩ => ?_)
  have hM1 := hM.frX hF1
  refine l_pc (pc' := 1227) rfl ?_
  refine l_aload_n C dl_1227 rfl ?_
  refine l_aload_n C dl_1228 rfl ?_
  refine l_iload_n C dl_1229 rfl ?_
  refine l_iconst (z := 1) C dl_1230 rfl ?_
  refine l_iadd C dl_1231 ?_
  refine l_sld (j := i + 1) C dl_1232 (by omega) (by omega) hN ?_
  refine l_ci C (rnL (n := 1) (As := [.int (iZ (xv xs (i + 1)))]) C (c_X10_wrongBy C.I (Ml M) σ1 hM1 hO (s := (xv xs (i + 1)))  xv_r ) (LkV.mk wl_247 wl_248 wl_249 wl_8 wl_250 ⟨by decide +kernel, by decide +kernel, by decide +kernel⟩) (k := 105) rfl (by decide) rfl rfl dl_1233 (by decide) (by decide) rfl rfl (Nat.le_of_ble_eq_true rfl)) (fun z2 σ2 ⟨hz2, hM2, hF2⟩ => ?_)
  have hO2 := k_wrongBy hO (xv xs (i + 1))
  have hX2 := hX1.frY hO2 hF2
  subst z1
  subst z2
  refine l_same (tgt := 1369) C dl_1236 (by decide) ?_
  exact K _ _ hX2 hM2 hO2
set_option maxHeartbeats 4000000 in
set_option maxRecDepth 100000 in
theorem law_judge {M : MC} {κ : Kp} {b N : Nat} {xs : Nat → Int32} {Q : State → Prop} {σ : St} (C : CL M κ b N xs) {V : Vw} (hX : XV σ V) (hM : MV σ V) (hO : OKV V) {i : Nat} (hi : i + 6 ≤ N) (hN : N ≤ 3072) (K : ∀ σ' V', XV σ' V' → MV σ' V' → OKV V' → GL M κ Q 1369 [(3, .int (iZ (i : Int))), (0, .ref b), (1, .ref (κ.2.1 76)), (2, .ref (κ.2.1 105))] [] σ') : GL M κ Q 1241 [(3, .int (iZ (i : Int))), (0, .ref b), (1, .ref (κ.2.1 76)), (2, .ref (κ.2.1 105))] [] σ := by
  refine l_aload_n C dl_1241 rfl ?_
  refine l_aload_n C dl_1242 rfl ?_
  refine l_iload_n C dl_1243 rfl ?_
  refine l_iconst (z := 1) C dl_1244 rfl ?_
  refine l_iadd C dl_1245 ?_
  refine l_sld (j := i + 1) C dl_1246 (by omega) (by omega) hN ?_
  refine l_aload_n C dl_1247 rfl ?_
  refine l_pc (pc' := 1248) rfl ?_
  refine l_iload_n C dl_1248 rfl ?_
  refine l_iconst (z := 2) C dl_1249 rfl ?_
  refine l_iadd C dl_1250 ?_
  refine l_sld (j := i + 2) C dl_1251 (by omega) (by omega) hN ?_
  refine l_ci C (rnL (n := 2) (As := [.int (iZ (xv xs (i + 1))), .int (iZ (xv xs (i + 2)))]) C (c_X9_judge C.I (Ml M) σ hX hO (x := (xv xs (i + 1))) (n := (xv xs (i + 2)))  xv_r xv_r ) (LkV.mk wl_251 wl_252 wl_253 wl_3 wl_254 ⟨by decide +kernel, by decide +kernel, by decide +kernel⟩) (k := 76) rfl (by decide) rfl rfl dl_1252 (by decide) (by decide) rfl rfl (Nat.le_of_ble_eq_true rfl)) (fun z1 σ1 ⟨hz1, hX1, hF1⟩ => ?_)
  have hM1 := hM.frX hF1
  refine l_aload_n C dl_1255 rfl ?_
  refine l_aload_n C dl_1256 rfl ?_
  refine l_iload_n C dl_1257 rfl ?_
  refine l_pc (pc' := 1258) rfl ?_
  refine l_iconst (z := 1) C dl_1258 rfl ?_
  refine l_iadd C dl_1259 ?_
  refine l_sld (j := i + 1) C dl_1260 (by omega) (by omega) hN ?_
  refine l_aload_n C dl_1261 rfl ?_
  refine l_iload_n C dl_1262 rfl ?_
  refine l_iconst (z := 2) C dl_1263 rfl ?_
  refine l_iadd C dl_1264 ?_
  refine l_sld (j := i + 2) C dl_1265 (by omega) (by omega) hN ?_
  refine l_pc (pc' := 1266) rfl ?_
  refine l_ci C (rnL (n := 2) (As := [.int (iZ (xv xs (i + 1))), .int (iZ (xv xs (i + 2)))]) C (c_X10_judge C.I (Ml M) σ1 hM1 hO (x := (xv xs (i + 1))) (n := (xv xs (i + 2)))  xv_r xv_r ) (LkV.mk wl_255 wl_256 wl_257 wl_8 wl_258 ⟨by decide +kernel, by decide +kernel, by decide +kernel⟩) (k := 105) rfl (by decide) rfl rfl dl_1266 (by decide) (by decide) rfl rfl (Nat.le_of_ble_eq_true rfl)) (fun z2 σ2 ⟨hz2, hM2, hF2⟩ => ?_)
  have hO2 := k_judge hO (xv xs (i + 1)) (xv xs (i + 2))
  have hX2 := hX1.frY hO2 hF2
  subst z1
  subst z2
  refine l_same (tgt := 1369) C dl_1269 (by decide) ?_
  exact K _ _ hX2 hM2 hO2
set_option maxHeartbeats 4000000 in
set_option maxRecDepth 100000 in
theorem law_drawn {M : MC} {κ : Kp} {b N : Nat} {xs : Nat → Int32} {Q : State → Prop} {σ : St} (C : CL M κ b N xs) {V : Vw} (hX : XV σ V) (hM : MV σ V) (hO : OKV V) {i : Nat} (hi : i + 6 ≤ N) (hN : N ≤ 3072) (K : ∀ σ' V', XV σ' V' → MV σ' V' → OKV V' → GL M κ Q 1369 [(3, .int (iZ (i : Int))), (0, .ref b), (1, .ref (κ.2.1 76)), (2, .ref (κ.2.1 105))] [] σ') : GL M κ Q 1274 [(3, .int (iZ (i : Int))), (0, .ref b), (1, .ref (κ.2.1 76)), (2, .ref (κ.2.1 105))] [] σ := by
  refine l_aload_n C dl_1274 rfl ?_
  refine l_aload_n C dl_1275 rfl ?_
  refine l_iload_n C dl_1276 rfl ?_
  refine l_iconst (z := 1) C dl_1277 rfl ?_
  refine l_iadd C dl_1278 ?_
  refine l_sld (j := i + 1) C dl_1279 (by omega) (by omega) hN ?_
  refine l_ci C (rnL (n := 1) (As := [.int (iZ (xv xs (i + 1)))]) C (c_X9_drawn C.I (Ml M) σ hX hO (n := (xv xs (i + 1)))  xv_r ) (LkV.mk wl_259 wl_260 wl_261 wl_3 wl_262 ⟨by decide +kernel, by decide +kernel, by decide +kernel⟩) (k := 76) rfl (by decide) rfl rfl dl_1280 (by decide) (by decide) rfl rfl (Nat.le_of_ble_eq_true rfl)) (fun z1 σ1 ⟨hz1, hX1, hF1⟩ => ?_)
  have hM1 := hM.frX hF1
  refine l_pc (pc' := 1283) rfl ?_
  refine l_aload_n C dl_1283 rfl ?_
  refine l_aload_n C dl_1284 rfl ?_
  refine l_iload_n C dl_1285 rfl ?_
  refine l_iconst (z := 1) C dl_1286 rfl ?_
  refine l_iadd C dl_1287 ?_
  refine l_sld (j := i + 1) C dl_1288 (by omega) (by omega) hN ?_
  refine l_ci C (rnL (n := 1) (As := [.int (iZ (xv xs (i + 1)))]) C (c_X10_drawn C.I (Ml M) σ1 hM1 hO (n := (xv xs (i + 1)))  xv_r ) (LkV.mk wl_263 wl_264 wl_265 wl_8 wl_266 ⟨by decide +kernel, by decide +kernel, by decide +kernel⟩) (k := 105) rfl (by decide) rfl rfl dl_1289 (by decide) (by decide) rfl rfl (Nat.le_of_ble_eq_true rfl)) (fun z2 σ2 ⟨hz2, hM2, hF2⟩ => ?_)
  have hO2 := k_drawn hO (xv xs (i + 1))
  have hX2 := hX1.frY hO2 hF2
  subst z1
  subst z2
  refine l_same (tgt := 1369) C dl_1292 (by decide) ?_
  exact K _ _ hX2 hM2 hO2
set_option maxHeartbeats 4000000 in
set_option maxRecDepth 100000 in
theorem law_seed {M : MC} {κ : Kp} {b N : Nat} {xs : Nat → Int32} {Q : State → Prop} {σ : St} (C : CL M κ b N xs) {V : Vw} (hX : XV σ V) (hM : MV σ V) (hO : OKV V) {i : Nat} (hi : i + 6 ≤ N) (hN : N ≤ 3072) (K : ∀ σ' V', XV σ' V' → MV σ' V' → OKV V' → GL M κ Q 1369 [(3, .int (iZ (i : Int))), (0, .ref b), (1, .ref (κ.2.1 76)), (2, .ref (κ.2.1 105))] [] σ') : GL M κ Q 1297 [(3, .int (iZ (i : Int))), (0, .ref b), (1, .ref (κ.2.1 76)), (2, .ref (κ.2.1 105))] [] σ := by
  refine l_aload_n C dl_1297 rfl ?_
  refine l_aload_n C dl_1298 rfl ?_
  refine l_iload_n C dl_1299 rfl ?_
  refine l_iconst (z := 1) C dl_1300 rfl ?_
  refine l_iadd C dl_1301 ?_
  refine l_sld (j := i + 1) C dl_1302 (by omega) (by omega) hN ?_
  refine l_ci C (rnL (n := 1) (As := [.int (iZ (xv xs (i + 1)))]) C (c_X9_seed C.I (Ml M) σ hX hO (v := (xv xs (i + 1)))  ) (LkV.mk wl_267 wl_268 wl_269 wl_3 wl_270 ⟨by decide +kernel, by decide +kernel, by decide +kernel⟩) (k := 76) rfl (by decide) rfl rfl dl_1303 (by decide) (by decide) rfl rfl (Nat.le_of_ble_eq_true rfl)) (fun z1 σ1 ⟨hz1, hX1, hF1⟩ => ?_)
  have hM1 := hM.frX hF1
  refine l_pc (pc' := 1306) rfl ?_
  refine l_aload_n C dl_1306 rfl ?_
  refine l_aload_n C dl_1307 rfl ?_
  refine l_iload_n C dl_1308 rfl ?_
  refine l_iconst (z := 1) C dl_1309 rfl ?_
  refine l_iadd C dl_1310 ?_
  refine l_sld (j := i + 1) C dl_1311 (by omega) (by omega) hN ?_
  refine l_ci C (rnL (n := 1) (As := [.int (iZ (xv xs (i + 1)))]) C (c_X10_seed C.I (Ml M) σ1 hM1 hO (v := (xv xs (i + 1)))  ) (LkV.mk wl_271 wl_272 wl_273 wl_8 wl_274 ⟨by decide +kernel, by decide +kernel, by decide +kernel⟩) (k := 105) rfl (by decide) rfl rfl dl_1312 (by decide) (by decide) rfl rfl (Nat.le_of_ble_eq_true rfl)) (fun z2 σ2 ⟨hz2, hM2, hF2⟩ => ?_)
  have hO2 := k_seed hO (xv xs (i + 1))
  have hX2 := hX1.frY hO2 hF2
  subst z1
  subst z2
  refine l_same (tgt := 1369) C dl_1315 (by decide) ?_
  exact K _ _ hX2 hM2 hO2
set_option maxHeartbeats 4000000 in
set_option maxRecDepth 100000 in
theorem law_image {M : MC} {κ : Kp} {b N : Nat} {xs : Nat → Int32} {Q : State → Prop} {σ : St} (C : CL M κ b N xs) {V : Vw} (hX : XV σ V) (hM : MV σ V) (hO : OKV V) {i : Nat} (hi : i + 6 ≤ N) (hN : N ≤ 3072) (K : ∀ σ' V', XV σ' V' → MV σ' V' → OKV V' → GL M κ Q 1369 [(3, .int (iZ (i : Int))), (0, .ref b), (1, .ref (κ.2.1 76)), (2, .ref (κ.2.1 105))] [] σ') : GL M κ Q 1320 [(3, .int (iZ (i : Int))), (0, .ref b), (1, .ref (κ.2.1 76)), (2, .ref (κ.2.1 105))] [] σ := by
  refine l_aload_n C dl_1320 rfl ?_
  refine l_ci C (rnL (n := 0) (As := []) C (c_X9_image C.I (Ml M) σ hX hO   ) (LkV.mk wl_275 wl_276 wl_277 wl_3 wl_278 ⟨by decide +kernel, by decide +kernel, by decide +kernel⟩) (k := 76) rfl (by decide) rfl rfl dl_1321 (by decide) (by decide) rfl rfl (Nat.le_of_ble_eq_true rfl)) (fun z1 σ1 ⟨hz1, hX1, hF1⟩ => ?_)
  have hM1 := hM.frX hF1
  refine l_aload_n C dl_1324 rfl ?_
  refine l_ci C (rnL (n := 0) (As := []) C (c_X10_image C.I (Ml M) σ1 hM1 hO   ) (LkV.mk wl_279 wl_280 wl_281 wl_8 wl_282 ⟨by decide +kernel, by decide +kernel, by decide +kernel⟩) (k := 105) rfl (by decide) rfl rfl dl_1325 (by decide) (by decide) rfl rfl (Nat.le_of_ble_eq_true rfl)) (fun z2 σ2 ⟨hz2, hM2, hF2⟩ => ?_)
  have hO2 := k_image hO
  have hX2 := hX1.frY hO2 hF2
  subst z1
  subst z2
  refine l_same (tgt := 1369) C dl_1328 (by decide) ?_
  exact K _ _ hX2 hM2 hO2
set_option maxHeartbeats 4000000 in
set_option maxRecDepth 100000 in
theorem law_restore {M : MC} {κ : Kp} {b N : Nat} {xs : Nat → Int32} {Q : State → Prop} {σ : St} (C : CL M κ b N xs) {V : Vw} (hX : XV σ V) (hM : MV σ V) (hO : OKV V) {i : Nat} (hi : i + 6 ≤ N) (hN : N ≤ 3072) (K : ∀ σ' V', XV σ' V' → MV σ' V' → OKV V' → GL M κ Q 1369 [(3, .int (iZ (i : Int))), (0, .ref b), (1, .ref (κ.2.1 76)), (2, .ref (κ.2.1 105))] [] σ') : GL M κ Q 1333 [(3, .int (iZ (i : Int))), (0, .ref b), (1, .ref (κ.2.1 76)), (2, .ref (κ.2.1 105))] [] σ := by
  refine l_aload_n C dl_1333 rfl ?_
  refine l_ci C (rnL (n := 0) (As := []) C (c_X9_restore C.I (Ml M) σ hX hO   ) (LkV.mk wl_283 wl_284 wl_285 wl_3 wl_286 ⟨by decide +kernel, by decide +kernel, by decide +kernel⟩) (k := 76) rfl (by decide) rfl rfl dl_1334 (by decide) (by decide) rfl rfl (Nat.le_of_ble_eq_true rfl)) (fun z1 σ1 ⟨hz1, hX1, hF1⟩ => ?_)
  have hM1 := hM.frX hF1
  refine l_aload_n C dl_1337 rfl ?_
  refine l_ci C (rnL (n := 0) (As := []) C (c_X10_restore C.I (Ml M) σ1 hM1 hO   ) (LkV.mk wl_287 wl_288 wl_289 wl_8 wl_290 ⟨by decide +kernel, by decide +kernel, by decide +kernel⟩) (k := 105) rfl (by decide) rfl rfl dl_1338 (by decide) (by decide) rfl rfl (Nat.le_of_ble_eq_true rfl)) (fun z2 σ2 ⟨hz2, hM2, hF2⟩ => ?_)
  have hO2 := k_restore hO
  have hX2 := hX1.frY hO2 hF2
  subst z1
  subst z2
  refine l_same (tgt := 1369) C dl_1341 (by decide) ?_
  exact K _ _ hX2 hM2 hO2
set_option maxHeartbeats 4000000 in
set_option maxRecDepth 100000 in
theorem law_status {M : MC} {κ : Kp} {b N : Nat} {xs : Nat → Int32} {Q : State → Prop} {σ : St} (C : CL M κ b N xs) {V : Vw} (hX : XV σ V) (hM : MV σ V) (hO : OKV V) {i : Nat} (hi : i + 6 ≤ N) (hN : N ≤ 3072) (K : ∀ σ' V', XV σ' V' → MV σ' V' → OKV V' → GL M κ Q 1369 [(3, .int (iZ (i : Int))), (0, .ref b), (1, .ref (κ.2.1 76)), (2, .ref (κ.2.1 105))] [] σ') : GL M κ Q 1346 [(3, .int (iZ (i : Int))), (0, .ref b), (1, .ref (κ.2.1 76)), (2, .ref (κ.2.1 105))] [] σ := by
  refine l_aload_n C dl_1346 rfl ?_
  refine l_aload_n C dl_1347 rfl ?_
  refine l_iload_n C dl_1348 rfl ?_
  refine l_iconst (z := 1) C dl_1349 rfl ?_
  refine l_iadd C dl_1350 ?_
  refine l_sld (j := i + 1) C dl_1351 (by omega) (by omega) hN ?_
  refine l_ci C (rnL (n := 1) (As := [.int (iZ (xv xs (i + 1)))]) C (c_X9_status C.I (Ml M) σ hX hO (a := (xv xs (i + 1)))  xv_r ) (LkV.mk wl_291 wl_292 wl_293 wl_3 wl_294 ⟨by decide +kernel, by decide +kernel, by decide +kernel⟩) (k := 76) rfl (by decide) rfl rfl dl_1352 (by decide) (by decide) rfl rfl (Nat.le_of_ble_eq_true rfl)) (fun z1 σ1 ⟨hz1, hX1, hF1⟩ => ?_)
  have hM1 := hM.frX hF1
  refine l_pc (pc' := 1355) rfl ?_
  refine l_aload_n C dl_1355 rfl ?_
  refine l_aload_n C dl_1356 rfl ?_
  refine l_iload_n C dl_1357 rfl ?_
  refine l_iconst (z := 1) C dl_1358 rfl ?_
  refine l_iadd C dl_1359 ?_
  refine l_sld (j := i + 1) C dl_1360 (by omega) (by omega) hN ?_
  refine l_ci C (rnL (n := 1) (As := [.int (iZ (xv xs (i + 1)))]) C (c_X10_status C.I (Ml M) σ1 hM1 hO (a := (xv xs (i + 1)))  xv_r ) (LkV.mk wl_295 wl_296 wl_297 wl_8 wl_298 ⟨by decide +kernel, by decide +kernel, by decide +kernel⟩) (k := 105) rfl (by decide) rfl rfl dl_1361 (by decide) (by decide) rfl rfl (Nat.le_of_ble_eq_true rfl)) (fun z2 σ2 ⟨hz2, hM2, hF2⟩ => ?_)
  have hX2 := hX1.frY hO hF2
  subst z1
  subst z2
  refine l_same (tgt := 1369) C dl_1364 (by decide) ?_
  exact K _ _ hX2 hM2 hO

/-! CONSTRUCTORS: the model -/
/-- an int into an array -/
theorem n_iast {M : MC} {D : va_G} {f : Nat → ClassId} {A : Nat → Prop} {own : String} {cc : ByteArray} {nL : Nat} {R : Room} {Q : State → Prop} {pc : Nat} {L : List (Nat × Value)} {st : List Value} {ws : va_W} {nc ns : Nat} (C : Cn M D f A own cc nL R) {a n j : Nat} {z v : Int} {g g' : Nat → Int32} {wa wb wr : va_W} (hd : decode cc pc = .ok (.iastore, 1)) (hw : ws = wa ++ (a, .inl (f 0, n, .inl g)) :: wb) (hz : z = (j : Int)) (hj : j < n) (hn : n < 2147483648) (hg : upd g j (iZ v) = g') (he : wa ++ (a, .inl (f 0, n, .inl g')) :: wb = wr)
    (kk : GN M D A nL Q (pc + 1) L st wr nc ns) : GN M D A nL Q pc L (.int (iZ v) :: .int (iZ z) :: .ref a :: st) ws nc ns := by
  intro H locs ls hP hD hS hl
  subst he
  subst hz
  have hq0 : ws[wa.length]? = some (a, .inl (f 0, n, .inl g)) := by rw [hw]; simp
  have hset : ∀ e : va_E, ws.set wa.length (a, e) = wa ++ (a, e) :: wb := fun e => by rw [hw]; simp
  refine va_iast C.1 C.2.1 C.K hP hD hS wa.length 0 hq0 rfl (iZ_in rfl hj hn) hd (fun H1 locs1 x y z => ?_)
  rw [iZ_clamp (by omega), hg, hset] at x y
  exact kk H1 locs1 ls x y z hl
theorem ha_i (n : Nat) : ∀ cA : ClassId, vp_cell cA (n, .inl (fun _ => iZ 0)) = arrV cA n (fun _ => defaultValue .int) := fun _ => rfl
theorem ha_f (n : Nat) : ∀ cA : ClassId, vp_cell cA (n, .inr (.inr (.inl (fun _ => 0)))) = arrV cA n (fun _ => defaultValue .float) := fun _ => rfl
theorem ha_l (n : Nat) : ∀ cA : ClassId, vp_cell cA (n, .inr (.inl (fun _ => 0))) = arrV cA n (fun _ => defaultValue .long) := fun _ => rfl
section CNH
variable {M : MC} {D : va_G} {f : Nat → ClassId} {A : Nat → Prop} {own : String} {cc : ByteArray} {nL : Nat} {R : Room} {Q : State → Prop} {pc : Nat} {L : List (Nat × Value)} {st : List Value} {x0 : Nat × va_E} {r : va_W} {nc ns : Nat}
theorem n_newaH (C : Cn M D f A own cc nL R) {atype : ArrayType} {ty : FieldType} {t0 N : Nat} {z : Int} {a0 : vp_A} (hd : decode cc pc = .ok (.newarray atype, 2)) (hty : newarray.typeOf atype = ty) (w : Cond.arrayClass ty ∈ lw_g) (ht : (tyN f)[t0]? = some (f t0, ty)) (ha : ∀ cA : ClassId, vp_cell cA a0 = arrV cA N (fun _ => defaultValue ty)) (hz : z = (N : Int)) (hN : N < 2147483648) (hb : N * componentBytes ty ≤ 536870912) (hc : nc + 1 ≤ R.cells) (hs : ns + N ≤ R.slots)
    (kk : ∀ q : Nat, GN M D A nL Q (pc + 2) L (.ref q :: st) (x0 :: (r ++ [(q, .inl (f t0, a0))])) (nc + 1) (ns + N)) : GN M D A nL Q pc L (.int (iZ z) :: st) (x0 :: r) nc ns := n_newa C hd hty w ht ha hz hN hb hc hs kk
theorem n_putH (C : Cn M D f A own cc nL R) {a ci N i j : Nat} {T : u_T} {ty0 : Nat → FieldType} {ty : FieldType} {v : Value} {fs fs2 : List Value} (hd : decode cc pc = .ok (.putfield i, 3)) (hcl : vwCl[ci]? = some (own, T, N)) (hin : ∀ w ∈ u_ws own T N, w ∈ lw_g) (hj : j < N) (hlink : Cond.fieldLink own i (T j).1 (T j).2.1 (T j).2.2.1 ∈ lw_g) (hty : ∀ k, k < N → parseFieldDescriptor (T k).2.2.1 = some (ty0 k)) (hnm : ∀ a, a < N → ∀ b, b < N → a ≠ b → (T a).2.1 ≠ (T b).2.1) (hfin : (T j).2.2.2 = false) (hpt : parseFieldDescriptor (T j).2.2.1 = some ty) (hn : narrow ty v = v) (hfit : fits ty v = true) (hl0 : j < fs.length) (he : fs.set j v = fs2)
    (kk : GN M D A nL Q (pc + 3) L st ((a, .inr (ci, fs2)) :: r) nc ns) : GN M D A nL Q pc L (v :: .ref a :: st) ((a, .inr (ci, fs)) :: r) nc ns := by
  subst he
  exact n_put C hd rfl hcl hin hj hlink hty hnm hfin hpt hn hfit hl0 rfl kk
theorem n_putFH (C : Cn M D f A own cc nL R) (hmn : (Mt M).name = "<init>") {a ci N i j : Nat} {T : u_T} {ty0 : Nat → FieldType} {ty : FieldType} {v : Value} {fs fs2 : List Value} (hd : decode cc pc = .ok (.putfield i, 3)) (hcl : vwCl[ci]? = some (own, T, N)) (hin : ∀ w ∈ u_ws own T N, w ∈ lw_g) (hj : j < N) (hlink : Cond.fieldLink own i (T j).1 (T j).2.1 (T j).2.2.1 ∈ lw_g) (hty : ∀ k, k < N → parseFieldDescriptor (T k).2.2.1 = some (ty0 k)) (hnm : ∀ a, a < N → ∀ b, b < N → a ≠ b → (T a).2.1 ≠ (T b).2.1) (hfin : (T j).2.2.2 = true) (hdecl : (T j).1 = own) (hpt : parseFieldDescriptor (T j).2.2.1 = some ty) (hn : narrow ty v = v) (hfit : fits ty v = true) (hl0 : j < fs.length) (he : fs.set j v = fs2)
    (kk : GN M D A nL Q (pc + 3) L st ((a, .inr (ci, fs2)) :: r) nc ns) : GN M D A nL Q pc L (v :: .ref a :: st) ((a, .inr (ci, fs)) :: r) nc ns := by
  subst he
  exact n_putF C hmn hd rfl hcl hin hj hlink hty hnm hfin hdecl hpt hn hfit hl0 rfl kk
end CNH
theorem wc_142 : Cond.methodLink RX10 1 Lib.objectInit ∈ lw_g := mg (mk4 (List.mem_of_getElem? (i := 184) rfl)) rfl
theorem wc_143 : Cond.fieldLink RX10 7 RX10 "refused" "[I" ∈ lw_g := mg (mk4 (List.mem_of_getElem? (i := 185) rfl)) rfl
theorem wc_144 : Cond.fieldLink RX10 13 RX10 "lineMany" "[I" ∈ lw_g := mg (mk4 (List.mem_of_getElem? (i := 186) rfl)) rfl
theorem wc_145 : Cond.fieldLink RX10 16 RX10 "value" "[I" ∈ lw_g := mg (mk4 (List.mem_of_getElem? (i := 187) rfl)) rfl
theorem wc_146 : Cond.fieldLink RX10 19 RX10 "buckets" "[I" ∈ lw_g := mg (mk4 (List.mem_of_getElem? (i := 188) rfl)) rfl
theorem wc_147 : Cond.fieldLink RX10 22 RX10 "stored" "[I" ∈ lw_g := mg (mk4 (List.mem_of_getElem? (i := 189) rfl)) rfl
theorem wc_148 : Cond.fieldLink RX10 25 RX10 "filterPlace" "[I" ∈ lw_g := mg (mk4 (List.mem_of_getElem? (i := 190) rfl)) rfl
theorem wc_149 : Cond.fieldLink RX10 28 RX10 "filterSign" "[I" ∈ lw_g := mg (mk4 (List.mem_of_getElem? (i := 191) rfl)) rfl
theorem wc_150 : Cond.fieldLink RX10 31 RX10 "filterValue" "[I" ∈ lw_g := mg (mk4 (List.mem_of_getElem? (i := 192) rfl)) rfl
theorem wc_151 : Cond.fieldLink RX10 34 RX10 "joinOne" "[I" ∈ lw_g := mg (mk4 (List.mem_of_getElem? (i := 193) rfl)) rfl
theorem wc_152 : Cond.fieldLink RX10 37 RX10 "joinOther" "[I" ∈ lw_g := mg (mk4 (List.mem_of_getElem? (i := 194) rfl)) rfl
theorem wc_153 : Cond.fieldLink RX10 40 RX10 "sorted" "[I" ∈ lw_g := mg (mk4 (List.mem_of_getElem? (i := 198) rfl)) rfl
theorem wc_154 : Cond.fieldLink RX10 43 RX10 "low" "[I" ∈ lw_g := mg (mk4 (List.mem_of_getElem? (i := 199) rfl)) rfl
theorem wc_155 : Cond.fieldLink RX10 46 RX10 "high" "[I" ∈ lw_g := mg (mk4 (List.mem_of_getElem? (i := 200) rfl)) rfl
theorem wc_156 : Cond.fieldLink RX10 49 RX10 "holds" "[I" ∈ lw_g := mg (mk4 (List.mem_of_getElem? (i := 201) rfl)) rfl
theorem wc_157 : Cond.fieldLink RX10 52 RX10 "distinct" "[I" ∈ lw_g := mg (mk4 (List.mem_of_getElem? (i := 202) rfl)) rfl
theorem wc_158 : Cond.fieldLink RX10 55 RX10 "thoughts" "[F" ∈ lw_g := mg (mk4 (List.mem_of_getElem? (i := 204) rfl)) rfl
theorem wc_159 : Cond.fieldLink RX10 59 RX10 "bestCost" "[F" ∈ lw_g := mg (mk4 (List.mem_of_getElem? (i := 205) rfl)) rfl
theorem wc_160 : Cond.fieldLink RX10 62 RX10 "bestWay" "[I" ∈ lw_g := mg (mk4 (List.mem_of_getElem? (i := 206) rfl)) rfl
theorem wc_161 : Cond.fieldLink RX10 65 RX10 "bestA" "[I" ∈ lw_g := mg (mk4 (List.mem_of_getElem? (i := 207) rfl)) rfl
theorem wc_162 : Cond.fieldLink RX10 68 RX10 "bestJoin" "[I" ∈ lw_g := mg (mk4 (List.mem_of_getElem? (i := 208) rfl)) rfl
theorem wc_163 : Cond.fieldLink RX10 71 RX10 "nodeWay" "[I" ∈ lw_g := mg (mk4 (List.mem_of_getElem? (i := 211) rfl)) rfl
theorem wc_164 : Cond.fieldLink RX10 74 RX10 "nodeSet" "[I" ∈ lw_g := mg (mk4 (List.mem_of_getElem? (i := 212) rfl)) rfl
theorem wc_165 : Cond.fieldLink RX10 77 RX10 "nodeOrder" "[I" ∈ lw_g := mg (mk4 (List.mem_of_getElem? (i := 213) rfl)) rfl
theorem wc_166 : Cond.fieldLink RX10 80 RX10 "nodeCost" "[I" ∈ lw_g := mg (mk4 (List.mem_of_getElem? (i := 214) rfl)) rfl
theorem wc_167 : Cond.fieldLink RX10 83 RX10 "nodeJoin" "[I" ∈ lw_g := mg (mk4 (List.mem_of_getElem? (i := 215) rfl)) rfl
theorem wc_168 : Cond.fieldLink RX10 86 RX10 "nodeSize" "[I" ∈ lw_g := mg (mk4 (List.mem_of_getElem? (i := 216) rfl)) rfl
theorem wc_169 : Cond.fieldLink RX10 89 RX10 "nodeAbout" "[I" ∈ lw_g := mg (mk4 (List.mem_of_getElem? (i := 217) rfl)) rfl
theorem wc_170 : Cond.fieldLink RX10 92 RX10 "openSet" "[I" ∈ lw_g := mg (mk4 (List.mem_of_getElem? (i := 218) rfl)) rfl
theorem wc_171 : Cond.fieldLink RX10 95 RX10 "openOrder" "[I" ∈ lw_g := mg (mk4 (List.mem_of_getElem? (i := 219) rfl)) rfl
theorem wc_172 : Cond.fieldLink RX10 98 RX10 "line" "[I" ∈ lw_g := mg (mk4 (List.mem_of_getElem? (i := 222) rfl)) rfl
theorem wc_173 : Cond.fieldLink RX10 101 RX10 "held" "[I" ∈ lw_g := mg (mk4 (List.mem_of_getElem? (i := 225) rfl)) rfl
theorem wc_174 : Cond.fieldLink RX10 104 RX10 "size" "[I" ∈ lw_g := mg (mk4 (List.mem_of_getElem? (i := 226) rfl)) rfl
theorem wc_175 : Cond.fieldLink RX10 107 RX10 "shownCost" "[I" ∈ lw_g := mg (mk4 (List.mem_of_getElem? (i := 227) rfl)) rfl
theorem wc_176 : Cond.fieldLink RX10 110 RX10 "shownJoin" "[I" ∈ lw_g := mg (mk4 (List.mem_of_getElem? (i := 228) rfl)) rfl
theorem wc_177 : Cond.fieldLink RX10 113 RX10 "shownAbout" "[I" ∈ lw_g := mg (mk4 (List.mem_of_getElem? (i := 229) rfl)) rfl
theorem wc_178 : Cond.fieldLink RX10 116 RX10 "elements" "[J" ∈ lw_g := mg (mk4 (List.mem_of_getElem? (i := 230) rfl)) rfl
theorem wc_179 : Cond.fieldLink RX10 120 RX10 "toldTable" "[I" ∈ lw_g := mg (mk4 (List.mem_of_getElem? (i := 231) rfl)) rfl
theorem wc_180 : Cond.fieldLink RX10 123 RX10 "toldOne" "[I" ∈ lw_g := mg (mk4 (List.mem_of_getElem? (i := 232) rfl)) rfl
theorem wc_181 : Cond.fieldLink RX10 126 RX10 "toldTwo" "[I" ∈ lw_g := mg (mk4 (List.mem_of_getElem? (i := 233) rfl)) rfl
theorem wc_182 : Cond.fieldLink RX10 129 RX10 "toldThree" "[I" ∈ lw_g := mg (mk4 (List.mem_of_getElem? (i := 234) rfl)) rfl
theorem wc_183 : Cond.fieldLink RX10 132 RX10 "toldMany" "[I" ∈ lw_g := mg (mk4 (List.mem_of_getElem? (i := 235) rfl)) rfl
theorem wc_184 : Cond.fieldLink RX10 135 RX10 "faultAt" "I" ∈ lw_g := mg (mk4 (List.mem_of_getElem? (i := 237) rfl)) rfl
theorem wc_185 : Cond.fieldLink RX10 139 RX10 "kept" "[I" ∈ lw_g := mg (mk5 (List.mem_of_getElem? (i := 0) rfl)) rfl
theorem wc_186 : Cond.fieldLink RX10 142 RX10 "seed" "I" ∈ lw_g := mg (mk4 (List.mem_of_getElem? (i := 197) rfl)) rfl
theorem mS_4 {M : MC} {D : va_G} {f : Nat → ClassId} {A : Nat → Prop} {Q : State → Prop} (C : Cn M D f A RX10 cX10_init 2 (rmn 1 42 4967)) (hmn : (Mt M).name = "<init>") {b nc ns : Nat} {fs : List Value} {r : va_W} (hl : fs.length = 59) (hc : nc + 1 ≤ 42) (hs : ns + 8 ≤ 4967) (K : ∀ q : Nat, (fs.set 0 (.ref q)).length = 59 → GN M D A 2 Q 12 [(0, .ref b)] [] ((b, .inr (10, fs.set 0 (.ref q))) :: (r ++ [(q, .inl (f 0, (8, .inl (fun _ => iZ 0))))])) (nc + 1) (ns + 8)) : GN M D A 2 Q 4 [(0, .ref b)] [] ((b, .inr (10, fs)) :: r) nc ns := by
  refine n_aload_n C dX10_init_4 rfl ?_
  refine n_bipush (z := 8) C dX10_init_5 rfl ?_
  refine n_newaH (t0 := 0) (N := 8) (ty := .int) (a0 := (8, .inl (fun _ => iZ 0))) C dX10_init_7 rfl wc_3 rfl (ha_i _) rfl (by decide) (Nat.le_of_ble_eq_true rfl) hc hs (fun q => ?_)
  exact n_putFH (ci := 10) (N := 59) (T := TX10) (j := 0) (ty := (.array .int)) C hmn dX10_init_9 rfl hinX10 (by decide) wc_143 tyX10_ok nmX10 rfl rfl (by decide +kernel) rfl rfl (by rw [hl]; decide) rfl (K q (List.length_set.trans hl))
theorem mS_12 {M : MC} {D : va_G} {f : Nat → ClassId} {A : Nat → Prop} {Q : State → Prop} (C : Cn M D f A RX10 cX10_init 2 (rmn 1 42 4967)) (hmn : (Mt M).name = "<init>") {b nc ns : Nat} {fs : List Value} {r : va_W} (hl : fs.length = 59) (hc : nc + 1 ≤ 42) (hs : ns + 5 ≤ 4967) (K : ∀ q : Nat, (fs.set 1 (.ref q)).length = 59 → GN M D A 2 Q 19 [(0, .ref b)] [] ((b, .inr (10, fs.set 1 (.ref q))) :: (r ++ [(q, .inl (f 0, (5, .inl (fun _ => iZ 0))))])) (nc + 1) (ns + 5)) : GN M D A 2 Q 12 [(0, .ref b)] [] ((b, .inr (10, fs)) :: r) nc ns := by
  refine n_aload_n C dX10_init_12 rfl ?_
  refine n_iconst (z := 5) C dX10_init_13 rfl ?_
  refine n_newaH (t0 := 0) (N := 5) (ty := .int) (a0 := (5, .inl (fun _ => iZ 0))) C dX10_init_14 rfl wc_3 rfl (ha_i _) rfl (by decide) (Nat.le_of_ble_eq_true rfl) hc hs (fun q => ?_)
  exact n_putFH (ci := 10) (N := 59) (T := TX10) (j := 1) (ty := (.array .int)) C hmn dX10_init_16 rfl hinX10 (by decide) wc_144 tyX10_ok nmX10 rfl rfl (by decide +kernel) rfl rfl (by rw [hl]; decide) rfl (K q (List.length_set.trans hl))
theorem mS_19 {M : MC} {D : va_G} {f : Nat → ClassId} {A : Nat → Prop} {Q : State → Prop} (C : Cn M D f A RX10 cX10_init 2 (rmn 1 42 4967)) (hmn : (Mt M).name = "<init>") {b nc ns : Nat} {fs : List Value} {r : va_W} (hl : fs.length = 59) (hc : nc + 1 ≤ 42) (hs : ns + 240 ≤ 4967) (K : ∀ q : Nat, (fs.set 2 (.ref q)).length = 59 → GN M D A 2 Q 28 [(0, .ref b)] [] ((b, .inr (10, fs.set 2 (.ref q))) :: (r ++ [(q, .inl (f 0, (240, .inl (fun _ => iZ 0))))])) (nc + 1) (ns + 240)) : GN M D A 2 Q 19 [(0, .ref b)] [] ((b, .inr (10, fs)) :: r) nc ns := by
  refine n_aload_n C dX10_init_19 rfl ?_
  refine n_sipush (z := 240) C dX10_init_20 rfl ?_
  refine n_newaH (t0 := 0) (N := 240) (ty := .int) (a0 := (240, .inl (fun _ => iZ 0))) C dX10_init_23 rfl wc_3 rfl (ha_i _) rfl (by decide) (Nat.le_of_ble_eq_true rfl) hc hs (fun q => ?_)
  exact n_putFH (ci := 10) (N := 59) (T := TX10) (j := 2) (ty := (.array .int)) C hmn dX10_init_25 rfl hinX10 (by decide) wc_145 tyX10_ok nmX10 rfl rfl (by decide +kernel) rfl rfl (by rw [hl]; decide) rfl (K q (List.length_set.trans hl))
theorem mS_28 {M : MC} {D : va_G} {f : Nat → ClassId} {A : Nat → Prop} {Q : State → Prop} (C : Cn M D f A RX10 cX10_init 2 (rmn 1 42 4967)) (hmn : (Mt M).name = "<init>") {b nc ns : Nat} {fs : List Value} {r : va_W} (hl : fs.length = 59) (hc : nc + 1 ≤ 42) (hs : ns + 5 ≤ 4967) (K : ∀ q : Nat, (fs.set 3 (.ref q)).length = 59 → GN M D A 2 Q 35 [(0, .ref b)] [] ((b, .inr (10, fs.set 3 (.ref q))) :: (r ++ [(q, .inl (f 0, (5, .inl (fun _ => iZ 0))))])) (nc + 1) (ns + 5)) : GN M D A 2 Q 28 [(0, .ref b)] [] ((b, .inr (10, fs)) :: r) nc ns := by
  refine n_aload_n C dX10_init_28 rfl ?_
  refine n_iconst (z := 5) C dX10_init_29 rfl ?_
  refine n_newaH (t0 := 0) (N := 5) (ty := .int) (a0 := (5, .inl (fun _ => iZ 0))) C dX10_init_30 rfl wc_3 rfl (ha_i _) rfl (by decide) (Nat.le_of_ble_eq_true rfl) hc hs (fun q => ?_)
  exact n_putFH (ci := 10) (N := 59) (T := TX10) (j := 3) (ty := (.array .int)) C hmn dX10_init_32 rfl hinX10 (by decide) wc_146 tyX10_ok nmX10 rfl rfl (by decide +kernel) rfl rfl (by rw [hl]; decide) rfl (K q (List.length_set.trans hl))
theorem mS_35 {M : MC} {D : va_G} {f : Nat → ClassId} {A : Nat → Prop} {Q : State → Prop} (C : Cn M D f A RX10 cX10_init 2 (rmn 1 42 4967)) (hmn : (Mt M).name = "<init>") {b nc ns : Nat} {fs : List Value} {r : va_W} (hl : fs.length = 59) (hc : nc + 1 ≤ 42) (hs : ns + 5 ≤ 4967) (K : ∀ q : Nat, (fs.set 4 (.ref q)).length = 59 → GN M D A 2 Q 42 [(0, .ref b)] [] ((b, .inr (10, fs.set 4 (.ref q))) :: (r ++ [(q, .inl (f 0, (5, .inl (fun _ => iZ 0))))])) (nc + 1) (ns + 5)) : GN M D A 2 Q 35 [(0, .ref b)] [] ((b, .inr (10, fs)) :: r) nc ns := by
  refine n_aload_n C dX10_init_35 rfl ?_
  refine n_iconst (z := 5) C dX10_init_36 rfl ?_
  refine n_newaH (t0 := 0) (N := 5) (ty := .int) (a0 := (5, .inl (fun _ => iZ 0))) C dX10_init_37 rfl wc_3 rfl (ha_i _) rfl (by decide) (Nat.le_of_ble_eq_true rfl) hc hs (fun q => ?_)
  exact n_putFH (ci := 10) (N := 59) (T := TX10) (j := 4) (ty := (.array .int)) C hmn dX10_init_39 rfl hinX10 (by decide) wc_147 tyX10_ok nmX10 rfl rfl (by decide +kernel) rfl rfl (by rw [hl]; decide) rfl (K q (List.length_set.trans hl))
theorem mS_42 {M : MC} {D : va_G} {f : Nat → ClassId} {A : Nat → Prop} {Q : State → Prop} (C : Cn M D f A RX10 cX10_init 2 (rmn 1 42 4967)) (hmn : (Mt M).name = "<init>") {b nc ns : Nat} {fs : List Value} {r : va_W} (hl : fs.length = 59) (hc : nc + 1 ≤ 42) (hs : ns + 8 ≤ 4967) (K : ∀ q : Nat, (fs.set 5 (.ref q)).length = 59 → GN M D A 2 Q 50 [(0, .ref b)] [] ((b, .inr (10, fs.set 5 (.ref q))) :: (r ++ [(q, .inl (f 0, (8, .inl (fun _ => iZ 0))))])) (nc + 1) (ns + 8)) : GN M D A 2 Q 42 [(0, .ref b)] [] ((b, .inr (10, fs)) :: r) nc ns := by
  refine n_aload_n C dX10_init_42 rfl ?_
  refine n_bipush (z := 8) C dX10_init_43 rfl ?_
  refine n_newaH (t0 := 0) (N := 8) (ty := .int) (a0 := (8, .inl (fun _ => iZ 0))) C dX10_init_45 rfl wc_3 rfl (ha_i _) rfl (by decide) (Nat.le_of_ble_eq_true rfl) hc hs (fun q => ?_)
  exact n_putFH (ci := 10) (N := 59) (T := TX10) (j := 5) (ty := (.array .int)) C hmn dX10_init_47 rfl hinX10 (by decide) wc_148 tyX10_ok nmX10 rfl rfl (by decide +kernel) rfl rfl (by rw [hl]; decide) rfl (K q (List.length_set.trans hl))
theorem mS_50 {M : MC} {D : va_G} {f : Nat → ClassId} {A : Nat → Prop} {Q : State → Prop} (C : Cn M D f A RX10 cX10_init 2 (rmn 1 42 4967)) (hmn : (Mt M).name = "<init>") {b nc ns : Nat} {fs : List Value} {r : va_W} (hl : fs.length = 59) (hc : nc + 1 ≤ 42) (hs : ns + 8 ≤ 4967) (K : ∀ q : Nat, (fs.set 6 (.ref q)).length = 59 → GN M D A 2 Q 58 [(0, .ref b)] [] ((b, .inr (10, fs.set 6 (.ref q))) :: (r ++ [(q, .inl (f 0, (8, .inl (fun _ => iZ 0))))])) (nc + 1) (ns + 8)) : GN M D A 2 Q 50 [(0, .ref b)] [] ((b, .inr (10, fs)) :: r) nc ns := by
  refine n_aload_n C dX10_init_50 rfl ?_
  refine n_bipush (z := 8) C dX10_init_51 rfl ?_
  refine n_newaH (t0 := 0) (N := 8) (ty := .int) (a0 := (8, .inl (fun _ => iZ 0))) C dX10_init_53 rfl wc_3 rfl (ha_i _) rfl (by decide) (Nat.le_of_ble_eq_true rfl) hc hs (fun q => ?_)
  exact n_putFH (ci := 10) (N := 59) (T := TX10) (j := 6) (ty := (.array .int)) C hmn dX10_init_55 rfl hinX10 (by decide) wc_149 tyX10_ok nmX10 rfl rfl (by decide +kernel) rfl rfl (by rw [hl]; decide) rfl (K q (List.length_set.trans hl))
theorem mS_58 {M : MC} {D : va_G} {f : Nat → ClassId} {A : Nat → Prop} {Q : State → Prop} (C : Cn M D f A RX10 cX10_init 2 (rmn 1 42 4967)) (hmn : (Mt M).name = "<init>") {b nc ns : Nat} {fs : List Value} {r : va_W} (hl : fs.length = 59) (hc : nc + 1 ≤ 42) (hs : ns + 8 ≤ 4967) (K : ∀ q : Nat, (fs.set 7 (.ref q)).length = 59 → GN M D A 2 Q 66 [(0, .ref b)] [] ((b, .inr (10, fs.set 7 (.ref q))) :: (r ++ [(q, .inl (f 0, (8, .inl (fun _ => iZ 0))))])) (nc + 1) (ns + 8)) : GN M D A 2 Q 58 [(0, .ref b)] [] ((b, .inr (10, fs)) :: r) nc ns := by
  refine n_aload_n C dX10_init_58 rfl ?_
  refine n_bipush (z := 8) C dX10_init_59 rfl ?_
  refine n_newaH (t0 := 0) (N := 8) (ty := .int) (a0 := (8, .inl (fun _ => iZ 0))) C dX10_init_61 rfl wc_3 rfl (ha_i _) rfl (by decide) (Nat.le_of_ble_eq_true rfl) hc hs (fun q => ?_)
  exact n_putFH (ci := 10) (N := 59) (T := TX10) (j := 7) (ty := (.array .int)) C hmn dX10_init_63 rfl hinX10 (by decide) wc_150 tyX10_ok nmX10 rfl rfl (by decide +kernel) rfl rfl (by rw [hl]; decide) rfl (K q (List.length_set.trans hl))
theorem mS_66 {M : MC} {D : va_G} {f : Nat → ClassId} {A : Nat → Prop} {Q : State → Prop} (C : Cn M D f A RX10 cX10_init 2 (rmn 1 42 4967)) (hmn : (Mt M).name = "<init>") {b nc ns : Nat} {fs : List Value} {r : va_W} (hl : fs.length = 59) (hc : nc + 1 ≤ 42) (hs : ns + 8 ≤ 4967) (K : ∀ q : Nat, (fs.set 8 (.ref q)).length = 59 → GN M D A 2 Q 74 [(0, .ref b)] [] ((b, .inr (10, fs.set 8 (.ref q))) :: (r ++ [(q, .inl (f 0, (8, .inl (fun _ => iZ 0))))])) (nc + 1) (ns + 8)) : GN M D A 2 Q 66 [(0, .ref b)] [] ((b, .inr (10, fs)) :: r) nc ns := by
  refine n_aload_n C dX10_init_66 rfl ?_
  refine n_bipush (z := 8) C dX10_init_67 rfl ?_
  refine n_newaH (t0 := 0) (N := 8) (ty := .int) (a0 := (8, .inl (fun _ => iZ 0))) C dX10_init_69 rfl wc_3 rfl (ha_i _) rfl (by decide) (Nat.le_of_ble_eq_true rfl) hc hs (fun q => ?_)
  exact n_putFH (ci := 10) (N := 59) (T := TX10) (j := 8) (ty := (.array .int)) C hmn dX10_init_71 rfl hinX10 (by decide) wc_151 tyX10_ok nmX10 rfl rfl (by decide +kernel) rfl rfl (by rw [hl]; decide) rfl (K q (List.length_set.trans hl))
theorem mS_74 {M : MC} {D : va_G} {f : Nat → ClassId} {A : Nat → Prop} {Q : State → Prop} (C : Cn M D f A RX10 cX10_init 2 (rmn 1 42 4967)) (hmn : (Mt M).name = "<init>") {b nc ns : Nat} {fs : List Value} {r : va_W} (hl : fs.length = 59) (hc : nc + 1 ≤ 42) (hs : ns + 8 ≤ 4967) (K : ∀ q : Nat, (fs.set 9 (.ref q)).length = 59 → GN M D A 2 Q 82 [(0, .ref b)] [] ((b, .inr (10, fs.set 9 (.ref q))) :: (r ++ [(q, .inl (f 0, (8, .inl (fun _ => iZ 0))))])) (nc + 1) (ns + 8)) : GN M D A 2 Q 74 [(0, .ref b)] [] ((b, .inr (10, fs)) :: r) nc ns := by
  refine n_aload_n C dX10_init_74 rfl ?_
  refine n_bipush (z := 8) C dX10_init_75 rfl ?_
  refine n_newaH (t0 := 0) (N := 8) (ty := .int) (a0 := (8, .inl (fun _ => iZ 0))) C dX10_init_77 rfl wc_3 rfl (ha_i _) rfl (by decide) (Nat.le_of_ble_eq_true rfl) hc hs (fun q => ?_)
  exact n_putFH (ci := 10) (N := 59) (T := TX10) (j := 9) (ty := (.array .int)) C hmn dX10_init_79 rfl hinX10 (by decide) wc_152 tyX10_ok nmX10 rfl rfl (by decide +kernel) rfl rfl (by rw [hl]; decide) rfl (K q (List.length_set.trans hl))
theorem mS_82 {M : MC} {D : va_G} {f : Nat → ClassId} {A : Nat → Prop} {Q : State → Prop} (C : Cn M D f A RX10 cX10_init 2 (rmn 1 42 4967)) (hmn : (Mt M).name = "<init>") {b nc ns : Nat} {fs : List Value} {r : va_W} (hl : fs.length = 59) (hc : nc + 1 ≤ 42) (hs : ns + 16 ≤ 4967) (K : ∀ q : Nat, (fs.set 13 (.ref q)).length = 59 → GN M D A 2 Q 90 [(0, .ref b)] [] ((b, .inr (10, fs.set 13 (.ref q))) :: (r ++ [(q, .inl (f 0, (16, .inl (fun _ => iZ 0))))])) (nc + 1) (ns + 16)) : GN M D A 2 Q 82 [(0, .ref b)] [] ((b, .inr (10, fs)) :: r) nc ns := by
  refine n_aload_n C dX10_init_82 rfl ?_
  refine n_bipush (z := 16) C dX10_init_83 rfl ?_
  refine n_newaH (t0 := 0) (N := 16) (ty := .int) (a0 := (16, .inl (fun _ => iZ 0))) C dX10_init_85 rfl wc_3 rfl (ha_i _) rfl (by decide) (Nat.le_of_ble_eq_true rfl) hc hs (fun q => ?_)
  exact n_putFH (ci := 10) (N := 59) (T := TX10) (j := 13) (ty := (.array .int)) C hmn dX10_init_87 rfl hinX10 (by decide) wc_153 tyX10_ok nmX10 rfl rfl (by decide +kernel) rfl rfl (by rw [hl]; decide) rfl (K q (List.length_set.trans hl))
theorem mS_90 {M : MC} {D : va_G} {f : Nat → ClassId} {A : Nat → Prop} {Q : State → Prop} (C : Cn M D f A RX10 cX10_init 2 (rmn 1 42 4967)) (hmn : (Mt M).name = "<init>") {b nc ns : Nat} {fs : List Value} {r : va_W} (hl : fs.length = 59) (hc : nc + 1 ≤ 42) (hs : ns + 8 ≤ 4967) (K : ∀ q : Nat, (fs.set 14 (.ref q)).length = 59 → GN M D A 2 Q 98 [(0, .ref b)] [] ((b, .inr (10, fs.set 14 (.ref q))) :: (r ++ [(q, .inl (f 0, (8, .inl (fun _ => iZ 0))))])) (nc + 1) (ns + 8)) : GN M D A 2 Q 90 [(0, .ref b)] [] ((b, .inr (10, fs)) :: r) nc ns := by
  refine n_aload_n C dX10_init_90 rfl ?_
  refine n_bipush (z := 8) C dX10_init_91 rfl ?_
  refine n_newaH (t0 := 0) (N := 8) (ty := .int) (a0 := (8, .inl (fun _ => iZ 0))) C dX10_init_93 rfl wc_3 rfl (ha_i _) rfl (by decide) (Nat.le_of_ble_eq_true rfl) hc hs (fun q => ?_)
  exact n_putFH (ci := 10) (N := 59) (T := TX10) (j := 14) (ty := (.array .int)) C hmn dX10_init_95 rfl hinX10 (by decide) wc_154 tyX10_ok nmX10 rfl rfl (by decide +kernel) rfl rfl (by rw [hl]; decide) rfl (K q (List.length_set.trans hl))
theorem mS_98 {M : MC} {D : va_G} {f : Nat → ClassId} {A : Nat → Prop} {Q : State → Prop} (C : Cn M D f A RX10 cX10_init 2 (rmn 1 42 4967)) (hmn : (Mt M).name = "<init>") {b nc ns : Nat} {fs : List Value} {r : va_W} (hl : fs.length = 59) (hc : nc + 1 ≤ 42) (hs : ns + 8 ≤ 4967) (K : ∀ q : Nat, (fs.set 15 (.ref q)).length = 59 → GN M D A 2 Q 106 [(0, .ref b)] [] ((b, .inr (10, fs.set 15 (.ref q))) :: (r ++ [(q, .inl (f 0, (8, .inl (fun _ => iZ 0))))])) (nc + 1) (ns + 8)) : GN M D A 2 Q 98 [(0, .ref b)] [] ((b, .inr (10, fs)) :: r) nc ns := by
  refine n_aload_n C dX10_init_98 rfl ?_
  refine n_bipush (z := 8) C dX10_init_99 rfl ?_
  refine n_newaH (t0 := 0) (N := 8) (ty := .int) (a0 := (8, .inl (fun _ => iZ 0))) C dX10_init_101 rfl wc_3 rfl (ha_i _) rfl (by decide) (Nat.le_of_ble_eq_true rfl) hc hs (fun q => ?_)
  exact n_putFH (ci := 10) (N := 59) (T := TX10) (j := 15) (ty := (.array .int)) C hmn dX10_init_103 rfl hinX10 (by decide) wc_155 tyX10_ok nmX10 rfl rfl (by decide +kernel) rfl rfl (by rw [hl]; decide) rfl (K q (List.length_set.trans hl))
theorem mS_106 {M : MC} {D : va_G} {f : Nat → ClassId} {A : Nat → Prop} {Q : State → Prop} (C : Cn M D f A RX10 cX10_init 2 (rmn 1 42 4967)) (hmn : (Mt M).name = "<init>") {b nc ns : Nat} {fs : List Value} {r : va_W} (hl : fs.length = 59) (hc : nc + 1 ≤ 42) (hs : ns + 8 ≤ 4967) (K : ∀ q : Nat, (fs.set 16 (.ref q)).length = 59 → GN M D A 2 Q 114 [(0, .ref b)] [] ((b, .inr (10, fs.set 16 (.ref q))) :: (r ++ [(q, .inl (f 0, (8, .inl (fun _ => iZ 0))))])) (nc + 1) (ns + 8)) : GN M D A 2 Q 106 [(0, .ref b)] [] ((b, .inr (10, fs)) :: r) nc ns := by
  refine n_aload_n C dX10_init_106 rfl ?_
  refine n_bipush (z := 8) C dX10_init_107 rfl ?_
  refine n_newaH (t0 := 0) (N := 8) (ty := .int) (a0 := (8, .inl (fun _ => iZ 0))) C dX10_init_109 rfl wc_3 rfl (ha_i _) rfl (by decide) (Nat.le_of_ble_eq_true rfl) hc hs (fun q => ?_)
  exact n_putFH (ci := 10) (N := 59) (T := TX10) (j := 16) (ty := (.array .int)) C hmn dX10_init_111 rfl hinX10 (by decide) wc_156 tyX10_ok nmX10 rfl rfl (by decide +kernel) rfl rfl (by rw [hl]; decide) rfl (K q (List.length_set.trans hl))
theorem mS_114 {M : MC} {D : va_G} {f : Nat → ClassId} {A : Nat → Prop} {Q : State → Prop} (C : Cn M D f A RX10 cX10_init 2 (rmn 1 42 4967)) (hmn : (Mt M).name = "<init>") {b nc ns : Nat} {fs : List Value} {r : va_W} (hl : fs.length = 59) (hc : nc + 1 ≤ 42) (hs : ns + 8 ≤ 4967) (K : ∀ q : Nat, (fs.set 17 (.ref q)).length = 59 → GN M D A 2 Q 122 [(0, .ref b)] [] ((b, .inr (10, fs.set 17 (.ref q))) :: (r ++ [(q, .inl (f 0, (8, .inl (fun _ => iZ 0))))])) (nc + 1) (ns + 8)) : GN M D A 2 Q 114 [(0, .ref b)] [] ((b, .inr (10, fs)) :: r) nc ns := by
  refine n_aload_n C dX10_init_114 rfl ?_
  refine n_bipush (z := 8) C dX10_init_115 rfl ?_
  refine n_newaH (t0 := 0) (N := 8) (ty := .int) (a0 := (8, .inl (fun _ => iZ 0))) C dX10_init_117 rfl wc_3 rfl (ha_i _) rfl (by decide) (Nat.le_of_ble_eq_true rfl) hc hs (fun q => ?_)
  exact n_putFH (ci := 10) (N := 59) (T := TX10) (j := 17) (ty := (.array .int)) C hmn dX10_init_119 rfl hinX10 (by decide) wc_157 tyX10_ok nmX10 rfl rfl (by decide +kernel) rfl rfl (by rw [hl]; decide) rfl (K q (List.length_set.trans hl))
theorem mS_122 {M : MC} {D : va_G} {f : Nat → ClassId} {A : Nat → Prop} {Q : State → Prop} (C : Cn M D f A RX10 cX10_init 2 (rmn 1 42 4967)) (hmn : (Mt M).name = "<init>") {b nc ns : Nat} {fs : List Value} {r : va_W} (hl : fs.length = 59) (hc : nc + 1 ≤ 42) (hs : ns + 32 ≤ 4967) (K : ∀ q : Nat, (fs.set 19 (.ref q)).length = 59 → GN M D A 2 Q 130 [(0, .ref b)] [] ((b, .inr (10, fs.set 19 (.ref q))) :: (r ++ [(q, .inl (f 1, (32, .inr (.inr (.inl (fun _ => 0))))))])) (nc + 1) (ns + 32)) : GN M D A 2 Q 122 [(0, .ref b)] [] ((b, .inr (10, fs)) :: r) nc ns := by
  refine n_aload_n C dX10_init_122 rfl ?_
  refine n_bipush (z := 32) C dX10_init_123 rfl ?_
  refine n_newaH (t0 := 1) (N := 32) (ty := .float) (a0 := (32, .inr (.inr (.inl (fun _ => 0))))) C dX10_init_125 rfl wc_40 rfl (ha_f _) rfl (by decide) (Nat.le_of_ble_eq_true rfl) hc hs (fun q => ?_)
  exact n_putFH (ci := 10) (N := 59) (T := TX10) (j := 19) (ty := (.array .float)) C hmn dX10_init_127 rfl hinX10 (by decide) wc_158 tyX10_ok nmX10 rfl rfl (by decide +kernel) rfl rfl (by rw [hl]; decide) rfl (K q (List.length_set.trans hl))
theorem mS_130 {M : MC} {D : va_G} {f : Nat → ClassId} {A : Nat → Prop} {Q : State → Prop} (C : Cn M D f A RX10 cX10_init 2 (rmn 1 42 4967)) (hmn : (Mt M).name = "<init>") {b nc ns : Nat} {fs : List Value} {r : va_W} (hl : fs.length = 59) (hc : nc + 1 ≤ 42) (hs : ns + 512 ≤ 4967) (K : ∀ q : Nat, (fs.set 20 (.ref q)).length = 59 → GN M D A 2 Q 139 [(0, .ref b)] [] ((b, .inr (10, fs.set 20 (.ref q))) :: (r ++ [(q, .inl (f 1, (512, .inr (.inr (.inl (fun _ => 0))))))])) (nc + 1) (ns + 512)) : GN M D A 2 Q 130 [(0, .ref b)] [] ((b, .inr (10, fs)) :: r) nc ns := by
  refine n_aload_n C dX10_init_130 rfl ?_
  refine n_sipush (z := 512) C dX10_init_131 rfl ?_
  refine n_newaH (t0 := 1) (N := 512) (ty := .float) (a0 := (512, .inr (.inr (.inl (fun _ => 0))))) C dX10_init_134 rfl wc_40 rfl (ha_f _) rfl (by decide) (Nat.le_of_ble_eq_true rfl) hc hs (fun q => ?_)
  exact n_putFH (ci := 10) (N := 59) (T := TX10) (j := 20) (ty := (.array .float)) C hmn dX10_init_136 rfl hinX10 (by decide) wc_159 tyX10_ok nmX10 rfl rfl (by decide +kernel) rfl rfl (by rw [hl]; decide) rfl (K q (List.length_set.trans hl))
theorem mS_139 {M : MC} {D : va_G} {f : Nat → ClassId} {A : Nat → Prop} {Q : State → Prop} (C : Cn M D f A RX10 cX10_init 2 (rmn 1 42 4967)) (hmn : (Mt M).name = "<init>") {b nc ns : Nat} {fs : List Value} {r : va_W} (hl : fs.length = 59) (hc : nc + 1 ≤ 42) (hs : ns + 512 ≤ 4967) (K : ∀ q : Nat, (fs.set 21 (.ref q)).length = 59 → GN M D A 2 Q 148 [(0, .ref b)] [] ((b, .inr (10, fs.set 21 (.ref q))) :: (r ++ [(q, .inl (f 0, (512, .inl (fun _ => iZ 0))))])) (nc + 1) (ns + 512)) : GN M D A 2 Q 139 [(0, .ref b)] [] ((b, .inr (10, fs)) :: r) nc ns := by
  refine n_aload_n C dX10_init_139 rfl ?_
  refine n_sipush (z := 512) C dX10_init_140 rfl ?_
  refine n_newaH (t0 := 0) (N := 512) (ty := .int) (a0 := (512, .inl (fun _ => iZ 0))) C dX10_init_143 rfl wc_3 rfl (ha_i _) rfl (by decide) (Nat.le_of_ble_eq_true rfl) hc hs (fun q => ?_)
  exact n_putFH (ci := 10) (N := 59) (T := TX10) (j := 21) (ty := (.array .int)) C hmn dX10_init_145 rfl hinX10 (by decide) wc_160 tyX10_ok nmX10 rfl rfl (by decide +kernel) rfl rfl (by rw [hl]; decide) rfl (K q (List.length_set.trans hl))
theorem mS_148 {M : MC} {D : va_G} {f : Nat → ClassId} {A : Nat → Prop} {Q : State → Prop} (C : Cn M D f A RX10 cX10_init 2 (rmn 1 42 4967)) (hmn : (Mt M).name = "<init>") {b nc ns : Nat} {fs : List Value} {r : va_W} (hl : fs.length = 59) (hc : nc + 1 ≤ 42) (hs : ns + 512 ≤ 4967) (K : ∀ q : Nat, (fs.set 22 (.ref q)).length = 59 → GN M D A 2 Q 157 [(0, .ref b)] [] ((b, .inr (10, fs.set 22 (.ref q))) :: (r ++ [(q, .inl (f 0, (512, .inl (fun _ => iZ 0))))])) (nc + 1) (ns + 512)) : GN M D A 2 Q 148 [(0, .ref b)] [] ((b, .inr (10, fs)) :: r) nc ns := by
  refine n_aload_n C dX10_init_148 rfl ?_
  refine n_sipush (z := 512) C dX10_init_149 rfl ?_
  refine n_newaH (t0 := 0) (N := 512) (ty := .int) (a0 := (512, .inl (fun _ => iZ 0))) C dX10_init_152 rfl wc_3 rfl (ha_i _) rfl (by decide) (Nat.le_of_ble_eq_true rfl) hc hs (fun q => ?_)
  exact n_putFH (ci := 10) (N := 59) (T := TX10) (j := 22) (ty := (.array .int)) C hmn dX10_init_154 rfl hinX10 (by decide) wc_161 tyX10_ok nmX10 rfl rfl (by decide +kernel) rfl rfl (by rw [hl]; decide) rfl (K q (List.length_set.trans hl))
theorem mS_157 {M : MC} {D : va_G} {f : Nat → ClassId} {A : Nat → Prop} {Q : State → Prop} (C : Cn M D f A RX10 cX10_init 2 (rmn 1 42 4967)) (hmn : (Mt M).name = "<init>") {b nc ns : Nat} {fs : List Value} {r : va_W} (hl : fs.length = 59) (hc : nc + 1 ≤ 42) (hs : ns + 512 ≤ 4967) (K : ∀ q : Nat, (fs.set 23 (.ref q)).length = 59 → GN M D A 2 Q 166 [(0, .ref b)] [] ((b, .inr (10, fs.set 23 (.ref q))) :: (r ++ [(q, .inl (f 0, (512, .inl (fun _ => iZ 0))))])) (nc + 1) (ns + 512)) : GN M D A 2 Q 157 [(0, .ref b)] [] ((b, .inr (10, fs)) :: r) nc ns := by
  refine n_aload_n C dX10_init_157 rfl ?_
  refine n_sipush (z := 512) C dX10_init_158 rfl ?_
  refine n_newaH (t0 := 0) (N := 512) (ty := .int) (a0 := (512, .inl (fun _ => iZ 0))) C dX10_init_161 rfl wc_3 rfl (ha_i _) rfl (by decide) (Nat.le_of_ble_eq_true rfl) hc hs (fun q => ?_)
  exact n_putFH (ci := 10) (N := 59) (T := TX10) (j := 23) (ty := (.array .int)) C hmn dX10_init_163 rfl hinX10 (by decide) wc_162 tyX10_ok nmX10 rfl rfl (by decide +kernel) rfl rfl (by rw [hl]; decide) rfl (K q (List.length_set.trans hl))
theorem mS_166 {M : MC} {D : va_G} {f : Nat → ClassId} {A : Nat → Prop} {Q : State → Prop} (C : Cn M D f A RX10 cX10_init 2 (rmn 1 42 4967)) (hmn : (Mt M).name = "<init>") {b nc ns : Nat} {fs : List Value} {r : va_W} (hl : fs.length = 59) (hc : nc + 1 ≤ 42) (hs : ns + 64 ≤ 4967) (K : ∀ q : Nat, (fs.set 26 (.ref q)).length = 59 → GN M D A 2 Q 174 [(0, .ref b)] [] ((b, .inr (10, fs.set 26 (.ref q))) :: (r ++ [(q, .inl (f 0, (64, .inl (fun _ => iZ 0))))])) (nc + 1) (ns + 64)) : GN M D A 2 Q 166 [(0, .ref b)] [] ((b, .inr (10, fs)) :: r) nc ns := by
  refine n_aload_n C dX10_init_166 rfl ?_
  refine n_bipush (z := 64) C dX10_init_167 rfl ?_
  refine n_newaH (t0 := 0) (N := 64) (ty := .int) (a0 := (64, .inl (fun _ => iZ 0))) C dX10_init_169 rfl wc_3 rfl (ha_i _) rfl (by decide) (Nat.le_of_ble_eq_true rfl) hc hs (fun q => ?_)
  exact n_putFH (ci := 10) (N := 59) (T := TX10) (j := 26) (ty := (.array .int)) C hmn dX10_init_171 rfl hinX10 (by decide) wc_163 tyX10_ok nmX10 rfl rfl (by decide +kernel) rfl rfl (by rw [hl]; decide) rfl (K q (List.length_set.trans hl))
theorem mS_174 {M : MC} {D : va_G} {f : Nat → ClassId} {A : Nat → Prop} {Q : State → Prop} (C : Cn M D f A RX10 cX10_init 2 (rmn 1 42 4967)) (hmn : (Mt M).name = "<init>") {b nc ns : Nat} {fs : List Value} {r : va_W} (hl : fs.length = 59) (hc : nc + 1 ≤ 42) (hs : ns + 64 ≤ 4967) (K : ∀ q : Nat, (fs.set 27 (.ref q)).length = 59 → GN M D A 2 Q 182 [(0, .ref b)] [] ((b, .inr (10, fs.set 27 (.ref q))) :: (r ++ [(q, .inl (f 0, (64, .inl (fun _ => iZ 0))))])) (nc + 1) (ns + 64)) : GN M D A 2 Q 174 [(0, .ref b)] [] ((b, .inr (10, fs)) :: r) nc ns := by
  refine n_aload_n C dX10_init_174 rfl ?_
  refine n_bipush (z := 64) C dX10_init_175 rfl ?_
  refine n_newaH (t0 := 0) (N := 64) (ty := .int) (a0 := (64, .inl (fun _ => iZ 0))) C dX10_init_177 rfl wc_3 rfl (ha_i _) rfl (by decide) (Nat.le_of_ble_eq_true rfl) hc hs (fun q => ?_)
  exact n_putFH (ci := 10) (N := 59) (T := TX10) (j := 27) (ty := (.array .int)) C hmn dX10_init_179 rfl hinX10 (by decide) wc_164 tyX10_ok nmX10 rfl rfl (by decide +kernel) rfl rfl (by rw [hl]; decide) rfl (K q (List.length_set.trans hl))
theorem mS_182 {M : MC} {D : va_G} {f : Nat → ClassId} {A : Nat → Prop} {Q : State → Prop} (C : Cn M D f A RX10 cX10_init 2 (rmn 1 42 4967)) (hmn : (Mt M).name = "<init>") {b nc ns : Nat} {fs : List Value} {r : va_W} (hl : fs.length = 59) (hc : nc + 1 ≤ 42) (hs : ns + 64 ≤ 4967) (K : ∀ q : Nat, (fs.set 28 (.ref q)).length = 59 → GN M D A 2 Q 190 [(0, .ref b)] [] ((b, .inr (10, fs.set 28 (.ref q))) :: (r ++ [(q, .inl (f 0, (64, .inl (fun _ => iZ 0))))])) (nc + 1) (ns + 64)) : GN M D A 2 Q 182 [(0, .ref b)] [] ((b, .inr (10, fs)) :: r) nc ns := by
  refine n_aload_n C dX10_init_182 rfl ?_
  refine n_bipush (z := 64) C dX10_init_183 rfl ?_
  refine n_newaH (t0 := 0) (N := 64) (ty := .int) (a0 := (64, .inl (fun _ => iZ 0))) C dX10_init_185 rfl wc_3 rfl (ha_i _) rfl (by decide) (Nat.le_of_ble_eq_true rfl) hc hs (fun q => ?_)
  exact n_putFH (ci := 10) (N := 59) (T := TX10) (j := 28) (ty := (.array .int)) C hmn dX10_init_187 rfl hinX10 (by decide) wc_165 tyX10_ok nmX10 rfl rfl (by decide +kernel) rfl rfl (by rw [hl]; decide) rfl (K q (List.length_set.trans hl))
theorem mS_190 {M : MC} {D : va_G} {f : Nat → ClassId} {A : Nat → Prop} {Q : State → Prop} (C : Cn M D f A RX10 cX10_init 2 (rmn 1 42 4967)) (hmn : (Mt M).name = "<init>") {b nc ns : Nat} {fs : List Value} {r : va_W} (hl : fs.length = 59) (hc : nc + 1 ≤ 42) (hs : ns + 64 ≤ 4967) (K : ∀ q : Nat, (fs.set 29 (.ref q)).length = 59 → GN M D A 2 Q 198 [(0, .ref b)] [] ((b, .inr (10, fs.set 29 (.ref q))) :: (r ++ [(q, .inl (f 0, (64, .inl (fun _ => iZ 0))))])) (nc + 1) (ns + 64)) : GN M D A 2 Q 190 [(0, .ref b)] [] ((b, .inr (10, fs)) :: r) nc ns := by
  refine n_aload_n C dX10_init_190 rfl ?_
  refine n_bipush (z := 64) C dX10_init_191 rfl ?_
  refine n_newaH (t0 := 0) (N := 64) (ty := .int) (a0 := (64, .inl (fun _ => iZ 0))) C dX10_init_193 rfl wc_3 rfl (ha_i _) rfl (by decide) (Nat.le_of_ble_eq_true rfl) hc hs (fun q => ?_)
  exact n_putFH (ci := 10) (N := 59) (T := TX10) (j := 29) (ty := (.array .int)) C hmn dX10_init_195 rfl hinX10 (by decide) wc_166 tyX10_ok nmX10 rfl rfl (by decide +kernel) rfl rfl (by rw [hl]; decide) rfl (K q (List.length_set.trans hl))
theorem mS_198 {M : MC} {D : va_G} {f : Nat → ClassId} {A : Nat → Prop} {Q : State → Prop} (C : Cn M D f A RX10 cX10_init 2 (rmn 1 42 4967)) (hmn : (Mt M).name = "<init>") {b nc ns : Nat} {fs : List Value} {r : va_W} (hl : fs.length = 59) (hc : nc + 1 ≤ 42) (hs : ns + 64 ≤ 4967) (K : ∀ q : Nat, (fs.set 30 (.ref q)).length = 59 → GN M D A 2 Q 206 [(0, .ref b)] [] ((b, .inr (10, fs.set 30 (.ref q))) :: (r ++ [(q, .inl (f 0, (64, .inl (fun _ => iZ 0))))])) (nc + 1) (ns + 64)) : GN M D A 2 Q 198 [(0, .ref b)] [] ((b, .inr (10, fs)) :: r) nc ns := by
  refine n_aload_n C dX10_init_198 rfl ?_
  refine n_bipush (z := 64) C dX10_init_199 rfl ?_
  refine n_newaH (t0 := 0) (N := 64) (ty := .int) (a0 := (64, .inl (fun _ => iZ 0))) C dX10_init_201 rfl wc_3 rfl (ha_i _) rfl (by decide) (Nat.le_of_ble_eq_true rfl) hc hs (fun q => ?_)
  exact n_putFH (ci := 10) (N := 59) (T := TX10) (j := 30) (ty := (.array .int)) C hmn dX10_init_203 rfl hinX10 (by decide) wc_167 tyX10_ok nmX10 rfl rfl (by decide +kernel) rfl rfl (by rw [hl]; decide) rfl (K q (List.length_set.trans hl))
theorem mS_206 {M : MC} {D : va_G} {f : Nat → ClassId} {A : Nat → Prop} {Q : State → Prop} (C : Cn M D f A RX10 cX10_init 2 (rmn 1 42 4967)) (hmn : (Mt M).name = "<init>") {b nc ns : Nat} {fs : List Value} {r : va_W} (hl : fs.length = 59) (hc : nc + 1 ≤ 42) (hs : ns + 64 ≤ 4967) (K : ∀ q : Nat, (fs.set 31 (.ref q)).length = 59 → GN M D A 2 Q 214 [(0, .ref b)] [] ((b, .inr (10, fs.set 31 (.ref q))) :: (r ++ [(q, .inl (f 0, (64, .inl (fun _ => iZ 0))))])) (nc + 1) (ns + 64)) : GN M D A 2 Q 206 [(0, .ref b)] [] ((b, .inr (10, fs)) :: r) nc ns := by
  refine n_aload_n C dX10_init_206 rfl ?_
  refine n_bipush (z := 64) C dX10_init_207 rfl ?_
  refine n_newaH (t0 := 0) (N := 64) (ty := .int) (a0 := (64, .inl (fun _ => iZ 0))) C dX10_init_209 rfl wc_3 rfl (ha_i _) rfl (by decide) (Nat.le_of_ble_eq_true rfl) hc hs (fun q => ?_)
  exact n_putFH (ci := 10) (N := 59) (T := TX10) (j := 31) (ty := (.array .int)) C hmn dX10_init_211 rfl hinX10 (by decide) wc_168 tyX10_ok nmX10 rfl rfl (by decide +kernel) rfl rfl (by rw [hl]; decide) rfl (K q (List.length_set.trans hl))
theorem mS_214 {M : MC} {D : va_G} {f : Nat → ClassId} {A : Nat → Prop} {Q : State → Prop} (C : Cn M D f A RX10 cX10_init 2 (rmn 1 42 4967)) (hmn : (Mt M).name = "<init>") {b nc ns : Nat} {fs : List Value} {r : va_W} (hl : fs.length = 59) (hc : nc + 1 ≤ 42) (hs : ns + 64 ≤ 4967) (K : ∀ q : Nat, (fs.set 32 (.ref q)).length = 59 → GN M D A 2 Q 222 [(0, .ref b)] [] ((b, .inr (10, fs.set 32 (.ref q))) :: (r ++ [(q, .inl (f 0, (64, .inl (fun _ => iZ 0))))])) (nc + 1) (ns + 64)) : GN M D A 2 Q 214 [(0, .ref b)] [] ((b, .inr (10, fs)) :: r) nc ns := by
  refine n_aload_n C dX10_init_214 rfl ?_
  refine n_bipush (z := 64) C dX10_init_215 rfl ?_
  refine n_newaH (t0 := 0) (N := 64) (ty := .int) (a0 := (64, .inl (fun _ => iZ 0))) C dX10_init_217 rfl wc_3 rfl (ha_i _) rfl (by decide) (Nat.le_of_ble_eq_true rfl) hc hs (fun q => ?_)
  exact n_putFH (ci := 10) (N := 59) (T := TX10) (j := 32) (ty := (.array .int)) C hmn dX10_init_219 rfl hinX10 (by decide) wc_169 tyX10_ok nmX10 rfl rfl (by decide +kernel) rfl rfl (by rw [hl]; decide) rfl (K q (List.length_set.trans hl))
theorem mS_222 {M : MC} {D : va_G} {f : Nat → ClassId} {A : Nat → Prop} {Q : State → Prop} (C : Cn M D f A RX10 cX10_init 2 (rmn 1 42 4967)) (hmn : (Mt M).name = "<init>") {b nc ns : Nat} {fs : List Value} {r : va_W} (hl : fs.length = 59) (hc : nc + 1 ≤ 42) (hs : ns + 64 ≤ 4967) (K : ∀ q : Nat, (fs.set 33 (.ref q)).length = 59 → GN M D A 2 Q 230 [(0, .ref b)] [] ((b, .inr (10, fs.set 33 (.ref q))) :: (r ++ [(q, .inl (f 0, (64, .inl (fun _ => iZ 0))))])) (nc + 1) (ns + 64)) : GN M D A 2 Q 222 [(0, .ref b)] [] ((b, .inr (10, fs)) :: r) nc ns := by
  refine n_aload_n C dX10_init_222 rfl ?_
  refine n_bipush (z := 64) C dX10_init_223 rfl ?_
  refine n_newaH (t0 := 0) (N := 64) (ty := .int) (a0 := (64, .inl (fun _ => iZ 0))) C dX10_init_225 rfl wc_3 rfl (ha_i _) rfl (by decide) (Nat.le_of_ble_eq_true rfl) hc hs (fun q => ?_)
  exact n_putFH (ci := 10) (N := 59) (T := TX10) (j := 33) (ty := (.array .int)) C hmn dX10_init_227 rfl hinX10 (by decide) wc_170 tyX10_ok nmX10 rfl rfl (by decide +kernel) rfl rfl (by rw [hl]; decide) rfl (K q (List.length_set.trans hl))
theorem mS_230 {M : MC} {D : va_G} {f : Nat → ClassId} {A : Nat → Prop} {Q : State → Prop} (C : Cn M D f A RX10 cX10_init 2 (rmn 1 42 4967)) (hmn : (Mt M).name = "<init>") {b nc ns : Nat} {fs : List Value} {r : va_W} (hl : fs.length = 59) (hc : nc + 1 ≤ 42) (hs : ns + 64 ≤ 4967) (K : ∀ q : Nat, (fs.set 34 (.ref q)).length = 59 → GN M D A 2 Q 238 [(0, .ref b)] [] ((b, .inr (10, fs.set 34 (.ref q))) :: (r ++ [(q, .inl (f 0, (64, .inl (fun _ => iZ 0))))])) (nc + 1) (ns + 64)) : GN M D A 2 Q 230 [(0, .ref b)] [] ((b, .inr (10, fs)) :: r) nc ns := by
  refine n_aload_n C dX10_init_230 rfl ?_
  refine n_bipush (z := 64) C dX10_init_231 rfl ?_
  refine n_newaH (t0 := 0) (N := 64) (ty := .int) (a0 := (64, .inl (fun _ => iZ 0))) C dX10_init_233 rfl wc_3 rfl (ha_i _) rfl (by decide) (Nat.le_of_ble_eq_true rfl) hc hs (fun q => ?_)
  exact n_putFH (ci := 10) (N := 59) (T := TX10) (j := 34) (ty := (.array .int)) C hmn dX10_init_235 rfl hinX10 (by decide) wc_171 tyX10_ok nmX10 rfl rfl (by decide +kernel) rfl rfl (by rw [hl]; decide) rfl (K q (List.length_set.trans hl))
theorem mS_238 {M : MC} {D : va_G} {f : Nat → ClassId} {A : Nat → Prop} {Q : State → Prop} (C : Cn M D f A RX10 cX10_init 2 (rmn 1 42 4967)) (hmn : (Mt M).name = "<init>") {b nc ns : Nat} {fs : List Value} {r : va_W} (hl : fs.length = 59) (hc : nc + 1 ≤ 42) (hs : ns + 5 ≤ 4967) (K : ∀ q : Nat, (fs.set 37 (.ref q)).length = 59 → GN M D A 2 Q 245 [(0, .ref b)] [] ((b, .inr (10, fs.set 37 (.ref q))) :: (r ++ [(q, .inl (f 0, (5, .inl (fun _ => iZ 0))))])) (nc + 1) (ns + 5)) : GN M D A 2 Q 238 [(0, .ref b)] [] ((b, .inr (10, fs)) :: r) nc ns := by
  refine n_aload_n C dX10_init_238 rfl ?_
  refine n_iconst (z := 5) C dX10_init_239 rfl ?_
  refine n_newaH (t0 := 0) (N := 5) (ty := .int) (a0 := (5, .inl (fun _ => iZ 0))) C dX10_init_240 rfl wc_3 rfl (ha_i _) rfl (by decide) (Nat.le_of_ble_eq_true rfl) hc hs (fun q => ?_)
  exact n_putFH (ci := 10) (N := 59) (T := TX10) (j := 37) (ty := (.array .int)) C hmn dX10_init_242 rfl hinX10 (by decide) wc_172 tyX10_ok nmX10 rfl rfl (by decide +kernel) rfl rfl (by rw [hl]; decide) rfl (K q (List.length_set.trans hl))
theorem mS_245 {M : MC} {D : va_G} {f : Nat → ClassId} {A : Nat → Prop} {Q : State → Prop} (C : Cn M D f A RX10 cX10_init 2 (rmn 1 42 4967)) (hmn : (Mt M).name = "<init>") {b nc ns : Nat} {fs : List Value} {r : va_W} (hl : fs.length = 59) (hc : nc + 1 ≤ 42) (hs : ns + 8 ≤ 4967) (K : ∀ q : Nat, (fs.set 40 (.ref q)).length = 59 → GN M D A 2 Q 253 [(0, .ref b)] [] ((b, .inr (10, fs.set 40 (.ref q))) :: (r ++ [(q, .inl (f 0, (8, .inl (fun _ => iZ 0))))])) (nc + 1) (ns + 8)) : GN M D A 2 Q 245 [(0, .ref b)] [] ((b, .inr (10, fs)) :: r) nc ns := by
  refine n_aload_n C dX10_init_245 rfl ?_
  refine n_bipush (z := 8) C dX10_init_246 rfl ?_
  refine n_newaH (t0 := 0) (N := 8) (ty := .int) (a0 := (8, .inl (fun _ => iZ 0))) C dX10_init_248 rfl wc_3 rfl (ha_i _) rfl (by decide) (Nat.le_of_ble_eq_true rfl) hc hs (fun q => ?_)
  exact n_putFH (ci := 10) (N := 59) (T := TX10) (j := 40) (ty := (.array .int)) C hmn dX10_init_250 rfl hinX10 (by decide) wc_173 tyX10_ok nmX10 rfl rfl (by decide +kernel) rfl rfl (by rw [hl]; decide) rfl (K q (List.length_set.trans hl))
theorem mS_253 {M : MC} {D : va_G} {f : Nat → ClassId} {A : Nat → Prop} {Q : State → Prop} (C : Cn M D f A RX10 cX10_init 2 (rmn 1 42 4967)) (hmn : (Mt M).name = "<init>") {b nc ns : Nat} {fs : List Value} {r : va_W} (hl : fs.length = 59) (hc : nc + 1 ≤ 42) (hs : ns + 8 ≤ 4967) (K : ∀ q : Nat, (fs.set 41 (.ref q)).length = 59 → GN M D A 2 Q 261 [(0, .ref b)] [] ((b, .inr (10, fs.set 41 (.ref q))) :: (r ++ [(q, .inl (f 0, (8, .inl (fun _ => iZ 0))))])) (nc + 1) (ns + 8)) : GN M D A 2 Q 253 [(0, .ref b)] [] ((b, .inr (10, fs)) :: r) nc ns := by
  refine n_aload_n C dX10_init_253 rfl ?_
  refine n_bipush (z := 8) C dX10_init_254 rfl ?_
  refine n_newaH (t0 := 0) (N := 8) (ty := .int) (a0 := (8, .inl (fun _ => iZ 0))) C dX10_init_256 rfl wc_3 rfl (ha_i _) rfl (by decide) (Nat.le_of_ble_eq_true rfl) hc hs (fun q => ?_)
  exact n_putFH (ci := 10) (N := 59) (T := TX10) (j := 41) (ty := (.array .int)) C hmn dX10_init_258 rfl hinX10 (by decide) wc_174 tyX10_ok nmX10 rfl rfl (by decide +kernel) rfl rfl (by rw [hl]; decide) rfl (K q (List.length_set.trans hl))
theorem mS_261 {M : MC} {D : va_G} {f : Nat → ClassId} {A : Nat → Prop} {Q : State → Prop} (C : Cn M D f A RX10 cX10_init 2 (rmn 1 42 4967)) (hmn : (Mt M).name = "<init>") {b nc ns : Nat} {fs : List Value} {r : va_W} (hl : fs.length = 59) (hc : nc + 1 ≤ 42) (hs : ns + 8 ≤ 4967) (K : ∀ q : Nat, (fs.set 42 (.ref q)).length = 59 → GN M D A 2 Q 269 [(0, .ref b)] [] ((b, .inr (10, fs.set 42 (.ref q))) :: (r ++ [(q, .inl (f 0, (8, .inl (fun _ => iZ 0))))])) (nc + 1) (ns + 8)) : GN M D A 2 Q 261 [(0, .ref b)] [] ((b, .inr (10, fs)) :: r) nc ns := by
  refine n_aload_n C dX10_init_261 rfl ?_
  refine n_bipush (z := 8) C dX10_init_262 rfl ?_
  refine n_newaH (t0 := 0) (N := 8) (ty := .int) (a0 := (8, .inl (fun _ => iZ 0))) C dX10_init_264 rfl wc_3 rfl (ha_i _) rfl (by decide) (Nat.le_of_ble_eq_true rfl) hc hs (fun q => ?_)
  exact n_putFH (ci := 10) (N := 59) (T := TX10) (j := 42) (ty := (.array .int)) C hmn dX10_init_266 rfl hinX10 (by decide) wc_175 tyX10_ok nmX10 rfl rfl (by decide +kernel) rfl rfl (by rw [hl]; decide) rfl (K q (List.length_set.trans hl))
theorem mS_269 {M : MC} {D : va_G} {f : Nat → ClassId} {A : Nat → Prop} {Q : State → Prop} (C : Cn M D f A RX10 cX10_init 2 (rmn 1 42 4967)) (hmn : (Mt M).name = "<init>") {b nc ns : Nat} {fs : List Value} {r : va_W} (hl : fs.length = 59) (hc : nc + 1 ≤ 42) (hs : ns + 8 ≤ 4967) (K : ∀ q : Nat, (fs.set 43 (.ref q)).length = 59 → GN M D A 2 Q 277 [(0, .ref b)] [] ((b, .inr (10, fs.set 43 (.ref q))) :: (r ++ [(q, .inl (f 0, (8, .inl (fun _ => iZ 0))))])) (nc + 1) (ns + 8)) : GN M D A 2 Q 269 [(0, .ref b)] [] ((b, .inr (10, fs)) :: r) nc ns := by
  refine n_aload_n C dX10_init_269 rfl ?_
  refine n_bipush (z := 8) C dX10_init_270 rfl ?_
  refine n_newaH (t0 := 0) (N := 8) (ty := .int) (a0 := (8, .inl (fun _ => iZ 0))) C dX10_init_272 rfl wc_3 rfl (ha_i _) rfl (by decide) (Nat.le_of_ble_eq_true rfl) hc hs (fun q => ?_)
  exact n_putFH (ci := 10) (N := 59) (T := TX10) (j := 43) (ty := (.array .int)) C hmn dX10_init_274 rfl hinX10 (by decide) wc_176 tyX10_ok nmX10 rfl rfl (by decide +kernel) rfl rfl (by rw [hl]; decide) rfl (K q (List.length_set.trans hl))
theorem mS_277 {M : MC} {D : va_G} {f : Nat → ClassId} {A : Nat → Prop} {Q : State → Prop} (C : Cn M D f A RX10 cX10_init 2 (rmn 1 42 4967)) (hmn : (Mt M).name = "<init>") {b nc ns : Nat} {fs : List Value} {r : va_W} (hl : fs.length = 59) (hc : nc + 1 ≤ 42) (hs : ns + 8 ≤ 4967) (K : ∀ q : Nat, (fs.set 44 (.ref q)).length = 59 → GN M D A 2 Q 285 [(0, .ref b)] [] ((b, .inr (10, fs.set 44 (.ref q))) :: (r ++ [(q, .inl (f 0, (8, .inl (fun _ => iZ 0))))])) (nc + 1) (ns + 8)) : GN M D A 2 Q 277 [(0, .ref b)] [] ((b, .inr (10, fs)) :: r) nc ns := by
  refine n_aload_n C dX10_init_277 rfl ?_
  refine n_bipush (z := 8) C dX10_init_278 rfl ?_
  refine n_newaH (t0 := 0) (N := 8) (ty := .int) (a0 := (8, .inl (fun _ => iZ 0))) C dX10_init_280 rfl wc_3 rfl (ha_i _) rfl (by decide) (Nat.le_of_ble_eq_true rfl) hc hs (fun q => ?_)
  exact n_putFH (ci := 10) (N := 59) (T := TX10) (j := 44) (ty := (.array .int)) C hmn dX10_init_282 rfl hinX10 (by decide) wc_177 tyX10_ok nmX10 rfl rfl (by decide +kernel) rfl rfl (by rw [hl]; decide) rfl (K q (List.length_set.trans hl))
theorem mS_285 {M : MC} {D : va_G} {f : Nat → ClassId} {A : Nat → Prop} {Q : State → Prop} (C : Cn M D f A RX10 cX10_init 2 (rmn 1 42 4967)) (hmn : (Mt M).name = "<init>") {b nc ns : Nat} {fs : List Value} {r : va_W} (hl : fs.length = 59) (hc : nc + 1 ≤ 42) (hs : ns + 1280 ≤ 4967) (K : ∀ q : Nat, (fs.set 45 (.ref q)).length = 59 → GN M D A 2 Q 294 [(0, .ref b)] [] ((b, .inr (10, fs.set 45 (.ref q))) :: (r ++ [(q, .inl (f 2, (1280, .inr (.inl (fun _ => 0)))))])) (nc + 1) (ns + 1280)) : GN M D A 2 Q 285 [(0, .ref b)] [] ((b, .inr (10, fs)) :: r) nc ns := by
  refine n_aload_n C dX10_init_285 rfl ?_
  refine n_sipush (z := 1280) C dX10_init_286 rfl ?_
  refine n_newaH (t0 := 2) (N := 1280) (ty := .long) (a0 := (1280, .inr (.inl (fun _ => 0)))) C dX10_init_289 rfl wc_66 rfl (ha_l _) rfl (by decide) (Nat.le_of_ble_eq_true rfl) hc hs (fun q => ?_)
  exact n_putFH (ci := 10) (N := 59) (T := TX10) (j := 45) (ty := (.array .long)) C hmn dX10_init_291 rfl hinX10 (by decide) wc_178 tyX10_ok nmX10 rfl rfl (by decide +kernel) rfl rfl (by rw [hl]; decide) rfl (K q (List.length_set.trans hl))
theorem mS_294 {M : MC} {D : va_G} {f : Nat → ClassId} {A : Nat → Prop} {Q : State → Prop} (C : Cn M D f A RX10 cX10_init 2 (rmn 1 42 4967)) (hmn : (Mt M).name = "<init>") {b nc ns : Nat} {fs : List Value} {r : va_W} (hl : fs.length = 59) (hc : nc + 1 ≤ 42) (hs : ns + 80 ≤ 4967) (K : ∀ q : Nat, (fs.set 46 (.ref q)).length = 59 → GN M D A 2 Q 302 [(0, .ref b)] [] ((b, .inr (10, fs.set 46 (.ref q))) :: (r ++ [(q, .inl (f 0, (80, .inl (fun _ => iZ 0))))])) (nc + 1) (ns + 80)) : GN M D A 2 Q 294 [(0, .ref b)] [] ((b, .inr (10, fs)) :: r) nc ns := by
  refine n_aload_n C dX10_init_294 rfl ?_
  refine n_bipush (z := 80) C dX10_init_295 rfl ?_
  refine n_newaH (t0 := 0) (N := 80) (ty := .int) (a0 := (80, .inl (fun _ => iZ 0))) C dX10_init_297 rfl wc_3 rfl (ha_i _) rfl (by decide) (Nat.le_of_ble_eq_true rfl) hc hs (fun q => ?_)
  exact n_putFH (ci := 10) (N := 59) (T := TX10) (j := 46) (ty := (.array .int)) C hmn dX10_init_299 rfl hinX10 (by decide) wc_179 tyX10_ok nmX10 rfl rfl (by decide +kernel) rfl rfl (by rw [hl]; decide) rfl (K q (List.length_set.trans hl))
theorem mS_302 {M : MC} {D : va_G} {f : Nat → ClassId} {A : Nat → Prop} {Q : State → Prop} (C : Cn M D f A RX10 cX10_init 2 (rmn 1 42 4967)) (hmn : (Mt M).name = "<init>") {b nc ns : Nat} {fs : List Value} {r : va_W} (hl : fs.length = 59) (hc : nc + 1 ≤ 42) (hs : ns + 80 ≤ 4967) (K : ∀ q : Nat, (fs.set 47 (.ref q)).length = 59 → GN M D A 2 Q 310 [(0, .ref b)] [] ((b, .inr (10, fs.set 47 (.ref q))) :: (r ++ [(q, .inl (f 0, (80, .inl (fun _ => iZ 0))))])) (nc + 1) (ns + 80)) : GN M D A 2 Q 302 [(0, .ref b)] [] ((b, .inr (10, fs)) :: r) nc ns := by
  refine n_aload_n C dX10_init_302 rfl ?_
  refine n_bipush (z := 80) C dX10_init_303 rfl ?_
  refine n_newaH (t0 := 0) (N := 80) (ty := .int) (a0 := (80, .inl (fun _ => iZ 0))) C dX10_init_305 rfl wc_3 rfl (ha_i _) rfl (by decide) (Nat.le_of_ble_eq_true rfl) hc hs (fun q => ?_)
  exact n_putFH (ci := 10) (N := 59) (T := TX10) (j := 47) (ty := (.array .int)) C hmn dX10_init_307 rfl hinX10 (by decide) wc_180 tyX10_ok nmX10 rfl rfl (by decide +kernel) rfl rfl (by rw [hl]; decide) rfl (K q (List.length_set.trans hl))
theorem mS_310 {M : MC} {D : va_G} {f : Nat → ClassId} {A : Nat → Prop} {Q : State → Prop} (C : Cn M D f A RX10 cX10_init 2 (rmn 1 42 4967)) (hmn : (Mt M).name = "<init>") {b nc ns : Nat} {fs : List Value} {r : va_W} (hl : fs.length = 59) (hc : nc + 1 ≤ 42) (hs : ns + 80 ≤ 4967) (K : ∀ q : Nat, (fs.set 48 (.ref q)).length = 59 → GN M D A 2 Q 318 [(0, .ref b)] [] ((b, .inr (10, fs.set 48 (.ref q))) :: (r ++ [(q, .inl (f 0, (80, .inl (fun _ => iZ 0))))])) (nc + 1) (ns + 80)) : GN M D A 2 Q 310 [(0, .ref b)] [] ((b, .inr (10, fs)) :: r) nc ns := by
  refine n_aload_n C dX10_init_310 rfl ?_
  refine n_bipush (z := 80) C dX10_init_311 rfl ?_
  refine n_newaH (t0 := 0) (N := 80) (ty := .int) (a0 := (80, .inl (fun _ => iZ 0))) C dX10_init_313 rfl wc_3 rfl (ha_i _) rfl (by decide) (Nat.le_of_ble_eq_true rfl) hc hs (fun q => ?_)
  exact n_putFH (ci := 10) (N := 59) (T := TX10) (j := 48) (ty := (.array .int)) C hmn dX10_init_315 rfl hinX10 (by decide) wc_181 tyX10_ok nmX10 rfl rfl (by decide +kernel) rfl rfl (by rw [hl]; decide) rfl (K q (List.length_set.trans hl))
theorem mS_318 {M : MC} {D : va_G} {f : Nat → ClassId} {A : Nat → Prop} {Q : State → Prop} (C : Cn M D f A RX10 cX10_init 2 (rmn 1 42 4967)) (hmn : (Mt M).name = "<init>") {b nc ns : Nat} {fs : List Value} {r : va_W} (hl : fs.length = 59) (hc : nc + 1 ≤ 42) (hs : ns + 80 ≤ 4967) (K : ∀ q : Nat, (fs.set 49 (.ref q)).length = 59 → GN M D A 2 Q 326 [(0, .ref b)] [] ((b, .inr (10, fs.set 49 (.ref q))) :: (r ++ [(q, .inl (f 0, (80, .inl (fun _ => iZ 0))))])) (nc + 1) (ns + 80)) : GN M D A 2 Q 318 [(0, .ref b)] [] ((b, .inr (10, fs)) :: r) nc ns := by
  refine n_aload_n C dX10_init_318 rfl ?_
  refine n_bipush (z := 80) C dX10_init_319 rfl ?_
  refine n_newaH (t0 := 0) (N := 80) (ty := .int) (a0 := (80, .inl (fun _ => iZ 0))) C dX10_init_321 rfl wc_3 rfl (ha_i _) rfl (by decide) (Nat.le_of_ble_eq_true rfl) hc hs (fun q => ?_)
  exact n_putFH (ci := 10) (N := 59) (T := TX10) (j := 49) (ty := (.array .int)) C hmn dX10_init_323 rfl hinX10 (by decide) wc_182 tyX10_ok nmX10 rfl rfl (by decide +kernel) rfl rfl (by rw [hl]; decide) rfl (K q (List.length_set.trans hl))
theorem mS_326 {M : MC} {D : va_G} {f : Nat → ClassId} {A : Nat → Prop} {Q : State → Prop} (C : Cn M D f A RX10 cX10_init 2 (rmn 1 42 4967)) (hmn : (Mt M).name = "<init>") {b nc ns : Nat} {fs : List Value} {r : va_W} (hl : fs.length = 59) (hc : nc + 1 ≤ 42) (hs : ns + 5 ≤ 4967) (K : ∀ q : Nat, (fs.set 50 (.ref q)).length = 59 → GN M D A 2 Q 333 [(0, .ref b)] [] ((b, .inr (10, fs.set 50 (.ref q))) :: (r ++ [(q, .inl (f 0, (5, .inl (fun _ => iZ 0))))])) (nc + 1) (ns + 5)) : GN M D A 2 Q 326 [(0, .ref b)] [] ((b, .inr (10, fs)) :: r) nc ns := by
  refine n_aload_n C dX10_init_326 rfl ?_
  refine n_iconst (z := 5) C dX10_init_327 rfl ?_
  refine n_newaH (t0 := 0) (N := 5) (ty := .int) (a0 := (5, .inl (fun _ => iZ 0))) C dX10_init_328 rfl wc_3 rfl (ha_i _) rfl (by decide) (Nat.le_of_ble_eq_true rfl) hc hs (fun q => ?_)
  exact n_putFH (ci := 10) (N := 59) (T := TX10) (j := 50) (ty := (.array .int)) C hmn dX10_init_330 rfl hinX10 (by decide) wc_183 tyX10_ok nmX10 rfl rfl (by decide +kernel) rfl rfl (by rw [hl]; decide) rfl (K q (List.length_set.trans hl))
theorem mS_333 {M : MC} {D : va_G} {f : Nat → ClassId} {A : Nat → Prop} {Q : State → Prop} (C : Cn M D f A RX10 cX10_init 2 (rmn 1 42 4967)) (hmn : (Mt M).name = "<init>") {b nc ns : Nat} {fs : List Value} {r : va_W} (hl : fs.length = 59) (K : (fs.set 52 (.int (iZ (-1)))).length = 59 → GN M D A 2 Q 338 [(0, .ref b)] [] ((b, .inr (10, fs.set 52 (.int (iZ (-1))))) :: r) nc ns) : GN M D A 2 Q 333 [(0, .ref b)] [] ((b, .inr (10, fs)) :: r) nc ns := by
  refine n_aload_n C dX10_init_333 rfl ?_
  refine n_iconst (z := (-1)) C dX10_init_334 rfl ?_
  exact n_putH (ci := 10) (N := 59) (T := TX10) (j := 52) (ty := .int) C dX10_init_335 rfl hinX10 (by decide) wc_184 tyX10_ok nmX10 rfl (by decide +kernel) rfl rfl (by rw [hl]; decide) rfl (K (List.length_set.trans hl))
theorem mS_338 {M : MC} {D : va_G} {f : Nat → ClassId} {A : Nat → Prop} {Q : State → Prop} (C : Cn M D f A RX10 cX10_init 2 (rmn 1 42 4967)) (hmn : (Mt M).name = "<init>") {b nc ns : Nat} {fs : List Value} {r : va_W} (hl : fs.length = 59) (hc : nc + 1 ≤ 42) (hs : ns + 310 ≤ 4967) (K : ∀ q : Nat, (fs.set 55 (.ref q)).length = 59 → GN M D A 2 Q 347 [(0, .ref b)] [] ((b, .inr (10, fs.set 55 (.ref q))) :: (r ++ [(q, .inl (f 0, (310, .inl (fun _ => iZ 0))))])) (nc + 1) (ns + 310)) : GN M D A 2 Q 338 [(0, .ref b)] [] ((b, .inr (10, fs)) :: r) nc ns := by
  refine n_aload_n C dX10_init_338 rfl ?_
  refine n_sipush (z := 310) C dX10_init_339 rfl ?_
  refine n_newaH (t0 := 0) (N := 310) (ty := .int) (a0 := (310, .inl (fun _ => iZ 0))) C dX10_init_342 rfl wc_3 rfl (ha_i _) rfl (by decide) (Nat.le_of_ble_eq_true rfl) hc hs (fun q => ?_)
  exact n_putFH (ci := 10) (N := 59) (T := TX10) (j := 55) (ty := (.array .int)) C hmn dX10_init_344 rfl hinX10 (by decide) wc_185 tyX10_ok nmX10 rfl rfl (by decide +kernel) rfl rfl (by rw [hl]; decide) rfl (K q (List.length_set.trans hl))
theorem mS_347 {M : MC} {D : va_G} {f : Nat → ClassId} {A : Nat → Prop} {Q : State → Prop} (C : Cn M D f A RX10 cX10_init 2 (rmn 1 42 4967)) (hmn : (Mt M).name = "<init>") {b nc ns : Nat} {fs : List Value} {r : va_W} (hl : fs.length = 59) (K : (fs.set 12 (.int (iZ 1))).length = 59 → GN M D A 2 Q 352 [(0, .ref b)] [] ((b, .inr (10, fs.set 12 (.int (iZ 1)))) :: r) nc ns) : GN M D A 2 Q 347 [(0, .ref b)] [] ((b, .inr (10, fs)) :: r) nc ns := by
  refine n_aload_n C dX10_init_347 rfl ?_
  refine n_iconst (z := 1) C dX10_init_348 rfl ?_
  exact n_putH (ci := 10) (N := 59) (T := TX10) (j := 12) (ty := .int) C dX10_init_349 rfl hinX10 (by decide) wc_186 tyX10_ok nmX10 rfl (by decide +kernel) rfl rfl (by rw [hl]; decide) rfl (K (List.length_set.trans hl))
theorem itX {M : MC} {D : va_G} {f : Nat → ClassId} {A : Nat → Prop} {Q : State → Prop} (C : Cn M D f A RX10 cX10_init 2 (rmn 1 42 4967)) {b q4 q5 k nc ns : Nat} {fs : List Value} {p1 p2 p3 : Nat × va_E} {g h : Nat → Int32} {wb : va_W} (hf3 : fs[3]? = some (.ref q4)) (hf4 : fs[4]? = some (.ref q5)) (hk : k < 5)
    (K : GN M D A 2 Q 354 [(1, .int (iZ ((k + 1 : Nat) : Int))), (0, .ref b)] [] ((b, .inr (10, fs)) :: p1 :: p2 :: p3 :: (q4, .inl (f 0, 5, .inl (upd g k (iZ 4)))) :: (q5, .inl (f 0, 5, .inl (upd h k (iZ (-1))))) :: wb) nc ns) : GN M D A 2 Q 354 [(1, .int (iZ ((k : Nat) : Int))), (0, .ref b)] [] ((b, .inr (10, fs)) :: p1 :: p2 :: p3 :: (q4, .inl (f 0, 5, .inl g)) :: (q5, .inl (f 0, 5, .inl h)) :: wb) nc ns := by
  refine n_iload_n C dX10_init_354 rfl ?_
  refine n_iconst (z := 5) C dX10_init_355 rfl ?_
  refine n_ge_f (tgt := 379) C dX10_init_356 (by decide) (by unfold R32; omega) (by omega) ?_
  refine n_aload_n C dX10_init_359 rfl ?_
  refine n_get (ci := 10) (N := 59) (T := TX10) (j := 3) (v := .ref q4) (fs := fs) C dX10_init_360 rfl rfl hinX10 (by decide) wc_146 hf3 ?_
  refine n_iload_n C dX10_init_363 rfl ?_
  refine n_iconst (z := 4) C dX10_init_364 rfl ?_
  refine n_iast (n := 5) (j := k) (g := g) (wa := [(b, .inr (10, fs)), p1, p2, p3]) C dX10_init_365 rfl rfl hk (by decide) rfl rfl ?_
  refine n_aload_n C dX10_init_366 rfl ?_
  refine n_get (ci := 10) (N := 59) (T := TX10) (j := 4) (v := .ref q5) (fs := fs) C dX10_init_367 rfl rfl hinX10 (by decide) wc_147 hf4 ?_
  refine n_iload_n C dX10_init_370 rfl ?_
  refine n_iconst (z := (-1)) C dX10_init_371 rfl ?_
  refine n_iast (n := 5) (j := k) (g := h) (wa := [(b, .inr (10, fs)), p1, p2, p3, (q4, .inl (f 0, 5, .inl (upd g k (iZ 4))))]) C dX10_init_372 rfl rfl hk (by decide) rfl rfl ?_
  refine n_iinc (q := 0) (v := ((k + 1 : Nat) : Int)) (L' := [(1, .int (iZ ((k + 1 : Nat) : Int))), (0, .ref b)]) C dX10_init_373 rfl (by omega) (by decide) rfl ?_
  refine n_goto (tgt := 354) C dX10_init_376 (by decide) ?_
  exact K
set_option maxRecDepth 100000 in
def mdF (q1 q2 q3 q4 q5 q6 q7 q8 q9 q10 q11 q12 q13 q14 q15 q16 q17 q18 q19 q20 q21 q22 q23 q24 q25 q26 q27 q28 q29 q30 q31 q32 q33 q34 q35 q36 q37 q38 q39 q40 q41 q42 : Nat) : List Value := [.ref q1, .ref q2, .ref q3, .ref q4, .ref q5, .ref q6, .ref q7, .ref q8, .ref q9, .ref q10, .int (iZ 0), .int (iZ 0), .int (iZ 1), .ref q11, .ref q12, .ref q13, .ref q14, .ref q15, .int (iZ 0), .ref q16, .ref q17, .ref q18, .ref q19, .ref q20, .int (iZ 0), .int (iZ 0), .ref q21, .ref q22, .ref q23, .ref q24, .ref q25, .ref q26, .ref q27, .ref q28, .ref q29, .int (iZ 0), .int (iZ 0), .ref q30, .int (iZ 0), .long 0, .ref q31, .ref q32, .ref q33, .ref q34, .ref q35, .ref q36, .ref q37, .ref q38, .ref q39, .ref q40, .ref q41, .int (iZ 0), .int (iZ (-1)), .int (iZ 0), .int (iZ 0), .ref q42, .int (iZ 0), .int (iZ 0), .int (iZ 0)]
set_option maxRecDepth 100000 in
def mdC (f : Nat → ClassId) (g h : Nat → Int32) (q1 q2 q3 q4 q5 q6 q7 q8 q9 q10 q11 q12 q13 q14 q15 q16 q17 q18 q19 q20 q21 q22 q23 q24 q25 q26 q27 q28 q29 q30 q31 q32 q33 q34 q35 q36 q37 q38 q39 q40 q41 q42 : Nat) : va_W := [(q1, .inl (f 0, 8, .inl (fun _ => iZ 0))), (q2, .inl (f 0, 5, .inl (fun _ => iZ 0))), (q3, .inl (f 0, 240, .inl (fun _ => iZ 0))), (q4, .inl (f 0, 5, .inl g)), (q5, .inl (f 0, 5, .inl h)), (q6, .inl (f 0, 8, .inl (fun _ => iZ 0))), (q7, .inl (f 0, 8, .inl (fun _ => iZ 0))), (q8, .inl (f 0, 8, .inl (fun _ => iZ 0))), (q9, .inl (f 0, 8, .inl (fun _ => iZ 0))), (q10, .inl (f 0, 8, .inl (fun _ => iZ 0))), (q11, .inl (f 0, 16, .inl (fun _ => iZ 0))), (q12, .inl (f 0, 8, .inl (fun _ => iZ 0))), (q13, .inl (f 0, 8, .inl (fun _ => iZ 0))), (q14, .inl (f 0, 8, .inl (fun _ => iZ 0))), (q15, .inl (f 0, 8, .inl (fun _ => iZ 0))), (q16, .inl (f 1, 32, .inr (.inr (.inl (fun _ => 0))))), (q17, .inl (f 1, 512, .inr (.inr (.inl (fun _ => 0))))), (q18, .inl (f 0, 512, .inl (fun _ => iZ 0))), (q19, .inl (f 0, 512, .inl (fun _ => iZ 0))), (q20, .inl (f 0, 512, .inl (fun _ => iZ 0))), (q21, .inl (f 0, 64, .inl (fun _ => iZ 0))), (q22, .inl (f 0, 64, .inl (fun _ => iZ 0))), (q23, .inl (f 0, 64, .inl (fun _ => iZ 0))), (q24, .inl (f 0, 64, .inl (fun _ => iZ 0))), (q25, .inl (f 0, 64, .inl (fun _ => iZ 0))), (q26, .inl (f 0, 64, .inl (fun _ => iZ 0))), (q27, .inl (f 0, 64, .inl (fun _ => iZ 0))), (q28, .inl (f 0, 64, .inl (fun _ => iZ 0))), (q29, .inl (f 0, 64, .inl (fun _ => iZ 0))), (q30, .inl (f 0, 5, .inl (fun _ => iZ 0))), (q31, .inl (f 0, 8, .inl (fun _ => iZ 0))), (q32, .inl (f 0, 8, .inl (fun _ => iZ 0))), (q33, .inl (f 0, 8, .inl (fun _ => iZ 0))), (q34, .inl (f 0, 8, .inl (fun _ => iZ 0))), (q35, .inl (f 0, 8, .inl (fun _ => iZ 0))), (q36, .inl (f 2, 1280, .inr (.inl (fun _ => 0)))), (q37, .inl (f 0, 80, .inl (fun _ => iZ 0))), (q38, .inl (f 0, 80, .inl (fun _ => iZ 0))), (q39, .inl (f 0, 80, .inl (fun _ => iZ 0))), (q40, .inl (f 0, 80, .inl (fun _ => iZ 0))), (q41, .inl (f 0, 5, .inl (fun _ => iZ 0))), (q42, .inl (f 0, 310, .inl (fun _ => iZ 0)))]
def W10 (f : Nat → ClassId) (b : Nat) (w : va_W) : Prop := ∃ (q1 : Nat) (q2 : Nat) (q3 : Nat) (q4 : Nat) (q5 : Nat) (q6 : Nat) (q7 : Nat) (q8 : Nat) (q9 : Nat) (q10 : Nat) (q11 : Nat) (q12 : Nat) (q13 : Nat) (q14 : Nat) (q15 : Nat) (q16 : Nat) (q17 : Nat) (q18 : Nat) (q19 : Nat) (q20 : Nat) (q21 : Nat) (q22 : Nat) (q23 : Nat) (q24 : Nat) (q25 : Nat) (q26 : Nat) (q27 : Nat) (q28 : Nat) (q29 : Nat) (q30 : Nat) (q31 : Nat) (q32 : Nat) (q33 : Nat) (q34 : Nat) (q35 : Nat) (q36 : Nat) (q37 : Nat) (q38 : Nat) (q39 : Nat) (q40 : Nat) (q41 : Nat) (q42 : Nat), w = (b, .inr (10, mdF q1 q2 q3 q4 q5 q6 q7 q8 q9 q10 q11 q12 q13 q14 q15 q16 q17 q18 q19 q20 q21 q22 q23 q24 q25 q26 q27 q28 q29 q30 q31 q32 q33 q34 q35 q36 q37 q38 q39 q40 q41 q42)) :: mdC f (upd (upd (upd (upd (upd (fun _ => iZ 0) 0 (iZ 4)) 1 (iZ 4)) 2 (iZ 4)) 3 (iZ 4)) 4 (iZ 4)) (upd (upd (upd (upd (upd (fun _ => iZ 0) 0 (iZ (-1))) 1 (iZ (-1))) 2 (iZ (-1))) 3 (iZ (-1))) 4 (iZ (-1))) q1 q2 q3 q4 q5 q6 q7 q8 q9 q10 q11 q12 q13 q14 q15 q16 q17 q18 q19 q20 q21 q22 q23 q24 q25 q26 q27 q28 q29 q30 q31 q32 q33 q34 q35 q36 q37 q38 q39 q40 q41 q42
set_option maxHeartbeats 40000000 in
set_option maxRecDepth 100000 in
theorem cn_X10_init (D : va_G) (f : Nat → ClassId) (l : Launch) (b : Nat) : CtN D f l (rmn 1 42 4967) yX10_init cX10_init 2 [.ref b] [(b, .inr (10, [.null, .null, .null, .null, .null, .null, .null, .null, .null, .null, .int (iZ 0), .int (iZ 0), .int (iZ 0), .null, .null, .null, .null, .null, .int (iZ 0), .null, .null, .null, .null, .null, .int (iZ 0), .int (iZ 0), .null, .null, .null, .null, .null, .null, .null, .null, .null, .int (iZ 0), .int (iZ 0), .null, .int (iZ 0), .long 0, .null, .null, .null, .null, .null, .null, .null, .null, .null, .null, .null, .int (iZ 0), .int (iZ 0), .int (iZ 0), .int (iZ 0), .null, .int (iZ 0), .int (iZ 0), .int (iZ 0)]))] (fun w : {w : va_W // W10 f b w} => w.1) := by
  refine CtN.of (own := RX10) (L0 := [(0, .ref b)]) (by decide +kernel) rfl (Nat.le_of_ble_eq_true rfl) rfl rfl ?_
  intro M A C hMl hmn hrt hlk
  refine n_aload_n C dX10_init_0 rfl ?_
  refine n_obj C dX10_init_1 wc_142 wc_1 wc_2 (by decide) ?_
  refine mS_4 C hmn rfl (Nat.le_of_ble_eq_true rfl) (Nat.le_of_ble_eq_true rfl) (fun q1 l1 => ?_)
  refine mS_12 C hmn l1 (Nat.le_of_ble_eq_true rfl) (Nat.le_of_ble_eq_true rfl) (fun q2 l2 => ?_)
  refine mS_19 C hmn l2 (Nat.le_of_ble_eq_true rfl) (Nat.le_of_ble_eq_true rfl) (fun q3 l3 => ?_)
  refine mS_28 C hmn l3 (Nat.le_of_ble_eq_true rfl) (Nat.le_of_ble_eq_true rfl) (fun q4 l4 => ?_)
  refine mS_35 C hmn l4 (Nat.le_of_ble_eq_true rfl) (Nat.le_of_ble_eq_true rfl) (fun q5 l5 => ?_)
  refine mS_42 C hmn l5 (Nat.le_of_ble_eq_true rfl) (Nat.le_of_ble_eq_true rfl) (fun q6 l6 => ?_)
  refine mS_50 C hmn l6 (Nat.le_of_ble_eq_true rfl) (Nat.le_of_ble_eq_true rfl) (fun q7 l7 => ?_)
  refine mS_58 C hmn l7 (Nat.le_of_ble_eq_true rfl) (Nat.le_of_ble_eq_true rfl) (fun q8 l8 => ?_)
  refine mS_66 C hmn l8 (Nat.le_of_ble_eq_true rfl) (Nat.le_of_ble_eq_true rfl) (fun q9 l9 => ?_)
  refine mS_74 C hmn l9 (Nat.le_of_ble_eq_true rfl) (Nat.le_of_ble_eq_true rfl) (fun q10 l10 => ?_)
  refine mS_82 C hmn l10 (Nat.le_of_ble_eq_true rfl) (Nat.le_of_ble_eq_true rfl) (fun q11 l11 => ?_)
  refine mS_90 C hmn l11 (Nat.le_of_ble_eq_true rfl) (Nat.le_of_ble_eq_true rfl) (fun q12 l12 => ?_)
  refine mS_98 C hmn l12 (Nat.le_of_ble_eq_true rfl) (Nat.le_of_ble_eq_true rfl) (fun q13 l13 => ?_)
  refine mS_106 C hmn l13 (Nat.le_of_ble_eq_true rfl) (Nat.le_of_ble_eq_true rfl) (fun q14 l14 => ?_)
  refine mS_114 C hmn l14 (Nat.le_of_ble_eq_true rfl) (Nat.le_of_ble_eq_true rfl) (fun q15 l15 => ?_)
  refine mS_122 C hmn l15 (Nat.le_of_ble_eq_true rfl) (Nat.le_of_ble_eq_true rfl) (fun q16 l16 => ?_)
  refine mS_130 C hmn l16 (Nat.le_of_ble_eq_true rfl) (Nat.le_of_ble_eq_true rfl) (fun q17 l17 => ?_)
  refine mS_139 C hmn l17 (Nat.le_of_ble_eq_true rfl) (Nat.le_of_ble_eq_true rfl) (fun q18 l18 => ?_)
  refine mS_148 C hmn l18 (Nat.le_of_ble_eq_true rfl) (Nat.le_of_ble_eq_true rfl) (fun q19 l19 => ?_)
  refine mS_157 C hmn l19 (Nat.le_of_ble_eq_true rfl) (Nat.le_of_ble_eq_true rfl) (fun q20 l20 => ?_)
  refine mS_166 C hmn l20 (Nat.le_of_ble_eq_true rfl) (Nat.le_of_ble_eq_true rfl) (fun q21 l21 => ?_)
  refine mS_174 C hmn l21 (Nat.le_of_ble_eq_true rfl) (Nat.le_of_ble_eq_true rfl) (fun q22 l22 => ?_)
  refine mS_182 C hmn l22 (Nat.le_of_ble_eq_true rfl) (Nat.le_of_ble_eq_true rfl) (fun q23 l23 => ?_)
  refine mS_190 C hmn l23 (Nat.le_of_ble_eq_true rfl) (Nat.le_of_ble_eq_true rfl) (fun q24 l24 => ?_)
  refine mS_198 C hmn l24 (Nat.le_of_ble_eq_true rfl) (Nat.le_of_ble_eq_true rfl) (fun q25 l25 => ?_)
  refine mS_206 C hmn l25 (Nat.le_of_ble_eq_true rfl) (Nat.le_of_ble_eq_true rfl) (fun q26 l26 => ?_)
  refine mS_214 C hmn l26 (Nat.le_of_ble_eq_true rfl) (Nat.le_of_ble_eq_true rfl) (fun q27 l27 => ?_)
  refine mS_222 C hmn l27 (Nat.le_of_ble_eq_true rfl) (Nat.le_of_ble_eq_true rfl) (fun q28 l28 => ?_)
  refine mS_230 C hmn l28 (Nat.le_of_ble_eq_true rfl) (Nat.le_of_ble_eq_true rfl) (fun q29 l29 => ?_)
  refine mS_238 C hmn l29 (Nat.le_of_ble_eq_true rfl) (Nat.le_of_ble_eq_true rfl) (fun q30 l30 => ?_)
  refine mS_245 C hmn l30 (Nat.le_of_ble_eq_true rfl) (Nat.le_of_ble_eq_true rfl) (fun q31 l31 => ?_)
  refine mS_253 C hmn l31 (Nat.le_of_ble_eq_true rfl) (Nat.le_of_ble_eq_true rfl) (fun q32 l32 => ?_)
  refine mS_261 C hmn l32 (Nat.le_of_ble_eq_true rfl) (Nat.le_of_ble_eq_true rfl) (fun q33 l33 => ?_)
  refine mS_269 C hmn l33 (Nat.le_of_ble_eq_true rfl) (Nat.le_of_ble_eq_true rfl) (fun q34 l34 => ?_)
  refine mS_277 C hmn l34 (Nat.le_of_ble_eq_true rfl) (Nat.le_of_ble_eq_true rfl) (fun q35 l35 => ?_)
  refine mS_285 C hmn l35 (Nat.le_of_ble_eq_true rfl) (Nat.le_of_ble_eq_true rfl) (fun q36 l36 => ?_)
  refine mS_294 C hmn l36 (Nat.le_of_ble_eq_true rfl) (Nat.le_of_ble_eq_true rfl) (fun q37 l37 => ?_)
  refine mS_302 C hmn l37 (Nat.le_of_ble_eq_true rfl) (Nat.le_of_ble_eq_true rfl) (fun q38 l38 => ?_)
  refine mS_310 C hmn l38 (Nat.le_of_ble_eq_true rfl) (Nat.le_of_ble_eq_true rfl) (fun q39 l39 => ?_)
  refine mS_318 C hmn l39 (Nat.le_of_ble_eq_true rfl) (Nat.le_of_ble_eq_true rfl) (fun q40 l40 => ?_)
  refine mS_326 C hmn l40 (Nat.le_of_ble_eq_true rfl) (Nat.le_of_ble_eq_true rfl) (fun q41 l41 => ?_)
  refine mS_333 C hmn l41 (fun k333 => ?_)
  refine mS_338 C hmn k333 (Nat.le_of_ble_eq_true rfl) (Nat.le_of_ble_eq_true rfl) (fun q42 l42 => ?_)
  refine mS_347 C hmn l42 (fun k347 => ?_)
  refine n_w (ws' := (b, .inr (10, mdF q1 q2 q3 q4 q5 q6 q7 q8 q9 q10 q11 q12 q13 q14 q15 q16 q17 q18 q19 q20 q21 q22 q23 q24 q25 q26 q27 q28 q29 q30 q31 q32 q33 q34 q35 q36 q37 q38 q39 q40 q41 q42)) :: mdC f (fun _ => iZ 0) (fun _ => iZ 0) q1 q2 q3 q4 q5 q6 q7 q8 q9 q10 q11 q12 q13 q14 q15 q16 q17 q18 q19 q20 q21 q22 q23 q24 q25 q26 q27 q28 q29 q30 q31 q32 q33 q34 q35 q36 q37 q38 q39 q40 q41 q42) (by simp only [mdF, mdC, List.set_cons_zero, List.set_cons_succ, List.cons_append, List.nil_append]) ?_
  clear l1 l2 l3 l4 l5 l6 l7 l8 l9 l10 l11 l12 l13 l14 l15 l16 l17 l18 l19 l20 l21 l22 l23 l24 l25 l26 l27 l28 l29 l30 l31 l32 l33 l34 l35 l36 l37 l38 l39 l40 l41 l42 k333 k347
  refine n_iconst (z := 0) C dX10_init_352 rfl ?_
  refine n_istore_n (L' := [(1, .int (iZ 0)), (0, .ref b)]) C dX10_init_353 rfl (by decide) rfl ?_
  refine itX (k := 0) C rfl rfl (by decide) ?_
  refine itX (k := 1) C rfl rfl (by decide) ?_
  refine itX (k := 2) C rfl rfl (by decide) ?_
  refine itX (k := 3) C rfl rfl (by decide) ?_
  refine itX (k := 4) C rfl rfl (by decide) ?_
  refine n_iload_n C dX10_init_354 rfl ?_
  refine n_iconst (z := 5) C dX10_init_355 rfl ?_
  refine n_ge_t (tgt := 379) C dX10_init_356 (by decide) (by unfold R32; omega) (by omega) ?_
  exact n_ret C hrt hlk dX10_init_379 (⟨(b, .inr (10, mdF q1 q2 q3 q4 q5 q6 q7 q8 q9 q10 q11 q12 q13 q14 q15 q16 q17 q18 q19 q20 q21 q22 q23 q24 q25 q26 q27 q28 q29 q30 q31 q32 q33 q34 q35 q36 q37 q38 q39 q40 q41 q42)) :: mdC f (upd (upd (upd (upd (upd (fun _ => iZ 0) 0 (iZ 4)) 1 (iZ 4)) 2 (iZ 4)) 3 (iZ 4)) 4 (iZ 4)) (upd (upd (upd (upd (upd (fun _ => iZ 0) 0 (iZ (-1))) 1 (iZ (-1))) 2 (iZ (-1))) 3 (iZ (-1))) 4 (iZ (-1))) q1 q2 q3 q4 q5 q6 q7 q8 q9 q10 q11 q12 q13 q14 q15 q16 q17 q18 q19 q20 q21 q22 q23 q24 q25 q26 q27 q28 q29 q30 q31 q32 q33 q34 q35 q36 q37 q38 q39 q40 q41 q42, q1, q2, q3, q4, q5, q6, q7, q8, q9, q10, q11, q12, q13, q14, q15, q16, q17, q18, q19, q20, q21, q22, q23, q24, q25, q26, q27, q28, q29, q30, q31, q32, q33, q34, q35, q36, q37, q38, q39, q40, q41, q42, rfl⟩ : {w : va_W // W10 f b w}) rfl (Nat.le_of_ble_eq_true rfl) (Nat.le_of_ble_eq_true rfl)

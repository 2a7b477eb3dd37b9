/-! CONSTRUCTORS: a world of cells that grows -/
abbrev tyN (f : Nat → ClassId) : List (ClassId × FieldType) := [(f 0, .int), (f 1, .float), (f 2, .long), (f 3, .object RX5), (f 4, .object RX2), (f 5, .object RX4)]
def NO (U : State) : Prop := va_AO RX5 U ∧ va_AO RX2 U ∧ va_AO RX4 U
theorem NO.moved {u U : State} (hvm : u.vm.Alike U.vm) (h : NO u) : NO U := ⟨h.1.moved hvm, h.2.1.moved hvm, h.2.2.moved hvm⟩
theorem RA_inj {U : State} {a b : ClassId} {ty : FieldType} (h : va_RA U a ty) (g : va_RA U b ty) : a = b := by
  cases ty with
  | object C =>
    obtain ⟨_, _, -, -, -, h4⟩ := h
    obtain ⟨_, _, -, -, -, g4⟩ := g
    exact Option.some.inj (h4.symm.trans g4)
  | _ => exact Option.some.inj (Eq.trans (Eq.symm h) g)
def rmn (d nc ns : Nat) : Room := { frames := d, cells := nc, slots := ns, locals := 64 * d }
def Cn (M : MC) (D : va_G) (f : Nat → ClassId) (A : Nat → Prop) (own : String) (cc : ByteArray) (nL : Nat) (R : Room) : Prop :=
  (Mp M).tables.exec = Jvm.exec ∧ (Mc M).code = cc ∧ (Mc M).maxLocals = nL ∧ (Ms M).vm.findClass own = some (Mm M).cls ∧ (∀ w ∈ lw_g, w.before (Ma M) (Ms M) = true) ∧ MR M = R ∧ va_K D vwCl (tyN f) (Ms M) ∧ NO (Ms M) ∧ ∀ q, (Ms M).heap.size ≤ q → A q
def GN (M : MC) (D : va_G) (A : Nat → Prop) (nL : Nat) (Q : State → Prop) (pc : Nat) (L : List (Nat × Value)) (st : List Value) (ws : va_W) (nc ns : Nat) : Prop :=
  ∀ (H : Heap) (locs : List Loc) (ls : Array Slot), va_P D vwCl ws H → va_D A ws → va_S A (Ms M).heap H locs → lv_has ls nL L → W (Mp M) (Ml M) (Me M) (MR M) (Ms M) (Mm M) (Ma M) (Mb M) (Mt M) (Mc M) H locs nc ns Q (F0 (Mm M) pc ls st)
section CNS
variable {M : MC} {D : va_G} {f : Nat → ClassId} {A : Nat → Prop} {own : String} {cc : ByteArray} {nL : Nat} {R : Room} {Q : State → Prop} {pc : Nat} {L : List (Nat × Value)} {st : List Value} {ws : va_W} {nc ns : Nat}
theorem Cn.ow (C : Cn M D f A own cc nL R) : (Ms M).vm.findClass own = some (Mm M).cls := C.2.2.2.1
theorem Cn.hts (C : Cn M D f A own cc nL R) : ∀ w ∈ lw_g, w.before (Ma M) (Ms M) = true := C.2.2.2.2.1
theorem Cn.w (C : Cn M D f A own cc nL R) {w : Cond} (h : w ∈ lw_g) : w.before (Ma M) (Ms M) = true := C.hts w h
theorem Cn.room (C : Cn M D f A own cc nL R) : MR M = R := C.2.2.2.2.2.1
theorem Cn.K (C : Cn M D f A own cc nL R) : va_K D vwCl (tyN f) (Ms M) := C.2.2.2.2.2.2.1
theorem Cn.N (C : Cn M D f A own cc nL R) : NO (Ms M) := C.2.2.2.2.2.2.2.1
theorem Cn.fr (C : Cn M D f A own cc nL R) : ∀ q, (Ms M).heap.size ≤ q → A q := C.2.2.2.2.2.2.2.2
theorem n_w {ws' : va_W} (h : ws = ws') (k : GN M D A nL Q pc L st ws' nc ns) : GN M D A nL Q pc L st ws nc ns := h ▸ k
theorem n_n {nc' ns' : Nat} (h1 : nc ≤ nc') (h2 : ns ≤ ns') (k : GN M D A nL Q pc L st ws nc' ns') : GN M D A nL Q pc L st ws nc ns := fun H locs ls hP hD hS hl => W.widen h1 h2 (k H locs ls hP hD hS hl)
theorem n_pc {pc' : Nat} (h : pc = pc') (k : GN M D A nL Q pc' L st ws nc ns) : GN M D A nL Q pc L st ws nc ns := h ▸ k
theorem n_iconst (C : Cn M D f A own cc nL R) {n z : Int} (hd : decode cc pc = .ok (.iconst n, 1)) (h : Int32.ofInt n = iZ z) (k : GN M D A nL Q (pc + 1) L (.int (iZ z) :: st) ws nc ns) : GN M D A nL Q pc L st ws nc ns := by
  intro H locs ls hP hD hS hl
  exact lv_iconst C.1 C.2.1 hd h (k H locs ls hP hD hS hl)
theorem n_bipush (C : Cn M D f A own cc nL R) {n z : Int} (hd : decode cc pc = .ok (.bipush n, 2)) (h : (Int8.ofInt n).toInt32 = iZ z) (k : GN M D A nL Q (pc + 2) L (.int (iZ z) :: st) ws nc ns) : GN M D A nL Q pc L st ws nc ns := by
  intro H locs ls hP hD hS hl
  exact lv_bipush C.1 C.2.1 hd h (k H locs ls hP hD hS hl)
theorem n_sipush (C : Cn M D f A own cc nL R) {n z : Int} (hd : decode cc pc = .ok (.sipush n, 3)) (h : (Int16.ofInt n).toInt32 = iZ z) (k : GN M D A nL Q (pc + 3) L (.int (iZ z) :: st) ws nc ns) : GN M D A nL Q pc L st ws nc ns := by
  intro H locs ls hP hD hS hl
  exact lv_sipush C.1 C.2.1 hd h (k H locs ls hP hD hS hl)
theorem n_aload_n (C : Cn M D f A own cc nL R) {i : Fin 4} {x : Nat} (hd : decode cc pc = .ok (.aload_n i, 1)) (h : lk L i = some (.ref x)) (k : GN M D A nL Q (pc + 1) L (.ref x :: st) ws nc ns) : GN M D A nL Q pc L st ws nc ns := by
  intro H locs ls hP hD hS hl
  exact lv_aload_n C.1 C.2.1 hd rfl (lk_at hl h) (k H locs ls hP hD hS hl)
theorem n_iload_n (C : Cn M D f A own cc nL R) {i : Fin 4} {x : Int32} (hd : decode cc pc = .ok (.iload_n i, 1)) (h : lk L i = some (.int x)) (k : GN M D A nL Q (pc + 1) L (.int x :: st) ws nc ns) : GN M D A nL Q pc L st ws nc ns := by
  intro H locs ls hP hD hS hl
  exact lv_iload_n C.1 C.2.1 hd rfl (lk_at hl h) (k H locs ls hP hD hS hl)
theorem n_istore_n (C : Cn M D f A own cc nL R) {i0 : Fin 4} {i : Nat} {x : Int32} {L' : List (Nat × Value)} (hd : decode cc pc = .ok (.istore_n i0, 1)) (hi : (i0 : Nat) = i) (hn : i < nL) (hL : lq1 L i (.int x) = L') (k : GN M D A nL Q (pc + 1) L' st ws nc ns) : GN M D A nL Q pc L (.int x :: st) ws nc ns := by
  intro H locs ls hP hD hS hl
  exact lv_istore_n C.1 C.2.1 hd hi hl hn hL (fun ls' hl' => k H locs ls' hP hD hS hl')
theorem n_iinc (C : Cn M D f A own cc nL R) {i q : Nat} {n z v : Int} {L' : List (Nat × Value)} (hd : decode cc pc = .ok (.iinc i n, 3)) (hk : L[q]? = some (i, .int (iZ z))) (hv : z + n = v) (hn : i < nL) (hL : lq1 L i (.int (iZ v)) = L') (k : GN M D A nL Q (pc + 3) L' st ws nc ns) : GN M D A nL Q pc L st ws nc ns := by
  intro H locs ls hP hD hS hl
  exact lv_iinc C.1 C.2.1 hd hl hk (by rw [← hv, ← iZ_add]; rfl) hn hL (fun ls' hl' => k H locs ls' hP hD hS hl')
theorem n_dup (C : Cn M D f A own cc nL R) {v : Value} (hd : decode cc pc = .ok (.dup, 1)) (h : v.category = 1) (k : GN M D A nL Q (pc + 1) L (v :: v :: st) ws nc ns) : GN M D A nL Q pc L (v :: st) ws nc ns := by
  intro H locs ls hP hD hS hl
  exact lv_dup C.1 C.2.1 hd h (k H locs ls hP hD hS hl)
theorem n_goto (C : Cn M D f A own cc nL R) {off : Int} {tgt : Nat} (hd : decode cc pc = .ok (.goto off, 3)) (ht : (pc : Int) + off = (tgt : Int)) (k : GN M D A nL Q tgt L st ws nc ns) : GN M D A nL Q pc L st ws nc ns := by
  intro H locs ls hP hD hS hl
  exact lv_goto C.1 C.2.1 hd ht (k H locs ls hP hD hS hl)
theorem n_ge_t (C : Cn M D f A own cc nL R) {a b off : Int} {tgt : Nat} (hd : decode cc pc = .ok (.if_icmp .ge off, 3)) (ht : (pc : Int) + off = (tgt : Int)) (hab : R32 a ∧ R32 b) (h : b ≤ a) (k : GN M D A nL Q tgt L st ws nc ns) : GN M D A nL Q pc L (.int (iZ b) :: .int (iZ a) :: st) ws nc ns := by
  intro H locs ls hP hD hS hl
  have e := iZ_cmp hab.1 hab.2
  exact lv_icmp_ge C.1 C.2.1 hd ht (fun _ => k H locs ls hP hD hS hl) (fun q => by simp only [e] at q; omega)
theorem n_ge_f (C : Cn M D f A own cc nL R) {a b off : Int} (hd : decode cc pc = .ok (.if_icmp .ge off, 3)) {tgt : Nat} (ht : (pc : Int) + off = (tgt : Int)) (hab : R32 a ∧ R32 b) (h : a < b) (k : GN M D A nL Q (pc + 3) L st ws nc ns) : GN M D A nL Q pc L (.int (iZ b) :: .int (iZ a) :: st) ws nc ns := by
  intro H locs ls hP hD hS hl
  have e := iZ_cmp hab.1 hab.2
  exact lv_icmp_ge C.1 C.2.1 hd ht (fun q => by simp only [e] at q; omega) (fun _ => k H locs ls hP hD hS hl)
theorem n_new (C : Cn M D f A own cc nL R) {ci N i : Nat} {K : String} {T : u_T} {ty : Nat → FieldType} {fs : List Value} (hd : decode cc pc = .ok (.new i, 3)) (hcl : vwCl[ci]? = some (K, T, N)) (hin : ∀ w ∈ u_ws K T N, w ∈ lw_g) (hty : ∀ k, k < N → parseFieldDescriptor (T k).2.2.1 = some (ty k)) (w1 : Cond.classLink own i K ∈ lw_g) (w2 : Cond.instantiable K N ∈ lw_g) (w3 : Cond.initialized K ∈ lw_g) (hfs : ∀ j, j < N → defaultValue (ty j) = vp_V fs j) (hc : nc + 1 ≤ R.cells) (hs : ns + N ≤ R.slots)
    (kk : ∀ q : Nat, GN M D A nL Q (pc + 3) L (.ref q :: st) (ws ++ [(q, .inr (ci, fs))]) (nc + 1) (ns + N)) : GN M D A nL Q pc L st ws nc ns := by
  intro H locs ls hP hD hS hl
  exact va_new C.1 C.2.1 C.hts hin ty hty C.ow (C.w w1) (C.w w2) (C.w w3) C.K hP hD hS C.fr hcl hfs (by rw [C.room]; exact hc) (by rw [C.room]; exact hs) hd (fun q H1 a b c => kk q H1 locs ls a b c hl)
theorem n_newa (C : Cn M D f A own cc nL R) {atype : ArrayType} {ty : FieldType} {t0 N : Nat} {z : Int} {a0 : vp_A} (hd : decode cc pc = .ok (.newarray atype, 2)) (hty : newarray.typeOf atype = ty) (w : Cond.arrayClass ty ∈ lw_g) (ht : (tyN f)[t0]? = some (f t0, ty)) (ha : ∀ cA : ClassId, vp_cell cA a0 = arrV cA N (fun _ => defaultValue ty)) (hz : z = (N : Int)) (hN : N < 2147483648) (hb : N * componentBytes ty ≤ 536870912) (hc : nc + 1 ≤ R.cells) (hs : ns + N ≤ R.slots)
    (kk : ∀ q : Nat, GN M D A nL Q (pc + 2) L (.ref q :: st) (ws ++ [(q, .inl (f t0, a0))]) (nc + 1) (ns + N)) : GN M D A nL Q pc L (.int (iZ z) :: st) ws nc ns := by
  intro H locs ls hP hD hS hl
  subst hz
  refine va_newa C.1 C.2.1 (atype := atype) (by rw [hty]; exact C.w w) hty C.K hP hD hS C.fr ha (by have e := iZ_cmp0 (a := (N : Int)) ⟨by omega, by omega⟩; simp only [e]; omega) (iZ_clamp hN) hb (by rw [C.room]; exact hc) (by rw [C.room]; exact hs) hd (fun q cA H1 k a b c => ?_)
  have e : cA = f t0 := RA_inj (k.2 6 (cA, ty) rfl).2 (C.K.2 t0 _ ht).2
  subst e
  exact kk q H1 locs ls a b c hl
theorem n_newq (C : Cn M D f A own cc nL R) {i t0 N : Nat} {K : String} {z : Int} (hd : decode cc pc = .ok (.anewarray i, 3)) (w1 : Cond.classLink own i K ∈ lw_g) (hov : NO (Ms M) → va_AO K (Ms M)) (ht : (tyN f)[t0]? = some (f t0, .object K)) (hz : z = (N : Int)) (hN : N < 2147483648) (hb : N * 4 ≤ 536870912) (hc : nc + 1 ≤ R.cells) (hs : ns + N ≤ R.slots)
    (kk : ∀ q : Nat, GN M D A nL Q (pc + 3) L (.ref q :: st) (ws ++ [(q, .inl (f t0, N, .inr (.inr (.inr (.inr (fun _ => none))))))]) (nc + 1) (ns + N)) : GN M D A nL Q pc L (.int (iZ z) :: st) ws nc ns := by
  intro H locs ls hP hD hS hl
  subst hz
  refine va_newq C.1 C.2.1 C.ow (C.w w1) (hov C.N) C.K hP hD hS C.fr (by have e := iZ_cmp0 (a := (N : Int)) ⟨by omega, by omega⟩; simp only [e]; omega) (iZ_clamp hN) hb (by rw [C.room]; exact hc) (by rw [C.room]; exact hs) hd (fun q cA H1 k a b c => ?_)
  have e : cA = f t0 := RA_inj (k.2 6 (cA, .object K) rfl).2 (C.K.2 t0 _ ht).2
  subst e
  exact kk q H1 locs ls a b c hl
theorem n_put (C : Cn M D f A own cc nL R) {a ci N i j : Nat} {T : u_T} {ty0 : Nat → FieldType} {ty : FieldType} {v : Value} {fs : List Value} {wr : va_W} (hd : decode cc pc = .ok (.putfield i, 3)) (hw : ws[0]? = some (a, .inr (ci, fs))) (hcl : vwCl[ci]? = some (own, T, N)) (hin : ∀ w ∈ u_ws own T N, w ∈ lw_g) (hj : j < N) (hlink : Cond.fieldLink own i (T j).1 (T j).2.1 (T j).2.2.1 ∈ lw_g) (hty : ∀ k, k < N → parseFieldDescriptor (T k).2.2.1 = some (ty0 k)) (hnm : ∀ a, a < N → ∀ b, b < N → a ≠ b → (T a).2.1 ≠ (T b).2.1) (hfin : (T j).2.2.2 = false) (hpt : parseFieldDescriptor (T j).2.2.1 = some ty) (hn : narrow ty v = v) (hfit : fits ty v = true) (hl0 : j < fs.length) (he : ws.set 0 (a, .inr (ci, fs.set j v)) = wr)
    (kk : GN M D A nL Q (pc + 3) L st wr nc ns) : GN M D A nL Q pc L (v :: .ref a :: st) ws nc ns := by
  intro H locs ls hP hD hS hl
  subst he
  exact va_put C.1 C.2.1 C.hts hin ty0 hty hnm C.ow C.K hP hD hS 0 hw hcl j hj (C.w hlink) (fun _ h9 => h9) hfin hpt hn hfit hl0 hd (fun H1 locs1 x y z => kk H1 locs1 ls x y z hl)
theorem n_putF (C : Cn M D f A own cc nL R) (hmn : (Mt M).name = "<init>") {a ci N i j : Nat} {T : u_T} {ty0 : Nat → FieldType} {ty : FieldType} {v : Value} {fs : List Value} {wr : va_W} (hd : decode cc pc = .ok (.putfield i, 3)) (hw : ws[0]? = some (a, .inr (ci, fs))) (hcl : vwCl[ci]? = some (own, T, N)) (hin : ∀ w ∈ u_ws own T N, w ∈ lw_g) (hj : j < N) (hlink : Cond.fieldLink own i (T j).1 (T j).2.1 (T j).2.2.1 ∈ lw_g) (hty : ∀ k, k < N → parseFieldDescriptor (T k).2.2.1 = some (ty0 k)) (hnm : ∀ a, a < N → ∀ b, b < N → a ≠ b → (T a).2.1 ≠ (T b).2.1) (hfin : (T j).2.2.2 = true) (hdecl : (T j).1 = own) (hpt : parseFieldDescriptor (T j).2.2.1 = some ty) (hn : narrow ty v = v) (hfit : fits ty v = true) (hl0 : j < fs.length) (he : ws.set 0 (a, .inr (ci, fs.set j v)) = wr)
    (kk : GN M D A nL Q (pc + 3) L st wr nc ns) : GN M D A nL Q pc L (v :: .ref a :: st) ws nc ns := by
  intro H locs ls hP hD hS hl
  subst he
  exact va_putF C.1 C.2.1 C.hts hin ty0 hty hnm C.ow C.K hP hD hS 0 hw hcl j hj (C.w hlink) (fun _ h9 => h9) hfin hmn hdecl hpt hn hfit hl0 hd (fun H1 locs1 x y z => kk H1 locs1 ls x y z hl)
theorem n_get (C : Cn M D f A own cc nL R) {a ci N i j : Nat} {T : u_T} {v : Value} {fs : List Value} (hd : decode cc pc = .ok (.getfield i, 3)) (hw : ws[0]? = some (a, .inr (ci, fs))) (hcl : vwCl[ci]? = some (own, T, N)) (hin : ∀ w ∈ u_ws own T N, w ∈ lw_g) (hj : j < N) (hlink : Cond.fieldLink own i (T j).1 (T j).2.1 (T j).2.2.1 ∈ lw_g) (hv : fs[j]? = some v)
    (kk : GN M D A nL Q (pc + 3) L (v :: st) ws nc ns) : GN M D A nL Q pc L (.ref a :: st) ws nc ns := by
  intro H locs ls hP hD hS hl
  exact va_get C.1 C.2.1 C.hts hin C.ow C.K hP 0 hw hcl j hj (C.w hlink) (fun _ h9 => h9) hv hd (kk H locs ls hP hD hS hl)
/-- an object into an array of references -/
theorem n_ast (C : Cn M D f A own cc nL R) {a v t0 ci n j N : Nat} {K : String} {T : u_T} {z : Int} {vs : List Value} {g g' : Nat → Option Nat} {wa wb : va_W} (hd : decode cc pc = .ok (.aastore, 1)) (hw : ws = wa ++ (a, .inl (f t0, n, .inr (.inr (.inr (.inr g))))) :: wb) (ht : (tyN f)[t0]? = some (f t0, .object K)) (hv : (v, .inr (ci, vs)) ∈ ws) (hc : vwCl[ci]? = some (K, T, N)) (hz : z = (j : Int)) (hj : j < n) (hn : n < 2147483648) (hg : va_up g j (some v) = g') {wr : va_W} (he : wa ++ (a, .inl (f t0, n, .inr (.inr (.inr (.inr g'))))) :: wb = wr)
    (kk : GN M D A nL Q (pc + 1) L st wr nc ns) : GN M D A nL Q pc L (.ref v :: .int (iZ z) :: .ref a :: st) ws nc ns := by
  intro H locs ls hP hD hS hl
  subst he
  subst hz
  obtain ⟨qk, hqk⟩ := List.getElem?_of_mem hv
  have hq0 : ws[wa.length]? = some (a, .inl (f t0, n, .inr (.inr (.inr (.inr g))))) := by rw [hw]; simp
  have hset : ∀ e : va_E, ws.set wa.length (a, e) = wa ++ (a, e) :: wb := fun e => by rw [hw]; simp
  refine va_astq C.1 C.2.1 C.K hP hD hS wa.length t0 qk ci (r := (K, T, N)) hq0 ht hqk hc (iZ_in rfl hj hn) hd (fun H1 locs1 x y z => ?_)
  rw [iZ_clamp (by omega), hg, hset] at x y
  exact kk H1 locs1 ls x y z hl
theorem n_obj (C : Cn M D f A own cc nL R) {a i : Nat} (hd : decode cc pc = .ok (.invokespecial i, 3)) (w1 : Cond.methodLink own i Lib.objectInit ∈ lw_g) (w2 : Cond.instanceMethod Lib.objectInit ∈ lw_g) (w3 : Cond.code Lib.objectInit ⟨#[0xb1]⟩ 1 none ∈ lw_g) (hR : 1 ≤ R.frames ∧ 64 ≤ R.locals) (kk : GN M D A nL Q (pc + 3) L [] ws nc ns) : GN M D A nL Q pc L [.ref a] ws nc ns := by
  intro H locs ls hP hD hS hl
  refine W.objInit C.1 C.2.1 C.ow (C.w w1) (C.w w2) (C.w w3) rfl (by rw [C.2.2.1]; exact hl.1) rfl hd (by rw [C.room]; exact hR.1) (by rw [C.room]; show 2 * 0 + 0 + 12 ≤ _; omega) ?_
  exact W.eq (g2 := F0 (Mm M) (pc + 3) ls []) rfl (kk H locs ls hP hD hS hl)
/-! a constructor's contract -/
def CtN {S : Type} (D : va_G) (f : Nat → ClassId) (l : Launch) (R : Room) (y : MethodName) (cc : ByteArray) (mL : Nat) (av : List Value) (ws0 : va_W) (W1 : S → va_W) : Prop :=
  ∀ sz : Nat, Met l y (wsm y cc mL none) R (va_Pc av (fun U => U.heap.size = sz ∧ va_P D vwCl ws0 U.heap ∧ va_K D vwCl (tyN f) U ∧ NO U ∧ va_D (fun _ => True) ws0)) (va_Qv (fun _ : S => True) (fun q U => va_P D vwCl (W1 q) U.heap ∧ va_D (va_A ws0 sz) (W1 q)) (va_A ws0 sz)) R.cells R.slots (va_A ws0 sz)
abbrev EnN {S : Type} (M : MC) (D : va_G) (A : Nat → Prop) (R : Room) (W1 : S → va_W) : State → Prop := MQ (Mb M) (va_Qv (fun _ : S => True) (fun q U => va_P D vwCl (W1 q) U.heap ∧ va_D A (W1 q)) A) (Ma M) (Ms M) R.cells R.slots A
theorem CtN.of {S : Type} {l : Launch} {y : MethodName} {mL : Nat} {av : List Value} {ws0 : va_W} {W1 : S → va_W} {L0 : List (Nat × Value)} (hy : plainName y.cls = true) (ho : y.cls = own) (hm : (lg_sl av).length ≤ mL) (hi : y.name = "<init>") (hL : lv_args 0 av = L0)
    (h : ∀ (M : MC) (A : Nat → Prop), Cn M D f A own cc mL R → Ml M = l → (Mt M).name = "<init>" → (Mt M).sig.returnType = none → (Mt M).locks = false → GN M D A mL (EnN M D A R W1) 0 L0 [] ws0 0 0) : CtN D f l R y cc mL av ws0 W1 := by
  intro sz
  refine Met.ofW (cc := cc) (maxL := mL) (ret := none) hy rfl ?_
  intro p e s m args below meth c s₁ B hml hv
  obtain ⟨rfl, hsz, hP, hK, hN, hD⟩ := hv
  subst hsz
  rw [lg_entry_eq]
  have hent := lv_entry av (n := mL) hm
  rw [hL] at hent
  exact h (p, l, e, R, s, m, av.toArray, below, meth, c) (va_A ws0 s.heap.size) ⟨B.exec, B.bytes, hml, by rw [← ho]; exact findClass_of_methodNamed B.named, fun w hw => atoms_spec (ws := wsm y cc mL none) B.pre w (List.mem_cons_of_mem _ hw), rfl, hK, hN, fun q hq => Or.inr hq⟩ rfl ((name_of_methodNamed B.named B.method).1.trans hi) B.returns B.notSynchronized s.heap [] _ hP hD.self va_S.rf hent
theorem n_ret {S : Type} (C : Cn M D f A own cc nL R) (hr : (Mt M).sig.returnType = none) (hlk : (Mt M).locks = false) {W1 : S → va_W} (hd : decode cc pc = .ok (.return_, 1)) (q : S) (hw : ws = W1 q) (h1 : nc ≤ R.cells) (h2 : ns ≤ R.slots) : GN M D A nL (EnN M D A R W1) pc L [] ws nc ns := by
  intro H locs ls hP hD hS hl
  subst hw
  exact W.widen h1 h2 (W.vret C.1 C.2.1 hr (fun t ht hW => ⟨⟨q, rfl, trivial, by rw [ht]; exact hP, hD⟩, hS.F ht⟩) hS.2.2 hd hlk)
theorem nd_range' : ∀ (n s : Nat), va_nd (List.range' s n) = true
  | 0, _ => rfl
  | n + 1, s => by
    show va_nd (s :: List.range' (s + 1) n) = true
    rw [va_nd, nd_range' n (s + 1), Bool.and_true]
    refine decide_eq_true (fun h => ?_)
    have := (List.mem_range'_1.mp h).1
    omega
theorem n_init {S : Type} (C : Cn M D f A own cc nL R) {i n mL b : Nat} {y : MethodName} {bc : ByteArray} {As st0 : List Value} {x : va_E} {wr : va_W} {R' : Room} {W1 : S → va_W} (hct : CtN D f (Ml M) R' y bc mL (.ref b :: As) [(b, x)] W1) (hd : decode cc pc = .ok (.invokespecial i, 3)) (hy : y.name = "<init>") (hw : ws = wr ++ [(b, x)]) (w1 : Cond.methodLink own i y ∈ lw_g) (w2 : Cond.instanceMethod y ∈ lw_g) (w3 : Cond.initialized y.cls ∈ lw_g) (w4 : Cond.code y bc mL none ∈ lw_g) (hds : desc y n) (hn : As.length = n) (hR : R'.frames + 1 ≤ R.frames ∧ 8 + (mL + 11) + R'.locals ≤ R.locals) (hst : (st.map fun v => v.category).sum ≤ 8) (hs0 : st0 = As.reverse ++ .ref b :: st) (hc : nc + R'.cells ≤ R.cells) (hs : ns + R'.slots ≤ R.slots)
    (kk : ∀ q : S, GN M D A nL Q (pc + 3) L st (wr ++ W1 q) (nc + R'.cells) (ns + R'.slots)) : GN M D A nL Q pc L st0 ws nc ns := by
  intro H locs ls hP hD hS hl
  subst hw
  have hlast : (wr ++ [(b, x)])[wr.length]? = some (b, x) := by simp
  have hPc : va_P D vwCl [(b, x)] H := hP.sub [wr.length] (by simp)
  have hDc : va_D (fun _ => True) [(b, x)] := (hD.sub (ws' := [(b, x)]) [wr.length] (by simp [va_nd]) (by simp)).weaken (fun _ _ _ _ => trivial)
  have hFc := va_free (wc := [(b, x)]) hD hS C.fr [wr.length] (by simp)
  refine va_callv (va_runI (As := As) (rest := st) ⟨C.1, C.2.1, C.2.2.1, C.ow, C.hts⟩ (hct H.size) (cwI n C.hts (gin (gin_wsm w4)) rfl rfl rfl (C.w w3) (C.w w1) (C.w w2) hy hds (by rw [C.room]; exact hR)) ⟨fun a U g mk q => by obtain ⟨q0, q1, qP, qK, qN, qD⟩ := q; exact ⟨q0, q1, qP, va_K.moved (u := U) (U := U.calling g mk a) (Vm.Alike.refl U.vm) qK, NO.moved (u := U) (U := U.calling g mk a) (Vm.Alike.refl U.vm) qN, qD⟩, fun U hU hW => ⟨rfl, by rw [hU], by rw [hU]; exact hPc, va_K.moved hW.alike C.K, NO.moved hW.alike C.N, hDc⟩⟩ rfl hn hl.1 hs0 (lv_room hst) hd (by rw [C.room]; exact ⟨hc, hs⟩)) hS (fun q _ h => hFc q h) hFc (fun u t H1 locs1 ht hvm hp hB hz hk1 hS1 => ?_)
  obtain ⟨hP1, hD1⟩ := hB
  rw [ht] at hP1
  obtain ⟨hP2, hD2⟩ := va_join (wr := wr) (w1 := W1 u) hP hD [wr.length] (List.range' 0 wr.length) (by simp) (by
      apply List.ext_getElem?
      intro k
      rw [List.getElem?_map, List.getElem?_map]
      rcases Nat.lt_or_ge k wr.length with g | g
      · rw [List.getElem?_range' g]
        simp [g, List.getElem?_append_left g]
      · rw [List.getElem?_eq_none (by simpa using g), List.getElem?_eq_none g]; rfl) (nd_range' _ _) (fun i hi => by
      have := (List.mem_range'_1.mp hi).2
      simp; omega) hk1 hFc hP1 hD1
  exact kk u H1 locs1 ls hP2 hD2 hS1 hl
end CNS

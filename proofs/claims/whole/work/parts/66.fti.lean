/-! the JDK's bits of a float -/
theorem wqf_1 : Cond.methodLink RJxf58ca 74 ⟨"java/lang/Float", "floatToRawIntBits", "(F)I"⟩ ∈ lw_g := mg (mk6 (List.mem_of_getElem? (i := 16) rfl)) rfl
theorem wqf_2 : Cond.native ⟨"java/lang/Float", "floatToRawIntBits", "(F)I"⟩ ∈ lw_g := mg (mk6 (List.mem_of_getElem? (i := 18) rfl)) rfl
theorem wqf_3 : Cond.static ⟨"java/lang/Float", "floatToRawIntBits", "(F)I"⟩ ∈ lw_g := mg (mk6 (List.mem_of_getElem? (i := 17) rfl)) rfl
theorem wqf_4 : Cond.initialized RJxf58ca ∈ lw_g := mg (mk1 (List.mem_of_getElem? (i := 16) rfl)) rfl
theorem wqf_5 : Cond.methodLink RJxf58ca 59 yJxf58ca_isNaN_12338 ∈ lw_g := mg (mk6 (List.mem_of_getElem? (i := 13) rfl)) rfl
theorem wqf_6 : Cond.static yJxf58ca_isNaN_12338 ∈ lw_g := mg (mk6 (List.mem_of_getElem? (i := 14) rfl)) rfl
theorem wqf_7 : Cond.code yJxf58ca_isNaN_12338 cJxf58ca_isNaN_12338 1 (some .boolean) ∈ lw_g := mg (mk6 (List.mem_of_getElem? (i := 15) rfl)) rfl
theorem gn_f2i {M : MC} {κ : Kp} {nL : Nat} {Q : State → Prop} {pc : Nat} {L : List (Nat × Value)} {cc : ByteArray} {ret : Option FieldType} {d : Nat} {st : List Value} {σ : St} {x : UInt32} (C : Cx M κ RJxf58ca cc nL ret d) (hd : decode cc pc = .ok (.invokestatic 74, 3)) (hd1 : 0 < d) (hst : (st.map fun v => v.category).sum ≤ 8) (kk : G M κ nL Q (pc + 3) L (.int x.toInt32 :: st) σ) : G M κ nL Q pc L (.float x :: st) σ := by
  intro H locs ls hP hS hl
  refine vn_f2i C.1 C.2.1 (by rw [C.2.2.1]; exact hl.1.symm) C.ow (C.w wqf_1) (C.w wqf_2) (C.w wqf_3) (C.w wqf_4) ?_ ?_ hd (kk H locs ls hP hS hl)
  · rw [C.room]; exact hd1
  · rw [C.room]; show _ ≤ 64 * d; omega
theorem Ct.ofGF {κ : Kp} {own : String} {cc : ByteArray} {d : Nat} {σ : St} {l : Launch} {y : MethodName} {mL : Nat} {rt : Option FieldType} {av : List Value} {Qc : Array Value → State → Outcome → State → Prop} (hI : Ij κ) (hy : plainFor y = true) (ho : y.cls = own) (hm : (lg_sl av).length ≤ mL) {L0 : List (Nat × Value)} (hL : lv_args 0 av = L0)
    (h : ∀ M : MC, Cx M κ own cc mL rt d → Ml M = l → G M κ mL (En M κ Qc) 0 L0 [] σ) : Ct κ l d y cc mL rt av σ Qc := by
  show Met l y (wsm y cc mL rt) (rmd d) (va_Pc av (Wd κ σ)) Qc 0 0 (Ak κ)
  refine MetFree.of_bodySF (code := cc) (maxLocals := mL) (ret := rt) hy ?_ ?_
  · intro args s m h hn
    obtain ⟨meth, c, h1, h2, h3, h4, h5, h6, -, -⟩ := Cond.code_spec hn (atoms_spec (ws := wsm y cc mL rt) h _ List.mem_cons_self)
    exact ⟨meth, c, h1, h2, h3, h4, h5, h6⟩
  · intro p e s m args below meth c s₁ B hml hv _
    have hh0 : s₁.heap = s.heap := by rw [B.state]; rfl
    have hW : W p l e (headSpec (wsm y cc mL rt) (rmd d)).room s m args below meth c s.heap [] 0 0 (MQ below Qc args s 0 0 (Ak κ)) (entryFrame m args mL) := by
      obtain ⟨rfl, hP, hK, hN⟩ := hv
      rw [lg_entry_eq]
      have hent := lv_entry av (n := mL) hm
      rw [hL] at hent
      exact h (p, l, e, rmd d, s, m, av.toArray, below, meth, c) ⟨B.exec, B.bytes, hml, B.returns, by rw [← ho]; exact findClass_of_methodNamed B.named, fun w hw => atoms_spec (ws := wsm y cc mL rt) B.pre w (List.mem_cons_of_mem _ hw), B.notSynchronized, rfl, hK, hI, hN⟩ rfl s.heap [] _ hP va_S.rf hent
    obtain ⟨t, a1, o, b1, b2, b3⟩ := hW s₁ hh0 (Stand.of_body B)
    exact ⟨t, o, a1, b1, b2, ⟨b3.1, b3.2⟩⟩
theorem gc_XNone_59 {M : MC} {κ : Kp} {nL : Nat} {Q : State → Prop} {pc : Nat} {L : List (Nat × Value)} {cc : ByteArray} {ret : Option FieldType} {d : Nat} {st : List Value} {σ : St} {d' : Nat} {a1 : Value} {post : Int → St → Prop} (C : Cx M κ RJxf58ca cc nL ret d) (hd : decode cc pc = .ok (.invokestatic 59, 3)) (hct : CtI κ (Ml M) d' yJxf58ca_isNaN_12338 cJxf58ca_isNaN_12338 1 .boolean [a1] σ post) (hdd : d' < d) (hst : (st.map fun v => v.category).sum ≤ 8) (kk : ∀ z σ', post z σ' → G M κ nL Q (pc + 3) L (.int (iZ z) :: st) σ') : G M κ nL Q pc L (a1 :: st) σ :=
  g_ci C (rnS (n := 1) (As := [a1]) C hct (LkS.mk wqf_5 wqf_6 wqf_4 wqf_7 ⟨by decide +kernel, by decide +kernel, by decide +kernel⟩) hd hdd (by decide) rfl rfl hst) kk
theorem fcmp_self {x : UInt32} (h : FN x) (g : CmpOp) : Op.cmpValue (FP.fcmp x x) g = iZ 0 := by
  have h1 := FP.Core.fcmp_zval (a := x) (b := x) h.ne h.ne
  rw [show FP.fcmp x x = _ from h1, FP.Core.compare_ite, if_neg (by omega)]
  first | rfl | (rw [if_pos rfl]; rfl)
theorem toI_z (x : UInt32) : x.toInt32 = iZ (x.toNat : Int) := by
  refine Int32.toBitVec_inj.mp (BitVec.eq_of_toNat_eq ?_)
  rw [iZ_nat x.toNat_lt]
  rfl
set_option maxHeartbeats 4000000 in
set_option maxRecDepth 100000 in
theorem c_Jxf58ca_isNaN_12338 {κ : Kp} (hI : Ij κ) (l : Launch) (σ : St) {x : UInt32} (hx : FN x) : CtI κ l 0 yJxf58ca_isNaN_12338 cJxf58ca_isNaN_12338 1 .boolean [.float x] σ (fun z σ' => z = 0 ∧ σ' = σ) := by
  refine Ct.ofGF (own := RJxf58ca) hI (by decide +kernel) rfl (Nat.le_of_ble_eq_true rfl) rfl ?_
  intro M C hMl
  refine g_fload_n C dJxf58ca_isNaN_12338_0 rfl ?_
  refine g_fload_n C dJxf58ca_isNaN_12338_1 rfl ?_
  refine g_fcmp C dJxf58ca_isNaN_12338_2 ?_
  refine g_raw (fcmp_self hx _) ?_
  refine g_if_eq (tgt := 10) C dJxf58ca_isNaN_12338_3 (by decide) (by unfold R32; omega) (fun h1 => ?_) (fun h1 => ?_)
  · refine g_iconst (z := 0) C dJxf58ca_isNaN_12338_10 rfl ?_
    exact g_zreturn C dJxf58ca_isNaN_12338_11 (by omega) ⟨rfl, rfl⟩
  · exfalso; omega
set_option maxHeartbeats 4000000 in
set_option maxRecDepth 100000 in
theorem c_Jxf58ca_floatToIntBits_5c35a {κ : Kp} (hI : Ij κ) (l : Launch) (σ : St) {x : UInt32} (hx : FN x) : CtI κ l 1 yJxf58ca_floatToIntBits_5c35a cJxf58ca_floatToIntBits_5c35a 1 .int [.float x] σ (fun z σ' => z = (x.toNat : Int) ∧ σ' = σ) := by
  refine Ct.ofGF (own := RJxf58ca) hI (by decide +kernel) rfl (Nat.le_of_ble_eq_true rfl) rfl ?_
  intro M C hMl
  refine g_fload_n C dJxf58ca_floatToIntBits_5c35a_0 rfl ?_
  refine gc_XNone_59 C dJxf58ca_floatToIntBits_5c35a_1 (c_Jxf58ca_isNaN_12338 hI (Ml M) σ hx) (by decide) (Nat.le_of_ble_eq_true rfl) (fun z σ9 ⟨hz, hσ⟩ => ?_)
  subst z
  subst σ9
  refine g_if_ne (tgt := 12) C dJxf58ca_floatToIntBits_5c35a_4 (by decide) (by unfold R32; omega) (fun h1 => ?_) (fun h1 => ?_)
  · exfalso; omega
  · refine g_fload_n C dJxf58ca_floatToIntBits_5c35a_7 rfl ?_
    refine gn_f2i C dJxf58ca_floatToIntBits_5c35a_8 (by decide) (Nat.le_of_ble_eq_true rfl) ?_
    refine g_raw (toI_z x) ?_
    exact g_ireturn C dJxf58ca_floatToIntBits_5c35a_11 ⟨rfl, rfl⟩

/-! THE MODEL: really, sum, wrongBy -/
theorem cvB {a b : UInt32} {m n : Nat} (ha : fB a m) (hb : fB b n) (g : CmpOp) : ∃ z : Int, Op.cmpValue (FP.fcmp a b) g = iZ z ∧ R32 z ∧ (z = 0 ↔ fz a = fz b) := by
  rw [fcmp_fB ha hb, FP.Core.compare_ite]
  split
  · exact ⟨-1, rfl, by unfold R32; omega, by constructor <;> intro _ <;> omega⟩
  · split
    · exact ⟨0, rfl, by unfold R32; omega, by constructor <;> intro _ <;> omega⟩
    · exact ⟨1, rfl, by unfold R32; omega, by constructor <;> intro _ <;> omega⟩
theorem FN.key {a : UInt32} (h : FN a) : FP.Core.fkey a = (a.toNat : Int) := by
  have := h.lt
  unfold FP.Core.fkey
  rw [if_neg (by omega)]
theorem cvM {a b : UInt32} (ha : FN a) (hb : FN b) (g : CmpOp) : ∃ z : Int, Op.cmpValue (FP.fcmp a b) g = iZ z ∧ R32 z ∧ (z ≤ 0 → (if FP.fcmp a b = some .lt then b else a) = b) ∧ (0 < z → (if FP.fcmp a b = some .lt then b else a) = a) := by
  obtain ⟨o, ho⟩ := FP.Core.fcmp_of_notNaN ((FP.Core.notNaN_iff32 a).mpr ha.ne) ((FP.Core.notNaN_iff32 b).mpr hb.ne)
  have ho' : FP.fcmp a b = some o := ho
  cases o with
  | lt => rw [ho']; exact ⟨-1, rfl, by unfold R32; omega, fun _ => if_pos rfl, fun h => absurd h (by decide)⟩
  | eq =>
    have h9 := (FP.Core.fcmp_eq_key ha.ne hb.ne).mp ho'
    rw [ha.key, hb.key] at h9
    have e : a = b := UInt32.toNat_inj.mp (by omega)
    subst e
    rw [ho']
    exact ⟨0, rfl, by unfold R32; omega, fun _ => by split <;> rfl, fun h => absurd h (by decide)⟩
  | gt => rw [ho']; exact ⟨1, rfl, by unfold R32; omega, fun h => absurd h (by decide), fun _ => if_neg (by simp)⟩
theorem erF_0 {a b : UInt32} (h : fz a = 0 ∨ fz b = 0) : erF a b = if fz a = fz b then FP.fconst1 else FP.fconst0 := by
  unfold erF
  by_cases e : fz a = 0
  · rw [if_pos e]
    by_cases e2 : fz b = 0
    · rw [if_pos e2, if_pos (by omega)]
    · rw [if_neg e2, if_neg (by omega)]
  · rw [if_neg e, if_pos (by omega), if_neg (by omega)]
theorem erF_1 {a b : UInt32} (h1 : fz a ≠ 0) (h2 : fz b ≠ 0) : erF a b = if FP.fcmp (FP.fdiv a b) (FP.fdiv b a) = some .lt then FP.fdiv b a else FP.fdiv a b := by
  unfold erF
  rw [if_neg h1, if_neg h2]
set_option maxHeartbeats 4000000 in
set_option maxRecDepth 100000 in
theorem c_X10_really {κ : Kp} (hI : Ij κ) (l : Launch) (σ : St) {V : Vw} (hM : MV σ V) (hO : OKV V) {s : Int} (hs : R32 s) : CtI κ l 4 yX10_really cX10_really 2 .int [.ref (κ.2.1 105), .int (iZ s)] σ (fun z σ' => z = (aReally V s).1 ∧ MV σ' (aReally V s).2 ∧ Fr YC σ σ') := by
  refine Ct.ofG (own := RX10) hI (by decide +kernel) rfl (Nat.le_of_ble_eq_true rfl) rfl ?_
  intro M C hMl
  refine g_iload_n C dX10_really_0 rfl ?_
  refine gc_X10_267 C dX10_really_1 (c_X10_isSet hI (Ml M) σ (v := s) (by unfold R32; omega)) (by decide) (Nat.le_of_ble_eq_true rfl) (fun z σ9 ⟨hz, hσ⟩ => ?_)
  subst z
  subst σ9
  refine g_ifb_ne (tgt := 14) C dX10_really_4 (by decide) (fun h1 => ?_) (fun h1 => ?_)
  · refine g_aload_n C dX10_really_14 rfl ?_
    refine g_iload_n C dX10_really_15 rfl ?_
    refine g_iconst (z := (-1)) C dX10_really_16 rfl ?_
    refine gc_X10_309 C dX10_really_17 rfl (c_X10_findReally hI (Ml M) σ hM.1 hO.1 (s := s.toNat) (P := 0) (g2 := (fun _ => 0)) (by omega) (by omega) (by omega) (fun _ _ => rfl) (Or.inl ⟨rfl, rfl⟩)) (by decide) (Nat.le_of_ble_eq_true rfl) (fun s1 ⟨hRa, hRb, hF⟩ => ?_)
    obtain ⟨n, hn⟩ : ∃ n : Nat, s1.1 105 38 = (n : Int) ∧ ((rN (vW V) s.toNat ≤ 100000 ∧ n = rN (vW V) s.toNat) ∨ (100000 < rN (vW V) s.toNat ∧ 100000 < n ∧ n ≤ 100001)) := by
      rcases Nat.lt_or_ge 100000 (rN (vW V) s.toNat) with k | k
      · have h9 := hRb k; exact ⟨(s1.1 105 38).toNat, by omega, by omega⟩
      · exact ⟨rN (vW V) s.toNat, (hRa k).1, by omega⟩
    have hM1 := hM.scr hF
    refine g_pc (pc' := 20) rfl ?_
    refine g_aload_n C dX10_really_20 rfl ?_
    refine gf_X10_289 (z := (n : Int)) C dX10_really_21 rfl hn.1 ?_
    refine g_ldcw (z := 100000) C dX10_really_24 wq_404 ?_
    refine g_icmp_le (tgt := 39) C dX10_really_27 (by decide) (by unfold R32; omega) (fun h2 => ?_) (fun h2 => ?_)
    · refine g_aload_n C dX10_really_39 rfl ?_
      refine gf_X10_289 (z := (n : Int)) C dX10_really_40 rfl hn.1 ?_
      exact g_ireturn C dX10_really_43 (by rw [show aReally V s = ((rN (vW V) s.toNat : Int), V) by unfold aReally; (first | rw [if_pos (by omega)] | rw [if_neg (by omega), if_pos (by omega)] | rw [if_neg (by omega), if_neg (by omega)])]; exact ⟨by show (n : Int) = _; omega, hM1, hF.scr⟩)
    · refine g_aload_n C dX10_really_30 rfl ?_
      refine g_pc (pc' := 31) rfl ?_
      refine g_bipush (z := (-5)) C dX10_really_31 rfl ?_
      refine gc_X10_274 C dX10_really_33 rfl (c_X10_no hI (Ml M) s1 (y := 5) (v := (-5)) (by first | rfl | omega) (by decide)) (by decide) (Nat.le_of_ble_eq_true rfl) (fun z σ9 ⟨hz, hσ⟩ => ?_)
      subst z
      subst σ9
      refine g_goto (tgt := 43) C dX10_really_36 (by decide) ?_
      exact g_ireturn C dX10_really_43 (by rw [show aReally V s = rfs 5 V by unfold aReally; (first | rw [if_pos (by omega)] | rw [if_neg (by omega), if_pos (by omega)] | rw [if_neg (by omega), if_neg (by omega)])]; exact ⟨rfl, hM1.ref (by omega), hF.scr.tr YC.ref⟩)
  · refine g_aload_n C dX10_really_7 rfl ?_
    refine g_bipush (z := (-6)) C dX10_really_8 rfl ?_
    refine gc_X10_274 C dX10_really_10 rfl (c_X10_no hI (Ml M) σ (y := 6) (v := (-6)) (by first | rfl | omega) (by decide)) (by decide) (Nat.le_of_ble_eq_true rfl) (fun z σ9 ⟨hz, hσ⟩ => ?_)
    subst z
    subst σ9
    exact g_ireturn C dX10_really_13 (by rw [show aReally V s = rfs 6 V by unfold aReally; (first | rw [if_pos (by omega)] | rw [if_neg (by omega), if_pos (by omega)] | rw [if_neg (by omega), if_neg (by omega)])]; exact ⟨rfl, hM.ref (by omega), YC.ref⟩)
set_option maxHeartbeats 4000000 in
set_option maxRecDepth 100000 in
theorem c_X10_sum {κ : Kp} (hI : Ij κ) (l : Launch) (σ : St) {V : Vw} (hM : MV σ V) (hO : OKV V) {s p : Int} (hs : R32 s) (hp : R32 p) : CtJ κ l 4 yX10_sum cX10_sum 4 [.ref (κ.2.1 105), .int (iZ s), .int (iZ p)] σ (fun z σ' => z = (aSum V s p).1 ∧ MV σ' (aSum V s p).2 ∧ Fr YC σ σ') := by
  refine Ct.ofG (own := RX10) hI (by decide +kernel) rfl (Nat.le_of_ble_eq_true rfl) rfl ?_
  intro M C hMl
  refine g_iload_n C dX10_sum_0 rfl ?_
  refine gc_X10_312 C dX10_sum_1 (c_X10_isPlace hI (Ml M) σ (v := p) (by unfold R32; omega)) (by decide) (Nat.le_of_ble_eq_true rfl) (fun z σ9 ⟨hz, hσ⟩ => ?_)
  subst z
  subst σ9
  refine g_ifb_ne (tgt := 14) C dX10_sum_4 (by decide) (fun h1 => ?_) (fun h1 => ?_)
  · refine g_iload_n C dX10_sum_14 rfl ?_
    refine gc_X10_267 C dX10_sum_15 (c_X10_isSet hI (Ml M) σ (v := s) (by unfold R32; omega)) (by decide) (Nat.le_of_ble_eq_true rfl) (fun z σ9 ⟨hz, hσ⟩ => ?_)
    subst z
    subst σ9
    refine g_ifb_ne (tgt := 29) C dX10_sum_18 (by decide) (fun h2 => ?_) (fun h2 => ?_)
    · refine g_iload_n C dX10_sum_29 rfl ?_
      refine g_pc (pc' := 30) rfl ?_
      refine g_iload_n C dX10_sum_30 rfl ?_
      refine g_iconst (z := 3) C dX10_sum_31 rfl ?_
      refine g_idiv C dX10_sum_32 (by omega) ?_
      refine gc_X10_184 C dX10_sum_33 (c_X10_has hI (Ml M) σ (s := s.toNat) (k := (p.toNat / 3)) (by omega) (by omega) (by omega) (by omega)) (by decide) (Nat.le_of_ble_eq_true rfl) (fun z σ9 ⟨hz, hσ⟩ => ?_)
      subst z
      subst σ9
      refine g_istore_n (L' := [(3, .int (iZ (bZ (bitv s.toNat (p.toNat / 3) = 1)))), (0, .ref (κ.2.1 105)), (1, .int (iZ s)), (2, .int (iZ p))]) C dX10_sum_36 rfl (by decide) rfl ?_
      refine g_aload_n C dX10_sum_37 rfl ?_
      refine g_iload_n C dX10_sum_38 rfl ?_
      refine g_iload_n C dX10_sum_39 rfl ?_
      refine g_pc (pc' := 40) rfl ?_
      refine g_ifb_eq (tgt := 47) C dX10_sum_40 (by decide) (fun h3 => ?_) (fun h3 => ?_)
      · refine g_iconst (z := (-1)) C dX10_sum_47 rfl ?_
        refine gc_X10_309 C dX10_sum_48 rfl (c_X10_findReally hI (Ml M) σ hM.1 hO.1 (s := s.toNat) (P := 0) (g2 := (fun _ => 0)) (by omega) (by omega) (by omega) (fun _ _ => rfl) (Or.inl ⟨rfl, rfl⟩)) (by decide) (Nat.le_of_ble_eq_true rfl) (fun s1 ⟨hRa, hRb, hF⟩ => ?_)
        obtain ⟨n, hn⟩ : ∃ n : Nat, s1.1 105 38 = (n : Int) ∧ ((rN (vW V) s.toNat ≤ 100000 ∧ n = rN (vW V) s.toNat) ∨ (100000 < rN (vW V) s.toNat ∧ 100000 < n ∧ n ≤ 100001)) := by
          rcases Nat.lt_or_ge 100000 (rN (vW V) s.toNat) with k | k
          · have h9 := hRb k; exact ⟨(s1.1 105 38).toNat, by omega, by omega⟩
          · exact ⟨rN (vW V) s.toNat, (hRa k).1, by omega⟩
        have hM1 := hM.scr hF
        refine g_aload_n C dX10_sum_51 rfl ?_
        refine gf_X10_289 (z := (n : Int)) C dX10_sum_52 rfl hn.1 ?_
        refine g_ldcw (z := 100000) C dX10_sum_55 wq_404 ?_
        refine g_icmp_le (tgt := 69) C dX10_sum_58 (by decide) (by unfold R32; omega) (fun h4 => ?_) (fun h4 => ?_)
        · refine g_iload_n C dX10_sum_69 rfl ?_
          refine g_pc (pc' := 70) rfl ?_
          refine g_ifb_eq (tgt := 80) C dX10_sum_70 (by decide) (fun h5 => ?_) (fun h5 => ?_)
          · refine g_aload_n C dX10_sum_80 rfl ?_
            refine g_bipush (z := (-6)) C dX10_sum_81 rfl ?_
            refine gc_X10_274 C dX10_sum_83 rfl (c_X10_no hI (Ml M) s1 (y := 6) (v := (-6)) (by first | rfl | omega) (by decide)) (by decide) (Nat.le_of_ble_eq_true rfl) (fun z σ9 ⟨hz, hσ⟩ => ?_)
            subst z
            subst σ9
            refine g_i2l C dX10_sum_86 ?_
            exact g_lreturn C dX10_sum_87 (by rw [show aSum V s p = rfJ 6 V by unfold aSum; (first | rw [if_pos (by omega)] | rw [if_neg (by omega), if_pos (by omega)] | rw [if_neg (by omega), if_neg (by omega), if_pos (by omega)] | rw [if_neg (by omega), if_neg (by omega), if_neg (by omega), if_pos (by omega)] | rw [if_neg (by omega), if_neg (by omega), if_neg (by omega), if_neg (by omega)])]; exact ⟨rfl, hM1.ref (by omega), hF.scr.tr YC.ref⟩)
          · exfalso; omega
        · refine g_aload_n C dX10_sum_61 rfl ?_
          refine g_bipush (z := (-5)) C dX10_sum_62 rfl ?_
          refine g_pc (pc' := 64) rfl ?_
          refine gc_X10_274 C dX10_sum_64 rfl (c_X10_no hI (Ml M) s1 (y := 5) (v := (-5)) (by first | rfl | omega) (by decide)) (by decide) (Nat.le_of_ble_eq_true rfl) (fun z σ9 ⟨hz, hσ⟩ => ?_)
          subst z
          subst σ9
          refine g_i2l C dX10_sum_67 ?_
          exact g_lreturn C dX10_sum_68 (by rw [show aSum V s p = rfJ 5 V by unfold aSum; (first | rw [if_pos (by omega)] | rw [if_neg (by omega), if_pos (by omega)] | rw [if_neg (by omega), if_neg (by omega), if_pos (by omega)] | rw [if_neg (by omega), if_neg (by omega), if_neg (by omega), if_pos (by omega)] | rw [if_neg (by omega), if_neg (by omega), if_neg (by omega), if_neg (by omega)])]; exact ⟨rfl, hM1.ref (by omega), hF.scr.tr YC.ref⟩)
      · refine g_iload_n C dX10_sum_43 rfl ?_
        refine g_goto (tgt := 48) C dX10_sum_44 (by decide) ?_
        refine gc_X10_309 C dX10_sum_48 rfl (c_X10_findReally hI (Ml M) σ hM.1 hO.1 (s := s.toNat) (P := p.toNat) (g2 := (gV (vW V) s.toNat p.toNat)) (by omega) (by omega) (by omega) gV_O (Or.inr ⟨by omega, by omega, by assumption, rfl⟩)) (by decide) (Nat.le_of_ble_eq_true rfl) (fun s1 ⟨hRa, hRb, hF⟩ => ?_)
        obtain ⟨n, hn⟩ : ∃ n : Nat, s1.1 105 38 = (n : Int) ∧ ((rN (vW V) s.toNat ≤ 100000 ∧ n = rN (vW V) s.toNat) ∨ (100000 < rN (vW V) s.toNat ∧ 100000 < n ∧ n ≤ 100001)) := by
          rcases Nat.lt_or_ge 100000 (rN (vW V) s.toNat) with k | k
          · have h9 := hRb k; exact ⟨(s1.1 105 38).toNat, by omega, by omega⟩
          · exact ⟨rN (vW V) s.toNat, (hRa k).1, by omega⟩
        have hM1 := hM.scr hF
        refine g_aload_n C dX10_sum_51 rfl ?_
        refine gf_X10_289 (z := (n : Int)) C dX10_sum_52 rfl hn.1 ?_
        refine g_pc (pc' := 55) rfl ?_
        refine g_ldcw (z := 100000) C dX10_sum_55 wq_404 ?_
        refine g_icmp_le (tgt := 69) C dX10_sum_58 (by decide) (by unfold R32; omega) (fun h6 => ?_) (fun h6 => ?_)
        · refine g_iload_n C dX10_sum_69 rfl ?_
          refine g_ifb_eq (tgt := 80) C dX10_sum_70 (by decide) (fun h7 => ?_) (fun h7 => ?_)
          · exfalso; omega
          · refine g_aload_n C dX10_sum_73 rfl ?_
            refine gf_X10_292 (z := (s1.2.2 105 39)) C dX10_sum_74 rfl rfl ?_
            refine g_goto (tgt := 87) C dX10_sum_77 (by decide) ?_
            exact g_lreturn C dX10_sum_87 (by rw [show aSum V s p = (Int64.ofInt (rV (vW V) s.toNat p.toNat : Int), V) by unfold aSum; (first | rw [if_pos (by omega)] | rw [if_neg (by omega), if_pos (by omega)] | rw [if_neg (by omega), if_neg (by omega), if_pos (by omega)] | rw [if_neg (by omega), if_neg (by omega), if_neg (by omega), if_pos (by omega)] | rw [if_neg (by omega), if_neg (by omega), if_neg (by omega), if_neg (by omega)])]; exact ⟨(hRa (by omega)).2, hM1, hF.scr⟩)
        · refine g_pc (pc' := 61) rfl ?_
          refine g_aload_n C dX10_sum_61 rfl ?_
          refine g_bipush (z := (-5)) C dX10_sum_62 rfl ?_
          refine gc_X10_274 C dX10_sum_64 rfl (c_X10_no hI (Ml M) s1 (y := 5) (v := (-5)) (by first | rfl | omega) (by decide)) (by decide) (Nat.le_of_ble_eq_true rfl) (fun z σ9 ⟨hz, hσ⟩ => ?_)
          subst z
          subst σ9
          refine g_i2l C dX10_sum_67 ?_
          exact g_lreturn C dX10_sum_68 (by rw [show aSum V s p = rfJ 5 V by unfold aSum; (first | rw [if_pos (by omega)] | rw [if_neg (by omega), if_pos (by omega)] | rw [if_neg (by omega), if_neg (by omega), if_pos (by omega)] | rw [if_neg (by omega), if_neg (by omega), if_neg (by omega), if_pos (by omega)] | rw [if_neg (by omega), if_neg (by omega), if_neg (by omega), if_neg (by omega)])]; exact ⟨rfl, hM1.ref (by omega), hF.scr.tr YC.ref⟩)
    · refine g_aload_n C dX10_sum_21 rfl ?_
      refine g_bipush (z := (-6)) C dX10_sum_22 rfl ?_
      refine gc_X10_274 C dX10_sum_24 rfl (c_X10_no hI (Ml M) σ (y := 6) (v := (-6)) (by first | rfl | omega) (by decide)) (by decide) (Nat.le_of_ble_eq_true rfl) (fun z σ9 ⟨hz, hσ⟩ => ?_)
      subst z
      subst σ9
      refine g_pc (pc' := 27) rfl ?_
      refine g_i2l C dX10_sum_27 ?_
      exact g_lreturn C dX10_sum_28 (by rw [show aSum V s p = rfJ 6 V by unfold aSum; (first | rw [if_pos (by omega)] | rw [if_neg (by omega), if_pos (by omega)] | rw [if_neg (by omega), if_neg (by omega), if_pos (by omega)] | rw [if_neg (by omega), if_neg (by omega), if_neg (by omega), if_pos (by omega)] | rw [if_neg (by omega), if_neg (by omega), if_neg (by omega), if_neg (by omega)])]; exact ⟨rfl, hM.ref (by omega), YC.ref⟩)
  · refine g_aload_n C dX10_sum_7 rfl ?_
    refine g_iconst (z := (-1)) C dX10_sum_8 rfl ?_
    refine gc_X10_274 C dX10_sum_9 rfl (c_X10_no hI (Ml M) σ (y := 1) (v := (-1)) (by first | rfl | omega) (by decide)) (by decide) (Nat.le_of_ble_eq_true rfl) (fun z σ9 ⟨hz, hσ⟩ => ?_)
    subst z
    subst σ9
    refine g_i2l C dX10_sum_12 ?_
    exact g_lreturn C dX10_sum_13 (by rw [show aSum V s p = rfJ 1 V by unfold aSum; (first | rw [if_pos (by omega)] | rw [if_neg (by omega), if_pos (by omega)] | rw [if_neg (by omega), if_neg (by omega), if_pos (by omega)] | rw [if_neg (by omega), if_neg (by omega), if_neg (by omega), if_pos (by omega)] | rw [if_neg (by omega), if_neg (by omega), if_neg (by omega), if_neg (by omega)])]; exact ⟨rfl, hM.ref (by omega), YC.ref⟩)
set_option maxHeartbeats 4000000 in
set_option maxRecDepth 100000 in
theorem c_X10_wrongBy {κ : Kp} (hI : Ij κ) (l : Launch) (σ : St) {V : Vw} (hM : MV σ V) (hO : OKV V) {s : Int} (hs : R32 s) : CtI κ l 6 yX10_wrongBy cX10_wrongBy 6 .int [.ref (κ.2.1 105), .int (iZ s)] σ (fun z σ' => z = (aWrongBy V s).1 ∧ MV σ' (aWrongBy V s).2 ∧ Fr YC σ σ') := by
  refine Ct.ofG (own := RX10) hI (by decide +kernel) rfl (Nat.le_of_ble_eq_true rfl) rfl ?_
  intro M C hMl
  refine g_iload_n C dX10_wrongBy_0 rfl ?_
  refine gc_X10_267 C dX10_wrongBy_1 (c_X10_isSet hI (Ml M) σ (v := s) (by unfold R32; omega)) (by decide) (Nat.le_of_ble_eq_true rfl) (fun z σ9 ⟨hz, hσ⟩ => ?_)
  subst z
  subst σ9
  refine g_ifb_ne (tgt := 14) C dX10_wrongBy_4 (by decide) (fun h1 => ?_) (fun h1 => ?_)
  · refine g_aload_n C dX10_wrongBy_14 rfl ?_
    refine g_iload_n C dX10_wrongBy_15 rfl ?_
    refine g_iconst (z := (-1)) C dX10_wrongBy_16 rfl ?_
    refine gc_X10_309 C dX10_wrongBy_17 rfl (c_X10_findReally hI (Ml M) σ hM.1 hO.1 (s := s.toNat) (P := 0) (g2 := (fun _ => 0)) (by omega) (by omega) (by omega) (fun _ _ => rfl) (Or.inl ⟨rfl, rfl⟩)) (by decide) (Nat.le_of_ble_eq_true rfl) (fun s1 ⟨hRa, hRb, hF⟩ => ?_)
    obtain ⟨n, hn⟩ : ∃ n : Nat, s1.1 105 38 = (n : Int) ∧ ((rN (vW V) s.toNat ≤ 100000 ∧ n = rN (vW V) s.toNat) ∨ (100000 < rN (vW V) s.toNat ∧ 100000 < n ∧ n ≤ 100001)) := by
      rcases Nat.lt_or_ge 100000 (rN (vW V) s.toNat) with k | k
      · have h9 := hRb k; exact ⟨(s1.1 105 38).toNat, by omega, by omega⟩
      · exact ⟨rN (vW V) s.toNat, (hRa k).1, by omega⟩
    have hM1 := hM.scr hF
    refine g_pc (pc' := 20) rfl ?_
    refine g_aload_n C dX10_wrongBy_20 rfl ?_
    refine gf_X10_289 (z := (n : Int)) C dX10_wrongBy_21 rfl hn.1 ?_
    refine g_ldcw (z := 100000) C dX10_wrongBy_24 wq_404 ?_
    refine g_icmp_le (tgt := 37) C dX10_wrongBy_27 (by decide) (by unfold R32; omega) (fun h2 => ?_) (fun h2 => ?_)
    · refine g_aload_n C dX10_wrongBy_37 rfl ?_
      refine g_iload_n C dX10_wrongBy_38 rfl ?_
      have hnN : n = rN (vW V) s.toNat := by omega
      refine gc_X10_201 C dX10_wrongBy_39 rfl (c_X10_thoughtOf hI (Ml M) s1 hM1.1 hO.1 (s := s.toNat) (by omega) (by omega)) (by decide) (Nat.le_of_ble_eq_true rfl) (fun z s2 ⟨hz, hG⟩ => ?_)
      subst z
      have hn2 : s2.1 105 38 = (n : Int) := (hG.2 38 (by unfold HT; omega)).trans hn.1
      have hM2 := hM1.hm hG
      have hF2 := hF.scr.tr hG.hmY
      have hA := tho_B hO.1 s.toNat
      have hB : fB (FP.i2f (iZ (n : Int))) (n * fu) := fB_i2f (by omega)
      refine g_fstore_n (L' := [(2, .float (tho (vW V) s.toNat)), (0, .ref (κ.2.1 105)), (1, .int (iZ s))]) C dX10_wrongBy_42 rfl (by decide) rfl ?_
      refine g_pc (pc' := 43) rfl ?_
      refine g_aload_n C dX10_wrongBy_43 rfl ?_
      refine gf_X10_289 (z := (n : Int)) C dX10_wrongBy_44 rfl hn2 ?_
      refine g_i2f C dX10_wrongBy_47 ?_
      refine g_fstore_n (L' := [(3, .float (FP.i2f (iZ (n : Int)))), (2, .float (tho (vW V) s.toNat)), (0, .ref (κ.2.1 105)), (1, .int (iZ s))]) C dX10_wrongBy_48 rfl (by decide) rfl ?_
      refine g_fload_n C dX10_wrongBy_49 rfl ?_
      refine g_fconst0 C dX10_wrongBy_50 ?_
      refine g_fcmp C dX10_wrongBy_51 ?_
      obtain ⟨z1, hz1, hrz1, hlz1⟩ := cv0 hA .l
      refine g_raw hz1 ?_
      refine g_if_eq (tgt := 61) C dX10_wrongBy_52 (by decide) hrz1 (fun h3 => ?_) (fun h3 => ?_)
      · refine g_pc (pc' := 61) rfl ?_
        refine g_fload_n C dX10_wrongBy_61 rfl ?_
        refine g_fload_n C dX10_wrongBy_62 rfl ?_
        refine g_fcmp C dX10_wrongBy_63 ?_
        obtain ⟨z5, hz5, hrz5, hlz5⟩ := cvB hA hB .l
        refine g_raw hz5 ?_
        refine g_if_ne (tgt := 71) C dX10_wrongBy_64 (by decide) hrz5 (fun h4 => ?_) (fun h4 => ?_)
        · refine g_fconst0 C dX10_wrongBy_71 ?_
          refine gc_X10_258 C dX10_wrongBy_72 (c_Jxf58ca_floatToIntBits_5c35a hI (Ml M) s2 (FN.of fB_0)) (by decide) (Nat.le_of_ble_eq_true rfl) (fun z2 σ9 ⟨hz2, hσ⟩ => ?_)
          subst σ9
          exact g_ireturn C dX10_wrongBy_75 (by first | (exfalso; omega) | exact (by rw [show aWrongBy V s = (((erF (tho (vW V) s.toNat) (FP.i2f (iZ (rN (vW V) s.toNat : Int)))).toNat : Int), V) by unfold aWrongBy; (first | rw [if_pos (by omega)] | rw [if_neg (by omega), if_pos (by omega)] | rw [if_neg (by omega), if_neg (by omega)])]; exact ⟨by show z2 = ((erF (tho (vW V) s.toNat) _).toNat : Int); rw [hz2, ← hnN, erF_0 (by omega), if_neg (by omega)], hM2, hF2⟩))
        · refine g_fconst1 C dX10_wrongBy_67 ?_
          refine g_pc (pc' := 68) rfl ?_
          refine g_goto (tgt := 72) C dX10_wrongBy_68 (by decide) ?_
          refine gc_X10_258 C dX10_wrongBy_72 (c_Jxf58ca_floatToIntBits_5c35a hI (Ml M) s2 (FN.of fB_1)) (by decide) (Nat.le_of_ble_eq_true rfl) (fun z2 σ9 ⟨hz2, hσ⟩ => ?_)
          subst σ9
          exact g_ireturn C dX10_wrongBy_75 (by first | (exfalso; omega) | exact (by rw [show aWrongBy V s = (((erF (tho (vW V) s.toNat) (FP.i2f (iZ (rN (vW V) s.toNat : Int)))).toNat : Int), V) by unfold aWrongBy; (first | rw [if_pos (by omega)] | rw [if_neg (by omega), if_pos (by omega)] | rw [if_neg (by omega), if_neg (by omega)])]; exact ⟨by show z2 = ((erF (tho (vW V) s.toNat) _).toNat : Int); rw [hz2, ← hnN, erF_0 (by omega), if_pos (by omega)], hM2, hF2⟩))
      · refine g_fload_n C dX10_wrongBy_55 rfl ?_
        refine g_fconst0 C dX10_wrongBy_56 ?_
        refine g_fcmp C dX10_wrongBy_57 ?_
        obtain ⟨z3, hz3, hrz3, hlz3⟩ := cv0 hB .l
        refine g_raw hz3 ?_
        refine g_if_ne (tgt := 76) C dX10_wrongBy_58 (by decide) hrz3 (fun h5 => ?_) (fun h5 => ?_)
        · refine g_fload_n C dX10_wrongBy_76 rfl ?_
          refine g_pc (pc' := 77) rfl ?_
          refine g_fload_n C dX10_wrongBy_77 rfl ?_
          refine g_fdiv C dX10_wrongBy_78 (FN.div hA hB (by omega)).vf ?_
          refine g_fstore (L' := [(4, .float (FP.fdiv (tho (vW V) s.toNat) (FP.i2f (iZ (n : Int))))), (3, .float (FP.i2f (iZ (n : Int)))), (2, .float (tho (vW V) s.toNat)), (0, .ref (κ.2.1 105)), (1, .int (iZ s))]) C dX10_wrongBy_79 (by decide) rfl ?_
          refine g_fload_n C dX10_wrongBy_81 rfl ?_
          refine g_fload_n C dX10_wrongBy_82 rfl ?_
          refine g_fdiv C dX10_wrongBy_83 (FN.div hB hA (by omega)).vf ?_
          refine g_fstore (L' := [(5, .float (FP.fdiv (FP.i2f (iZ (n : Int))) (tho (vW V) s.toNat))), (4, .float (FP.fdiv (tho (vW V) s.toNat) (FP.i2f (iZ (n : Int))))), (3, .float (FP.i2f (iZ (n : Int)))), (2, .float (tho (vW V) s.toNat)), (0, .ref (κ.2.1 105)), (1, .int (iZ s))]) C dX10_wrongBy_84 (by decide) rfl ?_
          refine g_fload C dX10_wrongBy_86 rfl ?_
          refine g_pc (pc' := 88) rfl ?_
          refine g_fload C dX10_wrongBy_88 rfl ?_
          refine g_fcmp C dX10_wrongBy_90 ?_
          obtain ⟨z4, hz4, hrz4, hlz4⟩ := cvM (FN.div hA hB (by omega)) (FN.div hB hA (by omega)) .l
          refine g_raw hz4 ?_
          refine g_if_le (tgt := 99) C dX10_wrongBy_91 (by decide) hrz4 (fun h6 => ?_) (fun h6 => ?_)
          · refine g_fload C dX10_wrongBy_99 rfl ?_
            refine gc_X10_258 C dX10_wrongBy_101 (c_Jxf58ca_floatToIntBits_5c35a hI (Ml M) s2 (FN.div hB hA (by omega))) (by decide) (Nat.le_of_ble_eq_true rfl) (fun z2 σ9 ⟨hz2, hσ⟩ => ?_)
            subst σ9
            exact g_ireturn C dX10_wrongBy_104 (by first | (exfalso; omega) | exact (by rw [show aWrongBy V s = (((erF (tho (vW V) s.toNat) (FP.i2f (iZ (rN (vW V) s.toNat : Int)))).toNat : Int), V) by unfold aWrongBy; (first | rw [if_pos (by omega)] | rw [if_neg (by omega), if_pos (by omega)] | rw [if_neg (by omega), if_neg (by omega)])]; exact ⟨by show z2 = ((erF (tho (vW V) s.toNat) _).toNat : Int); rw [hz2, ← hnN, erF_1 (by omega) (by omega), hlz4.1 (by omega)], hM2, hF2⟩))
          · refine g_fload C dX10_wrongBy_94 rfl ?_
            refine g_goto (tgt := 101) C dX10_wrongBy_96 (by decide) ?_
            refine g_pc (pc' := 101) rfl ?_
            refine gc_X10_258 C dX10_wrongBy_101 (c_Jxf58ca_floatToIntBits_5c35a hI (Ml M) s2 (FN.div hA hB (by omega))) (by decide) (Nat.le_of_ble_eq_true rfl) (fun z2 σ9 ⟨hz2, hσ⟩ => ?_)
            subst σ9
            exact g_ireturn C dX10_wrongBy_104 (by first | (exfalso; omega) | exact (by rw [show aWrongBy V s = (((erF (tho (vW V) s.toNat) (FP.i2f (iZ (rN (vW V) s.toNat : Int)))).toNat : Int), V) by unfold aWrongBy; (first | rw [if_pos (by omega)] | rw [if_neg (by omega), if_pos (by omega)] | rw [if_neg (by omega), if_neg (by omega)])]; exact ⟨by show z2 = ((erF (tho (vW V) s.toNat) _).toNat : Int); rw [hz2, ← hnN, erF_1 (by omega) (by omega), hlz4.2 (by omega)], hM2, hF2⟩))
        · refine g_fload_n C dX10_wrongBy_61 rfl ?_
          refine g_fload_n C dX10_wrongBy_62 rfl ?_
          refine g_fcmp C dX10_wrongBy_63 ?_
          obtain ⟨z5, hz5, hrz5, hlz5⟩ := cvB hA hB .l
          refine g_raw hz5 ?_
          refine g_if_ne (tgt := 71) C dX10_wrongBy_64 (by decide) hrz5 (fun h7 => ?_) (fun h7 => ?_)
          · refine g_fconst0 C dX10_wrongBy_71 ?_
            refine gc_X10_258 C dX10_wrongBy_72 (c_Jxf58ca_floatToIntBits_5c35a hI (Ml M) s2 (FN.of fB_0)) (by decide) (Nat.le_of_ble_eq_true rfl) (fun z2 σ9 ⟨hz2, hσ⟩ => ?_)
            subst σ9
            refine g_pc (pc' := 75) rfl ?_
            exact g_ireturn C dX10_wrongBy_75 (by first | (exfalso; omega) | exact (by rw [show aWrongBy V s = (((erF (tho (vW V) s.toNat) (FP.i2f (iZ (rN (vW V) s.toNat : Int)))).toNat : Int), V) by unfold aWrongBy; (first | rw [if_pos (by omega)] | rw [if_neg (by omega), if_pos (by omega)] | rw [if_neg (by omega), if_neg (by omega)])]; exact ⟨by show z2 = ((erF (tho (vW V) s.toNat) _).toNat : Int); rw [hz2, ← hnN, erF_0 (by omega), if_neg (by omega)], hM2, hF2⟩))
          · refine g_fconst1 C dX10_wrongBy_67 ?_
            refine g_goto (tgt := 72) C dX10_wrongBy_68 (by decide) ?_
            refine gc_X10_258 C dX10_wrongBy_72 (c_Jxf58ca_floatToIntBits_5c35a hI (Ml M) s2 (FN.of fB_1)) (by decide) (Nat.le_of_ble_eq_true rfl) (fun z2 σ9 ⟨hz2, hσ⟩ => ?_)
            subst σ9
            exact g_ireturn C dX10_wrongBy_75 (by first | (exfalso; omega) | exact (by rw [show aWrongBy V s = (((erF (tho (vW V) s.toNat) (FP.i2f (iZ (rN (vW V) s.toNat : Int)))).toNat : Int), V) by unfold aWrongBy; (first | rw [if_pos (by omega)] | rw [if_neg (by omega), if_pos (by omega)] | rw [if_neg (by omega), if_neg (by omega)])]; exact ⟨by show z2 = ((erF (tho (vW V) s.toNat) _).toNat : Int); rw [hz2, ← hnN, erF_0 (by omega), if_pos (by omega)], hM2, hF2⟩))
    · refine g_aload_n C dX10_wrongBy_30 rfl ?_
      refine g_bipush (z := (-5)) C dX10_wrongBy_31 rfl ?_
      refine gc_X10_274 C dX10_wrongBy_33 rfl (c_X10_no hI (Ml M) s1 (y := 5) (v := (-5)) (by first | rfl | omega) (by decide)) (by decide) (Nat.le_of_ble_eq_true rfl) (fun z σ9 ⟨hz, hσ⟩ => ?_)
      subst z
      subst σ9
      refine g_pc (pc' := 36) rfl ?_
      exact g_ireturn C dX10_wrongBy_36 (by rw [show aWrongBy V s = rfs 5 V by unfold aWrongBy; (first | rw [if_pos (by omega)] | rw [if_neg (by omega), if_pos (by omega)] | rw [if_neg (by omega), if_neg (by omega)])]; exact ⟨rfl, hM1.ref (by omega), hF.scr.tr YC.ref⟩)
  · refine g_aload_n C dX10_wrongBy_7 rfl ?_
    refine g_bipush (z := (-6)) C dX10_wrongBy_8 rfl ?_
    refine gc_X10_274 C dX10_wrongBy_10 rfl (c_X10_no hI (Ml M) σ (y := 6) (v := (-6)) (by first | rfl | omega) (by decide)) (by decide) (Nat.le_of_ble_eq_true rfl) (fun z σ9 ⟨hz, hσ⟩ => ?_)
    subst z
    subst σ9
    exact g_ireturn C dX10_wrongBy_13 (by rw [show aWrongBy V s = rfs 6 V by unfold aWrongBy; (first | rw [if_pos (by omega)] | rw [if_neg (by omega), if_pos (by omega)] | rw [if_neg (by omega), if_neg (by omega)])]; exact ⟨rfl, hM.ref (by omega), YC.ref⟩)

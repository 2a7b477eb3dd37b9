/-! THE MODEL: bucket -/
theorem HBm_at {σ : St} {w : Wv} {p b : Nat} (h : HBm σ (wsrt w p) (wl w (p / 3)) (wb w (p / 3)) (wb w (p / 3))) (hb : b < bct (wl w (p / 3)) (wb w (p / 3)) (wb w (p / 3))) : σ.1 120 b = wsrt w p (bA (wl w (p / 3)) (wb w (p / 3)) b) ∧ σ.1 121 b = wsrt w p (bB (wl w (p / 3)) (wb w (p / 3)) b - 1) ∧ σ.1 122 b = ((bB (wl w (p / 3)) (wb w (p / 3)) b - bA (wl w (p / 3)) (wb w (p / 3)) b : Nat) : Int) ∧ σ.1 123 b = (dif (wsrt w p) (bA (wl w (p / 3)) (wb w (p / 3)) b) (bB (wl w (p / 3)) (wb w (p / 3)) b) : Int) := h.2 b hb
set_option maxHeartbeats 4000000 in
set_option maxRecDepth 100000 in
theorem c_X10_bucket {κ : Kp} (hI : Ij κ) (l : Launch) (σ : St) {V : Vw} (hM : MV σ V) (hO : OKV V) {p b a : Int} (hp : R32 p) (hb : R32 b) (ha : R32 a) : CtI κ l 3 yX10_bucket cX10_bucket 4 .int [.ref (κ.2.1 105), .int (iZ p), .int (iZ b), .int (iZ a)] σ (fun z σ' => z = (aBucket V p b a).1 ∧ MV σ' (aBucket V p b a).2 ∧ Fr YC σ σ') := by
  refine Ct.ofG (own := RX10) hI (by decide +kernel) rfl (Nat.le_of_ble_eq_true rfl) rfl ?_
  intro M C hMl
  refine g_iload_n C dX10_bucket_0 rfl ?_
  refine gc_X10_312 C dX10_bucket_1 (c_X10_isPlace hI (Ml M) σ (v := p) (by unfold R32; omega)) (by decide) (Nat.le_of_ble_eq_true rfl) (fun z σ9 ⟨hz, hσ⟩ => ?_)
  subst z
  subst σ9
  refine g_ifb_ne (tgt := 13) C dX10_bucket_4 (by decide) (fun h1 => ?_) (fun h1 => ?_)
  · refine g_aload_n C dX10_bucket_13 rfl ?_
    refine g_iload_n C dX10_bucket_14 rfl ?_
    refine gc_X10_163 C dX10_bucket_15 rfl (c_X10_findBuckets hI (Ml M) σ hM.1 hO.1 (p := p.toNat) (by omega) (by omega)) (by decide) (Nat.le_of_ble_eq_true rfl) (fun s1 ⟨hF, hB⟩ => ?_)
    have hM1 := hM.hm hF
    have hbc8 : (bct (wl (vW V) (p.toNat / 3)) (wb (vW V) (p.toNat / 3)) (wb (vW V) (p.toNat / 3))) ≤ wb (vW V) (p.toNat / 3) := bct_le _ _ _
    have hwt := hO.1.1 (p.toNat / 3) (by omega)
    refine g_iload_n C dX10_bucket_18 rfl ?_
    refine g_pc (pc' := 19) rfl ?_
    refine g_iconst (z := 0) C dX10_bucket_19 rfl ?_
    refine g_aload_n C dX10_bucket_20 rfl ?_
    refine gf_X10_157 (z := ((bct (wl (vW V) (p.toNat / 3)) (wb (vW V) (p.toNat / 3)) (wb (vW V) (p.toNat / 3))) : Int)) C dX10_bucket_21 rfl hB.1 ?_
    refine g_iconst (z := 1) C dX10_bucket_24 rfl ?_
    refine g_isub C dX10_bucket_25 ?_
    refine gc_X10_145 C dX10_bucket_26 (c_X10_isIn hI (Ml M) s1 (v := b) (a := 0) (b := (((bct (wl (vW V) (p.toNat / 3)) (wb (vW V) (p.toNat / 3)) (wb (vW V) (p.toNat / 3))) : Int) - 1)) (by unfold R32; omega) (by unfold R32; omega) (by unfold R32; omega)) (by decide) (Nat.le_of_ble_eq_true rfl) (fun z σ9 ⟨hz, hσ⟩ => ?_)
    subst z
    subst σ9
    refine g_ifb_ne (tgt := 39) C dX10_bucket_29 (by decide) (fun h2 => ?_) (fun h2 => ?_)
    · refine g_iload_n C dX10_bucket_39 rfl ?_
      refine g_pc (pc' := 40) rfl ?_
      have hs3 : a < 0 ∨ 3 < a ∨ a = 0 ∨ a = 1 ∨ a = 2 ∨ a = 3 := by omega
      rcases hs3 with hs3 | hs3 | hs3 | hs3 | hs3 | hs3
      · refine g_tswd (tgt := 100) C dX10_bucket_40 (by unfold R32; omega) (by omega) (by decide) ?_
        refine g_aload_n C dX10_bucket_100 rfl ?_
        refine g_bipush (z := (-5)) C dX10_bucket_101 rfl ?_
        refine gc_X10_274 C dX10_bucket_103 rfl (c_X10_no hI (Ml M) s1 (y := 5) (v := (-5)) (by first | rfl | omega) (by decide)) (by decide) (Nat.le_of_ble_eq_true rfl) (fun z σ9 ⟨hz, hσ⟩ => ?_)
        subst z
        subst σ9
        exact g_ireturn C dX10_bucket_106 (by rw [show aBucket V p b a = rfs 5 V by unfold aBucket; (first | rw [if_pos (by omega)] | rw [if_neg (by omega), if_pos (by omega)] | rw [if_neg (by omega), if_neg (by omega), if_pos (by omega)] | rw [if_neg (by omega), if_neg (by omega), if_neg (by omega), if_pos (by omega)] | rw [if_neg (by omega), if_neg (by omega), if_neg (by omega), if_neg (by omega), if_pos (by omega)] | rw [if_neg (by omega), if_neg (by omega), if_neg (by omega), if_neg (by omega), if_neg (by omega), if_pos (by omega)] | rw [if_neg (by omega), if_neg (by omega), if_neg (by omega), if_neg (by omega), if_neg (by omega), if_neg (by omega)])]; exact ⟨rfl, hM1.ref (by omega), hF.hmY.tr YC.ref⟩)
      · refine g_tswd (tgt := 100) C dX10_bucket_40 (by unfold R32; omega) (by omega) (by decide) ?_
        refine g_aload_n C dX10_bucket_100 rfl ?_
        refine g_bipush (z := (-5)) C dX10_bucket_101 rfl ?_
        refine gc_X10_274 C dX10_bucket_103 rfl (c_X10_no hI (Ml M) s1 (y := 5) (v := (-5)) (by first | rfl | omega) (by decide)) (by decide) (Nat.le_of_ble_eq_true rfl) (fun z σ9 ⟨hz, hσ⟩ => ?_)
        subst z
        subst σ9
        refine g_pc (pc' := 106) rfl ?_
        exact g_ireturn C dX10_bucket_106 (by rw [show aBucket V p b a = rfs 5 V by unfold aBucket; (first | rw [if_pos (by omega)] | rw [if_neg (by omega), if_pos (by omega)] | rw [if_neg (by omega), if_neg (by omega), if_pos (by omega)] | rw [if_neg (by omega), if_neg (by omega), if_neg (by omega), if_pos (by omega)] | rw [if_neg (by omega), if_neg (by omega), if_neg (by omega), if_neg (by omega), if_pos (by omega)] | rw [if_neg (by omega), if_neg (by omega), if_neg (by omega), if_neg (by omega), if_neg (by omega), if_pos (by omega)] | rw [if_neg (by omega), if_neg (by omega), if_neg (by omega), if_neg (by omega), if_neg (by omega), if_neg (by omega)])]; exact ⟨rfl, hM1.ref (by omega), hF.hmY.tr YC.ref⟩)
      · refine g_int (z' := 0) hs3 ?_
        refine g_tsw (tgt := 72) C dX10_bucket_40 (by decide) (by decide) rfl (by decide) ?_
        refine g_aload_n C dX10_bucket_72 rfl ?_
        refine gf_X10_43 C dX10_bucket_73 rfl ?_
        refine g_iload_n C dX10_bucket_76 rfl ?_
        refine g_iaz (n := b.toNat) (N := 8) (v := (s1.1 120 b.toNat)) C dX10_bucket_77 rfl rfl (by omega) (by omega) (by decide) rfl ?_
        exact g_ireturn C dX10_bucket_78 ⟨by unfold aBucket; rw [if_neg (by omega), if_neg (by omega), if_pos (by omega)]; exact (HBm_at hB (b := b.toNat) (by omega)).1, by unfold aBucket; rw [if_neg (by omega), if_neg (by omega), if_pos (by omega)]; exact hM1, hF.hmY⟩
      · refine g_int (z' := 1) hs3 ?_
        refine g_tsw (tgt := 79) C dX10_bucket_40 (by decide) (by decide) rfl (by decide) ?_
        refine g_aload_n C dX10_bucket_79 rfl ?_
        refine gf_X10_46 C dX10_bucket_80 rfl ?_
        refine g_pc (pc' := 83) rfl ?_
        refine g_iload_n C dX10_bucket_83 rfl ?_
        refine g_iaz (n := b.toNat) (N := 8) (v := (s1.1 121 b.toNat)) C dX10_bucket_84 rfl rfl (by omega) (by omega) (by decide) rfl ?_
        exact g_ireturn C dX10_bucket_85 ⟨by unfold aBucket; rw [if_neg (by omega), if_neg (by omega), if_neg (by omega), if_pos (by omega)]; exact (HBm_at hB (b := b.toNat) (by omega)).2.1, by unfold aBucket; rw [if_neg (by omega), if_neg (by omega), if_neg (by omega), if_pos (by omega)]; exact hM1, hF.hmY⟩
      · refine g_int (z' := 2) hs3 ?_
        refine g_tsw (tgt := 86) C dX10_bucket_40 (by decide) (by decide) rfl (by decide) ?_
        refine g_aload_n C dX10_bucket_86 rfl ?_
        refine gf_X10_49 C dX10_bucket_87 rfl ?_
        refine g_iload_n C dX10_bucket_90 rfl ?_
        refine g_iaz (n := b.toNat) (N := 8) (v := (s1.1 122 b.toNat)) C dX10_bucket_91 rfl rfl (by omega) (by omega) (by decide) rfl ?_
        exact g_ireturn C dX10_bucket_92 ⟨by unfold aBucket; rw [if_neg (by omega), if_neg (by omega), if_neg (by omega), if_neg (by omega), if_pos (by omega)]; exact (HBm_at hB (b := b.toNat) (by omega)).2.2.1, by unfold aBucket; rw [if_neg (by omega), if_neg (by omega), if_neg (by omega), if_neg (by omega), if_pos (by omega)]; exact hM1, hF.hmY⟩
      · refine g_int (z' := 3) hs3 ?_
        refine g_tsw (tgt := 93) C dX10_bucket_40 (by decide) (by decide) rfl (by decide) ?_
        refine g_pc (pc' := 93) rfl ?_
        refine g_aload_n C dX10_bucket_93 rfl ?_
        refine gf_X10_52 C dX10_bucket_94 rfl ?_
        refine g_iload_n C dX10_bucket_97 rfl ?_
        refine g_iaz (n := b.toNat) (N := 8) (v := (s1.1 123 b.toNat)) C dX10_bucket_98 rfl rfl (by omega) (by omega) (by decide) rfl ?_
        exact g_ireturn C dX10_bucket_99 ⟨by unfold aBucket; rw [if_neg (by omega), if_neg (by omega), if_neg (by omega), if_neg (by omega), if_neg (by omega), if_pos (by omega)]; exact (HBm_at hB (b := b.toNat) (by omega)).2.2.2, by unfold aBucket; rw [if_neg (by omega), if_neg (by omega), if_neg (by omega), if_neg (by omega), if_neg (by omega), if_pos (by omega)]; exact hM1, hF.hmY⟩
    · refine g_aload_n C dX10_bucket_32 rfl ?_
      refine g_bipush (z := (-5)) C dX10_bucket_33 rfl ?_
      refine gc_X10_274 C dX10_bucket_35 rfl (c_X10_no hI (Ml M) s1 (y := 5) (v := (-5)) (by first | rfl | omega) (by decide)) (by decide) (Nat.le_of_ble_eq_true rfl) (fun z σ9 ⟨hz, hσ⟩ => ?_)
      subst z
      subst σ9
      refine g_pc (pc' := 38) rfl ?_
      exact g_ireturn C dX10_bucket_38 (by rw [show aBucket V p b a = rfs 5 V by unfold aBucket; (first | rw [if_pos (by omega)] | rw [if_neg (by omega), if_pos (by omega)] | rw [if_neg (by omega), if_neg (by omega), if_pos (by omega)] | rw [if_neg (by omega), if_neg (by omega), if_neg (by omega), if_pos (by omega)] | rw [if_neg (by omega), if_neg (by omega), if_neg (by omega), if_neg (by omega), if_pos (by omega)] | rw [if_neg (by omega), if_neg (by omega), if_neg (by omega), if_neg (by omega), if_neg (by omega), if_pos (by omega)] | rw [if_neg (by omega), if_neg (by omega), if_neg (by omega), if_neg (by omega), if_neg (by omega), if_neg (by omega)])]; exact ⟨rfl, hM1.ref (by omega), hF.hmY.tr YC.ref⟩)
  · refine g_aload_n C dX10_bucket_7 rfl ?_
    refine g_iconst (z := (-1)) C dX10_bucket_8 rfl ?_
    refine gc_X10_274 C dX10_bucket_9 rfl (c_X10_no hI (Ml M) σ (y := 1) (v := (-1)) (by first | rfl | omega) (by decide)) (by decide) (Nat.le_of_ble_eq_true rfl) (fun z σ9 ⟨hz, hσ⟩ => ?_)
    subst z
    subst σ9
    exact g_ireturn C dX10_bucket_12 (by rw [show aBucket V p b a = rfs 1 V by unfold aBucket; (first | rw [if_pos (by omega)] | rw [if_neg (by omega), if_pos (by omega)] | rw [if_neg (by omega), if_neg (by omega), if_pos (by omega)] | rw [if_neg (by omega), if_neg (by omega), if_neg (by omega), if_pos (by omega)] | rw [if_neg (by omega), if_neg (by omega), if_neg (by omega), if_neg (by omega), if_pos (by omega)] | rw [if_neg (by omega), if_neg (by omega), if_neg (by omega), if_neg (by omega), if_neg (by omega), if_pos (by omega)] | rw [if_neg (by omega), if_neg (by omega), if_neg (by omega), if_neg (by omega), if_neg (by omega), if_neg (by omega)])]; exact ⟨rfl, hM.ref (by omega), YC.ref⟩)

/-! HistogramPlans: what its calls share -/
set_option maxHeartbeats 4000000 in
set_option maxRecDepth 100000 in
theorem c_X9_isBelow {κ : Kp} (hI : Ij κ) (l : Launch) (σ : St) {x e : Int} (hx : R32 x) (he : R32 e) : CtI κ l 0 yX9_isBelow cX9_isBelow 2 .boolean [.int (iZ x), .int (iZ e)] σ (fun z σ' => z = bZ (0 ≤ x ∧ x < e) ∧ σ' = σ) := by
  refine Ct.ofG (own := RX9) hI (by decide +kernel) rfl (Nat.le_of_ble_eq_true rfl) rfl ?_
  intro M C hMl
  refine g_iload_n C dX9_isBelow_0 rfl ?_
  refine g_if_lt (tgt := 13) C dX9_isBelow_1 (by decide) (by unfold R32; omega) (fun h1 => ?_) (fun h1 => ?_)
  · refine g_iconst (z := 0) C dX9_isBelow_13 rfl ?_
    exact g_zreturn C dX9_isBelow_14 (by omega) ⟨(bZ_f (by omega)).symm, rfl⟩
  · refine g_iload_n C dX9_isBelow_4 rfl ?_
    refine g_iload_n C dX9_isBelow_5 rfl ?_
    refine g_icmp_ge (tgt := 13) C dX9_isBelow_6 (by decide) (by unfold R32; omega) (fun h2 => ?_) (fun h2 => ?_)
    · refine g_pc (pc' := 13) rfl ?_
      refine g_iconst (z := 0) C dX9_isBelow_13 rfl ?_
      exact g_zreturn C dX9_isBelow_14 (by omega) ⟨(bZ_f (by omega)).symm, rfl⟩
    · refine g_iconst (z := 1) C dX9_isBelow_9 rfl ?_
      refine g_goto (tgt := 14) C dX9_isBelow_10 (by decide) ?_
      exact g_zreturn C dX9_isBelow_14 (by omega) ⟨(bZ_t (by omega)).symm, rfl⟩
set_option maxHeartbeats 4000000 in
set_option maxRecDepth 100000 in
theorem c_X9_isSet {κ : Kp} (hI : Ij κ) (l : Launch) (σ : St) {x : Int} (hx : R32 x) : CtI κ l 0 yX9_isSet cX9_isSet 1 .boolean [.int (iZ x)] σ (fun z σ' => z = bZ (0 < x ∧ x < 32) ∧ σ' = σ) := by
  refine Ct.ofG (own := RX9) hI (by decide +kernel) rfl (Nat.le_of_ble_eq_true rfl) rfl ?_
  intro M C hMl
  refine g_iload_n C dX9_isSet_0 rfl ?_
  refine g_if_le (tgt := 14) C dX9_isSet_1 (by decide) (by unfold R32; omega) (fun h1 => ?_) (fun h1 => ?_)
  · refine g_iconst (z := 0) C dX9_isSet_14 rfl ?_
    exact g_zreturn C dX9_isSet_15 (by omega) ⟨(bZ_f (by omega)).symm, rfl⟩
  · refine g_iload_n C dX9_isSet_4 rfl ?_
    refine g_bipush (z := 32) C dX9_isSet_5 rfl ?_
    refine g_icmp_ge (tgt := 14) C dX9_isSet_7 (by decide) (by unfold R32; omega) (fun h2 => ?_) (fun h2 => ?_)
    · refine g_pc (pc' := 14) rfl ?_
      refine g_iconst (z := 0) C dX9_isSet_14 rfl ?_
      exact g_zreturn C dX9_isSet_15 (by omega) ⟨(bZ_f (by omega)).symm, rfl⟩
    · refine g_iconst (z := 1) C dX9_isSet_10 rfl ?_
      refine g_goto (tgt := 15) C dX9_isSet_11 (by decide) ?_
      exact g_zreturn C dX9_isSet_15 (by omega) ⟨(bZ_t (by omega)).symm, rfl⟩
set_option maxHeartbeats 4000000 in
set_option maxRecDepth 100000 in
theorem c_X9_isOrder {κ : Kp} (hI : Ij κ) (l : Launch) (σ : St) {x : Int} (hx : R32 x) : CtI κ l 1 yX9_isOrder cX9_isOrder 1 .boolean [.int (iZ x)] σ (fun z σ' => z = bZ (x = -1 ∨ (0 ≤ x ∧ x < 15)) ∧ σ' = σ) := by
  refine Ct.ofG (own := RX9) hI (by decide +kernel) rfl (Nat.le_of_ble_eq_true rfl) rfl ?_
  intro M C hMl
  refine g_iload_n C dX9_isOrder_0 rfl ?_
  refine g_iconst (z := (-1)) C dX9_isOrder_1 rfl ?_
  refine g_icmp_eq (tgt := 14) C dX9_isOrder_2 (by decide) (by unfold R32; omega) (fun h1 => ?_) (fun h1 => ?_)
  · refine g_iconst (z := 1) C dX9_isOrder_14 rfl ?_
    refine g_goto (tgt := 19) C dX9_isOrder_15 (by decide) ?_
    exact g_zreturn C dX9_isOrder_19 (by omega) ⟨(bZ_t (by omega)).symm, rfl⟩
  · refine g_iload_n C dX9_isOrder_5 rfl ?_
    refine g_pc (pc' := 6) rfl ?_
    refine g_bipush (z := 15) C dX9_isOrder_6 rfl ?_
    refine gc_X9_80 C dX9_isOrder_8 (c_X9_isBelow hI (Ml M) σ hx (by unfold R32; omega)) (by decide) (Nat.le_of_ble_eq_true rfl) (fun z σ1 ⟨hz, hσ⟩ => ?_)
    subst z
    subst σ1
    refine g_ifb_eq (tgt := 18) C dX9_isOrder_11 (by decide) (fun h2 => ?_) (fun h2 => ?_)
    · refine g_iconst (z := 0) C dX9_isOrder_18 rfl ?_
      exact g_zreturn C dX9_isOrder_19 (by omega) ⟨(bZ_f (by omega)).symm, rfl⟩
    · refine g_iconst (z := 1) C dX9_isOrder_14 rfl ?_
      refine g_goto (tgt := 19) C dX9_isOrder_15 (by decide) ?_
      exact g_zreturn C dX9_isOrder_19 (by omega) ⟨(bZ_t (by omega)).symm, rfl⟩
set_option maxHeartbeats 4000000 in
set_option maxRecDepth 100000 in
theorem c_X9_isWithin {κ : Kp} (hI : Ij κ) (l : Launch) (σ : St) {s p : Nat} {zs zp : Int} (hs : zs = (s : Int)) (hp : zp = (p : Int)) (hs32 : s < 32) (hp15 : p ≤ 14) : CtI κ l 0 yX9_isWithin cX9_isWithin 2 .boolean [.int (iZ zs), .int (iZ zp)] σ (fun z σ' => z = bZ (bitv s (p / 3) = 1) ∧ σ' = σ) := by
  refine Ct.ofG (own := RX9) hI (by decide +kernel) rfl (Nat.le_of_ble_eq_true rfl) rfl ?_
  intro M C hMl
  refine g_iload_n C dX9_isWithin_0 rfl ?_
  refine g_iload_n C dX9_isWithin_1 rfl ?_
  refine g_iconst (z := 3) C dX9_isWithin_2 rfl ?_
  refine g_idiv C dX9_isWithin_3 (by omega) ?_
  refine g_ishr C dX9_isWithin_4 ?_
  refine g_iconst (z := 1) C dX9_isWithin_5 rfl ?_
  refine g_iand C dX9_isWithin_6 ?_
  refine g_raw (bit_raw hs (t := p / 3) (by omega) (by omega) (by omega)) ?_
  refine g_pc (pc' := 7) rfl ?_
  refine g_iconst (z := 1) C dX9_isWithin_7 rfl ?_
  have hb01 := bitv_01 s (p / 3)
  refine g_icmp_ne (tgt := 15) C dX9_isWithin_8 (by decide) (by unfold R32; omega) (fun h1 => ?_) (fun h1 => ?_)
  · refine g_iconst (z := 0) C dX9_isWithin_15 rfl ?_
    exact g_zreturn C dX9_isWithin_16 (by omega) ⟨(bZ_f (by omega)).symm, rfl⟩
  · refine g_iconst (z := 1) C dX9_isWithin_11 rfl ?_
    refine g_goto (tgt := 16) C dX9_isWithin_12 (by decide) ?_
    exact g_zreturn C dX9_isWithin_16 (by omega) ⟨(bZ_t (by omega)).symm, rfl⟩
set_option maxHeartbeats 4000000 in
set_option maxRecDepth 100000 in
theorem c_X9_leastOf {κ : Kp} (hI : Ij κ) (l : Launch) (σ : St) {s : Nat} {zs : Int} (hs : zs = (s : Int)) (hs32 : s < 32) : CtI κ l 0 yX9_leastOf cX9_leastOf 2 .int [.int (iZ zs)] σ (fun z σ' => z = (leastT s : Int) ∧ σ' = σ) := by
  refine Ct.ofG (own := RX9) hI (by decide +kernel) rfl (Nat.le_of_ble_eq_true rfl) rfl ?_
  intro M C hMl
  refine g_iconst (z := 0) C dX9_leastOf_0 rfl ?_
  refine g_istore_n (L' := [(1, .int (iZ 0)), (0, .int (iZ zs))]) C dX9_leastOf_1 rfl (by decide) rfl ?_
  have lp2 : ∀ (fz9 : Nat) (t : Nat) (x1 : Int), (4 - t < fz9) → (x1 = (t : Int)) → (t ≤ 4) → (∀ u, u < t → bitv s u = 0) → G M κ 2 (En M κ (qI κ (fun z σ' => z = (leastT s : Int) ∧ σ' = σ))) 2 [(0, .int (iZ zs)), (1, .int (iZ x1))] [] σ := by
    intro fz9
    induction fz9 with
    | zero => intro t x1 hm0; exact absurd hm0 (Nat.not_lt_zero _)
    | succ fz9 ih =>
      intro t x1 hm2 hx1 ht hb
      refine g_iload_n C dX9_leastOf_2 rfl ?_
      refine g_iconst (z := 4) C dX9_leastOf_3 rfl ?_
      refine g_icmp_ge (tgt := 21) C dX9_leastOf_4 (by decide) (by unfold R32; omega) (fun h1 => ?_) (fun h1 => ?_)
      · refine g_iload_n C dX9_leastOf_21 rfl ?_
        exact g_ireturn C dX9_leastOf_22 ⟨by rw [hx1, leastT_of hb ht (by omega)], rfl⟩
      · refine g_pc (pc' := 7) rfl ?_
        refine g_iload_n C dX9_leastOf_7 rfl ?_
        refine g_iload_n C dX9_leastOf_8 rfl ?_
        refine g_ishr C dX9_leastOf_9 ?_
        refine g_iconst (z := 1) C dX9_leastOf_10 rfl ?_
        refine g_iand C dX9_leastOf_11 ?_
        refine g_raw (bit_raw hs (t := t) hx1 (by omega) (by omega)) ?_
        have hb01 := bitv_01 s t
        refine g_if_ne (tgt := 21) C dX9_leastOf_12 (by decide) (by unfold R32; omega) (fun h2 => ?_) (fun h2 => ?_)
        · refine g_iload_n C dX9_leastOf_21 rfl ?_
          exact g_ireturn C dX9_leastOf_22 ⟨by rw [hx1, leastT_of hb ht (by omega)], rfl⟩
        · refine g_pc (pc' := 15) rfl ?_
          refine g_iinc (q := 1) (v := (x1 + 1)) (L' := [(1, .int (iZ (x1 + 1))), (0, .int (iZ zs))]) C dX9_leastOf_15 rfl rfl (by decide) rfl ?_
          refine g_goto (tgt := 2) C dX9_leastOf_18 (by decide) ?_
          exact g_loc [1, 0] (by rfl) (ih (t + 1) (x1 + 1) (by omega) (by omega) (by omega) (fun u hu => by rcases Nat.lt_or_ge u t with q | q; exact hb u q; (rw [show u = t by omega]; omega)))
  exact g_loc [1, 0] (by rfl) (lp2 _ 0 0 (Nat.lt_succ_self _) rfl (by omega) (fun u hu => absurd hu (Nat.not_lt_zero u)))
set_option maxHeartbeats 4000000 in
set_option maxRecDepth 100000 in
theorem c_X9_cellOf {κ : Kp} (hI : Ij κ) (l : Launch) (σ : St) {a b : Int} : CtI κ l 0 yX9_cellOf cX9_cellOf 2 .int [.int (iZ a), .int (iZ b)] σ (fun z σ' => z = a * 16 + b + 1 ∧ σ' = σ) := by
  refine Ct.ofG (own := RX9) hI (by decide +kernel) rfl (Nat.le_of_ble_eq_true rfl) rfl ?_
  intro M C hMl
  refine g_iload_n C dX9_cellOf_0 rfl ?_
  refine g_bipush (z := 16) C dX9_cellOf_1 rfl ?_
  refine g_imul C dX9_cellOf_3 ?_
  refine g_iload_n C dX9_cellOf_4 rfl ?_
  refine g_iadd C dX9_cellOf_5 ?_
  refine g_iconst (z := 1) C dX9_cellOf_6 rfl ?_
  refine g_iadd C dX9_cellOf_7 ?_
  refine g_pc (pc' := 8) rfl ?_
  exact g_ireturn C dX9_cellOf_8 ⟨rfl, rfl⟩
set_option maxHeartbeats 4000000 in
set_option maxRecDepth 100000 in
theorem c_X9_costOfSorting {κ : Kp} (hI : Ij κ) (l : Launch) (σ : St) {x : UInt32} {a : Nat} (hx : fB x (2 ^ a * fu)) (ha : a ≤ 100) : CtF κ l 0 yX9_costOfSorting cX9_costOfSorting 3 [.float x] σ (fun z σ' => z = cso x ∧ σ' = σ) := by
  refine Ct.ofG (own := RX9) hI (by decide +kernel) rfl (Nat.le_of_ble_eq_true rfl) rfl ?_
  intro M C hMl
  refine g_fload_n C dX9_costOfSorting_0 rfl ?_
  refine g_f2i C dX9_costOfSorting_1 ?_
  refine g_istore_n (L' := [(1, .int (FP.f2i x)), (0, .float x)]) C dX9_costOfSorting_2 rfl (by decide) rfl ?_
  refine g_iconst (z := 0) C dX9_costOfSorting_3 rfl ?_
  refine g_istore_n (L' := [(2, .int (iZ 0)), (1, .int (FP.f2i x)), (0, .float x)]) C dX9_costOfSorting_4 rfl (by decide) rfl ?_
  have lp5 : ∀ (fz9 : Nat) (d : Nat) (x2 : Int), (31 - d < fz9) → (x2 = (d : Int)) → (d ≤ digN (FP.f2i x)) → G M κ 3 (En M κ (qF κ (fun z σ' => z = cso x ∧ σ' = σ))) 5 [(0, .float x), (1, .int (FP.f2i x)), (2, .int (iZ x2))] [] σ := by
    intro fz9
    induction fz9 with
    | zero => intro d x2 hm0; exact absurd hm0 (Nat.not_lt_zero _)
    | succ fz9 ih =>
      intro d x2 hm5 hx2 hd
      have hdl := digN_le (FP.f2i x)
      refine g_iload_n C dX9_costOfSorting_5 rfl ?_
      refine g_bipush (z := 31) C dX9_costOfSorting_6 rfl ?_
      refine g_pc (pc' := 8) rfl ?_
      refine g_icmp_ge (tgt := 23) C dX9_costOfSorting_8 (by decide) (by unfold R32; omega) (fun h1 => ?_) (fun h1 => ?_)
      · have hde : d = digN (FP.f2i x) := by omega
        refine g_fload_n C dX9_costOfSorting_23 rfl ?_
        refine g_iload_n C dX9_costOfSorting_24 rfl ?_
        refine g_i2f C dX9_costOfSorting_25 ?_
        refine g_fmul C dX9_costOfSorting_26 (by rw [hx2, hde]; exact (cso_B hx ha).vf) ?_
        exact g_freturn C dX9_costOfSorting_27 ⟨by rw [hx2, hde]; rfl, rfl⟩
      · refine g_iload_n C dX9_costOfSorting_11 rfl ?_
        refine g_iload_n C dX9_costOfSorting_12 rfl ?_
        refine g_pc (pc' := 13) rfl ?_
        refine g_ishr C dX9_costOfSorting_13 ?_
        refine g_ifr_le (tgt := 23) C dX9_costOfSorting_14 (by decide) (fun h2 => ?_) (fun h2 => ?_)
        · have hde : d = digN (FP.f2i x) := by have := mt (shr_pos (FP.f2i x) hx2 (by omega)).mpr (Int32.not_lt.mpr h2); omega
          refine g_fload_n C dX9_costOfSorting_23 rfl ?_
          refine g_iload_n C dX9_costOfSorting_24 rfl ?_
          refine g_i2f C dX9_costOfSorting_25 ?_
          refine g_fmul C dX9_costOfSorting_26 (by rw [hx2, hde]; exact (cso_B hx ha).vf) ?_
          exact g_freturn C dX9_costOfSorting_27 ⟨by rw [hx2, hde]; rfl, rfl⟩
        · have hdn := (shr_pos (FP.f2i x) hx2 (by omega)).mp (Int32.not_le.mp h2)
          refine g_iinc (q := 2) (v := (x2 + 1)) (L' := [(2, .int (iZ (x2 + 1))), (0, .float x), (1, .int (FP.f2i x))]) C dX9_costOfSorting_17 rfl rfl (by decide) rfl ?_
          refine g_pc (pc' := 20) rfl ?_
          refine g_goto (tgt := 5) C dX9_costOfSorting_20 (by decide) ?_
          exact g_loc [1, 2, 0] (by rfl) (ih (d + 1) (x2 + 1) (by omega) (by omega) (by omega))
  exact g_loc [2, 1, 0] (by rfl) (lp5 _ 0 0 (Nat.lt_succ_self _) rfl (Nat.zero_le _))

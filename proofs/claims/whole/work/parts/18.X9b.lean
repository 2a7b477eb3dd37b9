set_option maxHeartbeats 4000000 in
set_option maxRecDepth 100000 in
theorem c_X9_refuse {κ : Kp} (hI : Ij κ) (l : Launch) (σ : St) {y : Nat} {zy : Int} (hy : zy = (y : Int)) (hy8 : y < 8) : CtI κ l 0 yX9_refuse cX9_refuse 2 .int [.ref (κ.2.1 76), .int (iZ zy)] σ (fun z σ' => z = -(y : Int) ∧ σ' = sI σ 79 y (σ.1 79 y + 1)) := by
  refine Ct.ofG (own := RX9) hI (by decide +kernel) rfl (Nat.le_of_ble_eq_true rfl) rfl ?_
  intro M C hMl
  refine g_aload_n C dX9_refuse_0 rfl ?_
  refine gf_X9_74 C dX9_refuse_1 rfl ?_
  refine g_iload_n C dX9_refuse_4 rfl ?_
  refine g_dup2 C dX9_refuse_5 rfl rfl ?_
  refine g_iaz (n := y) (N := 8) (v := (σ.1 79 y)) C dX9_refuse_6 rfl rfl (by omega) (by omega) (by decide) rfl ?_
  refine g_iconst (z := 1) C dX9_refuse_7 rfl ?_
  refine g_iadd C dX9_refuse_8 ?_
  refine g_pc (pc' := 9) rfl ?_
  refine g_iast (n := y) (N := 8) C dX9_refuse_9 rfl rfl (by omega) (by omega) (by decide) ?_
  refine g_iload_n C dX9_refuse_10 rfl ?_
  refine g_ineg C dX9_refuse_11 ?_
  exact g_ireturn C dX9_refuse_12 ⟨by omega, rfl⟩
set_option maxHeartbeats 4000000 in
set_option maxRecDepth 100000 in
theorem c_X9_refuseTenLower {κ : Kp} (hI : Ij κ) (l : Launch) (σ : St) {y : Nat} {zy : Int} (hy : zy = (y : Int)) (hy8 : y < 8) : CtI κ l 1 yX9_refuseTenLower cX9_refuseTenLower 2 .int [.ref (κ.2.1 76), .int (iZ zy)] σ (fun z σ' => z = -(y : Int) - 10 ∧ σ' = sI σ 79 y (σ.1 79 y + 1)) := by
  refine Ct.ofG (own := RX9) hI (by decide +kernel) rfl (Nat.le_of_ble_eq_true rfl) rfl ?_
  intro M C hMl
  refine g_aload_n C dX9_refuseTenLower_0 rfl ?_
  refine g_iload_n C dX9_refuseTenLower_1 rfl ?_
  refine gc_X9_84 C dX9_refuseTenLower_2 rfl (c_X9_refuse hI (Ml M) σ (y := y) hy hy8) (by decide) (Nat.le_of_ble_eq_true rfl) (fun z σ1 ⟨hz, hσ⟩ => ?_)
  subst z
  subst σ1
  refine g_bipush (z := 10) C dX9_refuseTenLower_5 rfl ?_
  refine g_isub C dX9_refuseTenLower_7 ?_
  exact g_ireturn C dX9_refuseTenLower_8 ⟨rfl, rfl⟩
set_option maxHeartbeats 4000000 in
set_option maxRecDepth 100000 in
theorem c_X9_whyNoRow {κ : Kp} (hI : Ij κ) (l : Launch) (σ : St) {x : Int} {kn : Nat → Nat} (hx : R32 x) (hkn : ∀ s, s < 8 → σ.1 (34 + 3 * s) 0 = (kn s : Int) ∧ kn s ≤ 2) : CtI κ l 1 yX9_whyNoRow cX9_whyNoRow 2 .int [.ref (κ.2.1 76), .int (iZ x)] σ (fun z σ' => z = (if 0 ≤ x ∧ x < 8 then (if kn x.toNat = 2 then 2 else if kn x.toNat = 0 then 3 else 0) else 1) ∧ σ' = σ) := by
  refine Ct.ofG (own := RX9) hI (by decide +kernel) rfl (Nat.le_of_ble_eq_true rfl) rfl ?_
  intro M C hMl
  refine g_iload_n C dX9_whyNoRow_0 rfl ?_
  refine g_bipush (z := 8) C dX9_whyNoRow_1 rfl ?_
  refine gc_X9_80 C dX9_whyNoRow_3 (c_X9_isBelow hI (Ml M) σ hx (by unfold R32; omega)) (by decide) (Nat.le_of_ble_eq_true rfl) (fun z σ1 ⟨hz, hσ⟩ => ?_)
  subst z
  subst σ1
  refine g_ifb_ne (tgt := 11) C dX9_whyNoRow_6 (by decide) (fun h1 => ?_) (fun h1 => ?_)
  · have hkx := hkn x.toNat (by omega)
    refine g_aload_n C dX9_whyNoRow_11 rfl ?_
    refine gf_X9_57 C dX9_whyNoRow_12 rfl ?_
    refine g_iload_n C dX9_whyNoRow_15 rfl ?_
    refine g_pc (pc' := 16) rfl ?_
    have hkz2 : kd (34 + 3 * x.toNat) = 4 := kd_shelf x.toNat (by omega)
    refine g_aald (n := x.toNat) (N := 8) (c := 25) (r := (34 + 3 * x.toNat)) C dX9_whyNoRow_16 rfl (by decide) rfl (by decide) rfl (by omega) (by omega) (by decide) (rf_25 _ _ rfl) ?_
    refine gf_X9_102 (z := (kn x.toNat : Int)) C dX9_whyNoRow_17 hkz2 ((hkn x.toNat (by omega)).1) ?_
    refine g_iconst (z := 2) C dX9_whyNoRow_20 rfl ?_
    refine g_icmp_ne (tgt := 26) C dX9_whyNoRow_21 (by decide) (by unfold R32; omega) (fun h3 => ?_) (fun h3 => ?_)
    · refine g_aload_n C dX9_whyNoRow_26 rfl ?_
      refine gf_X9_57 C dX9_whyNoRow_27 rfl ?_
      refine g_iload_n C dX9_whyNoRow_30 rfl ?_
      have hkz4 : kd (34 + 3 * x.toNat) = 4 := kd_shelf x.toNat (by omega)
      refine g_aald (n := x.toNat) (N := 8) (c := 25) (r := (34 + 3 * x.toNat)) C dX9_whyNoRow_31 rfl (by decide) rfl (by decide) rfl (by omega) (by omega) (by decide) (rf_25 _ _ rfl) ?_
      refine g_pc (pc' := 32) rfl ?_
      refine gf_X9_102 (z := (kn x.toNat : Int)) C dX9_whyNoRow_32 hkz4 ((hkn x.toNat (by omega)).1) ?_
      refine g_if_ne (tgt := 42) C dX9_whyNoRow_35 (by decide) (by unfold R32; omega) (fun h5 => ?_) (fun h5 => ?_)
      · refine g_iconst (z := 0) C dX9_whyNoRow_42 rfl ?_
        exact g_ireturn C dX9_whyNoRow_43 ⟨by first | rw [if_neg (by assumption)] | (rw [if_pos (by assumption)]; first | rw [if_pos (by omega)] | rw [if_neg (by omega), if_pos (by omega)] | rw [if_neg (by omega), if_neg (by omega)]), rfl⟩
      · refine g_iconst (z := 3) C dX9_whyNoRow_38 rfl ?_
        refine g_goto (tgt := 43) C dX9_whyNoRow_39 (by decide) ?_
        exact g_ireturn C dX9_whyNoRow_43 ⟨by first | rw [if_neg (by assumption)] | (rw [if_pos (by assumption)]; first | rw [if_pos (by omega)] | rw [if_neg (by omega), if_pos (by omega)] | rw [if_neg (by omega), if_neg (by omega)]), rfl⟩
    · refine g_iconst (z := 2) C dX9_whyNoRow_24 rfl ?_
      refine g_pc (pc' := 25) rfl ?_
      exact g_ireturn C dX9_whyNoRow_25 ⟨by first | rw [if_neg (by assumption)] | (rw [if_pos (by assumption)]; first | rw [if_pos (by omega)] | rw [if_neg (by omega), if_pos (by omega)] | rw [if_neg (by omega), if_neg (by omega)]), rfl⟩
  · refine g_iconst (z := 1) C dX9_whyNoRow_9 rfl ?_
    exact g_ireturn C dX9_whyNoRow_10 ⟨by first | rw [if_neg (by assumption)] | (rw [if_pos (by assumption)]; first | rw [if_pos (by omega)] | rw [if_neg (by omega), if_pos (by omega)] | rw [if_neg (by omega), if_neg (by omega)]), rfl⟩
set_option maxHeartbeats 4000000 in
set_option maxRecDepth 100000 in
theorem c_X9_isNode {κ : Kp} (hI : Ij κ) (l : Launch) (σ : St) {x : Int} {np : Nat} (hx : R32 x) (hnp : σ.1 76 9 = (np : Int)) (hnp18 : np ≤ 18) : CtI κ l 0 yX9_isNode cX9_isNode 2 .boolean [.ref (κ.2.1 76), .int (iZ x)] σ (fun z σ' => z = bZ (0 ≤ x ∧ x < (np : Int)) ∧ σ' = σ) := by
  refine Ct.ofG (own := RX9) hI (by decide +kernel) rfl (Nat.le_of_ble_eq_true rfl) rfl ?_
  intro M C hMl
  refine g_iload_n C dX9_isNode_0 rfl ?_
  refine g_if_lt (tgt := 22) C dX9_isNode_1 (by decide) (by unfold R32; omega) (fun h1 => ?_) (fun h1 => ?_)
  · refine g_iconst (z := 0) C dX9_isNode_22 rfl ?_
    exact g_zreturn C dX9_isNode_23 (by omega) ⟨(bZ_f (by omega)).symm, rfl⟩
  · refine g_iload_n C dX9_isNode_4 rfl ?_
    refine g_aload_n C dX9_isNode_5 rfl ?_
    refine gf_X9_67 (z := (np : Int)) C dX9_isNode_6 rfl hnp ?_
    refine g_pc (pc' := 9) rfl ?_
    refine g_icmp_ge (tgt := 22) C dX9_isNode_9 (by decide) (by unfold R32; omega) (fun h2 => ?_) (fun h2 => ?_)
    · refine g_iconst (z := 0) C dX9_isNode_22 rfl ?_
      exact g_zreturn C dX9_isNode_23 (by omega) ⟨(bZ_f (by omega)).symm, rfl⟩
    · refine g_iload_n C dX9_isNode_12 rfl ?_
      refine g_bipush (z := 18) C dX9_isNode_13 rfl ?_
      refine g_icmp_ge (tgt := 22) C dX9_isNode_15 (by decide) (by unfold R32; omega) (fun h3 => ?_) (fun h3 => ?_)
      · exfalso; omega
      · refine g_iconst (z := 1) C dX9_isNode_18 rfl ?_
        refine g_goto (tgt := 23) C dX9_isNode_19 (by decide) ?_
        refine g_pc (pc' := 23) rfl ?_
        exact g_zreturn C dX9_isNode_23 (by omega) ⟨(bZ_t (by omega)).symm, rfl⟩
set_option maxHeartbeats 4000000 in
set_option maxRecDepth 100000 in
theorem c_X9_hasElements {κ : Kp} (hI : Ij κ) (l : Launch) (σ : St) {k n : Nat} {i c : Int} (hk : kd k = 4) (hn : σ.1 k 2 = (n : Int)) (hn160 : n ≤ 160) (hi : R32 i) (hc : R32 c) : CtI κ l 0 yX9_hasElements cX9_hasElements 3 .boolean [.ref (κ.2.1 k), .int (iZ i), .int (iZ c)] σ (fun z σ' => z = bZ (0 ≤ i ∧ i ≤ (n : Int) ∧ c ≤ (n : Int) - i) ∧ σ' = σ) := by
  refine Ct.ofG (own := RX9) hI (by decide +kernel) rfl (Nat.le_of_ble_eq_true rfl) rfl ?_
  intro M C hMl
  refine g_iload_n C dX9_hasElements_0 rfl ?_
  refine g_if_lt (tgt := 26) C dX9_hasElements_1 (by decide) (by unfold R32; omega) (fun h1 => ?_) (fun h1 => ?_)
  · refine g_iconst (z := 0) C dX9_hasElements_26 rfl ?_
    exact g_zreturn C dX9_hasElements_27 (by omega) ⟨(bZ_f (by omega)).symm, rfl⟩
  · refine g_iload_n C dX9_hasElements_4 rfl ?_
    refine g_aload_n C dX9_hasElements_5 rfl ?_
    refine gf_X9_95 (z := (n : Int)) C dX9_hasElements_6 hk hn ?_
    refine g_pc (pc' := 9) rfl ?_
    refine g_icmp_gt (tgt := 26) C dX9_hasElements_9 (by decide) (by unfold R32; omega) (fun h2 => ?_) (fun h2 => ?_)
    · refine g_iconst (z := 0) C dX9_hasElements_26 rfl ?_
      exact g_zreturn C dX9_hasElements_27 (by omega) ⟨(bZ_f (by omega)).symm, rfl⟩
    · refine g_iload_n C dX9_hasElements_12 rfl ?_
      refine g_aload_n C dX9_hasElements_13 rfl ?_
      refine gf_X9_95 (z := (n : Int)) C dX9_hasElements_14 hk hn ?_
      refine g_iload_n C dX9_hasElements_17 rfl ?_
      refine g_isub C dX9_hasElements_18 ?_
      refine g_pc (pc' := 19) rfl ?_
      refine g_icmp_gt (tgt := 26) C dX9_hasElements_19 (by decide) (by unfold R32; omega) (fun h3 => ?_) (fun h3 => ?_)
      · refine g_iconst (z := 0) C dX9_hasElements_26 rfl ?_
        exact g_zreturn C dX9_hasElements_27 (by omega) ⟨(bZ_f (by omega)).symm, rfl⟩
      · refine g_iconst (z := 1) C dX9_hasElements_22 rfl ?_
        refine g_goto (tgt := 27) C dX9_hasElements_23 (by decide) ?_
        exact g_zreturn C dX9_hasElements_27 (by omega) ⟨(bZ_t (by omega)).symm, rfl⟩
set_option maxHeartbeats 4000000 in
set_option maxRecDepth 100000 in
theorem c_X9_areRowsOfTwoSorts {κ : Kp} (hI : Ij κ) (l : Launch) (σ : St) {k k2 : Nat} {a b c d : Int} (hk : kd k = 4) (hk2 : kd k2 = 4) (ha : σ.1 k 0 = a) (hb : σ.1 k2 0 = b) (hc : σ.1 k 1 = c) (hd : σ.1 k2 1 = d) (hR : R32 a ∧ R32 b) (hR2 : a = 1 → b = 1 → R32 c ∧ R32 d) : CtI κ l 0 yX9_areRowsOfTwoSorts cX9_areRowsOfTwoSorts 2 .boolean [.ref (κ.2.1 k), .ref (κ.2.1 k2)] σ (fun z σ' => z = bZ (a = 1 ∧ b = 1 ∧ c ≠ d) ∧ σ' = σ) := by
  refine Ct.ofG (own := RX9) hI (by decide +kernel) rfl (Nat.le_of_ble_eq_true rfl) rfl ?_
  intro M C hMl
  refine g_aload_n C dX9_areRowsOfTwoSorts_0 rfl ?_
  refine gf_X9_102 (z := a) C dX9_areRowsOfTwoSorts_1 hk ha ?_
  refine g_iconst (z := 1) C dX9_areRowsOfTwoSorts_4 rfl ?_
  refine g_icmp_ne (tgt := 31) C dX9_areRowsOfTwoSorts_5 (by decide) ⟨hR.1, by unfold R32; omega⟩ (fun h1 => ?_) (fun h1 => ?_)
  · refine g_iconst (z := 0) C dX9_areRowsOfTwoSorts_31 rfl ?_
    exact g_zreturn C dX9_areRowsOfTwoSorts_32 (by omega) ⟨(bZ_f (by omega)).symm, rfl⟩
  · refine g_aload_n C dX9_areRowsOfTwoSorts_8 rfl ?_
    refine g_pc (pc' := 9) rfl ?_
    refine gf_X9_102 (z := b) C dX9_areRowsOfTwoSorts_9 hk2 hb ?_
    refine g_iconst (z := 1) C dX9_areRowsOfTwoSorts_12 rfl ?_
    refine g_icmp_ne (tgt := 31) C dX9_areRowsOfTwoSorts_13 (by decide) ⟨hR.2, by unfold R32; omega⟩ (fun h2 => ?_) (fun h2 => ?_)
    · refine g_iconst (z := 0) C dX9_areRowsOfTwoSorts_31 rfl ?_
      exact g_zreturn C dX9_areRowsOfTwoSorts_32 (by omega) ⟨(bZ_f (by omega)).symm, rfl⟩
    · refine g_aload_n C dX9_areRowsOfTwoSorts_16 rfl ?_
      refine gf_X9_333 (z := c) C dX9_areRowsOfTwoSorts_17 hk hc ?_
      refine g_aload_n C dX9_areRowsOfTwoSorts_20 rfl ?_
      refine g_pc (pc' := 21) rfl ?_
      refine gf_X9_333 (z := d) C dX9_areRowsOfTwoSorts_21 hk2 hd ?_
      refine g_icmp_eq (tgt := 31) C dX9_areRowsOfTwoSorts_24 (by decide) (hR2 (by omega) (by omega)) (fun h3 => ?_) (fun h3 => ?_)
      · refine g_iconst (z := 0) C dX9_areRowsOfTwoSorts_31 rfl ?_
        exact g_zreturn C dX9_areRowsOfTwoSorts_32 (by omega) ⟨(bZ_f (by omega)).symm, rfl⟩
      · refine g_iconst (z := 1) C dX9_areRowsOfTwoSorts_27 rfl ?_
        refine g_goto (tgt := 32) C dX9_areRowsOfTwoSorts_28 (by decide) ?_
        exact g_zreturn C dX9_areRowsOfTwoSorts_32 (by omega) ⟨(bZ_t (by omega)).symm, rfl⟩
theorem rc_s {σ : St} {k k2 c j : Nat} (h : j < c) : (cI σ k k2 0 0 c).1 k2 j = σ.1 k j := by
  show (if k2 = k2 ∧ 0 ≤ j ∧ j < 0 + c then σ.1 k (0 + (j - 0)) else σ.1 k2 j) = _
  rw [if_pos ⟨rfl, Nat.zero_le _, by omega⟩, Nat.sub_zero, Nat.zero_add]
theorem rc_K {σ : St} {k k2 a b c q : Nat} (h : q ≠ k2) : (cI σ k k2 a b c).1 q = σ.1 q := by funext j; exact rc_k h
/-- the cells of the tables of a world -/
def WT (k q : Nat) : Prop := k + 2 ≤ q ∧ q ≤ k + 11
def BJ (σ s : St) (k k2 t : Nat) : Prop := Fr (WT k) σ s ∧ ∀ u, u < t → (s.1 (k + 2 + 2 * u) 1 = σ.1 (k2 + 2 + 2 * u) 1 ∧ s.1 (k + 2 + 2 * u) 2 = σ.1 (k2 + 2 + 2 * u) 2 ∧ s.1 (k + 2 + 2 * u) 3 = σ.1 (k2 + 2 + 2 * u) 3) ∧ ∀ j, j < 48 → s.1 (k + 3 + 2 * u) j = σ.1 (k2 + 3 + 2 * u) j
theorem BJ.step {σ s : St} {k k2 t : Nat} (h : BJ σ s k k2 t) (ht : t < 5) (hd : k2 + 17 ≤ k ∨ k + 17 ≤ k2) : BJ σ (tBec s (k + 2 + 2 * t) (k2 + 2 + 2 * t)) k k2 (t + 1) := by
  have e1 : s.1 (k2 + 2 + 2 * t) = σ.1 (k2 + 2 + 2 * t) := h.1.1 _ (by unfold WT; omega)
  have e2 : s.1 (k2 + 2 + 2 * t + 1) = σ.1 (k2 + 3 + 2 * t) := by rw [show k2 + 2 + 2 * t + 1 = k2 + 3 + 2 * t by omega]; exact h.1.1 _ (by unfold WT; omega)
  refine ⟨?_, fun u hu => ?_⟩
  · refine h.1.tr ?_
    unfold tBec
    refine ((Fr.sI (Fr.sI (Fr.sI ?_ ?_) ?_) ?_))
    · refine ⟨fun q hq => rc_K (fun e => hq (by unfold WT; omega)), fun _ _ => rfl, fun _ _ => rfl⟩
    all_goals (unfold WT; omega)
  · unfold tBec
    by_cases hut : u = t
    · subst hut
      refine ⟨⟨?_, ?_, ?_⟩, fun j hj => ?_⟩
      · rw [rI_j (by omega), rI_j (by omega), rI_s, e1]
      · rw [rI_j (by omega), rI_s, e1]
      · rw [rI_s, e1]
      · rw [rI_k (by omega), rI_k (by omega), rI_k (by omega), show k + 3 + 2 * u = k + 2 + 2 * u + 1 by omega, rc_s hj, e2]
    · obtain ⟨⟨a1, a2, a3⟩, a4⟩ := h.2 u (by omega)
      refine ⟨⟨?_, ?_, ?_⟩, fun j hj => ?_⟩
      · rw [rI_k (by omega), rI_k (by omega), rI_k (by omega), rc_k (by omega), a1]
      · rw [rI_k (by omega), rI_k (by omega), rI_k (by omega), rc_k (by omega), a2]
      · rw [rI_k (by omega), rI_k (by omega), rI_k (by omega), rc_k (by omega), a3]
      · rw [rI_k (by omega), rI_k (by omega), rI_k (by omega), rc_k (by omega), a4 j hj]
def wBec (s : St) (k k2 : Nat) : St := sI (sI (cI (cI (sI (cI (cI (cI s (k2 + 12) (k + 12) 0 0 8) (k2 + 13) (k + 13) 0 0 8) (k2 + 14) (k + 14) 0 0 8) k 4 (s.1 k2 4)) (k2 + 15) (k + 15) 0 0 8) (k2 + 16) (k + 16) 0 0 8) k 7 (s.1 k2 7)) k 8 (s.1 k2 8)
def WC (k q : Nat) : Prop := k ≤ q ∧ q ≤ k + 16
theorem XW.bec {σ s : St} {k k2 : Nat} {w : Wv} (h : XW k2 σ w) (hW : OKW w) (hB : BJ σ s k k2 5) (hd : k2 + 17 ≤ k ∨ k + 17 ≤ k2) : XW k (wBec s k k2) w ∧ Fr (WC k) σ (wBec s k k2) := by
  have out : ∀ q, ¬ WT k q → s.1 q = σ.1 q := hB.1.1
  refine ⟨⟨fun t ht => ?_, ⟨?_, fun f hf => ?_⟩, ⟨?_, fun j hj => ?_⟩, ?_⟩, ?_⟩
  · obtain ⟨⟨a1, a2, a3⟩, a4⟩ := hB.2 t ht
    obtain ⟨b1, b2, b3, b4⟩ := h.1 t ht
    have hl := (hW.1 t ht).1
    have c1 : (wBec s k k2).1 (k + 2 + 2 * t) = s.1 (k + 2 + 2 * t) := by unfold wBec; rw [rI_K (by omega), rI_K (by omega), rc_K (by omega), rc_K (by omega), rI_K (by omega), rc_K (by omega), rc_K (by omega), rc_K (by omega)]
    have c2 : (wBec s k k2).1 (k + 3 + 2 * t) = s.1 (k + 3 + 2 * t) := by unfold wBec; rw [rI_K (by omega), rI_K (by omega), rc_K (by omega), rc_K (by omega), rI_K (by omega), rc_K (by omega), rc_K (by omega), rc_K (by omega)]
    rw [c1, c2, a1, a2, a3]
    exact ⟨b1, b2, b3, fun i hi c hc => by rw [a4 _ (by omega)]; exact b4 i hi c hc⟩
  · unfold wBec
    rw [rI_j (by omega), rI_j (by omega), rc_k (by omega), rc_k (by omega), rI_s, out k2 (by unfold WT; omega)]
    exact h.2.1.1
  · have hf8 := hW.2.1.1
    obtain ⟨a1, a2, a3⟩ := h.2.1.2 f hf
    unfold wBec
    refine ⟨?_, ?_, ?_⟩
    · rw [rI_k (by omega), rI_k (by omega), rc_k (by omega), rc_k (by omega), rI_k (by omega), rc_k (by omega), rc_k (by omega), rc_s (by omega), out _ (by unfold WT; omega), a1]
    · rw [rI_k (by omega), rI_k (by omega), rc_k (by omega), rc_k (by omega), rI_k (by omega), rc_k (by omega), rc_s (by omega), rc_k (by omega), out _ (by unfold WT; omega), a2]
    · rw [rI_k (by omega), rI_k (by omega), rc_k (by omega), rc_k (by omega), rI_k (by omega), rc_s (by omega), rc_k (by omega), rc_k (by omega), out _ (by unfold WT; omega), a3]
  · unfold wBec
    rw [rI_j (by omega), rI_s, out k2 (by unfold WT; omega)]
    exact h.2.2.1.1
  · have hj8 := hW.2.2.1
    obtain ⟨a1, a2⟩ := h.2.2.1.2 j hj
    unfold wBec
    refine ⟨?_, ?_⟩
    · rw [rI_k (by omega), rI_k (by omega), rc_k (by omega), rc_s (by omega), rI_k (by omega), rc_k (by omega), rc_k (by omega), rc_k (by omega), out _ (by unfold WT; omega), a1]
    · rw [rI_k (by omega), rI_k (by omega), rc_s (by omega), rc_k (by omega), rI_k (by omega), rc_k (by omega), rc_k (by omega), rc_k (by omega), out _ (by unfold WT; omega), a2]
  · unfold wBec
    rw [rI_s, out k2 (by unfold WT; omega)]
    exact h.2.2.2
  · have fc : ∀ {s0 s1 : St} {a b : Nat}, Fr (WC k) s0 s1 → WC k b → Fr (WC k) s0 (cI s1 a b 0 0 8) := fun h1 h2 => h1.tr ⟨fun q hq => rc_K (fun e => hq (e ▸ h2)), fun _ _ => rfl, fun _ _ => rfl⟩
    unfold wBec
    refine Fr.sI (Fr.sI (fc (fc (Fr.sI (fc (fc (fc (hB.1.mono (fun q hq => by unfold WT at hq; unfold WC; omega)) ?_) ?_) ?_) ?_) ?_) ?_) ?_) ?_
    all_goals (unfold WC; omega)
set_option maxHeartbeats 4000000 in
set_option maxRecDepth 100000 in
theorem c_X8_become {κ : Kp} (hI : Ij κ) (l : Launch) (σ : St) {k k2 : Nat} {w : Wv} (hk : kd k = 8) (hk2 : kd k2 = 8) (hd : k2 + 17 ≤ k ∨ k + 17 ≤ k2) (hX : XW k2 σ w) (hW : OKW w) : CtV κ l 2 yX8_become cX8_become 3 [.ref (κ.2.1 k), .ref (κ.2.1 k2)] σ (fun σ' => XW k σ' w ∧ Fr (WC k) σ σ') := by
  refine Ct.ofG (own := RX8) hI (by decide +kernel) rfl (Nat.le_of_ble_eq_true rfl) rfl ?_
  intro M C hMl
  refine g_iconst (z := 0) C dX8_become_0 rfl ?_
  refine g_istore_n (L' := [(2, .int (iZ 0)), (0, .ref (κ.2.1 k)), (1, .ref (κ.2.1 k2))]) C dX8_become_1 rfl (by decide) rfl ?_
  have lp2 : ∀ (fz9 : Nat) (t : Nat) (x2 : Int) (s : St), (5 - t < fz9) → (x2 = (t : Int)) → (t ≤ 5) → (BJ σ s k k2 t) → G M κ 3 (En M κ (qV κ (fun σ' => XW k σ' w ∧ Fr (WC k) σ σ'))) 2 [(0, .ref (κ.2.1 k)), (1, .ref (κ.2.1 k2)), (2, .int (iZ x2))] [] s := by
    intro fz9
    induction fz9 with
    | zero => intro t x2 s hm0; exact absurd hm0 (Nat.not_lt_zero _)
    | succ fz9 ih =>
      intro t x2 s hm2 hx2 ht hJ
      refine g_iload_n C dX8_become_2 rfl ?_
      refine g_iconst (z := 5) C dX8_become_3 rfl ?_
      refine g_icmp_ge (tgt := 28) C dX8_become_4 (by decide) (by unfold R32; omega) (fun h1 => ?_) (fun h1 => ?_)
      · refine g_aload_n C dX8_become_28 rfl ?_
        refine gf_X8_17 C dX8_become_29 hk2 ?_
        refine g_pc (pc' := 32) rfl ?_
        refine g_iconst (z := 0) C dX8_become_32 rfl ?_
        refine g_aload_n C dX8_become_33 rfl ?_
        refine gf_X8_17 C dX8_become_34 hk ?_
        refine g_iconst (z := 0) C dX8_become_37 rfl ?_
        refine g_bipush (z := 8) C dX8_become_38 rfl ?_
        refine gyi_X8_64 (a := 0) (b := 0) (c := 8) (N := 8) (N2 := 8) C dX8_become_40 (kd8 hk2).2.1.1 (kd8 hk2).2.1.2 (kd8 hk).2.1.1 (kd8 hk).2.1.2 (by omega) (by omega) (by omega) (by omega) (by decide) (Nat.le_of_ble_eq_true rfl) ?_
        refine g_aload_n C dX8_become_43 rfl ?_
        refine gf_X8_21 C dX8_become_44 hk2 ?_
        refine g_pc (pc' := 47) rfl ?_
        refine g_iconst (z := 0) C dX8_become_47 rfl ?_
        refine g_aload_n C dX8_become_48 rfl ?_
        refine gf_X8_21 C dX8_become_49 hk ?_
        refine g_iconst (z := 0) C dX8_become_52 rfl ?_
        refine g_bipush (z := 8) C dX8_become_53 rfl ?_
        refine gyi_X8_64 (a := 0) (b := 0) (c := 8) (N := 8) (N2 := 8) C dX8_become_55 (kd8 hk2).2.2.1.1 (kd8 hk2).2.2.1.2 (kd8 hk).2.2.1.1 (kd8 hk).2.2.1.2 (by omega) (by omega) (by omega) (by omega) (by decide) (Nat.le_of_ble_eq_true rfl) ?_
        refine g_aload_n C dX8_become_58 rfl ?_
        refine gf_X8_24 C dX8_become_59 hk2 ?_
        refine g_pc (pc' := 62) rfl ?_
        refine g_iconst (z := 0) C dX8_become_62 rfl ?_
        refine g_aload_n C dX8_become_63 rfl ?_
        refine gf_X8_24 C dX8_become_64 hk ?_
        refine g_iconst (z := 0) C dX8_become_67 rfl ?_
        refine g_bipush (z := 8) C dX8_become_68 rfl ?_
        refine gyi_X8_64 (a := 0) (b := 0) (c := 8) (N := 8) (N2 := 8) C dX8_become_70 (kd8 hk2).2.2.2.1.1 (kd8 hk2).2.2.2.1.2 (kd8 hk).2.2.2.1.1 (kd8 hk).2.2.2.1.2 (by omega) (by omega) (by omega) (by omega) (by decide) (Nat.le_of_ble_eq_true rfl) ?_
        refine g_aload_n C dX8_become_73 rfl ?_
        refine g_aload_n C dX8_become_74 rfl ?_
        refine g_pc (pc' := 75) rfl ?_
        refine gf_X8_27 (z := (s.1 k2 4)) C dX8_become_75 hk2 (by rw [rc_k (by omega), rc_k (by omega), rc_k (by omega)]) ?_
        refine gp_X8_27 C dX8_become_78 hk ?_
        refine g_aload_n C dX8_become_81 rfl ?_
        refine gf_X8_31 C dX8_become_82 hk2 ?_
        refine g_iconst (z := 0) C dX8_become_85 rfl ?_
        refine g_aload_n C dX8_become_86 rfl ?_
        refine gf_X8_31 C dX8_become_87 hk ?_
        refine g_iconst (z := 0) C dX8_become_90 rfl ?_
        refine g_pc (pc' := 91) rfl ?_
        refine g_bipush (z := 8) C dX8_become_91 rfl ?_
        refine gyi_X8_64 (a := 0) (b := 0) (c := 8) (N := 8) (N2 := 8) C dX8_become_93 (kd8 hk2).2.2.2.2.1.1 (kd8 hk2).2.2.2.2.1.2 (kd8 hk).2.2.2.2.1.1 (kd8 hk).2.2.2.2.1.2 (by omega) (by omega) (by omega) (by omega) (by decide) (Nat.le_of_ble_eq_true rfl) ?_
        refine g_aload_n C dX8_become_96 rfl ?_
        refine gf_X8_34 C dX8_become_97 hk2 ?_
        refine g_iconst (z := 0) C dX8_become_100 rfl ?_
        refine g_aload_n C dX8_become_101 rfl ?_
        refine gf_X8_34 C dX8_become_102 hk ?_
        refine g_iconst (z := 0) C dX8_become_105 rfl ?_
        refine g_pc (pc' := 106) rfl ?_
        refine g_bipush (z := 8) C dX8_become_106 rfl ?_
        refine gyi_X8_64 (a := 0) (b := 0) (c := 8) (N := 8) (N2 := 8) C dX8_become_108 (kd8 hk2).2.2.2.2.2.1 (kd8 hk2).2.2.2.2.2.2 (kd8 hk).2.2.2.2.2.1 (kd8 hk).2.2.2.2.2.2 (by omega) (by omega) (by omega) (by omega) (by decide) (Nat.le_of_ble_eq_true rfl) ?_
        refine g_aload_n C dX8_become_111 rfl ?_
        refine g_aload_n C dX8_become_112 rfl ?_
        refine gf_X8_37 (z := (s.1 k2 7)) C dX8_become_113 hk2 (by rw [rc_k (by omega), rc_k (by omega), rI_k (by omega), rc_k (by omega), rc_k (by omega), rc_k (by omega)]) ?_
        refine gp_X8_37 C dX8_become_116 hk ?_
        refine g_aload_n C dX8_become_119 rfl ?_
        refine g_aload_n C dX8_become_120 rfl ?_
        refine g_pc (pc' := 121) rfl ?_
        refine gf_X8_40 (z := (s.1 k2 8)) C dX8_become_121 hk2 ((rI_k (by omega)).trans (by rw [rc_k (by omega), rc_k (by omega), rI_k (by omega), rc_k (by omega), rc_k (by omega), rc_k (by omega)])) ?_
        refine gp_X8_40 C dX8_become_124 hk ?_
        exact g_return C dX8_become_127 (XW.bec hX hW (by rw [show t = 5 by omega] at hJ; exact hJ) hd)
      · refine g_aload_n C dX8_become_7 rfl ?_
        refine gf_X8_11 C dX8_become_8 hk ?_
        refine g_iload_n C dX8_become_11 rfl ?_
        have hkz2 : kd (k + 2 + 2 * t) = 5 := kd8t hk (by omega)
        refine g_aald (n := t) (N := 5) (c := 23) (r := (k + 2 + 2 * t)) C dX8_become_12 (kd8 hk).1.1 (by decide) rfl (by decide) (kd8 hk).1.2 (by omega) (by omega) (by decide) (rf_23 _ _ (kd8 hk).1.1) ?_
        refine g_aload_n C dX8_become_13 rfl ?_
        refine g_pc (pc' := 14) rfl ?_
        refine gf_X8_11 C dX8_become_14 hk2 ?_
        refine g_iload_n C dX8_become_17 rfl ?_
        have hkz3 : kd (k2 + 2 + 2 * t) = 5 := kd8t hk2 (by omega)
        refine g_aald (n := t) (N := 5) (c := 23) (r := (k2 + 2 + 2 * t)) C dX8_become_18 (kd8 hk2).1.1 (by decide) rfl (by decide) (kd8 hk2).1.2 (by omega) (by omega) (by decide) (rf_23 _ _ (kd8 hk2).1.1) ?_
        refine gc_X8_60 C dX8_become_19 hkz2 (c_X5_become hI (Ml M) s hkz2 hkz3 (by omega)) (by decide) (Nat.le_of_ble_eq_true rfl) (fun σ1 hσ => ?_)
        subst σ1
        refine g_iinc (q := 2) (v := (x2 + 1)) (L' := [(2, .int (iZ (x2 + 1))), (0, .ref (κ.2.1 k)), (1, .ref (κ.2.1 k2))]) C dX8_become_22 rfl rfl (by decide) rfl ?_
        refine g_goto (tgt := 2) C dX8_become_25 (by decide) ?_
        exact g_loc [1, 2, 0] (by rfl) (ih (t + 1) (x2 + 1) (tBec s (k + 2 + 2 * t) (k2 + 2 + 2 * t)) (by omega) (by omega) (by omega) (hJ.step (by omega) hd))
  exact g_loc [1, 2, 0] (by rfl) (lp2 _ 0 0 σ (Nat.lt_succ_self _) rfl (by omega) ⟨Fr.rf, fun u hu => absurd hu (Nat.not_lt_zero u)⟩)

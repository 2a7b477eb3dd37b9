set_option maxHeartbeats 4000000 in
set_option maxRecDepth 100000 in
theorem c_X9_tableOf {κ : Kp} (hI : Ij κ) (l : Launch) (σ : St) {V : Vw} (hX : XV σ V) (hO : OKV V) {t a : Int} (ht : R32 t) (ha : R32 a) : CtI κ l 2 yX9_tableOf cX9_tableOf 3 .int [.ref (κ.2.1 76), .int (iZ t), .int (iZ a)] σ (fun z σ' => z = (aTableOf V t a).1 ∧ XV σ' (aTableOf V t a).2 ∧ Fr XC σ σ') := by
  refine Ct.ofG (own := RX9) hI (by decide +kernel) rfl (Nat.le_of_ble_eq_true rfl) rfl ?_
  intro M C hMl
  refine g_iload_n C dX9_tableOf_0 rfl ?_
  refine g_iconst (z := 5) C dX9_tableOf_1 rfl ?_
  refine gc_X9_80 C dX9_tableOf_2 (c_X9_isBelow hI (Ml M) σ (x := t) (e := 5) (by unfold R32; omega) (by unfold R32; omega)) (by decide) (Nat.le_of_ble_eq_true rfl) (fun z σ1 ⟨hz, hσ⟩ => ?_)
  subst z
  subst σ1
  refine g_ifb_ne (tgt := 14) C dX9_tableOf_5 (by decide) (fun h1 => ?_) (fun h1 => ?_)
  · refine g_iload_n C dX9_tableOf_14 rfl ?_
    have hs2 : a < 0 ∨ 2 < a ∨ a = 0 ∨ a = 1 ∨ a = 2 := by omega
    rcases hs2 with hs2 | hs2 | hs2 | hs2 | hs2
    · refine g_tswd (tgt := 81) C dX9_tableOf_15 (by unfold R32; omega) (by omega) (by decide) ?_
      refine g_aload_n C dX9_tableOf_81 rfl ?_
      refine g_pc (pc' := 82) rfl ?_
      refine g_iconst (z := 5) C dX9_tableOf_82 rfl ?_
      refine gc_X9_84 C dX9_tableOf_83 rfl (c_X9_refuse hI (Ml M) σ (y := 5) rfl (by omega)) (by decide) (Nat.le_of_ble_eq_true rfl) (fun z σ1 ⟨hz, hσ⟩ => ?_)
      subst z
      subst σ1
      exact g_ireturn C dX9_tableOf_86 (by rw [show aTableOf V t a = rfs 5 V by unfold aTableOf; (first | rw [if_pos (by omega)] | rw [if_neg (by omega), if_pos (by omega)] | rw [if_neg (by omega), if_neg (by omega), if_pos (by omega)] | rw [if_neg (by omega), if_neg (by omega), if_neg (by omega), if_pos (by omega)] | rw [if_neg (by omega), if_neg (by omega), if_neg (by omega), if_neg (by omega)])]; exact ⟨rfl, hX.ref hO (by omega), XC.ref⟩)
    · refine g_tswd (tgt := 81) C dX9_tableOf_15 (by unfold R32; omega) (by omega) (by decide) ?_
      refine g_aload_n C dX9_tableOf_81 rfl ?_
      refine g_iconst (z := 5) C dX9_tableOf_82 rfl ?_
      refine gc_X9_84 C dX9_tableOf_83 rfl (c_X9_refuse hI (Ml M) σ (y := 5) rfl (by omega)) (by decide) (Nat.le_of_ble_eq_true rfl) (fun z σ1 ⟨hz, hσ⟩ => ?_)
      subst z
      subst σ1
      exact g_ireturn C dX9_tableOf_86 (by rw [show aTableOf V t a = rfs 5 V by unfold aTableOf; (first | rw [if_pos (by omega)] | rw [if_neg (by omega), if_pos (by omega)] | rw [if_neg (by omega), if_neg (by omega), if_pos (by omega)] | rw [if_neg (by omega), if_neg (by omega), if_neg (by omega), if_pos (by omega)] | rw [if_neg (by omega), if_neg (by omega), if_neg (by omega), if_neg (by omega)])]; exact ⟨rfl, hX.ref hO (by omega), XC.ref⟩)
    · refine g_int (z' := 0) hs2 ?_
      refine g_tsw (tgt := 40) C dX9_tableOf_15 (by decide) (by decide) rfl (by decide) ?_
      refine g_aload_n C dX9_tableOf_40 rfl ?_
      refine g_pc (pc' := 41) rfl ?_
      refine gf_X9_12 C dX9_tableOf_41 rfl ?_
      refine gf_X9_145 C dX9_tableOf_44 rfl ?_
      refine g_iload_n C dX9_tableOf_47 rfl ?_
      have hkz3 : kd (2 + 2 * t.toNat) = 5 := kd_tab t.toNat (by omega)
      refine g_aald (n := t.toNat) (N := 5) (c := 23) (r := (2 + 2 * t.toNat)) C dX9_tableOf_48 rfl (by decide) rfl (by decide) rfl (by omega) (by omega) (by decide) (rf_23 _ _ rfl) ?_
      refine gf_X9_149 (z := (wl (vW V) t.toNat : Int)) C dX9_tableOf_49 hkz3 ((hX.1.1 t.toNat (by omega)).1) ?_
      exact g_ireturn C dX9_tableOf_52 (by rw [show aTableOf V t a = ((wl (vW V) t.toNat : Int), V) by unfold aTableOf; (first | rw [if_pos (by omega)] | rw [if_neg (by omega), if_pos (by omega)] | rw [if_neg (by omega), if_neg (by omega), if_pos (by omega)] | rw [if_neg (by omega), if_neg (by omega), if_neg (by omega), if_pos (by omega)] | rw [if_neg (by omega), if_neg (by omega), if_neg (by omega), if_neg (by omega)])]; exact ⟨rfl, hX, Fr.rf⟩)
    · refine g_int (z' := 1) hs2 ?_
      refine g_tsw (tgt := 53) C dX9_tableOf_15 (by decide) (by decide) rfl (by decide) ?_
      refine g_aload_n C dX9_tableOf_53 rfl ?_
      refine gf_X9_12 C dX9_tableOf_54 rfl ?_
      refine g_pc (pc' := 57) rfl ?_
      refine gf_X9_145 C dX9_tableOf_57 rfl ?_
      refine g_iload_n C dX9_tableOf_60 rfl ?_
      have hkz4 : kd (2 + 2 * t.toNat) = 5 := kd_tab t.toNat (by omega)
      refine g_aald (n := t.toNat) (N := 5) (c := 23) (r := (2 + 2 * t.toNat)) C dX9_tableOf_61 rfl (by decide) rfl (by decide) rfl (by omega) (by omega) (by decide) (rf_23 _ _ rfl) ?_
      refine gf_X9_171 (z := (wb (vW V) t.toNat : Int)) C dX9_tableOf_62 hkz4 ((hX.1.1 t.toNat (by omega)).2.1) ?_
      exact g_ireturn C dX9_tableOf_65 (by rw [show aTableOf V t a = ((wb (vW V) t.toNat : Int), V) by unfold aTableOf; (first | rw [if_pos (by omega)] | rw [if_neg (by omega), if_pos (by omega)] | rw [if_neg (by omega), if_neg (by omega), if_pos (by omega)] | rw [if_neg (by omega), if_neg (by omega), if_neg (by omega), if_pos (by omega)] | rw [if_neg (by omega), if_neg (by omega), if_neg (by omega), if_neg (by omega)])]; exact ⟨rfl, hX, Fr.rf⟩)
    · refine g_int (z' := 2) hs2 ?_
      refine g_tsw (tgt := 66) C dX9_tableOf_15 (by decide) (by decide) rfl (by decide) ?_
      refine g_aload_n C dX9_tableOf_66 rfl ?_
      refine gf_X9_12 C dX9_tableOf_67 rfl ?_
      refine gf_X9_145 C dX9_tableOf_70 rfl ?_
      refine g_pc (pc' := 73) rfl ?_
      refine g_iload_n C dX9_tableOf_73 rfl ?_
      have hkz5 : kd (2 + 2 * t.toNat) = 5 := kd_tab t.toNat (by omega)
      refine g_aald (n := t.toNat) (N := 5) (c := 23) (r := (2 + 2 * t.toNat)) C dX9_tableOf_74 rfl (by decide) rfl (by decide) rfl (by omega) (by omega) (by decide) (rf_23 _ _ rfl) ?_
      refine gf_X9_174 (z := ((wst (vW V) t.toNat : Int) - 1)) C dX9_tableOf_75 hkz5 ((hX.1.1 t.toNat (by omega)).2.2.1) ?_
      refine g_iconst (z := 1) C dX9_tableOf_78 rfl ?_
      refine g_iadd C dX9_tableOf_79 ?_
      exact g_ireturn C dX9_tableOf_80 (by rw [show aTableOf V t a = ((wst (vW V) t.toNat : Int), V) by unfold aTableOf; (first | rw [if_pos (by omega)] | rw [if_neg (by omega), if_pos (by omega)] | rw [if_neg (by omega), if_neg (by omega), if_pos (by omega)] | rw [if_neg (by omega), if_neg (by omega), if_neg (by omega), if_pos (by omega)] | rw [if_neg (by omega), if_neg (by omega), if_neg (by omega), if_neg (by omega)])]; exact ⟨by omega, hX, Fr.rf⟩)
  · refine g_aload_n C dX9_tableOf_8 rfl ?_
    refine g_iconst (z := 1) C dX9_tableOf_9 rfl ?_
    refine g_pc (pc' := 10) rfl ?_
    refine gc_X9_84 C dX9_tableOf_10 rfl (c_X9_refuse hI (Ml M) σ (y := 1) rfl (by omega)) (by decide) (Nat.le_of_ble_eq_true rfl) (fun z σ1 ⟨hz, hσ⟩ => ?_)
    subst z
    subst σ1
    exact g_ireturn C dX9_tableOf_13 (by rw [show aTableOf V t a = rfs 1 V by unfold aTableOf; (first | rw [if_pos (by omega)] | rw [if_neg (by omega), if_pos (by omega)] | rw [if_neg (by omega), if_neg (by omega), if_pos (by omega)] | rw [if_neg (by omega), if_neg (by omega), if_neg (by omega), if_pos (by omega)] | rw [if_neg (by omega), if_neg (by omega), if_neg (by omega), if_neg (by omega)])]; exact ⟨rfl, hX.ref hO (by omega), XC.ref⟩)
set_option maxHeartbeats 4000000 in
set_option maxRecDepth 100000 in
theorem c_X9_lineOf {κ : Kp} (hI : Ij κ) (l : Launch) (σ : St) {V : Vw} (hX : XV σ V) (hO : OKV V) {t i c : Int} (ht : R32 t) (hi : R32 i) (hc : R32 c) : CtI κ l 2 yX9_lineOf cX9_lineOf 4 .int [.ref (κ.2.1 76), .int (iZ t), .int (iZ i), .int (iZ c)] σ (fun z σ' => z = (aLineOf V t i c).1 ∧ XV σ' (aLineOf V t i c).2 ∧ Fr XC σ σ') := by
  refine Ct.ofG (own := RX9) hI (by decide +kernel) rfl (Nat.le_of_ble_eq_true rfl) rfl ?_
  intro M C hMl
  refine g_iload_n C dX9_lineOf_0 rfl ?_
  refine g_iconst (z := 5) C dX9_lineOf_1 rfl ?_
  refine gc_X9_80 C dX9_lineOf_2 (c_X9_isBelow hI (Ml M) σ (x := t) (e := 5) (by unfold R32; omega) (by unfold R32; omega)) (by decide) (Nat.le_of_ble_eq_true rfl) (fun z σ1 ⟨hz, hσ⟩ => ?_)
  subst z
  subst σ1
  refine g_ifb_ne (tgt := 14) C dX9_lineOf_5 (by decide) (fun h1 => ?_) (fun h1 => ?_)
  · refine g_iload_n C dX9_lineOf_14 rfl ?_
    refine g_aload_n C dX9_lineOf_15 rfl ?_
    refine gf_X9_12 C dX9_lineOf_16 rfl ?_
    refine g_pc (pc' := 19) rfl ?_
    refine gf_X9_145 C dX9_lineOf_19 rfl ?_
    refine g_iload_n C dX9_lineOf_22 rfl ?_
    have hwt := hO.1.1 t.toNat (by omega)
    have hkz2 : kd (2 + 2 * t.toNat) = 5 := kd_tab t.toNat (by omega)
    refine g_aald (n := t.toNat) (N := 5) (c := 23) (r := (2 + 2 * t.toNat)) C dX9_lineOf_23 rfl (by decide) rfl (by decide) rfl (by omega) (by omega) (by decide) (rf_23 _ _ rfl) ?_
    refine gf_X9_149 (z := (wl (vW V) t.toNat : Int)) C dX9_lineOf_24 hkz2 ((hX.1.1 t.toNat (by omega)).1) ?_
    refine gc_X9_80 C dX9_lineOf_27 (c_X9_isBelow hI (Ml M) σ (x := i) (e := (wl (vW V) t.toNat : Int)) (by unfold R32; omega) (by unfold R32; omega)) (by decide) (Nat.le_of_ble_eq_true rfl) (fun z σ1 ⟨hz, hσ⟩ => ?_)
    subst z
    subst σ1
    refine g_ifb_eq (tgt := 41) C dX9_lineOf_30 (by decide) (fun h3 => ?_) (fun h3 => ?_)
    · refine g_aload_n C dX9_lineOf_41 rfl ?_
      refine g_iconst (z := 5) C dX9_lineOf_42 rfl ?_
      refine g_pc (pc' := 43) rfl ?_
      refine gc_X9_84 C dX9_lineOf_43 rfl (c_X9_refuse hI (Ml M) σ (y := 5) rfl (by omega)) (by decide) (Nat.le_of_ble_eq_true rfl) (fun z σ1 ⟨hz, hσ⟩ => ?_)
      subst z
      subst σ1
      exact g_ireturn C dX9_lineOf_46 (by rw [show aLineOf V t i c = rfs 5 V by unfold aLineOf; (first | rw [if_pos (by omega)] | rw [if_neg (by omega), if_pos (by omega)] | rw [if_neg (by omega), if_neg (by omega)])]; exact ⟨rfl, hX.ref hO (by omega), XC.ref⟩)
    · refine g_iload_n C dX9_lineOf_33 rfl ?_
      refine g_iconst (z := 3) C dX9_lineOf_34 rfl ?_
      refine gc_X9_80 C dX9_lineOf_35 (c_X9_isBelow hI (Ml M) σ (x := c) (e := 3) (by unfold R32; omega) (by unfold R32; omega)) (by decide) (Nat.le_of_ble_eq_true rfl) (fun z σ1 ⟨hz, hσ⟩ => ?_)
      subst z
      subst σ1
      refine g_ifb_ne (tgt := 47) C dX9_lineOf_38 (by decide) (fun h4 => ?_) (fun h4 => ?_)
      · refine g_aload_n C dX9_lineOf_47 rfl ?_
        refine gf_X9_12 C dX9_lineOf_48 rfl ?_
        refine g_pc (pc' := 51) rfl ?_
        refine gf_X9_145 C dX9_lineOf_51 rfl ?_
        refine g_iload_n C dX9_lineOf_54 rfl ?_
        have hkz5 : kd (2 + 2 * t.toNat) = 5 := kd_tab t.toNat (by omega)
        refine g_aald (n := t.toNat) (N := 5) (c := 23) (r := (2 + 2 * t.toNat)) C dX9_lineOf_55 rfl (by decide) rfl (by decide) rfl (by omega) (by omega) (by decide) (rf_23 _ _ rfl) ?_
        refine g_iload_n C dX9_lineOf_56 rfl ?_
        refine g_iload_n C dX9_lineOf_57 rfl ?_
        refine gc_X9_177 C dX9_lineOf_58 hkz5 (c_X5_valueAt hI (Ml M) σ hkz5 (i := i.toNat) (c := c.toNat) (by omega) (by omega) ⟨by omega, by omega⟩) (by decide) (Nat.le_of_ble_eq_true rfl) (fun z σ1 ⟨hz, hσ⟩ => ?_)
        subst σ1
        have hvv := (hX.1.1 t.toNat (by omega)).2.2.2 i.toNat (by omega) c.toNat (by omega)
        rw [show 0 + 3 + 2 * t.toNat = 2 + 2 * t.toNat + 1 by omega] at hvv
        rw [hvv] at hz
        subst z
        exact g_ireturn C dX9_lineOf_61 (by rw [show aLineOf V t i c = ((wv (vW V) t.toNat i.toNat c.toNat : Int), V) by unfold aLineOf; (first | rw [if_pos (by omega)] | rw [if_neg (by omega), if_pos (by omega)] | rw [if_neg (by omega), if_neg (by omega)])]; exact ⟨rfl, hX, Fr.rf⟩)
      · refine g_aload_n C dX9_lineOf_41 rfl ?_
        refine g_pc (pc' := 42) rfl ?_
        refine g_iconst (z := 5) C dX9_lineOf_42 rfl ?_
        refine gc_X9_84 C dX9_lineOf_43 rfl (c_X9_refuse hI (Ml M) σ (y := 5) rfl (by omega)) (by decide) (Nat.le_of_ble_eq_true rfl) (fun z σ1 ⟨hz, hσ⟩ => ?_)
        subst z
        subst σ1
        exact g_ireturn C dX9_lineOf_46 (by rw [show aLineOf V t i c = rfs 5 V by unfold aLineOf; (first | rw [if_pos (by omega)] | rw [if_neg (by omega), if_pos (by omega)] | rw [if_neg (by omega), if_neg (by omega)])]; exact ⟨rfl, hX.ref hO (by omega), XC.ref⟩)
  · refine g_aload_n C dX9_lineOf_8 rfl ?_
    refine g_iconst (z := 1) C dX9_lineOf_9 rfl ?_
    refine gc_X9_84 C dX9_lineOf_10 rfl (c_X9_refuse hI (Ml M) σ (y := 1) rfl (by omega)) (by decide) (Nat.le_of_ble_eq_true rfl) (fun z σ1 ⟨hz, hσ⟩ => ?_)
    subst z
    subst σ1
    exact g_ireturn C dX9_lineOf_13 (by rw [show aLineOf V t i c = rfs 1 V by unfold aLineOf; (first | rw [if_pos (by omega)] | rw [if_neg (by omega), if_pos (by omega)] | rw [if_neg (by omega), if_neg (by omega)])]; exact ⟨rfl, hX.ref hO (by omega), XC.ref⟩)
theorem XW.empty {b : Nat} {σ : St} {w : Wv} (h : XW b σ w) {t : Nat} (ht : t < 5) : XW b (sI σ (b + 2 + 2 * t) 1 0) (wset w 0 t 0 0) := by
  refine ⟨fun u hu => ?_, ⟨?_, fun f hf => ?_⟩, ⟨?_, fun j hj => ?_⟩, ?_⟩
  · obtain ⟨b1, b2, b3, b4⟩ := h.1 u hu
    by_cases hut : u = t
    · subst hut
      refine ⟨by rw [rI_s]; simp [wl, wset], by rw [rI_j (by omega), b2]; simp [wb, wset], by rw [rI_j (by omega), b3]; simp [wst, wset], fun i hi c hc => ?_⟩
      have : wl (wset w 0 u 0 0) u = 0 := by simp [wl, wset]
      omega
    · refine ⟨by rw [rI_k (by omega), b1]; simp [wl, wset, hut], by rw [rI_k (by omega), b2]; simp [wb, wset], by rw [rI_k (by omega), b3]; simp [wst, wset], fun i hi c hc => ?_⟩
      have e0 : wl (wset w 0 t 0 0) u = wl w u := by simp [wl, wset, hut]
      rw [e0] at hi
      rw [rI_k (by omega), b4 i hi c hc]; simp [wv, wset]
  · rw [rI_k (by omega), h.2.1.1]; simp [wnf, wset]
  · have e0 : wnf (wset w 0 t 0 0) = wnf w := by simp [wnf, wset]
    rw [e0] at hf
    obtain ⟨a1, a2, a3⟩ := h.2.1.2 f hf
    rw [rI_k (by omega), rI_k (by omega), rI_k (by omega), a1, a2, a3]; simp [wfp, wfs, wfv, wset]
  · rw [rI_k (by omega), h.2.2.1.1]; simp [wnj, wset]
  · have e0 : wnj (wset w 0 t 0 0) = wnj w := by simp [wnj, wset]
    rw [e0] at hj
    obtain ⟨a1, a2⟩ := h.2.2.1.2 j hj
    rw [rI_k (by omega), rI_k (by omega), a1, a2]; simp [wja, wjb, wset]
  · rw [rI_k (by omega), h.2.2.2]; simp [wsd, wset]
theorem XC.of {S : Nat → Prop} {σ σ' : St} (h : Fr S σ σ') (hS : ∀ k, S k → k ≤ 104) : Fr XC σ σ' := h.mono hS
set_option maxHeartbeats 4000000 in
set_option maxRecDepth 100000 in
theorem c_X9_empty {κ : Kp} (hI : Ij κ) (l : Launch) (σ : St) {V : Vw} (hX : XV σ V) (hO : OKV V) {t : Int} (ht : R32 t) : CtI κ l 2 yX9_empty cX9_empty 3 .int [.ref (κ.2.1 76), .int (iZ t)] σ (fun z σ' => z = (aEmpty V t).1 ∧ XV σ' (aEmpty V t).2 ∧ Fr XC σ σ') := by
  refine Ct.ofG (own := RX9) hI (by decide +kernel) rfl (Nat.le_of_ble_eq_true rfl) rfl ?_
  intro M C hMl
  refine g_iload_n C dX9_empty_0 rfl ?_
  refine g_iconst (z := 5) C dX9_empty_1 rfl ?_
  refine gc_X9_80 C dX9_empty_2 (c_X9_isBelow hI (Ml M) σ (x := t) (e := 5) (by unfold R32; omega) (by unfold R32; omega)) (by decide) (Nat.le_of_ble_eq_true rfl) (fun z σ1 ⟨hz, hσ⟩ => ?_)
  subst z
  subst σ1
  refine g_ifb_ne (tgt := 14) C dX9_empty_5 (by decide) (fun h1 => ?_) (fun h1 => ?_)
  · refine g_aload_n C dX9_empty_14 rfl ?_
    refine gf_X9_12 C dX9_empty_15 rfl ?_
    refine gf_X9_145 C dX9_empty_18 rfl ?_
    refine g_pc (pc' := 21) rfl ?_
    refine g_iload_n C dX9_empty_21 rfl ?_
    have hkz2 : kd (2 + 2 * t.toNat) = 5 := kd_tab t.toNat (by omega)
    refine g_aald (n := t.toNat) (N := 5) (c := 23) (r := (2 + 2 * t.toNat)) C dX9_empty_22 rfl (by decide) rfl (by decide) rfl (by omega) (by omega) (by decide) (rf_23 _ _ rfl) ?_
    refine gf_X9_149 (z := (wl (vW V) t.toNat : Int)) C dX9_empty_23 hkz2 ((hX.1.1 t.toNat (by omega)).1) ?_
    refine g_istore_n (L' := [(2, .int (iZ (wl (vW V) t.toNat : Int))), (0, .ref (κ.2.1 76)), (1, .int (iZ t))]) C dX9_empty_26 rfl (by decide) rfl ?_
    refine g_aload_n C dX9_empty_27 rfl ?_
    refine gf_X9_12 C dX9_empty_28 rfl ?_
    refine gf_X9_145 C dX9_empty_31 rfl ?_
    refine g_iload_n C dX9_empty_34 rfl ?_
    refine g_pc (pc' := 35) rfl ?_
    have hkz3 : kd (2 + 2 * t.toNat) = 5 := kd_tab t.toNat (by omega)
    refine g_aald (n := t.toNat) (N := 5) (c := 23) (r := (2 + 2 * t.toNat)) C dX9_empty_35 rfl (by decide) rfl (by decide) rfl (by omega) (by omega) (by decide) (rf_23 _ _ rfl) ?_
    refine g_iconst (z := 0) C dX9_empty_36 rfl ?_
    refine gp_X9_149 C dX9_empty_37 hkz3 ?_
    refine g_iload_n C dX9_empty_40 rfl ?_
    exact g_ireturn C dX9_empty_41 (by rw [show aEmpty V t = ((wl (vW V) t.toNat : Int), (wset (vW V) 0 t.toNat 0 0, V.2)) by unfold aEmpty; (first | rw [if_pos (by omega)] | rw [if_neg (by omega)])]; exact ⟨rfl, hX.world hO (S := fun k => k = 2 + 2 * t.toNat) (Fr.rf.sI rfl) (fun k _ _ e => by omega) (by have h9 := hX.1.empty (t := t.toNat) (by omega); rwa [show 0 + 2 + 2 * t.toNat = 2 + 2 * t.toNat by omega] at h9), Fr.rf.sI (by unfold XC; omega)⟩)
  · refine g_aload_n C dX9_empty_8 rfl ?_
    refine g_iconst (z := 1) C dX9_empty_9 rfl ?_
    refine gc_X9_84 C dX9_empty_10 rfl (c_X9_refuse hI (Ml M) σ (y := 1) rfl (by omega)) (by decide) (Nat.le_of_ble_eq_true rfl) (fun z σ1 ⟨hz, hσ⟩ => ?_)
    subst z
    subst σ1
    refine g_pc (pc' := 13) rfl ?_
    exact g_ireturn C dX9_empty_13 (by rw [show aEmpty V t = rfs 1 V by unfold aEmpty; (first | rw [if_pos (by omega)] | rw [if_neg (by omega)])]; exact ⟨rfl, hX.ref hO (by omega), XC.ref⟩)
set_option maxHeartbeats 4000000 in
set_option maxRecDepth 100000 in
theorem c_X9_line {κ : Kp} (hI : Ij κ) (l : Launch) (σ : St) {V : Vw} (hX : XV σ V) (hO : OKV V) {t a b c : Int} (ht : R32 t) (ha : R32 a) (hb : R32 b) (hc : R32 c) : CtI κ l 2 yX9_line cX9_line 5 .int [.ref (κ.2.1 76), .int (iZ t), .int (iZ a), .int (iZ b), .int (iZ c)] σ (fun z σ' => z = (aLine V t a b c).1 ∧ XV σ' (aLine V t a b c).2 ∧ Fr XC σ σ') := by
  refine Ct.ofG (own := RX9) hI (by decide +kernel) rfl (Nat.le_of_ble_eq_true rfl) rfl ?_
  intro M C hMl
  refine g_iload_n C dX9_line_0 rfl ?_
  refine g_iconst (z := 5) C dX9_line_1 rfl ?_
  refine gc_X9_80 C dX9_line_2 (c_X9_isBelow hI (Ml M) σ (x := t) (e := 5) (by unfold R32; omega) (by unfold R32; omega)) (by decide) (Nat.le_of_ble_eq_true rfl) (fun z σ1 ⟨hz, hσ⟩ => ?_)
  subst z
  subst σ1
  refine g_ifb_ne (tgt := 14) C dX9_line_5 (by decide) (fun h1 => ?_) (fun h1 => ?_)
  · refine g_iload_n C dX9_line_14 rfl ?_
    refine g_bipush (z := 100) C dX9_line_15 rfl ?_
    refine gc_X9_80 C dX9_line_17 (c_X9_isBelow hI (Ml M) σ (x := a) (e := 100) (by unfold R32; omega) (by unfold R32; omega)) (by decide) (Nat.le_of_ble_eq_true rfl) (fun z σ1 ⟨hz, hσ⟩ => ?_)
    subst z
    subst σ1
    refine g_pc (pc' := 20) rfl ?_
    refine g_ifb_eq (tgt := 42) C dX9_line_20 (by decide) (fun h2 => ?_) (fun h2 => ?_)
    · refine g_aload_n C dX9_line_42 rfl ?_
      refine g_bipush (z := 6) C dX9_line_43 rfl ?_
      refine gc_X9_84 C dX9_line_45 rfl (c_X9_refuse hI (Ml M) σ (y := 6) rfl (by omega)) (by decide) (Nat.le_of_ble_eq_true rfl) (fun z σ1 ⟨hz, hσ⟩ => ?_)
      subst z
      subst σ1
      exact g_ireturn C dX9_line_48 (by rw [show aLine V t a b c = rfs 6 V by unfold aLine; (first | rw [if_pos (by omega)] | rw [if_neg (by omega), if_pos (by omega)] | rw [if_neg (by omega), if_neg (by omega), if_pos (by omega)] | rw [if_neg (by omega), if_neg (by omega), if_neg (by omega)])]; exact ⟨rfl, hX.ref hO (by omega), XC.ref⟩)
    · refine g_iload_n C dX9_line_23 rfl ?_
      refine g_bipush (z := 100) C dX9_line_24 rfl ?_
      refine gc_X9_80 C dX9_line_26 (c_X9_isBelow hI (Ml M) σ (x := b) (e := 100) (by unfold R32; omega) (by unfold R32; omega)) (by decide) (Nat.le_of_ble_eq_true rfl) (fun z σ1 ⟨hz, hσ⟩ => ?_)
      subst z
      subst σ1
      refine g_pc (pc' := 29) rfl ?_
      refine g_ifb_eq (tgt := 42) C dX9_line_29 (by decide) (fun h3 => ?_) (fun h3 => ?_)
      · refine g_aload_n C dX9_line_42 rfl ?_
        refine g_bipush (z := 6) C dX9_line_43 rfl ?_
        refine gc_X9_84 C dX9_line_45 rfl (c_X9_refuse hI (Ml M) σ (y := 6) rfl (by omega)) (by decide) (Nat.le_of_ble_eq_true rfl) (fun z σ1 ⟨hz, hσ⟩ => ?_)
        subst z
        subst σ1
        exact g_ireturn C dX9_line_48 (by rw [show aLine V t a b c = rfs 6 V by unfold aLine; (first | rw [if_pos (by omega)] | rw [if_neg (by omega), if_pos (by omega)] | rw [if_neg (by omega), if_neg (by omega), if_pos (by omega)] | rw [if_neg (by omega), if_neg (by omega), if_neg (by omega)])]; exact ⟨rfl, hX.ref hO (by omega), XC.ref⟩)
      · refine g_iload C dX9_line_32 rfl ?_
        refine g_bipush (z := 100) C dX9_line_34 rfl ?_
        refine gc_X9_80 C dX9_line_36 (c_X9_isBelow hI (Ml M) σ (x := c) (e := 100) (by unfold R32; omega) (by unfold R32; omega)) (by decide) (Nat.le_of_ble_eq_true rfl) (fun z σ1 ⟨hz, hσ⟩ => ?_)
        subst z
        subst σ1
        refine g_pc (pc' := 39) rfl ?_
        refine g_ifb_ne (tgt := 49) C dX9_line_39 (by decide) (fun h4 => ?_) (fun h4 => ?_)
        · refine g_aload_n C dX9_line_49 rfl ?_
          refine gf_X9_12 C dX9_line_50 rfl ?_
          refine gf_X9_145 C dX9_line_53 rfl ?_
          refine g_iload_n C dX9_line_56 rfl ?_
          have hwt := hO.1.1 t.toNat (by omega)
          have hkz5 : kd (2 + 2 * t.toNat) = 5 := kd_tab t.toNat (by omega)
          refine g_aald (n := t.toNat) (N := 5) (c := 23) (r := (2 + 2 * t.toNat)) C dX9_line_57 rfl (by decide) rfl (by decide) rfl (by omega) (by omega) (by decide) (rf_23 _ _ rfl) ?_
          refine gf_X9_149 (z := (wl (vW V) t.toNat : Int)) C dX9_line_58 hkz5 ((hX.1.1 t.toNat (by omega)).1) ?_
          refine g_bipush (z := 16) C dX9_line_61 rfl ?_
          refine g_pc (pc' := 63) rfl ?_
          refine g_icmp_lt (tgt := 73) C dX9_line_63 (by decide) (by unfold R32; omega) (fun h6 => ?_) (fun h6 => ?_)
          · refine g_aload_n C dX9_line_73 rfl ?_
            refine gf_X9_12 C dX9_line_74 rfl ?_
            refine gf_X9_145 C dX9_line_77 rfl ?_
            refine g_iload_n C dX9_line_80 rfl ?_
            have hkz7 : kd (2 + 2 * t.toNat) = 5 := kd_tab t.toNat (by omega)
            refine g_aald (n := t.toNat) (N := 5) (c := 23) (r := (2 + 2 * t.toNat)) C dX9_line_81 rfl (by decide) rfl (by decide) rfl (by omega) (by omega) (by decide) (rf_23 _ _ rfl) ?_
            refine g_iload_n C dX9_line_82 rfl ?_
            refine g_iload_n C dX9_line_83 rfl ?_
            refine g_pc (pc' := 84) rfl ?_
            refine g_iload C dX9_line_84 rfl ?_
            have hwt := hO.1.1 t.toNat (by omega)
            refine gc_X9_154 C dX9_line_86 hkz7 (c_X5_add hI (Ml M) σ hkz7 (n := wl (vW V) t.toNat) (hX.1.1 t.toNat (by omega)).1 (by omega) _ _ _) (by decide) (Nat.le_of_ble_eq_true rfl) (fun σ1 hσ => ?_)
            have h9 := hX.1.add (t := t.toNat) (by omega) a.toNat b.toNat c.toNat
            rw [show ((a.toNat : Nat) : Int) = a by omega, show ((b.toNat : Nat) : Int) = b by omega, show ((c.toNat : Nat) : Int) = c by omega, show 0 + 2 + 2 * t.toNat = 2 + 2 * t.toNat by omega, ← hσ] at h9
            have h8 : Fr (fun k => k = 2 + 2 * t.toNat ∨ k = 2 + 2 * t.toNat + 1) σ σ1 := by rw [hσ]; exact tAdd_fr (Or.inl rfl) (Or.inr rfl)
            have h7 := (h9.1 t.toNat (by omega)).1
            have h6 : wl (wAdd (vW V) t.toNat a.toNat b.toNat c.toNat) t.toNat = wl (vW V) t.toNat + 1 := by unfold wAdd; rw [if_pos (by omega)]; simp [wl, wset]
            rw [h6] at h7
            refine g_aload_n C dX9_line_89 rfl ?_
            refine gf_X9_12 C dX9_line_90 rfl ?_
            refine gf_X9_145 C dX9_line_93 rfl ?_
            refine g_iload_n C dX9_line_96 rfl ?_
            have hkz8 : kd (2 + 2 * t.toNat) = 5 := kd_tab t.toNat (by omega)
            refine g_aald (n := t.toNat) (N := 5) (c := 23) (r := (2 + 2 * t.toNat)) C dX9_line_97 rfl (by decide) rfl (by decide) rfl (by omega) (by omega) (by decide) (rf_23 _ _ rfl) ?_
            refine gf_X9_149 (z := ((wl (vW V) t.toNat + 1 : Nat) : Int)) C dX9_line_98 hkz8 h7 ?_
            refine g_pc (pc' := 101) rfl ?_
            refine g_iconst (z := 1) C dX9_line_101 rfl ?_
            refine g_isub C dX9_line_102 ?_
            exact g_ireturn C dX9_line_103 (by rw [show aLine V t a b c = ((wl (vW V) t.toNat : Int), (wAdd (vW V) t.toNat a.toNat b.toNat c.toNat, V.2)) by unfold aLine; (first | rw [if_pos (by omega)] | rw [if_neg (by omega), if_pos (by omega)] | rw [if_neg (by omega), if_neg (by omega), if_pos (by omega)] | rw [if_neg (by omega), if_neg (by omega), if_neg (by omega)])]; exact ⟨by omega, hX.world hO h8 (fun k _ _ e => by omega) h9, h8.mono (fun k hk => by unfold XC; omega)⟩)
          · refine g_aload_n C dX9_line_66 rfl ?_
            refine g_bipush (z := 7) C dX9_line_67 rfl ?_
            refine gc_X9_84 C dX9_line_69 rfl (c_X9_refuse hI (Ml M) σ (y := 7) rfl (by omega)) (by decide) (Nat.le_of_ble_eq_true rfl) (fun z σ1 ⟨hz, hσ⟩ => ?_)
            subst z
            subst σ1
            exact g_ireturn C dX9_line_72 (by rw [show aLine V t a b c = rfs 7 V by unfold aLine; (first | rw [if_pos (by omega)] | rw [if_neg (by omega), if_pos (by omega)] | rw [if_neg (by omega), if_neg (by omega), if_pos (by omega)] | rw [if_neg (by omega), if_neg (by omega), if_neg (by omega)])]; exact ⟨rfl, hX.ref hO (by omega), XC.ref⟩)
        · refine g_aload_n C dX9_line_42 rfl ?_
          refine g_pc (pc' := 43) rfl ?_
          refine g_bipush (z := 6) C dX9_line_43 rfl ?_
          refine gc_X9_84 C dX9_line_45 rfl (c_X9_refuse hI (Ml M) σ (y := 6) rfl (by omega)) (by decide) (Nat.le_of_ble_eq_true rfl) (fun z σ1 ⟨hz, hσ⟩ => ?_)
          subst z
          subst σ1
          exact g_ireturn C dX9_line_48 (by rw [show aLine V t a b c = rfs 6 V by unfold aLine; (first | rw [if_pos (by omega)] | rw [if_neg (by omega), if_pos (by omega)] | rw [if_neg (by omega), if_neg (by omega), if_pos (by omega)] | rw [if_neg (by omega), if_neg (by omega), if_neg (by omega)])]; exact ⟨rfl, hX.ref hO (by omega), XC.ref⟩)
  · refine g_aload_n C dX9_line_8 rfl ?_
    refine g_iconst (z := 1) C dX9_line_9 rfl ?_
    refine gc_X9_84 C dX9_line_10 rfl (c_X9_refuse hI (Ml M) σ (y := 1) rfl (by omega)) (by decide) (Nat.le_of_ble_eq_true rfl) (fun z σ1 ⟨hz, hσ⟩ => ?_)
    subst z
    subst σ1
    exact g_ireturn C dX9_line_13 (by rw [show aLine V t a b c = rfs 1 V by unfold aLine; (first | rw [if_pos (by omega)] | rw [if_neg (by omega), if_pos (by omega)] | rw [if_neg (by omega), if_neg (by omega), if_pos (by omega)] | rw [if_neg (by omega), if_neg (by omega), if_neg (by omega)])]; exact ⟨rfl, hX.ref hO (by omega), XC.ref⟩)
theorem aFil_fr {σ : St} {n : Nat} {p s v : Int} : Fr W0C σ (aFil σ 0 n p s v) := (((Fr.rf.sI (by unfold W0C; omega)).sI (by unfold W0C; omega)).sI (by unfold W0C; omega)).sI (by unfold W0C; omega)
theorem aJoi_fr {σ : St} {n : Nat} {x y : Int} : Fr W0C σ (aJoi σ 0 n x y) := ((Fr.rf.sI (by unfold W0C; omega)).sI (by unfold W0C; omega)).sI (by unfold W0C; omega)
set_option maxHeartbeats 4000000 in
set_option maxRecDepth 100000 in
theorem c_X9_filter {κ : Kp} (hI : Ij κ) (l : Launch) (σ : St) {V : Vw} (hX : XV σ V) (hO : OKV V) {p s v : Int} (hp : R32 p) (hs : R32 s) (hv : R32 v) : CtI κ l 2 yX9_filter cX9_filter 4 .int [.ref (κ.2.1 76), .int (iZ p), .int (iZ s), .int (iZ v)] σ (fun z σ' => z = (aFilter V p s v).1 ∧ XV σ' (aFilter V p s v).2 ∧ Fr XC σ σ') := by
  refine Ct.ofG (own := RX9) hI (by decide +kernel) rfl (Nat.le_of_ble_eq_true rfl) rfl ?_
  intro M C hMl
  refine g_iload_n C dX9_filter_0 rfl ?_
  refine g_bipush (z := 15) C dX9_filter_1 rfl ?_
  refine gc_X9_80 C dX9_filter_3 (c_X9_isBelow hI (Ml M) σ (x := p) (e := 15) (by unfold R32; omega) (by unfold R32; omega)) (by decide) (Nat.le_of_ble_eq_true rfl) (fun z σ1 ⟨hz, hσ⟩ => ?_)
  subst z
  subst σ1
  refine g_ifb_ne (tgt := 15) C dX9_filter_6 (by decide) (fun h1 => ?_) (fun h1 => ?_)
  · refine g_iload_n C dX9_filter_15 rfl ?_
    refine g_iconst (z := 3) C dX9_filter_16 rfl ?_
    refine gc_X9_80 C dX9_filter_17 (c_X9_isBelow hI (Ml M) σ (x := s) (e := 3) (by unfold R32; omega) (by unfold R32; omega)) (by decide) (Nat.le_of_ble_eq_true rfl) (fun z σ1 ⟨hz, hσ⟩ => ?_)
    subst z
    subst σ1
    refine g_pc (pc' := 20) rfl ?_
    refine g_ifb_eq (tgt := 32) C dX9_filter_20 (by decide) (fun h2 => ?_) (fun h2 => ?_)
    · refine g_aload_n C dX9_filter_32 rfl ?_
      refine g_bipush (z := 6) C dX9_filter_33 rfl ?_
      refine gc_X9_84 C dX9_filter_35 rfl (c_X9_refuse hI (Ml M) σ (y := 6) rfl (by omega)) (by decide) (Nat.le_of_ble_eq_true rfl) (fun z σ1 ⟨hz, hσ⟩ => ?_)
      subst z
      subst σ1
      exact g_ireturn C dX9_filter_38 (by rw [show aFilter V p s v = rfs 6 V by unfold aFilter; (first | rw [if_pos (by omega)] | rw [if_neg (by omega), if_pos (by omega)] | rw [if_neg (by omega), if_neg (by omega), if_pos (by omega)] | rw [if_neg (by omega), if_neg (by omega), if_neg (by omega)])]; exact ⟨rfl, hX.ref hO (by omega), XC.ref⟩)
    · refine g_iload_n C dX9_filter_23 rfl ?_
      refine g_bipush (z := 100) C dX9_filter_24 rfl ?_
      refine gc_X9_80 C dX9_filter_26 (c_X9_isBelow hI (Ml M) σ (x := v) (e := 100) (by unfold R32; omega) (by unfold R32; omega)) (by decide) (Nat.le_of_ble_eq_true rfl) (fun z σ1 ⟨hz, hσ⟩ => ?_)
      subst z
      subst σ1
      refine g_pc (pc' := 29) rfl ?_
      refine g_ifb_ne (tgt := 39) C dX9_filter_29 (by decide) (fun h3 => ?_) (fun h3 => ?_)
      · refine g_aload_n C dX9_filter_39 rfl ?_
        refine gf_X9_12 C dX9_filter_40 rfl ?_
        have hnf8 := hO.1.2.1.1
        refine gf_X9_211 (z := (wnf (vW V) : Int)) C dX9_filter_43 rfl hX.1.2.1.1 ?_
        refine g_bipush (z := 8) C dX9_filter_46 rfl ?_
        refine g_icmp_lt (tgt := 58) C dX9_filter_48 (by decide) (by unfold R32; omega) (fun h4 => ?_) (fun h4 => ?_)
        · refine g_aload_n C dX9_filter_58 rfl ?_
          refine gf_X9_12 C dX9_filter_59 rfl ?_
          refine g_pc (pc' := 62) rfl ?_
          refine g_iload_n C dX9_filter_62 rfl ?_
          refine g_iload_n C dX9_filter_63 rfl ?_
          refine g_iload_n C dX9_filter_64 rfl ?_
          refine gc_X9_214 C dX9_filter_65 rfl (c_X8_addFilter hI (Ml M) σ hX.1 hO.1 (by omega) _ _ _) (by decide) (Nat.le_of_ble_eq_true rfl) (fun σ1 hσ => ?_)
          have h9 := hX.1.addF p.toNat s.toNat v.toNat
          rw [show ((p.toNat : Nat) : Int) = p by omega, show ((s.toNat : Nat) : Int) = s by omega, show ((v.toNat : Nat) : Int) = v by omega, ← hσ] at h9
          have h8 : Fr W0C σ σ1 := by rw [hσ]; exact aFil_fr
          have h7 : σ1.1 0 4 = (wnf (vW V) : Int) + 1 := by rw [hσ]; exact rI_s
          refine g_aload_n C dX9_filter_68 rfl ?_
          refine gf_X9_12 C dX9_filter_69 rfl ?_
          refine gf_X9_211 (z := ((wnf (vW V) : Int) + 1)) C dX9_filter_72 rfl h7 ?_
          refine g_iconst (z := 1) C dX9_filter_75 rfl ?_
          refine g_pc (pc' := 76) rfl ?_
          refine g_isub C dX9_filter_76 ?_
          exact g_ireturn C dX9_filter_77 (by rw [show aFilter V p s v = ((wnf (vW V) : Int), (wAddF (vW V) p.toNat s.toNat v.toNat, V.2)) by unfold aFilter; (first | rw [if_pos (by omega)] | rw [if_neg (by omega), if_pos (by omega)] | rw [if_neg (by omega), if_neg (by omega), if_pos (by omega)] | rw [if_neg (by omega), if_neg (by omega), if_neg (by omega)])]; exact ⟨by omega, hX.world hO h8 (fun k _ _ e => by unfold W0C at e; omega) h9, h8.mono (fun k hk => by unfold W0C at hk; unfold XC; omega)⟩)
        · refine g_aload_n C dX9_filter_51 rfl ?_
          refine g_bipush (z := 7) C dX9_filter_52 rfl ?_
          refine gc_X9_84 C dX9_filter_54 rfl (c_X9_refuse hI (Ml M) σ (y := 7) rfl (by omega)) (by decide) (Nat.le_of_ble_eq_true rfl) (fun z σ1 ⟨hz, hσ⟩ => ?_)
          subst z
          subst σ1
          exact g_ireturn C dX9_filter_57 (by rw [show aFilter V p s v = rfs 7 V by unfold aFilter; (first | rw [if_pos (by omega)] | rw [if_neg (by omega), if_pos (by omega)] | rw [if_neg (by omega), if_neg (by omega), if_pos (by omega)] | rw [if_neg (by omega), if_neg (by omega), if_neg (by omega)])]; exact ⟨rfl, hX.ref hO (by omega), XC.ref⟩)
      · refine g_aload_n C dX9_filter_32 rfl ?_
        refine g_bipush (z := 6) C dX9_filter_33 rfl ?_
        refine g_pc (pc' := 35) rfl ?_
        refine gc_X9_84 C dX9_filter_35 rfl (c_X9_refuse hI (Ml M) σ (y := 6) rfl (by omega)) (by decide) (Nat.le_of_ble_eq_true rfl) (fun z σ1 ⟨hz, hσ⟩ => ?_)
        subst z
        subst σ1
        exact g_ireturn C dX9_filter_38 (by rw [show aFilter V p s v = rfs 6 V by unfold aFilter; (first | rw [if_pos (by omega)] | rw [if_neg (by omega), if_pos (by omega)] | rw [if_neg (by omega), if_neg (by omega), if_pos (by omega)] | rw [if_neg (by omega), if_neg (by omega), if_neg (by omega)])]; exact ⟨rfl, hX.ref hO (by omega), XC.ref⟩)
  · refine g_aload_n C dX9_filter_9 rfl ?_
    refine g_iconst (z := 1) C dX9_filter_10 rfl ?_
    refine gc_X9_84 C dX9_filter_11 rfl (c_X9_refuse hI (Ml M) σ (y := 1) rfl (by omega)) (by decide) (Nat.le_of_ble_eq_true rfl) (fun z σ1 ⟨hz, hσ⟩ => ?_)
    subst z
    subst σ1
    exact g_ireturn C dX9_filter_14 (by rw [show aFilter V p s v = rfs 1 V by unfold aFilter; (first | rw [if_pos (by omega)] | rw [if_neg (by omega), if_pos (by omega)] | rw [if_neg (by omega), if_neg (by omega), if_pos (by omega)] | rw [if_neg (by omega), if_neg (by omega), if_neg (by omega)])]; exact ⟨rfl, hX.ref hO (by omega), XC.ref⟩)
set_option maxHeartbeats 4000000 in
set_option maxRecDepth 100000 in
theorem c_X9_join {κ : Kp} (hI : Ij κ) (l : Launch) (σ : St) {V : Vw} (hX : XV σ V) (hO : OKV V) {p q : Int} (hp : R32 p) (hq : R32 q) : CtI κ l 2 yX9_join cX9_join 3 .int [.ref (κ.2.1 76), .int (iZ p), .int (iZ q)] σ (fun z σ' => z = (aJoin V p q).1 ∧ XV σ' (aJoin V p q).2 ∧ Fr XC σ σ') := by
  refine Ct.ofG (own := RX9) hI (by decide +kernel) rfl (Nat.le_of_ble_eq_true rfl) rfl ?_
  intro M C hMl
  refine g_iload_n C dX9_join_0 rfl ?_
  refine g_bipush (z := 15) C dX9_join_1 rfl ?_
  refine gc_X9_80 C dX9_join_3 (c_X9_isBelow hI (Ml M) σ (x := p) (e := 15) (by unfold R32; omega) (by unfold R32; omega)) (by decide) (Nat.le_of_ble_eq_true rfl) (fun z σ1 ⟨hz, hσ⟩ => ?_)
  subst z
  subst σ1
  refine g_ifb_eq (tgt := 18) C dX9_join_6 (by decide) (fun h1 => ?_) (fun h1 => ?_)
  · refine g_aload_n C dX9_join_18 rfl ?_
    refine g_iconst (z := 1) C dX9_join_19 rfl ?_
    refine gc_X9_84 C dX9_join_20 rfl (c_X9_refuse hI (Ml M) σ (y := 1) rfl (by omega)) (by decide) (Nat.le_of_ble_eq_true rfl) (fun z σ1 ⟨hz, hσ⟩ => ?_)
    subst z
    subst σ1
    refine g_pc (pc' := 23) rfl ?_
    exact g_ireturn C dX9_join_23 (by rw [show aJoin V p q = rfs 1 V by unfold aJoin; (first | rw [if_pos (by omega)] | rw [if_neg (by omega), if_pos (by omega)] | rw [if_neg (by omega), if_neg (by omega), if_pos (by omega)] | rw [if_neg (by omega), if_neg (by omega), if_neg (by omega)])]; exact ⟨rfl, hX.ref hO (by omega), XC.ref⟩)
  · refine g_iload_n C dX9_join_9 rfl ?_
    refine g_bipush (z := 15) C dX9_join_10 rfl ?_
    refine gc_X9_80 C dX9_join_12 (c_X9_isBelow hI (Ml M) σ (x := q) (e := 15) (by unfold R32; omega) (by unfold R32; omega)) (by decide) (Nat.le_of_ble_eq_true rfl) (fun z σ1 ⟨hz, hσ⟩ => ?_)
    subst z
    subst σ1
    refine g_ifb_ne (tgt := 24) C dX9_join_15 (by decide) (fun h2 => ?_) (fun h2 => ?_)
    · refine g_iload_n C dX9_join_24 rfl ?_
      refine g_iconst (z := 3) C dX9_join_25 rfl ?_
      refine g_idiv C dX9_join_26 (by omega) ?_
      refine g_pc (pc' := 27) rfl ?_
      refine g_iload_n C dX9_join_27 rfl ?_
      refine g_iconst (z := 3) C dX9_join_28 rfl ?_
      refine g_idiv C dX9_join_29 (by omega) ?_
      refine g_icmp_ne (tgt := 40) C dX9_join_30 (by decide) (by unfold R32; omega) (fun h3 => ?_) (fun h3 => ?_)
      · refine g_aload_n C dX9_join_40 rfl ?_
        refine gf_X9_12 C dX9_join_41 rfl ?_
        have hnj8 := hO.1.2.2.1
        refine gf_X9_217 (z := (wnj (vW V) : Int)) C dX9_join_44 rfl hX.1.2.2.1.1 ?_
        refine g_bipush (z := 8) C dX9_join_47 rfl ?_
        refine g_pc (pc' := 49) rfl ?_
        refine g_icmp_lt (tgt := 59) C dX9_join_49 (by decide) (by unfold R32; omega) (fun h4 => ?_) (fun h4 => ?_)
        · refine g_aload_n C dX9_join_59 rfl ?_
          refine gf_X9_12 C dX9_join_60 rfl ?_
          refine g_iload_n C dX9_join_63 rfl ?_
          refine g_iload_n C dX9_join_64 rfl ?_
          refine gm_X9_220 C dX9_join_65 (by unfold R32; omega) (by decide) (Nat.le_of_ble_eq_true rfl) ?_
          refine g_iload_n C dX9_join_68 rfl ?_
          refine g_iload_n C dX9_join_69 rfl ?_
          refine g_pc (pc' := 70) rfl ?_
          refine gm_X9_225 C dX9_join_70 (by unfold R32; omega) (by decide) (Nat.le_of_ble_eq_true rfl) ?_
          refine gc_X9_228 C dX9_join_73 rfl (c_X8_addJoin hI (Ml M) σ hX.1 hO.1 (by omega) _ _) (by decide) (Nat.le_of_ble_eq_true rfl) (fun σ1 hσ => ?_)
          have h9 := hX.1.addJ (min p q).toNat (max p q).toNat
          rw [show (((min p q).toNat : Nat) : Int) = min p q by omega, show (((max p q).toNat : Nat) : Int) = max p q by omega, ← hσ] at h9
          have h8 : Fr W0C σ σ1 := by rw [hσ]; exact aJoi_fr
          have h7 : σ1.1 0 7 = (wnj (vW V) : Int) + 1 := by rw [hσ]; exact rI_s
          refine g_aload_n C dX9_join_76 rfl ?_
          refine gf_X9_12 C dX9_join_77 rfl ?_
          refine gf_X9_217 (z := ((wnj (vW V) : Int) + 1)) C dX9_join_80 rfl h7 ?_
          refine g_iconst (z := 1) C dX9_join_83 rfl ?_
          refine g_isub C dX9_join_84 ?_
          exact g_ireturn C dX9_join_85 (by rw [show aJoin V p q = ((wnj (vW V) : Int), (wAddJ (vW V) (min p q).toNat (max p q).toNat, V.2)) by unfold aJoin; (first | rw [if_pos (by omega)] | rw [if_neg (by omega), if_pos (by omega)] | rw [if_neg (by omega), if_neg (by omega), if_pos (by omega)] | rw [if_neg (by omega), if_neg (by omega), if_neg (by omega)])]; exact ⟨by omega, hX.world hO h8 (fun k _ _ e => by unfold W0C at e; omega) h9, h8.mono (fun k hk => by unfold W0C at hk; unfold XC; omega)⟩)
        · refine g_pc (pc' := 52) rfl ?_
          refine g_aload_n C dX9_join_52 rfl ?_
          refine g_bipush (z := 7) C dX9_join_53 rfl ?_
          refine gc_X9_84 C dX9_join_55 rfl (c_X9_refuse hI (Ml M) σ (y := 7) rfl (by omega)) (by decide) (Nat.le_of_ble_eq_true rfl) (fun z σ1 ⟨hz, hσ⟩ => ?_)
          subst z
          subst σ1
          exact g_ireturn C dX9_join_58 (by rw [show aJoin V p q = rfs 7 V by unfold aJoin; (first | rw [if_pos (by omega)] | rw [if_neg (by omega), if_pos (by omega)] | rw [if_neg (by omega), if_neg (by omega), if_pos (by omega)] | rw [if_neg (by omega), if_neg (by omega), if_neg (by omega)])]; exact ⟨rfl, hX.ref hO (by omega), XC.ref⟩)
      · refine g_aload_n C dX9_join_33 rfl ?_
        refine g_bipush (z := 6) C dX9_join_34 rfl ?_
        refine gc_X9_84 C dX9_join_36 rfl (c_X9_refuse hI (Ml M) σ (y := 6) rfl (by omega)) (by decide) (Nat.le_of_ble_eq_true rfl) (fun z σ1 ⟨hz, hσ⟩ => ?_)
        subst z
        subst σ1
        exact g_ireturn C dX9_join_39 (by rw [show aJoin V p q = rfs 6 V by unfold aJoin; (first | rw [if_pos (by omega)] | rw [if_neg (by omega), if_pos (by omega)] | rw [if_neg (by omega), if_neg (by omega), if_pos (by omega)] | rw [if_neg (by omega), if_neg (by omega), if_neg (by omega)])]; exact ⟨rfl, hX.ref hO (by omega), XC.ref⟩)
    · refine g_pc (pc' := 18) rfl ?_
      refine g_aload_n C dX9_join_18 rfl ?_
      refine g_iconst (z := 1) C dX9_join_19 rfl ?_
      refine gc_X9_84 C dX9_join_20 rfl (c_X9_refuse hI (Ml M) σ (y := 1) rfl (by omega)) (by decide) (Nat.le_of_ble_eq_true rfl) (fun z σ1 ⟨hz, hσ⟩ => ?_)
      subst z
      subst σ1
      exact g_ireturn C dX9_join_23 (by rw [show aJoin V p q = rfs 1 V by unfold aJoin; (first | rw [if_pos (by omega)] | rw [if_neg (by omega), if_pos (by omega)] | rw [if_neg (by omega), if_neg (by omega), if_pos (by omega)] | rw [if_neg (by omega), if_neg (by omega), if_neg (by omega)])]; exact ⟨rfl, hX.ref hO (by omega), XC.ref⟩)
set_option maxHeartbeats 4000000 in
set_option maxRecDepth 100000 in
theorem c_X9_filterOf {κ : Kp} (hI : Ij κ) (l : Launch) (σ : St) {V : Vw} (hX : XV σ V) (hO : OKV V) {f a : Int} (hf : R32 f) (ha : R32 a) : CtI κ l 2 yX9_filterOf cX9_filterOf 3 .int [.ref (κ.2.1 76), .int (iZ f), .int (iZ a)] σ (fun z σ' => z = (aFilterOf V f a).1 ∧ XV σ' (aFilterOf V f a).2 ∧ Fr XC σ σ') := by
  refine Ct.ofG (own := RX9) hI (by decide +kernel) rfl (Nat.le_of_ble_eq_true rfl) rfl ?_
  intro M C hMl
  refine g_iload_n C dX9_filterOf_0 rfl ?_
  refine g_aload_n C dX9_filterOf_1 rfl ?_
  refine gf_X9_12 C dX9_filterOf_2 rfl ?_
  refine gf_X9_211 (z := (wnf (vW V) : Int)) C dX9_filterOf_5 rfl hX.1.2.1.1 ?_
  have hnf8 := hO.1.2.1.1
  refine gc_X9_80 C dX9_filterOf_8 (c_X9_isBelow hI (Ml M) σ (x := f) (e := (wnf (vW V) : Int)) (by unfold R32; omega) (by unfold R32; omega)) (by decide) (Nat.le_of_ble_eq_true rfl) (fun z σ1 ⟨hz, hσ⟩ => ?_)
  subst z
  subst σ1
  refine g_ifb_ne (tgt := 20) C dX9_filterOf_11 (by decide) (fun h1 => ?_) (fun h1 => ?_)
  · refine g_iload_n C dX9_filterOf_20 rfl ?_
    refine g_pc (pc' := 21) rfl ?_
    have hs2 : a < 0 ∨ 2 < a ∨ a = 0 ∨ a = 1 ∨ a = 2 := by omega
    rcases hs2 with hs2 | hs2 | hs2 | hs2 | hs2
    · refine g_tswd (tgt := 78) C dX9_filterOf_21 (by unfold R32; omega) (by omega) (by decide) ?_
      refine g_aload_n C dX9_filterOf_78 rfl ?_
      refine g_iconst (z := 5) C dX9_filterOf_79 rfl ?_
      refine gc_X9_84 C dX9_filterOf_80 rfl (c_X9_refuse hI (Ml M) σ (y := 5) rfl (by omega)) (by decide) (Nat.le_of_ble_eq_true rfl) (fun z σ1 ⟨hz, hσ⟩ => ?_)
      subst z
      subst σ1
      exact g_ireturn C dX9_filterOf_83 (by rw [show aFilterOf V f a = rfs 5 V by unfold aFilterOf; (first | rw [if_pos (by omega)] | rw [if_neg (by omega), if_pos (by omega)] | rw [if_neg (by omega), if_neg (by omega), if_pos (by omega)] | rw [if_neg (by omega), if_neg (by omega), if_neg (by omega), if_pos (by omega)] | rw [if_neg (by omega), if_neg (by omega), if_neg (by omega), if_neg (by omega)])]; exact ⟨rfl, hX.ref hO (by omega), XC.ref⟩)
    · refine g_tswd (tgt := 78) C dX9_filterOf_21 (by unfold R32; omega) (by omega) (by decide) ?_
      refine g_aload_n C dX9_filterOf_78 rfl ?_
      refine g_iconst (z := 5) C dX9_filterOf_79 rfl ?_
      refine gc_X9_84 C dX9_filterOf_80 rfl (c_X9_refuse hI (Ml M) σ (y := 5) rfl (by omega)) (by decide) (Nat.le_of_ble_eq_true rfl) (fun z σ1 ⟨hz, hσ⟩ => ?_)
      subst z
      subst σ1
      refine g_pc (pc' := 83) rfl ?_
      exact g_ireturn C dX9_filterOf_83 (by rw [show aFilterOf V f a = rfs 5 V by unfold aFilterOf; (first | rw [if_pos (by omega)] | rw [if_neg (by omega), if_pos (by omega)] | rw [if_neg (by omega), if_neg (by omega), if_pos (by omega)] | rw [if_neg (by omega), if_neg (by omega), if_neg (by omega), if_pos (by omega)] | rw [if_neg (by omega), if_neg (by omega), if_neg (by omega), if_neg (by omega)])]; exact ⟨rfl, hX.ref hO (by omega), XC.ref⟩)
    · refine g_int (z' := 0) hs2 ?_
      refine g_tsw (tgt := 48) C dX9_filterOf_21 (by decide) (by decide) rfl (by decide) ?_
      refine g_aload_n C dX9_filterOf_48 rfl ?_
      refine gf_X9_12 C dX9_filterOf_49 rfl ?_
      refine gf_X9_231 C dX9_filterOf_52 rfl ?_
      refine g_iload_n C dX9_filterOf_55 rfl ?_
      refine g_iaz (n := f.toNat) (N := 8) (v := (wfp (vW V) f.toNat : Int)) C dX9_filterOf_56 rfl rfl (by omega) (by omega) (by decide) ((hX.1.2.1.2 f.toNat (by omega)).1) ?_
      exact g_ireturn C dX9_filterOf_57 (by rw [show aFilterOf V f a = ((wfp (vW V) f.toNat : Int), V) by unfold aFilterOf; (first | rw [if_pos (by omega)] | rw [if_neg (by omega), if_pos (by omega)] | rw [if_neg (by omega), if_neg (by omega), if_pos (by omega)] | rw [if_neg (by omega), if_neg (by omega), if_neg (by omega), if_pos (by omega)] | rw [if_neg (by omega), if_neg (by omega), if_neg (by omega), if_neg (by omega)])]; exact ⟨rfl, hX, Fr.rf⟩)
    · refine g_int (z' := 1) hs2 ?_
      refine g_tsw (tgt := 58) C dX9_filterOf_21 (by decide) (by decide) rfl (by decide) ?_
      refine g_aload_n C dX9_filterOf_58 rfl ?_
      refine g_pc (pc' := 59) rfl ?_
      refine gf_X9_12 C dX9_filterOf_59 rfl ?_
      refine gf_X9_234 C dX9_filterOf_62 rfl ?_
      refine g_iload_n C dX9_filterOf_65 rfl ?_
      refine g_iaz (n := f.toNat) (N := 8) (v := (wfs (vW V) f.toNat : Int)) C dX9_filterOf_66 rfl rfl (by omega) (by omega) (by decide) ((hX.1.2.1.2 f.toNat (by omega)).2.1) ?_
      exact g_ireturn C dX9_filterOf_67 (by rw [show aFilterOf V f a = ((wfs (vW V) f.toNat : Int), V) by unfold aFilterOf; (first | rw [if_pos (by omega)] | rw [if_neg (by omega), if_pos (by omega)] | rw [if_neg (by omega), if_neg (by omega), if_pos (by omega)] | rw [if_neg (by omega), if_neg (by omega), if_neg (by omega), if_pos (by omega)] | rw [if_neg (by omega), if_neg (by omega), if_neg (by omega), if_neg (by omega)])]; exact ⟨rfl, hX, Fr.rf⟩)
    · refine g_int (z' := 2) hs2 ?_
      refine g_tsw (tgt := 68) C dX9_filterOf_21 (by decide) (by decide) rfl (by decide) ?_
      refine g_aload_n C dX9_filterOf_68 rfl ?_
      refine gf_X9_12 C dX9_filterOf_69 rfl ?_
      refine gf_X9_237 C dX9_filterOf_72 rfl ?_
      refine g_pc (pc' := 75) rfl ?_
      refine g_iload_n C dX9_filterOf_75 rfl ?_
      refine g_iaz (n := f.toNat) (N := 8) (v := (wfv (vW V) f.toNat : Int)) C dX9_filterOf_76 rfl rfl (by omega) (by omega) (by decide) ((hX.1.2.1.2 f.toNat (by omega)).2.2) ?_
      exact g_ireturn C dX9_filterOf_77 (by rw [show aFilterOf V f a = ((wfv (vW V) f.toNat : Int), V) by unfold aFilterOf; (first | rw [if_pos (by omega)] | rw [if_neg (by omega), if_pos (by omega)] | rw [if_neg (by omega), if_neg (by omega), if_pos (by omega)] | rw [if_neg (by omega), if_neg (by omega), if_neg (by omega), if_pos (by omega)] | rw [if_neg (by omega), if_neg (by omega), if_neg (by omega), if_neg (by omega)])]; exact ⟨rfl, hX, Fr.rf⟩)
  · refine g_aload_n C dX9_filterOf_14 rfl ?_
    refine g_iconst (z := 5) C dX9_filterOf_15 rfl ?_
    refine gc_X9_84 C dX9_filterOf_16 rfl (c_X9_refuse hI (Ml M) σ (y := 5) rfl (by omega)) (by decide) (Nat.le_of_ble_eq_true rfl) (fun z σ1 ⟨hz, hσ⟩ => ?_)
    subst z
    subst σ1
    exact g_ireturn C dX9_filterOf_19 (by rw [show aFilterOf V f a = rfs 5 V by unfold aFilterOf; (first | rw [if_pos (by omega)] | rw [if_neg (by omega), if_pos (by omega)] | rw [if_neg (by omega), if_neg (by omega), if_pos (by omega)] | rw [if_neg (by omega), if_neg (by omega), if_neg (by omega), if_pos (by omega)] | rw [if_neg (by omega), if_neg (by omega), if_neg (by omega), if_neg (by omega)])]; exact ⟨rfl, hX.ref hO (by omega), XC.ref⟩)
set_option maxHeartbeats 4000000 in
set_option maxRecDepth 100000 in
theorem c_X9_joinOf {κ : Kp} (hI : Ij κ) (l : Launch) (σ : St) {V : Vw} (hX : XV σ V) (hO : OKV V) {j a : Int} (hj : R32 j) (ha : R32 a) : CtI κ l 2 yX9_joinOf cX9_joinOf 3 .int [.ref (κ.2.1 76), .int (iZ j), .int (iZ a)] σ (fun z σ' => z = (aJoinOf V j a).1 ∧ XV σ' (aJoinOf V j a).2 ∧ Fr XC σ σ') := by
  refine Ct.ofG (own := RX9) hI (by decide +kernel) rfl (Nat.le_of_ble_eq_true rfl) rfl ?_
  intro M C hMl
  refine g_iload_n C dX9_joinOf_0 rfl ?_
  refine g_aload_n C dX9_joinOf_1 rfl ?_
  refine gf_X9_12 C dX9_joinOf_2 rfl ?_
  refine gf_X9_217 (z := (wnj (vW V) : Int)) C dX9_joinOf_5 rfl hX.1.2.2.1.1 ?_
  have hnj8 := hO.1.2.2.1
  refine gc_X9_80 C dX9_joinOf_8 (c_X9_isBelow hI (Ml M) σ (x := j) (e := (wnj (vW V) : Int)) (by unfold R32; omega) (by unfold R32; omega)) (by decide) (Nat.le_of_ble_eq_true rfl) (fun z σ1 ⟨hz, hσ⟩ => ?_)
  subst z
  subst σ1
  refine g_ifb_eq (tgt := 22) C dX9_joinOf_11 (by decide) (fun h1 => ?_) (fun h1 => ?_)
  · refine g_aload_n C dX9_joinOf_22 rfl ?_
    refine g_pc (pc' := 23) rfl ?_
    refine g_iconst (z := 5) C dX9_joinOf_23 rfl ?_
    refine gc_X9_84 C dX9_joinOf_24 rfl (c_X9_refuse hI (Ml M) σ (y := 5) rfl (by omega)) (by decide) (Nat.le_of_ble_eq_true rfl) (fun z σ1 ⟨hz, hσ⟩ => ?_)
    subst z
    subst σ1
    exact g_ireturn C dX9_joinOf_27 (by rw [show aJoinOf V j a = rfs 5 V by unfold aJoinOf; (first | rw [if_pos (by omega)] | rw [if_neg (by omega), if_pos (by omega)] | rw [if_neg (by omega), if_neg (by omega)])]; exact ⟨rfl, hX.ref hO (by omega), XC.ref⟩)
  · refine g_iload_n C dX9_joinOf_14 rfl ?_
    refine g_iconst (z := 2) C dX9_joinOf_15 rfl ?_
    refine gc_X9_80 C dX9_joinOf_16 (c_X9_isBelow hI (Ml M) σ (x := a) (e := 2) (by unfold R32; omega) (by unfold R32; omega)) (by decide) (Nat.le_of_ble_eq_true rfl) (fun z σ1 ⟨hz, hσ⟩ => ?_)
    subst z
    subst σ1
    refine g_ifb_ne (tgt := 28) C dX9_joinOf_19 (by decide) (fun h2 => ?_) (fun h2 => ?_)
    · refine g_iload_n C dX9_joinOf_28 rfl ?_
      refine g_pc (pc' := 29) rfl ?_
      refine g_if_ne (tgt := 44) C dX9_joinOf_29 (by decide) (by unfold R32; omega) (fun h3 => ?_) (fun h3 => ?_)
      · refine g_aload_n C dX9_joinOf_44 rfl ?_
        refine gf_X9_12 C dX9_joinOf_45 rfl ?_
        refine gf_X9_243 C dX9_joinOf_48 rfl ?_
        refine g_iload_n C dX9_joinOf_51 rfl ?_
        refine g_iaz (n := j.toNat) (N := 8) (v := (wjb (vW V) j.toNat : Int)) C dX9_joinOf_52 rfl rfl (by omega) (by omega) (by decide) ((hX.1.2.2.1.2 j.toNat (by omega)).2) ?_
        exact g_ireturn C dX9_joinOf_53 (by rw [show aJoinOf V j a = ((wjb (vW V) j.toNat : Int), V) by unfold aJoinOf; (first | rw [if_pos (by omega)] | rw [if_neg (by omega), if_pos (by omega)] | rw [if_neg (by omega), if_neg (by omega)])]; exact ⟨rfl, hX, Fr.rf⟩)
      · refine g_aload_n C dX9_joinOf_32 rfl ?_
        refine g_pc (pc' := 33) rfl ?_
        refine gf_X9_12 C dX9_joinOf_33 rfl ?_
        refine gf_X9_240 C dX9_joinOf_36 rfl ?_
        refine g_iload_n C dX9_joinOf_39 rfl ?_
        refine g_iaz (n := j.toNat) (N := 8) (v := (wja (vW V) j.toNat : Int)) C dX9_joinOf_40 rfl rfl (by omega) (by omega) (by decide) ((hX.1.2.2.1.2 j.toNat (by omega)).1) ?_
        refine g_goto (tgt := 53) C dX9_joinOf_41 (by decide) ?_
        exact g_ireturn C dX9_joinOf_53 (by rw [show aJoinOf V j a = ((wja (vW V) j.toNat : Int), V) by unfold aJoinOf; (first | rw [if_pos (by omega)] | rw [if_neg (by omega), if_pos (by omega)] | rw [if_neg (by omega), if_neg (by omega)])]; exact ⟨rfl, hX, Fr.rf⟩)
    · refine g_aload_n C dX9_joinOf_22 rfl ?_
      refine g_iconst (z := 5) C dX9_joinOf_23 rfl ?_
      refine g_pc (pc' := 24) rfl ?_
      refine gc_X9_84 C dX9_joinOf_24 rfl (c_X9_refuse hI (Ml M) σ (y := 5) rfl (by omega)) (by decide) (Nat.le_of_ble_eq_true rfl) (fun z σ1 ⟨hz, hσ⟩ => ?_)
      subst z
      subst σ1
      exact g_ireturn C dX9_joinOf_27 (by rw [show aJoinOf V j a = rfs 5 V by unfold aJoinOf; (first | rw [if_pos (by omega)] | rw [if_neg (by omega), if_pos (by omega)] | rw [if_neg (by omega), if_neg (by omega)])]; exact ⟨rfl, hX.ref hO (by omega), XC.ref⟩)
set_option maxHeartbeats 4000000 in
set_option maxRecDepth 100000 in
theorem c_X9_seed {κ : Kp} (hI : Ij κ) (l : Launch) (σ : St) {V : Vw} (hX : XV σ V) (hO : OKV V) {v : Int} : CtI κ l 2 yX9_seed cX9_seed 3 .int [.ref (κ.2.1 76), .int (iZ v)] σ (fun z σ' => z = (aSeed V v).1 ∧ XV σ' (aSeed V v).2 ∧ Fr XC σ σ') := by
  refine Ct.ofG (own := RX9) hI (by decide +kernel) rfl (Nat.le_of_ble_eq_true rfl) rfl ?_
  intro M C hMl
  refine g_aload_n C dX9_seed_0 rfl ?_
  refine gf_X9_12 C dX9_seed_1 rfl ?_
  refine gf_X9_324 (z := (wsd (vW V))) C dX9_seed_4 rfl hX.1.2.2.2 ?_
  refine g_istore_n (L' := [(2, .int (iZ (wsd (vW V)))), (0, .ref (κ.2.1 76)), (1, .int (iZ v))]) C dX9_seed_7 rfl (by decide) rfl ?_
  refine g_aload_n C dX9_seed_8 rfl ?_
  refine gf_X9_12 C dX9_seed_9 rfl ?_
  refine g_iload_n C dX9_seed_12 rfl ?_
  refine g_pc (pc' := 13) rfl ?_
  refine gp_X9_324 C dX9_seed_13 rfl ?_
  refine g_iload_n C dX9_seed_16 rfl ?_
  exact g_ireturn C dX9_seed_17 ⟨rfl, hX.world hO (S := fun k => k = 0) (Fr.rf.sI rfl) (fun k _ _ e => by omega) (hX.1.seed v), Fr.rf.sI (by unfold XC; omega)⟩
set_option maxHeartbeats 4000000 in
set_option maxRecDepth 100000 in
theorem c_X9_fault {κ : Kp} (hI : Ij κ) (l : Launch) (σ : St) {V : Vw} (hX : XV σ V) (hO : OKV V) : CtI κ l 2 yX9_fault cX9_fault 1 .int [.ref (κ.2.1 76)] σ (fun z σ' => z = vF V ∧ XV σ' V ∧ Fr XC σ σ') := by
  refine Ct.ofG (own := RX9) hI (by decide +kernel) rfl (Nat.le_of_ble_eq_true rfl) rfl ?_
  intro M C hMl
  refine g_aload_n C dX9_fault_0 rfl ?_
  refine gf_X9_71 (z := (vF V)) C dX9_fault_1 rfl hX.2.2.2.2.1 ?_
  exact g_ireturn C dX9_fault_4 ⟨rfl, hX, Fr.rf⟩

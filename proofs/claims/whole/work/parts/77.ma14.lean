/-! THE MODEL: rows counted -/
theorem fA_le {w : Wv} {t i m : Nat} : ∀ {n : Nat}, fA w t i n = true → m ≤ n → fA w t i m = true
  | 0, h, hm => by rw [show m = 0 by omega]; exact h
  | n + 1, h, hm => by
    rcases Nat.lt_or_ge m (n + 1) with k | k
    · rw [fA] at h
      exact fA_le (Bool.and_eq_true _ _ ▸ h).1 (by omega)
    · rw [show m = n + 1 by omega]; exact h
theorem pJ_le {w : Wv} {s t m : Nat} {a : Nat → Nat} : ∀ {n : Nat}, pJ w s a t n = true → m ≤ n → pJ w s a t m = true
  | 0, h, hm => by rw [show m = 0 by omega]; exact h
  | n + 1, h, hm => by
    rcases Nat.lt_or_ge m (n + 1) with k | k
    · rw [pJ] at h
      exact pJ_le (Bool.and_eq_true _ _ ▸ h).1 (by omega)
    · rw [show m = n + 1 by omega]; exact h
theorem fP_v {w : Wv} {f v : Nat} (h : (wfs w f = 0 ∧ v < wfv w f) ∨ (wfs w f = 1 ∧ v = wfv w f) ∨ (wfs w f ≠ 0 ∧ wfs w f ≠ 1 ∧ wfv w f < v)) : fP w f v = true := by
  unfold fP
  rcases h with h | h | h
  · rw [if_pos h.1]; exact decide_eq_true h.2
  · rw [if_neg (by omega), if_pos h.1]; exact decide_eq_true h.2
  · rw [if_neg h.1, if_neg h.2.1]; exact decide_eq_true h.2.2
theorem fP_n {w : Wv} {f v : Nat} (h : (wfs w f = 0 ∧ ¬ v < wfv w f) ∨ (wfs w f = 1 ∧ ¬ v = wfv w f) ∨ (wfs w f ≠ 0 ∧ wfs w f ≠ 1 ∧ ¬ wfv w f < v)) : fP w f v = false := by
  unfold fP
  rcases h with h | h | h
  · rw [if_pos h.1]; exact decide_eq_false h.2
  · rw [if_neg (by omega), if_pos h.1]; exact decide_eq_false h.2
  · rw [if_neg h.1, if_neg h.2.1]; exact decide_eq_false h.2.2
theorem fA_n {w : Wv} {t i f : Nat} (h1 : wfp w f / 3 = t) (h2 : fP w f (wv w t i (wfp w f % 3)) = false) (hf : f < wnf w) : ¬ fA w t i (wnf w) = true := fun e => by
  have := fA_le e (show f + 1 ≤ wnf w from hf)
  rw [fA, if_pos h1, h2] at this
  exact absurd this (by simp)
theorem pJ_n {w : Wv} {s t j : Nat} {a : Nat → Nat} (h1 : wjb w j / 3 = t ∧ bitv s (wja w j / 3) = 1) (h2 : eqL w (wja w j) (wjb w j) (a (wja w j / 3)) (a t) = false) (hj : j < wnj w) : ¬ pJ w s a t (wnj w) = true := fun e => by
  have := pJ_le e (show j + 1 ≤ wnj w from hj)
  rw [pJ, if_pos h1, h2] at this
  exact absurd this (by simp)
set_option maxHeartbeats 4000000 in
set_option maxRecDepth 100000 in
theorem c_X10_passesFilters {κ : Kp} (hI : Ij κ) (l : Launch) (σ : St) {w : Wv} (hM : MW σ w) (hW : OKW w) {t i : Nat} {zt : Int} (hzt : zt = (t : Int)) (ht : t < 5) (hl : σ.1 143 t = (i : Int)) (hi : i < wl w t) : CtI κ l 1 yX10_passesFilters cX10_passesFilters 5 .boolean [.ref (κ.2.1 105), .int (iZ zt)] σ (fun z σ' => z = bZ (fA w t i (wnf w) = true) ∧ σ' = σ) := by
  refine Ct.ofG (own := RX10) hI (by decide +kernel) rfl (Nat.le_of_ble_eq_true rfl) rfl ?_
  intro M C hMl
  have hto := hW.1 t ht
  have hnf8 := hW.2.1.1
  refine g_iconst (z := 0) C dX10_passesFilters_0 rfl ?_
  refine g_istore_n (L' := [(2, .int (iZ 0)), (0, .ref (κ.2.1 105)), (1, .int (iZ zt))]) C dX10_passesFilters_1 rfl (by decide) rfl ?_
  have lp2 : ∀ (fz9 : Nat) (f : Nat) (x2 : Int), (wnf w - f < fz9) → (x2 = (f : Int)) → (f ≤ wnf w) → (fA w t i f = true) → G M κ 5 (En M κ (qI κ (fun z σ' => z = bZ (fA w t i (wnf w) = true) ∧ σ' = σ))) 2 [(0, .ref (κ.2.1 105)), (1, .int (iZ zt)), (2, .int (iZ x2))] [] σ := by
    intro fz9
    induction fz9 with
    | zero => intro f x2 hm0; exact absurd hm0 (Nat.not_lt_zero _)
    | succ fz9 ih2 =>
      intro f x2 hm2 hx2 hf hA
      refine g_iload_n C dX10_passesFilters_2 rfl ?_
      refine g_aload_n C dX10_passesFilters_3 rfl ?_
      refine gf_X10_174 (z := (wnf w : Int)) C dX10_passesFilters_4 rfl hM.2.1.1 ?_
      refine g_icmp_ge (tgt := 101) C dX10_passesFilters_7 (by decide) (by unfold R32; omega) (fun h1 => ?_) (fun h1 => ?_)
      · refine g_iconst (z := 1) C dX10_passesFilters_101 rfl ?_
        refine g_pc (pc' := 102) rfl ?_
        exact g_zreturn C dX10_passesFilters_102 (by omega) ⟨by rw [show wnf w = f by omega]; exact (bZ_t hA).symm, rfl⟩
      · have hfo := hW.2.1.2 f (by omega)
        refine g_aload_n C dX10_passesFilters_10 rfl ?_
        refine gf_X10_25 C dX10_passesFilters_11 rfl ?_
        refine g_iload_n C dX10_passesFilters_14 rfl ?_
        refine g_iaz (n := f) (N := 8) (v := (wfp w f : Int)) C dX10_passesFilters_15 rfl rfl (by omega) (by omega) (by decide) ((hM.2.1.2 f (by omega)).1) ?_
        refine g_iconst (z := 3) C dX10_passesFilters_16 rfl ?_
        refine g_idiv C dX10_passesFilters_17 (by omega) ?_
        refine g_iload_n C dX10_passesFilters_18 rfl ?_
        refine g_pc (pc' := 19) rfl ?_
        refine g_icmp_eq (tgt := 25) C dX10_passesFilters_19 (by decide) (by unfold R32; omega) (fun h2 => ?_) (fun h2 => ?_)
        · have hpt : wfp w f / 3 = t := by omega
          refine g_aload_n C dX10_passesFilters_25 rfl ?_
          refine g_aload_n C dX10_passesFilters_26 rfl ?_
          refine gf_X10_25 C dX10_passesFilters_27 rfl ?_
          refine g_iload_n C dX10_passesFilters_30 rfl ?_
          refine g_iaz (n := f) (N := 8) (v := (wfp w f : Int)) C dX10_passesFilters_31 rfl rfl (by omega) (by omega) (by decide) ((hM.2.1.2 f (by omega)).1) ?_
          refine g_aload_n C dX10_passesFilters_32 rfl ?_
          refine gf_X10_98 C dX10_passesFilters_33 rfl ?_
          refine g_pc (pc' := 36) rfl ?_
          refine g_iload_n C dX10_passesFilters_36 rfl ?_
          refine g_iaz (n := t) (N := 5) (v := (i : Int)) C dX10_passesFilters_37 rfl rfl (by omega) (by omega) (by decide) hl ?_
          have hvv := (hM.1 t ht).2.2.2 i hi (wfp w f % 3) (by omega)
          have hvb := hto.2.2.2 i hi (wfp w f % 3) (by omega)
          refine gc_X10_149 C dX10_passesFilters_38 rfl (c_X10_valueAt hI (Ml M) σ (p := wfp w f) (i := i) (by omega) (by omega) (by omega) (by omega)) (by decide) (Nat.le_of_ble_eq_true rfl) (fun zv σ9 ⟨hzv, hσ⟩ => ?_)
          subst σ9
          rw [hpt, hvv] at hzv
          subst zv
          refine g_istore_n (L' := [(3, .int (iZ (wv w t i (wfp w f % 3) : Int))), (0, .ref (κ.2.1 105)), (1, .int (iZ zt)), (2, .int (iZ x2))]) C dX10_passesFilters_41 rfl (by decide) rfl ?_
          refine g_aload_n C dX10_passesFilters_42 rfl ?_
          refine gf_X10_31 C dX10_passesFilters_43 rfl ?_
          refine g_iload_n C dX10_passesFilters_46 rfl ?_
          refine g_iaz (n := f) (N := 8) (v := (wfv w f : Int)) C dX10_passesFilters_47 rfl rfl (by omega) (by omega) (by decide) ((hM.2.1.2 f (by omega)).2.2) ?_
          refine g_pc (pc' := 48) rfl ?_
          refine g_istore (L' := [(4, .int (iZ (wfv w f : Int))), (3, .int (iZ (wv w t i (wfp w f % 3) : Int))), (0, .ref (κ.2.1 105)), (1, .int (iZ zt)), (2, .int (iZ x2))]) C dX10_passesFilters_48 (by decide) rfl ?_
          refine g_aload_n C dX10_passesFilters_50 rfl ?_
          refine gf_X10_28 C dX10_passesFilters_51 rfl ?_
          refine g_iload_n C dX10_passesFilters_54 rfl ?_
          refine g_iaz (n := f) (N := 8) (v := (wfs w f : Int)) C dX10_passesFilters_55 rfl rfl (by omega) (by omega) (by decide) ((hM.2.1.2 f (by omega)).2.1) ?_
          refine g_if_ne (tgt := 68) C dX10_passesFilters_56 (by decide) (by unfold R32; omega) (fun h3 => ?_) (fun h3 => ?_)
          · refine g_aload_n C dX10_passesFilters_68 rfl ?_
            refine gf_X10_28 C dX10_passesFilters_69 rfl ?_
            refine g_pc (pc' := 72) rfl ?_
            refine g_iload_n C dX10_passesFilters_72 rfl ?_
            refine g_iaz (n := f) (N := 8) (v := (wfs w f : Int)) C dX10_passesFilters_73 rfl rfl (by omega) (by omega) (by decide) ((hM.2.1.2 f (by omega)).2.1) ?_
            refine g_iconst (z := 1) C dX10_passesFilters_74 rfl ?_
            refine g_icmp_ne (tgt := 87) C dX10_passesFilters_75 (by decide) (by unfold R32; omega) (fun h4 => ?_) (fun h4 => ?_)
            · refine g_iload_n C dX10_passesFilters_87 rfl ?_
              refine g_iload C dX10_passesFilters_88 rfl ?_
              refine g_icmp_gt (tgt := 95) C dX10_passesFilters_90 (by decide) (by unfold R32; omega) (fun h5 => ?_) (fun h5 => ?_)
              · refine g_iinc (q := 4) (v := (x2 + 1)) (L' := [(2, .int (iZ (x2 + 1))), (4, .int (iZ (wfv w f : Int))), (3, .int (iZ (wv w t i (wfp w f % 3) : Int))), (0, .ref (κ.2.1 105)), (1, .int (iZ zt))]) C dX10_passesFilters_95 rfl rfl (by decide) rfl ?_
                refine g_pc (pc' := 98) rfl ?_
                refine g_goto (tgt := 2) C dX10_passesFilters_98 (by decide) ?_
                exact g_loc [3, 4, 0] (by rfl) (ih2 (f + 1) (x2 + 1) (by omega) (by omega) (by omega) (by rw [fA, hA, Bool.true_and]; first | (rw [if_neg (by omega)]) | (rw [if_pos (by omega)]; subst hpt; exact fP_v (by omega))))
              · refine g_iconst (z := 0) C dX10_passesFilters_93 rfl ?_
                exact g_zreturn C dX10_passesFilters_94 (by omega) ⟨(bZ_f (fA_n hpt (fP_n (by omega)) (by omega))).symm, rfl⟩
            · refine g_iload_n C dX10_passesFilters_78 rfl ?_
              refine g_iload C dX10_passesFilters_79 rfl ?_
              refine g_icmp_eq (tgt := 95) C dX10_passesFilters_81 (by decide) (by unfold R32; omega) (fun h6 => ?_) (fun h6 => ?_)
              · refine g_iinc (q := 4) (v := (x2 + 1)) (L' := [(2, .int (iZ (x2 + 1))), (4, .int (iZ (wfv w f : Int))), (3, .int (iZ (wv w t i (wfp w f % 3) : Int))), (0, .ref (κ.2.1 105)), (1, .int (iZ zt))]) C dX10_passesFilters_95 rfl rfl (by decide) rfl ?_
                refine g_goto (tgt := 2) C dX10_passesFilters_98 (by decide) ?_
                exact g_loc [3, 4, 0] (by rfl) (ih2 (f + 1) (x2 + 1) (by omega) (by omega) (by omega) (by rw [fA, hA, Bool.true_and]; first | (rw [if_neg (by omega)]) | (rw [if_pos (by omega)]; subst hpt; exact fP_v (by omega))))
              · refine g_pc (pc' := 84) rfl ?_
                refine g_goto (tgt := 93) C dX10_passesFilters_84 (by decide) ?_
                refine g_iconst (z := 0) C dX10_passesFilters_93 rfl ?_
                exact g_zreturn C dX10_passesFilters_94 (by omega) ⟨(bZ_f (fA_n hpt (fP_n (by omega)) (by omega))).symm, rfl⟩
          · refine g_iload_n C dX10_passesFilters_59 rfl ?_
            refine g_iload C dX10_passesFilters_60 rfl ?_
            refine g_icmp_lt (tgt := 95) C dX10_passesFilters_62 (by decide) (by unfold R32; omega) (fun h7 => ?_) (fun h7 => ?_)
            · refine g_iinc (q := 4) (v := (x2 + 1)) (L' := [(2, .int (iZ (x2 + 1))), (4, .int (iZ (wfv w f : Int))), (3, .int (iZ (wv w t i (wfp w f % 3) : Int))), (0, .ref (κ.2.1 105)), (1, .int (iZ zt))]) C dX10_passesFilters_95 rfl rfl (by decide) rfl ?_
              refine g_goto (tgt := 2) C dX10_passesFilters_98 (by decide) ?_
              exact g_loc [3, 4, 0] (by rfl) (ih2 (f + 1) (x2 + 1) (by omega) (by omega) (by omega) (by rw [fA, hA, Bool.true_and]; first | (rw [if_neg (by omega)]) | (rw [if_pos (by omega)]; subst hpt; exact fP_v (by omega))))
            · refine g_pc (pc' := 65) rfl ?_
              refine g_goto (tgt := 93) C dX10_passesFilters_65 (by decide) ?_
              refine g_iconst (z := 0) C dX10_passesFilters_93 rfl ?_
              exact g_zreturn C dX10_passesFilters_94 (by omega) ⟨(bZ_f (fA_n hpt (fP_n (by omega)) (by omega))).symm, rfl⟩
        · refine g_goto (tgt := 95) C dX10_passesFilters_22 (by decide) ?_
          refine g_iinc (q := 2) (v := (x2 + 1)) (L' := [(2, .int (iZ (x2 + 1))), (0, .ref (κ.2.1 105)), (1, .int (iZ zt))]) C dX10_passesFilters_95 rfl rfl (by decide) rfl ?_
          refine g_goto (tgt := 2) C dX10_passesFilters_98 (by decide) ?_
          exact g_loc [1, 2, 0] (by rfl) (ih2 (f + 1) (x2 + 1) (by omega) (by omega) (by omega) (by rw [fA, hA, Bool.true_and]; first | (rw [if_neg (by omega)]) | (rw [if_pos (by omega)]; subst hpt; exact fP_v (by omega))))
  exact g_loc [1, 2, 0] (by rfl) (lp2 _ 0 0 (Nat.lt_succ_self _) rfl (Nat.zero_le _) rfl)
set_option maxHeartbeats 4000000 in
set_option maxRecDepth 100000 in
theorem c_X10_passesJoins {κ : Kp} (hI : Ij κ) (l : Launch) (σ : St) {w : Wv} (hM : MW σ w) (hW : OKW w) {t s : Nat} {a : Nat → Nat} {zt zs : Int} (hzt : zt = (t : Int)) (hzs : zs = (s : Int)) (ht : t < 5) (hs32 : s < 32) (hl : ∀ u, u < t → bitv s u = 1 → σ.1 143 u = (a u : Int) ∧ a u < wl w u) (hlt : σ.1 143 t = (a t : Int)) (hat : a t < wl w t) : CtI κ l 1 yX10_passesJoins cX10_passesJoins 4 .boolean [.ref (κ.2.1 105), .int (iZ zt), .int (iZ zs)] σ (fun z σ' => z = bZ (pJ w s a t (wnj w) = true) ∧ σ' = σ) := by
  refine Ct.ofG (own := RX10) hI (by decide +kernel) rfl (Nat.le_of_ble_eq_true rfl) rfl ?_
  intro M C hMl
  have hto := hW.1 t ht
  have hnj8 := hW.2.2.1
  refine g_iconst (z := 0) C dX10_passesJoins_0 rfl ?_
  refine g_istore_n (L' := [(3, .int (iZ 0)), (0, .ref (κ.2.1 105)), (1, .int (iZ zt)), (2, .int (iZ zs))]) C dX10_passesJoins_1 rfl (by decide) rfl ?_
  have lp2 : ∀ (fz9 : Nat) (j : Nat) (x3 : Int), (wnj w - j < fz9) → (x3 = (j : Int)) → (j ≤ wnj w) → (pJ w s a t j = true) → G M κ 4 (En M κ (qI κ (fun z σ' => z = bZ (pJ w s a t (wnj w) = true) ∧ σ' = σ))) 2 [(0, .ref (κ.2.1 105)), (1, .int (iZ zt)), (2, .int (iZ zs)), (3, .int (iZ x3))] [] σ := by
    intro fz9
    induction fz9 with
    | zero => intro j x3 hm0; exact absurd hm0 (Nat.not_lt_zero _)
    | succ fz9 ih2 =>
      intro j x3 hm2 hx3 hj hA
      refine g_iload_n C dX10_passesJoins_2 rfl ?_
      refine g_aload_n C dX10_passesJoins_3 rfl ?_
      refine gf_X10_192 (z := (wnj w : Int)) C dX10_passesJoins_4 rfl hM.2.2.1.1 ?_
      refine g_icmp_ge (tgt := 90) C dX10_passesJoins_7 (by decide) (by unfold R32; omega) (fun h1 => ?_) (fun h1 => ?_)
      · refine g_iconst (z := 1) C dX10_passesJoins_90 rfl ?_
        refine g_pc (pc' := 91) rfl ?_
        exact g_zreturn C dX10_passesJoins_91 (by omega) ⟨by rw [show wnj w = j by omega]; exact (bZ_t hA).symm, rfl⟩
      · have hjo := hW.2.2.2 j (by omega)
        refine g_aload_n C dX10_passesJoins_10 rfl ?_
        refine gf_X10_37 C dX10_passesJoins_11 rfl ?_
        refine g_iload_n C dX10_passesJoins_14 rfl ?_
        refine g_iaz (n := j) (N := 8) (v := (wjb w j : Int)) C dX10_passesJoins_15 rfl rfl (by omega) (by omega) (by decide) ((hM.2.2.1.2 j (by omega)).2) ?_
        refine g_iconst (z := 3) C dX10_passesJoins_16 rfl ?_
        refine g_idiv C dX10_passesJoins_17 (by omega) ?_
        refine g_iload_n C dX10_passesJoins_18 rfl ?_
        refine g_pc (pc' := 19) rfl ?_
        refine g_icmp_ne (tgt := 84) C dX10_passesJoins_19 (by decide) (by unfold R32; omega) (fun h2 => ?_) (fun h2 => ?_)
        · refine g_iinc (q := 3) (v := (x3 + 1)) (L' := [(3, .int (iZ (x3 + 1))), (0, .ref (κ.2.1 105)), (1, .int (iZ zt)), (2, .int (iZ zs))]) C dX10_passesJoins_84 rfl rfl (by decide) rfl ?_
          refine g_goto (tgt := 2) C dX10_passesJoins_87 (by decide) ?_
          exact g_loc [1, 2, 3, 0] (by rfl) (ih2 (j + 1) (x3 + 1) (by omega) (by omega) (by omega) (by rw [pJ, hA, Bool.true_and]; first | (rw [if_neg (by omega)]) | (rw [if_pos (by omega)]; unfold eqL; rw [hjt]; exact decide_eq_true (by omega))))
        · refine g_iload_n C dX10_passesJoins_22 rfl ?_
          refine g_aload_n C dX10_passesJoins_23 rfl ?_
          refine gf_X10_34 C dX10_passesJoins_24 rfl ?_
          refine g_iload_n C dX10_passesJoins_27 rfl ?_
          refine g_iaz (n := j) (N := 8) (v := (wja w j : Int)) C dX10_passesJoins_28 rfl rfl (by omega) (by omega) (by decide) ((hM.2.2.1.2 j (by omega)).1) ?_
          refine g_pc (pc' := 29) rfl ?_
          refine g_iconst (z := 3) C dX10_passesJoins_29 rfl ?_
          refine g_idiv C dX10_passesJoins_30 (by omega) ?_
          refine gc_X10_184 C dX10_passesJoins_31 (c_X10_has hI (Ml M) σ (s := s) (k := ((wja w j) / 3)) (by omega) (by omega) (by omega) (by omega)) (by decide) (Nat.le_of_ble_eq_true rfl) (fun z σ9 ⟨hz, hσ⟩ => ?_)
          subst z
          subst σ9
          refine g_ifb_ne (tgt := 40) C dX10_passesJoins_34 (by decide) (fun h3 => ?_) (fun h3 => ?_)
          · have hjt : wjb w j / 3 = t := by omega
            have hla := hl (wja w j / 3) (by omega) (by omega)
            have hto2 := hW.1 (wja w j / 3) (by omega)
            refine g_aload_n C dX10_passesJoins_40 rfl ?_
            refine g_aload_n C dX10_passesJoins_41 rfl ?_
            refine gf_X10_34 C dX10_passesJoins_42 rfl ?_
            refine g_iload_n C dX10_passesJoins_45 rfl ?_
            refine g_pc (pc' := 46) rfl ?_
            refine g_iaz (n := j) (N := 8) (v := (wja w j : Int)) C dX10_passesJoins_46 rfl rfl (by omega) (by omega) (by decide) ((hM.2.2.1.2 j (by omega)).1) ?_
            refine g_aload_n C dX10_passesJoins_47 rfl ?_
            refine gf_X10_98 C dX10_passesJoins_48 rfl ?_
            refine g_aload_n C dX10_passesJoins_51 rfl ?_
            refine gf_X10_34 C dX10_passesJoins_52 rfl ?_
            refine g_iload_n C dX10_passesJoins_55 rfl ?_
            refine g_iaz (n := j) (N := 8) (v := (wja w j : Int)) C dX10_passesJoins_56 rfl rfl (by omega) (by omega) (by decide) ((hM.2.2.1.2 j (by omega)).1) ?_
            refine g_iconst (z := 3) C dX10_passesJoins_57 rfl ?_
            refine g_pc (pc' := 58) rfl ?_
            refine g_idiv C dX10_passesJoins_58 (by omega) ?_
            refine g_iaz (n := ((wja w j) / 3)) (N := 5) (v := (a (wja w j / 3) : Int)) C dX10_passesJoins_59 rfl rfl (by omega) (by omega) (by decide) hla.1 ?_
            have hv1 := (hM.1 (wja w j / 3) (by omega)).2.2.2 _ hla.2 (wja w j % 3) (by omega)
            have hb1 := hto2.2.2.2 _ hla.2 (wja w j % 3) (by omega)
            refine gc_X10_149 C dX10_passesJoins_60 rfl (c_X10_valueAt hI (Ml M) σ (p := wja w j) (i := a (wja w j / 3)) rfl rfl (by omega) (by omega)) (by decide) (Nat.le_of_ble_eq_true rfl) (fun zv σ9 ⟨hzv, hσ⟩ => ?_)
            subst σ9
            rw [hv1] at hzv
            subst zv
            refine g_aload_n C dX10_passesJoins_63 rfl ?_
            refine g_aload_n C dX10_passesJoins_64 rfl ?_
            refine gf_X10_37 C dX10_passesJoins_65 rfl ?_
            refine g_iload_n C dX10_passesJoins_68 rfl ?_
            refine g_iaz (n := j) (N := 8) (v := (wjb w j : Int)) C dX10_passesJoins_69 rfl rfl (by omega) (by omega) (by decide) ((hM.2.2.1.2 j (by omega)).2) ?_
            refine g_pc (pc' := 70) rfl ?_
            refine g_aload_n C dX10_passesJoins_70 rfl ?_
            refine gf_X10_98 C dX10_passesJoins_71 rfl ?_
            refine g_iload_n C dX10_passesJoins_74 rfl ?_
            refine g_iaz (n := t) (N := 5) (v := (a t : Int)) C dX10_passesJoins_75 rfl rfl (by omega) (by omega) (by decide) hlt ?_
            have hv2 := (hM.1 t ht).2.2.2 _ hat (wjb w j % 3) (by omega)
            have hb2 := hto.2.2.2 _ hat (wjb w j % 3) (by omega)
            refine gc_X10_149 C dX10_passesJoins_76 rfl (c_X10_valueAt hI (Ml M) σ (p := wjb w j) (i := a t) rfl rfl (by omega) (by omega)) (by decide) (Nat.le_of_ble_eq_true rfl) (fun zv2 σ9 ⟨hzv2, hσ⟩ => ?_)
            subst σ9
            rw [hjt, hv2] at hzv2
            subst zv2
            refine g_icmp_eq (tgt := 84) C dX10_passesJoins_79 (by decide) (by unfold R32; omega) (fun h4 => ?_) (fun h4 => ?_)
            · refine g_iinc (q := 3) (v := (x3 + 1)) (L' := [(3, .int (iZ (x3 + 1))), (0, .ref (κ.2.1 105)), (1, .int (iZ zt)), (2, .int (iZ zs))]) C dX10_passesJoins_84 rfl rfl (by decide) rfl ?_
              refine g_goto (tgt := 2) C dX10_passesJoins_87 (by decide) ?_
              exact g_loc [1, 2, 3, 0] (by rfl) (ih2 (j + 1) (x3 + 1) (by omega) (by omega) (by omega) (by rw [pJ, hA, Bool.true_and]; first | (rw [if_neg (by omega)]) | (rw [if_pos (by omega)]; unfold eqL; rw [hjt]; exact decide_eq_true (by omega))))
            · refine g_pc (pc' := 82) rfl ?_
              refine g_iconst (z := 0) C dX10_passesJoins_82 rfl ?_
              exact g_zreturn C dX10_passesJoins_83 (by omega) ⟨(bZ_f (pJ_n ⟨hjt, by omega⟩ (by unfold eqL; rw [hjt]; exact decide_eq_false (by omega)) (by omega))).symm, rfl⟩
          · refine g_goto (tgt := 84) C dX10_passesJoins_37 (by decide) ?_
            refine g_iinc (q := 3) (v := (x3 + 1)) (L' := [(3, .int (iZ (x3 + 1))), (0, .ref (κ.2.1 105)), (1, .int (iZ zt)), (2, .int (iZ zs))]) C dX10_passesJoins_84 rfl rfl (by decide) rfl ?_
            refine g_goto (tgt := 2) C dX10_passesJoins_87 (by decide) ?_
            exact g_loc [1, 2, 3, 0] (by rfl) (ih2 (j + 1) (x3 + 1) (by omega) (by omega) (by omega) (by rw [pJ, hA, Bool.true_and]; first | (rw [if_neg (by omega)]) | (rw [if_pos (by omega)]; unfold eqL; rw [hjt]; exact decide_eq_true (by omega))))
  exact g_loc [1, 2, 3, 0] (by rfl) (lp2 _ 0 0 (Nat.lt_succ_self _) rfl (Nat.zero_le _) rfl)
set_option maxHeartbeats 4000000 in
set_option maxRecDepth 100000 in
theorem c_X10_nextOf {κ : Kp} (hI : Ij κ) (l : Launch) (σ : St) {s k : Nat} {zs zt : Int} (hs : zs = (s : Int)) (hk : zt + 1 = (k : Int)) (hs32 : s < 32) (hk5 : k ≤ 5) : CtI κ l 1 yX10_nextOf cX10_nextOf 3 .int [.int (iZ zs), .int (iZ zt)] σ (fun z σ' => z = (nxF s (5 - k) k : Int) ∧ σ' = σ) := by
  refine Ct.ofG (own := RX10) hI (by decide +kernel) rfl (Nat.le_of_ble_eq_true rfl) rfl ?_
  intro M C hMl
  refine g_iload_n C dX10_nextOf_0 rfl ?_
  refine g_iconst (z := 1) C dX10_nextOf_1 rfl ?_
  refine g_iadd C dX10_nextOf_2 ?_
  refine g_istore_n (L' := [(2, .int (iZ (zt + 1))), (0, .int (iZ zs)), (1, .int (iZ zt))]) C dX10_nextOf_3 rfl (by decide) rfl ?_
  have lp4 : ∀ (fz9 : Nat) (u : Nat) (x2 : Int), (5 - u < fz9) → (x2 = (u : Int)) → (u ≤ 5) → (nxF s (5 - k) k = nxF s (5 - u) u) → G M κ 3 (En M κ (qI κ (fun z σ' => z = (nxF s (5 - k) k : Int) ∧ σ' = σ))) 4 [(0, .int (iZ zs)), (1, .int (iZ zt)), (2, .int (iZ x2))] [] σ := by
    intro fz9
    induction fz9 with
    | zero => intro u x2 hm0; exact absurd hm0 (Nat.not_lt_zero _)
    | succ fz9 ih4 =>
      intro u x2 hm4 hx2 hu hE
      refine g_iload_n C dX10_nextOf_4 rfl ?_
      refine g_iconst (z := 5) C dX10_nextOf_5 rfl ?_
      refine g_icmp_ge (tgt := 23) C dX10_nextOf_6 (by decide) (by unfold R32; omega) (fun h1 => ?_) (fun h1 => ?_)
      · refine g_pc (pc' := 23) rfl ?_
        refine g_iload_n C dX10_nextOf_23 rfl ?_
        exact g_ireturn C dX10_nextOf_24 ⟨by rw [hE]; first | (rw [show 5 - u = 0 by omega]; exact hx2) | (rw [show 5 - u = (5 - (u + 1)) + 1 by omega, nxF, if_neg (fun e => e.2 (by assumption))]; exact hx2), rfl⟩
      · refine g_iload_n C dX10_nextOf_9 rfl ?_
        refine g_iload_n C dX10_nextOf_10 rfl ?_
        refine gc_X10_184 C dX10_nextOf_11 (c_X10_has hI (Ml M) σ (s := s) (k := u) (by omega) (by omega) (by omega) (by omega)) (by decide) (Nat.le_of_ble_eq_true rfl) (fun z σ9 ⟨hz, hσ⟩ => ?_)
        subst z
        subst σ9
        refine g_ifb_ne (tgt := 23) C dX10_nextOf_14 (by decide) (fun h2 => ?_) (fun h2 => ?_)
        · refine g_iload_n C dX10_nextOf_23 rfl ?_
          exact g_ireturn C dX10_nextOf_24 ⟨by rw [hE]; first | (rw [show 5 - u = 0 by omega]; exact hx2) | (rw [show 5 - u = (5 - (u + 1)) + 1 by omega, nxF, if_neg (fun e => e.2 (by assumption))]; exact hx2), rfl⟩
        · refine g_pc (pc' := 17) rfl ?_
          refine g_iinc (q := 2) (v := (x2 + 1)) (L' := [(2, .int (iZ (x2 + 1))), (0, .int (iZ zs)), (1, .int (iZ zt))]) C dX10_nextOf_17 rfl rfl (by decide) rfl ?_
          refine g_goto (tgt := 4) C dX10_nextOf_20 (by decide) ?_
          exact g_loc [1, 2, 0] (by rfl) (ih4 (u + 1) (x2 + 1) (by omega) (by omega) (by omega) (by rw [hE, show 5 - u = (5 - (u + 1)) + 1 by omega, nxF, if_pos ⟨by omega, by assumption⟩]))
  exact g_loc [1, 2, 0] (by rfl) (lp4 _ k (zt + 1) (Nat.lt_succ_self _) (by omega) hk5 rfl)
set_option maxHeartbeats 4000000 in
set_option maxRecDepth 100000 in
theorem c_X10_aheadOf {κ : Kp} (hI : Ij κ) (l : Launch) (σ : St) {s k : Nat} {zs zt : Int} (hs : zs = (s : Int)) (hk : zt = (k : Int)) (hs32 : s < 32) (hk5 : k ≤ 5) : CtI κ l 1 yX10_aheadOf cX10_aheadOf 3 .int [.int (iZ zs), .int (iZ zt)] σ (fun z σ' => z = pvF s k ∧ σ' = σ) := by
  refine Ct.ofG (own := RX10) hI (by decide +kernel) rfl (Nat.le_of_ble_eq_true rfl) rfl ?_
  intro M C hMl
  refine g_iload_n C dX10_aheadOf_0 rfl ?_
  refine g_iconst (z := 1) C dX10_aheadOf_1 rfl ?_
  refine g_isub C dX10_aheadOf_2 ?_
  refine g_istore_n (L' := [(2, .int (iZ (zt - 1))), (0, .int (iZ zs)), (1, .int (iZ zt))]) C dX10_aheadOf_3 rfl (by decide) rfl ?_
  have lp4 : ∀ (fz9 : Nat) (u : Nat) (x2 : Int), (u < fz9) → (x2 = (u : Int) - 1) → (u ≤ 5) → (pvF s k = pvF s u) → G M κ 3 (En M κ (qI κ (fun z σ' => z = pvF s k ∧ σ' = σ))) 4 [(0, .int (iZ zs)), (1, .int (iZ zt)), (2, .int (iZ x2))] [] σ := by
    intro fz9
    induction fz9 with
    | zero => intro u x2 hm0; exact absurd hm0 (Nat.not_lt_zero _)
    | succ fz9 ih4 =>
      intro u x2 hm4 hx2 hu hE
      refine g_iload_n C dX10_aheadOf_4 rfl ?_
      refine g_if_lt (tgt := 22) C dX10_aheadOf_5 (by decide) (by unfold R32; omega) (fun h1 => ?_) (fun h1 => ?_)
      · refine g_iload_n C dX10_aheadOf_22 rfl ?_
        refine g_pc (pc' := 23) rfl ?_
        exact g_ireturn C dX10_aheadOf_23 ⟨by rw [hE]; first | (rw [show u = 0 by omega]; show _ = (-1 : Int); omega) | (obtain ⟨v, rfl⟩ : ∃ v, u = v + 1 := ⟨u - 1, by omega⟩; rw [pvF, if_pos (by assumption)]; omega), rfl⟩
      · refine g_iload_n C dX10_aheadOf_8 rfl ?_
        refine g_iload_n C dX10_aheadOf_9 rfl ?_
        refine gc_X10_184 C dX10_aheadOf_10 (c_X10_has hI (Ml M) σ (s := s) (k := (u - 1)) (by omega) (by omega) (by omega) (by omega)) (by decide) (Nat.le_of_ble_eq_true rfl) (fun z σ9 ⟨hz, hσ⟩ => ?_)
        subst z
        subst σ9
        refine g_ifb_ne (tgt := 22) C dX10_aheadOf_13 (by decide) (fun h2 => ?_) (fun h2 => ?_)
        · refine g_iload_n C dX10_aheadOf_22 rfl ?_
          exact g_ireturn C dX10_aheadOf_23 ⟨by rw [hE]; first | (rw [show u = 0 by omega]; show _ = (-1 : Int); omega) | (obtain ⟨v, rfl⟩ : ∃ v, u = v + 1 := ⟨u - 1, by omega⟩; rw [pvF, if_pos (by assumption)]; omega), rfl⟩
        · refine g_iinc (q := 2) (v := (x2 + (-1))) (L' := [(2, .int (iZ (x2 + (-1)))), (0, .int (iZ zs)), (1, .int (iZ zt))]) C dX10_aheadOf_16 rfl rfl (by decide) rfl ?_
          refine g_pc (pc' := 19) rfl ?_
          refine g_goto (tgt := 4) C dX10_aheadOf_19 (by decide) ?_
          exact g_loc [1, 2, 0] (by rfl) (ih4 (u - 1) (x2 + (-1)) (by omega) (by omega) (by omega) (by rw [hE]; obtain ⟨v, rfl⟩ : ∃ v, u = v + 1 := ⟨u - 1, by omega⟩; rw [pvF, if_neg (by assumption)]; rfl))
  exact g_loc [1, 2, 0] (by rfl) (lp4 _ k (zt - 1) (Nat.lt_succ_self _) (by omega) hk5 rfl)

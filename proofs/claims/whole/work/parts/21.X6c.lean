/-- the pending lines come behind what a table has -/
def wBring (w : Wv) (r : Rd) : Wv := (fun f x y => if f = 0 then (if x < 5 ∧ y = 0 then wl w x + rp r x else w.1 f x y) else if f = 1 ∧ x < 5 ∧ wl w x * 3 ≤ y ∧ y < (wl w x + rp r x) * 3 then rv r x (y / 3 - wl w x) (y % 3) else w.1 f x y, w.2)
def LC (k : Nat) : Prop := k = 2 ∨ k = 4 ∨ k = 6 ∨ k = 8 ∨ k = 10
def BL (σ s : St) (w : Wv) (r : Rd) (t : Nat) : Prop := Fr LC σ s ∧ (∀ u, u < 5 → s.1 (2 + 2 * u) 1 = (if u < t then ((wl w u + rp r u : Nat) : Int) else (wl w u : Int))) ∧ ∀ u, u < 5 → ∀ j, j ≠ 1 → s.1 (2 + 2 * u) j = σ.1 (2 + 2 * u) j
theorem wBring_l {w : Wv} {r : Rd} {t : Nat} (ht : t < 5) : wl (wBring w r) t = wl w t + rp r t := by simp [wl, wBring, ht]
theorem BL.fin {σ s : St} {w : Wv} {r : Rd} (h : BL σ s w r 5) (hE : RE σ w r) : XW 0 s (wBring w r) := by
  obtain ⟨hF, h1, h2⟩ := h
  obtain ⟨hX, e1, e2, e3, e4⟩ := hE
  refine ⟨fun t ht => ?_, ⟨?_, fun f hf => ?_⟩, ⟨?_, fun j hj => ?_⟩, ?_⟩
  · obtain ⟨b1, b2, b3, b4⟩ := hX.1 t ht
    rw [show 0 + 2 + 2 * t = 2 + 2 * t by omega] at *
    rw [show 0 + 3 + 2 * t = 3 + 2 * t by omega] at *
    have c1 := h1 t ht
    rw [if_pos ht] at c1
    refine ⟨by rw [wBring_l ht]; exact c1, ?_, ?_, fun i hi c hc => ?_⟩
    · rw [h2 t ht 2 (by omega), b2]; simp [wb, wBring]
    · rw [h2 t ht 3 (by omega), b3]; simp [wst, wBring]
    · rw [wBring_l ht] at hi
      rw [hF.1 (3 + 2 * t) (by unfold LC; omega)]
      rcases Nat.lt_or_ge i (wl w t) with q | q
      · rw [b4 i q c hc]
        have n0 : ¬ (t < 5 ∧ wl w t * 3 ≤ i * 3 + c ∧ i * 3 + c < (wl w t + rp r t) * 3) := by omega
        simp [wv, wBring, n0]
      · have := (e3 t ht (i - wl w t) c hc (by omega)).1
        rw [show (wl w t + (i - wl w t)) * 3 + c = i * 3 + c by omega] at this
        rw [this]
        have n0 : t < 5 ∧ wl w t * 3 ≤ i * 3 + c ∧ i * 3 + c < (wl w t + rp r t) * 3 := ⟨ht, by omega, by omega⟩
        have n1 : (i * 3 + c) / 3 - wl w t = i - wl w t := by omega
        have n2 : (i * 3 + c) % 3 = c := by omega
        simp [wv, wBring, n0, n1, n2]
  · rw [hF.1 0 (by unfold LC; omega), hX.2.1.1]; simp [wnf, wBring]
  · have e0 : wnf (wBring w r) = wnf w := by simp [wnf, wBring]
    rw [e0] at hf
    obtain ⟨a1, a2, a3⟩ := hX.2.1.2 f hf
    rw [hF.1 (0 + 12) (by unfold LC; omega), hF.1 (0 + 13) (by unfold LC; omega), hF.1 (0 + 14) (by unfold LC; omega), a1, a2, a3]
    simp [wfp, wfs, wfv, wBring]
  · rw [hF.1 0 (by unfold LC; omega), hX.2.2.1.1]; simp [wnj, wBring]
  · have e0 : wnj (wBring w r) = wnj w := by simp [wnj, wBring]
    rw [e0] at hj
    obtain ⟨a1, a2⟩ := hX.2.2.1.2 j hj
    rw [hF.1 (0 + 15) (by unfold LC; omega), hF.1 (0 + 16) (by unfold LC; omega), a1, a2]
    simp [wja, wjb, wBring]
  · rw [hF.1 0 (by unfold LC; omega), hX.2.2.2]; simp [wsd, wBring]
theorem OKW.bring {w : Wv} {r : Rd} {σ : St} (h : OKW w) (hE : RE σ w r) : OKW (wBring w r) := by
  obtain ⟨hX, e1, e2, e3, e4⟩ := hE
  refine ⟨fun t ht => ?_, ?_, ?_⟩
  · obtain ⟨b1, b2, b3, b4⟩ := h.1 t ht
    refine ⟨by rw [wBring_l ht]; exact e4 t ht, by simpa [wb, wBring] using b2, by simpa [wst, wBring] using b3, fun i hi c hc => ?_⟩
    rw [wBring_l ht] at hi
    rcases Nat.lt_or_ge i (wl w t) with q | q
    · have n0 : ¬ (t < 5 ∧ wl w t * 3 ≤ i * 3 + c ∧ i * 3 + c < (wl w t + rp r t) * 3) := by omega
      have := b4 i q c hc
      simpa [wv, wBring, n0] using this
    · have := (e3 t ht (i - wl w t) c hc (by omega)).2
      have n0 : t < 5 ∧ wl w t * 3 ≤ i * 3 + c ∧ i * 3 + c < (wl w t + rp r t) * 3 := ⟨ht, by omega, by omega⟩
      have n1 : (i * 3 + c) / 3 - wl w t = i - wl w t := by omega
      have n2 : (i * 3 + c) % 3 = c := by omega
      simpa [wv, wBring, n0, n1, n2] using this
  · simpa [wnf, wfp, wfs, wfv, wBring] using h.2.1
  · simpa [wnj, wja, wjb, wBring] using h.2.2
set_option maxHeartbeats 4000000 in
set_option maxRecDepth 100000 in
theorem c_X6_bringLines {κ : Kp} (hI : Ij κ) (l : Launch) (σ : St) {w : Wv} {r : Rd} (hE : RE σ w r) (hW : OKW w) : CtV κ l 1 yX6_bringLines cX6_bringLines 2 [.ref (κ.2.1 103)] σ (fun σ' => Fr LC σ σ' ∧ XW 0 σ' (wBring w r)) := by
  refine Ct.ofG (own := RX6) hI (by decide +kernel) rfl (Nat.le_of_ble_eq_true rfl) rfl ?_
  intro M C hMl
  refine g_iconst (z := 0) C dX6_bringLines_0 rfl ?_
  refine g_istore_n (L' := [(1, .int (iZ 0)), (0, .ref (κ.2.1 103))]) C dX6_bringLines_1 rfl (by decide) rfl ?_
  have lp2 : ∀ (fz9 : Nat) (t : Nat) (x1 : Int) (s : St), (5 - t < fz9) → (x1 = (t : Int)) → (t ≤ 5) → (BL σ s w r t) → G M κ 2 (En M κ (qV κ (fun σ' => Fr LC σ σ' ∧ XW 0 σ' (wBring w r)))) 2 [(0, .ref (κ.2.1 103)), (1, .int (iZ x1))] [] s := by
    intro fz9
    induction fz9 with
    | zero => intro t x1 s hm0; exact absurd hm0 (Nat.not_lt_zero _)
    | succ fz9 ih =>
      intro t x1 s hm2 hx1 ht hB
      refine g_iload_n C dX6_bringLines_2 rfl ?_
      refine g_iconst (z := 5) C dX6_bringLines_3 rfl ?_
      refine g_icmp_ge (tgt := 49) C dX6_bringLines_4 (by decide) (by unfold R32; omega) (fun h1 => ?_) (fun h1 => ?_)
      · exact g_return C dX6_bringLines_49 ⟨hB.1, BL.fin (by rw [show t = 5 by omega] at hB; exact hB) hE⟩
      · have hle := hE.2.2.2.2 t (by omega)
        refine g_aload_n C dX6_bringLines_7 rfl ?_
        refine g_pc (pc' := 8) rfl ?_
        refine gf_X6_31 C dX6_bringLines_8 rfl ?_
        refine gf_X6_61 C dX6_bringLines_11 rfl ?_
        refine g_iload_n C dX6_bringLines_14 rfl ?_
        have hkz2 : kd (2 + 2 * t) = 5 := kd_tab t (by omega)
        refine g_aald (n := t) (N := 5) (c := 23) (r := (2 + 2 * t)) C dX6_bringLines_15 rfl (by decide) rfl (by decide) rfl (by omega) (by omega) (by decide) (rf_23 _ _ rfl) ?_
        refine g_aload_n C dX6_bringLines_16 rfl ?_
        refine gf_X6_31 C dX6_bringLines_17 rfl ?_
        refine gf_X6_61 C dX6_bringLines_20 rfl ?_
        refine g_iload_n C dX6_bringLines_23 rfl ?_
        refine g_pc (pc' := 24) rfl ?_
        have hkz3 : kd (2 + 2 * t) = 5 := kd_tab t (by omega)
        refine g_aald (n := t) (N := 5) (c := 23) (r := (2 + 2 * t)) C dX6_bringLines_24 rfl (by decide) rfl (by decide) rfl (by omega) (by omega) (by decide) (rf_23 _ _ rfl) ?_
        refine gf_X6_67 (z := (wl w t : Int)) C dX6_bringLines_25 hkz3 (by have := hB.2.1 t (by omega); rwa [if_neg (by omega)] at this) ?_
        refine g_aload_n C dX6_bringLines_28 rfl ?_
        refine gf_X6_9 C dX6_bringLines_29 rfl ?_
        refine g_iload_n C dX6_bringLines_32 rfl ?_
        refine g_iaz (n := t) (N := 5) (v := (rp r t : Int)) C dX6_bringLines_33 rfl rfl (by omega) (by omega) (by decide) (by rw [hB.1.1 104 (by unfold LC; omega)]; exact hE.2.1 t (by omega)) ?_
        refine g_iadd C dX6_bringLines_34 ?_
        refine g_bipush (z := 16) C dX6_bringLines_35 rfl ?_
        refine g_pc (pc' := 37) rfl ?_
        refine gm_X6_72 C dX6_bringLines_37 (by unfold R32; omega) (by decide) (Nat.le_of_ble_eq_true rfl) ?_
        refine g_int (z' := ((wl w t + rp r t : Nat) : Int)) (by omega) ?_
        refine gp_X6_67 C dX6_bringLines_40 hkz2 ?_
        refine g_iinc (q := 1) (v := (x1 + 1)) (L' := [(1, .int (iZ (x1 + 1))), (0, .ref (κ.2.1 103))]) C dX6_bringLines_43 rfl rfl (by decide) rfl ?_
        refine g_goto (tgt := 2) C dX6_bringLines_46 (by decide) ?_
        exact g_loc [1, 0] (by rfl) (ih (t + 1) (x1 + 1) (sI s (2 + 2 * t) 1 ((wl w t + rp r t : Nat) : Int)) (by omega) (by omega) (by omega) ⟨hB.1.sI (by unfold LC; omega), fun u hu => by by_cases hut : u = t; (subst hut; rw [rI_s, if_pos (by omega)]); (rw [rI_k (by omega), hB.2.1 u hu]; by_cases hu2 : u < t; rw [if_pos hu2, if_pos (by omega)]; rw [if_neg hu2, if_neg (by omega)]), fun u hu j hj => by by_cases hut : u = t; (subst hut; rw [rI_j hj]; exact hB.2.2 u hu j hj); (rw [rI_k (by omega)]; exact hB.2.2 u hu j hj)⟩)
  exact g_loc [1, 0] (by rfl) (lp2 _ 0 0 σ (Nat.lt_succ_self _) rfl (by omega) ⟨Fr.rf, fun u hu => by rw [if_neg (by omega)]; have := (hE.1.1 u hu).1; rwa [show 0 + 2 + 2 * u = 2 + 2 * u by omega] at this, fun u hu j hj => rfl⟩)

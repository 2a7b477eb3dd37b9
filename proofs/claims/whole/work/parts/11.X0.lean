/-! Histogram -/
set_option maxHeartbeats 4000000 in
set_option maxRecDepth 100000 in
theorem c_X0_insert {κ : Kp} (hI : Ij κ) (l : Launch) (σ : St) {e : Nat} {v ze : Int} (he : ze = (e : Int)) (he16 : e < 16) (hv : R32 v) (hs : ∀ j, j < e → R32 (σ.1 82 j)) : CtV κ l 0 yX0_insert cX0_insert 4 [.ref (κ.2.1 81), .int (iZ v), .int (iZ ze)] σ (fun σ' => σ' = aI σ 82 (insA v e (σ.1 82))) := by
  refine Ct.ofG (own := RX0) hI (by decide +kernel) rfl (Nat.le_of_ble_eq_true rfl) rfl ?_
  intro M C hMl
  refine g_iload_n C dX0_insert_0 rfl ?_
  refine g_istore_n (L' := [(3, .int (iZ ze)), (0, .ref (κ.2.1 81)), (1, .int (iZ v)), (2, .int (iZ ze))]) C dX0_insert_1 rfl (by decide) rfl ?_
  have lp2 : ∀ (n : Nat) (p : Nat) (x3 : Int) (g : Nat → Int), (p < n) → (x3 = (p : Int)) → (p < 16) → (∀ j, j < p → R32 (g j)) → (insA v p g = insA v e (σ.1 82)) → G M κ 4 (En M κ (qV κ (fun σ' => σ' = aI σ 82 (insA v e (σ.1 82))))) 2 [(0, .ref (κ.2.1 81)), (1, .int (iZ v)), (2, .int (iZ ze)), (3, .int (iZ x3))] [] (aI σ 82 g) := by
    intro n
    induction n with
    | zero => intro p x3 g hm0; exact absurd hm0 (Nat.not_lt_zero _)
    | succ n ih =>
      intro p x3 g hm2 hx3 hp hg hI2
      refine g_iload_n C dX0_insert_2 rfl ?_
      refine g_if_le (tgt := 38) C dX0_insert_3 (by decide) (by unfold R32; omega) (fun h1 => ?_) (fun h1 => ?_)
      · refine g_aload_n C dX0_insert_38 rfl ?_
        refine gf_X0_9 C dX0_insert_39 rfl ?_
        refine g_iload_n C dX0_insert_42 rfl ?_
        refine g_pc (pc' := 43) rfl ?_
        refine g_iload_n C dX0_insert_43 rfl ?_
        refine g_iast (n := p) (N := 16) C dX0_insert_44 rfl rfl (by omega) (by omega) (by decide) ?_
        rw [sI_aI]
        exact g_return C dX0_insert_45 (by rw [← hI2]; rcases Nat.eq_zero_or_pos p with q | q; (subst q; rfl); first | (exfalso; omega) | (obtain ⟨p0, rfl⟩ : ∃ p0, p = p0 + 1 := ⟨p - 1, by omega⟩; rw [Nat.add_sub_cancel] at *; rw [insA, if_neg (by omega)]))
      · refine g_aload_n C dX0_insert_6 rfl ?_
        refine gf_X0_9 C dX0_insert_7 rfl ?_
        refine g_iload_n C dX0_insert_10 rfl ?_
        refine g_iconst (z := 1) C dX0_insert_11 rfl ?_
        refine g_isub C dX0_insert_12 ?_
        refine g_pc (pc' := 13) rfl ?_
        refine g_iaz (n := (p - 1)) (N := 16) C dX0_insert_13 rfl rfl (by omega) (by omega) (by decide) (congrFun aI_k _) ?_
        refine g_iload_n C dX0_insert_14 rfl ?_
        refine g_icmp_le (tgt := 38) C dX0_insert_15 (by decide) ⟨hg _ (by omega), hv⟩ (fun h2 => ?_) (fun h2 => ?_)
        · refine g_aload_n C dX0_insert_38 rfl ?_
          refine gf_X0_9 C dX0_insert_39 rfl ?_
          refine g_iload_n C dX0_insert_42 rfl ?_
          refine g_iload_n C dX0_insert_43 rfl ?_
          refine g_iast (n := p) (N := 16) C dX0_insert_44 rfl rfl (by omega) (by omega) (by decide) ?_
          rw [sI_aI]
          refine g_pc (pc' := 45) rfl ?_
          exact g_return C dX0_insert_45 (by rw [← hI2]; rcases Nat.eq_zero_or_pos p with q | q; (subst q; rfl); first | (exfalso; omega) | (obtain ⟨p0, rfl⟩ : ∃ p0, p = p0 + 1 := ⟨p - 1, by omega⟩; rw [Nat.add_sub_cancel] at *; rw [insA, if_neg (by omega)]))
        · refine g_aload_n C dX0_insert_18 rfl ?_
          refine gf_X0_9 C dX0_insert_19 rfl ?_
          refine g_iload_n C dX0_insert_22 rfl ?_
          refine g_aload_n C dX0_insert_23 rfl ?_
          refine gf_X0_9 C dX0_insert_24 rfl ?_
          refine g_iload_n C dX0_insert_27 rfl ?_
          refine g_iconst (z := 1) C dX0_insert_28 rfl ?_
          refine g_pc (pc' := 29) rfl ?_
          refine g_isub C dX0_insert_29 ?_
          refine g_iaz (n := (p - 1)) (N := 16) C dX0_insert_30 rfl rfl (by omega) (by omega) (by decide) (congrFun aI_k _) ?_
          refine g_iast (n := p) (N := 16) C dX0_insert_31 rfl rfl (by omega) (by omega) (by decide) ?_
          rw [sI_aI]
          have hI3 : insA v (p - 1) (updI g p (g (p - 1))) = insA v e (σ.1 82) := by
            rw [← hI2]; obtain ⟨p0, rfl⟩ : ∃ p0, p = p0 + 1 := ⟨p - 1, by omega⟩; rw [Nat.add_sub_cancel] at *; rw [insA, if_pos (by omega)]
          have hg' : ∀ j, j < p - 1 → R32 (updI g p (g (p - 1)) j) := fun j hj => by rw [updI_n (by omega)]; exact hg j (by omega)
          refine g_iinc (q := 3) (v := (x3 + (-1))) (L' := [(3, .int (iZ (x3 + (-1)))), (0, .ref (κ.2.1 81)), (1, .int (iZ v)), (2, .int (iZ ze))]) C dX0_insert_32 rfl rfl (by decide) rfl ?_
          refine g_goto (tgt := 2) C dX0_insert_35 (by decide) ?_
          exact g_loc [1, 2, 3, 0] (by rfl) (ih (p - 1) (x3 + (-1)) (updI g p (g (p - 1))) (by omega) (by omega) (by omega) hg' hI3)
  exact g_loc [1, 2, 3, 0] (by rfl) (lp2 _ e ze (σ.1 82) (Nat.lt_succ_self _) he he16 hs rfl)
set_option maxHeartbeats 4000000 in
set_option maxRecDepth 100000 in
theorem c_X0_differentIn {κ : Kp} (hI : Ij κ) (l : Launch) (σ : St) {a b : Nat} {za zb : Int} (ha : za = (a : Int)) (hb : zb = (b : Int)) (hab : a ≤ b ∧ b ≤ 16) (hs : ∀ j, j < b → R32 (σ.1 82 j)) : CtI κ l 0 yX0_differentIn cX0_differentIn 5 .int [.ref (κ.2.1 81), .int (iZ za), .int (iZ zb)] σ (fun z σ' => z = (dif (σ.1 82) a b : Int) ∧ σ' = σ) := by
  refine Ct.ofG (own := RX0) hI (by decide +kernel) rfl (Nat.le_of_ble_eq_true rfl) rfl ?_
  intro M C hMl
  refine g_iconst (z := 0) C dX0_differentIn_0 rfl ?_
  refine g_istore_n (L' := [(3, .int (iZ 0)), (0, .ref (κ.2.1 81)), (1, .int (iZ za)), (2, .int (iZ zb))]) C dX0_differentIn_1 rfl (by decide) rfl ?_
  refine g_iload_n C dX0_differentIn_2 rfl ?_
  refine g_istore (L' := [(4, .int (iZ za)), (3, .int (iZ 0)), (0, .ref (κ.2.1 81)), (1, .int (iZ za)), (2, .int (iZ zb))]) C dX0_differentIn_3 (by decide) rfl ?_
  have lp5 : ∀ (n : Nat) (i : Nat) (x3 : Int) (x4 : Int), (b - i < n) → (x3 = (dif (σ.1 82) a i : Int)) → (x4 = (i : Int)) → (a ≤ i ∧ i ≤ b) → G M κ 5 (En M κ (qI κ (fun z σ' => z = (dif (σ.1 82) a b : Int) ∧ σ' = σ))) 5 [(0, .ref (κ.2.1 81)), (1, .int (iZ za)), (2, .int (iZ zb)), (3, .int (iZ x3)), (4, .int (iZ x4))] [] σ := by
    intro n
    induction n with
    | zero => intro i x3 x4 hm0; exact absurd hm0 (Nat.not_lt_zero _)
    | succ n ih =>
      intro i x3 x4 hm5 hx3 hx4 hi
      have hdl := dif_le (σ.1 82) a i
      have hd1 : dif (σ.1 82) a (i + 1) = dif (σ.1 82) a i + (if a ≤ i ∧ (i = a ∨ σ.1 82 i ≠ σ.1 82 (i - 1)) then 1 else 0) := rfl
      refine g_iload C dX0_differentIn_5 rfl ?_
      refine g_iload_n C dX0_differentIn_7 rfl ?_
      refine g_icmp_ge (tgt := 45) C dX0_differentIn_8 (by decide) (by unfold R32; omega) (fun h1 => ?_) (fun h1 => ?_)
      · refine g_pc (pc' := 45) rfl ?_
        refine g_iload_n C dX0_differentIn_45 rfl ?_
        exact g_ireturn C dX0_differentIn_46 ⟨by rw [hx3, show i = b by omega], rfl⟩
      · refine g_iload C dX0_differentIn_11 rfl ?_
        refine g_iload_n C dX0_differentIn_13 rfl ?_
        refine g_icmp_eq (tgt := 36) C dX0_differentIn_14 (by decide) (by unfold R32; omega) (fun h2 => ?_) (fun h2 => ?_)
        · refine g_iinc (q := 3) (v := (x3 + 1)) (L' := [(3, .int (iZ (x3 + 1))), (0, .ref (κ.2.1 81)), (1, .int (iZ za)), (2, .int (iZ zb)), (4, .int (iZ x4))]) C dX0_differentIn_36 rfl rfl (by decide) rfl ?_
          refine g_iinc (q := 4) (v := (x4 + 1)) (L' := [(4, .int (iZ (x4 + 1))), (3, .int (iZ (x3 + 1))), (0, .ref (κ.2.1 81)), (1, .int (iZ za)), (2, .int (iZ zb))]) C dX0_differentIn_39 rfl rfl (by decide) rfl ?_
          refine g_goto (tgt := 5) C dX0_differentIn_42 (by decide) ?_
          exact g_loc [2, 3, 4, 1, 0] (by rfl) (ih (i + 1) (x3 + 1) (x4 + 1) (by omega) (by rw [hd1]; (first | rw [if_pos (by omega)] | rw [if_neg (by omega)]); omega) (by omega) (by omega))
        · refine g_pc (pc' := 17) rfl ?_
          refine g_aload_n C dX0_differentIn_17 rfl ?_
          refine gf_X0_9 C dX0_differentIn_18 rfl ?_
          refine g_iload C dX0_differentIn_21 rfl ?_
          refine g_iaz (n := i) (N := 16) C dX0_differentIn_23 rfl rfl (by omega) (by omega) (by decide) rfl ?_
          refine g_aload_n C dX0_differentIn_24 rfl ?_
          refine gf_X0_9 C dX0_differentIn_25 rfl ?_
          refine g_iload C dX0_differentIn_28 rfl ?_
          refine g_iconst (z := 1) C dX0_differentIn_30 rfl ?_
          refine g_pc (pc' := 31) rfl ?_
          refine g_isub C dX0_differentIn_31 ?_
          refine g_iaz (n := (i - 1)) (N := 16) C dX0_differentIn_32 rfl rfl (by omega) (by omega) (by decide) rfl ?_
          refine g_icmp_eq (tgt := 39) C dX0_differentIn_33 (by decide) ⟨hs _ (by omega), hs _ (by omega)⟩ (fun h3 => ?_) (fun h3 => ?_)
          · refine g_iinc (q := 4) (v := (x4 + 1)) (L' := [(4, .int (iZ (x4 + 1))), (0, .ref (κ.2.1 81)), (1, .int (iZ za)), (2, .int (iZ zb)), (3, .int (iZ x3))]) C dX0_differentIn_39 rfl rfl (by decide) rfl ?_
            refine g_goto (tgt := 5) C dX0_differentIn_42 (by decide) ?_
            exact g_loc [1, 2, 3, 4, 0] (by rfl) (ih (i + 1) x3 (x4 + 1) (by omega) (by rw [hd1]; (first | rw [if_pos (by omega)] | rw [if_neg (by omega)]); omega) (by omega) (by omega))
          · refine g_iinc (q := 3) (v := (x3 + 1)) (L' := [(3, .int (iZ (x3 + 1))), (0, .ref (κ.2.1 81)), (1, .int (iZ za)), (2, .int (iZ zb)), (4, .int (iZ x4))]) C dX0_differentIn_36 rfl rfl (by decide) rfl ?_
            refine g_iinc (q := 4) (v := (x4 + 1)) (L' := [(4, .int (iZ (x4 + 1))), (3, .int (iZ (x3 + 1))), (0, .ref (κ.2.1 81)), (1, .int (iZ za)), (2, .int (iZ zb))]) C dX0_differentIn_39 rfl rfl (by decide) rfl ?_
            refine g_goto (tgt := 5) C dX0_differentIn_42 (by decide) ?_
            exact g_loc [2, 3, 4, 1, 0] (by rfl) (ih (i + 1) (x3 + 1) (x4 + 1) (by omega) (by rw [hd1]; (first | rw [if_pos (by omega)] | rw [if_neg (by omega)]); omega) (by omega) (by omega))
  exact g_loc [2, 3, 4, 1, 0] (by rfl) (lp5 _ a 0 za (Nat.lt_succ_self _) (by rw [dif_0 _ _ _ (Nat.le_refl _)]; rfl) ha (by omega))
set_option maxHeartbeats 4000000 in
set_option maxRecDepth 100000 in
theorem c_X0_differentValues {κ : Kp} (hI : Ij κ) (l : Launch) (σ : St) {n : Nat} (hn : σ.1 81 1 = (n : Int)) (hn16 : n ≤ 16) (hs : ∀ j, j < n → R32 (σ.1 82 j)) : CtI κ l 1 yX0_differentValues cX0_differentValues 1 .int [.ref (κ.2.1 81)] σ (fun z σ' => z = (dif (σ.1 82) 0 n : Int) ∧ σ' = σ) := by
  refine Ct.ofG (own := RX0) hI (by decide +kernel) rfl (Nat.le_of_ble_eq_true rfl) rfl ?_
  intro M C hMl
  refine g_aload_n C dX0_differentValues_0 rfl ?_
  refine g_iconst (z := 0) C dX0_differentValues_1 rfl ?_
  refine g_aload_n C dX0_differentValues_2 rfl ?_
  refine gf_X0_15 C dX0_differentValues_3 rfl hn ?_
  refine gc_X0_51 C dX0_differentValues_6 rfl (c_X0_differentIn hI (Ml M) σ (a := 0) (b := n) rfl rfl ⟨Nat.zero_le _, hn16⟩ hs) (by decide) (by decide) (fun z σ1 ⟨hz, hσ⟩ => ?_)
  subst hz; subst hσ
  exact g_ireturn C dX0_differentValues_9 ⟨rfl, rfl⟩

/-! Histogram -/
set_option maxHeartbeats 4000000 in
set_option maxRecDepth 100000 in
theorem c_X0_insert {κ : Kp} (hI : Ij κ) (l : Launch) (σ : St) {e : Nat} {v ze : Int} (he : ze = (e : Int)) (he16 : e < 16) (hv : R32 v) (hs : ∀ j, j < e → R32 (σ.1 82 j)) : CtV κ l 0 yX0_insert cX0_insert 4 [.ref (κ.2.1 81), .int (iZ v), .int (iZ ze)] σ (fun σ' => σ' = aI σ 82 (insA v e (σ.1 82))) := by
  refine Ct.ofG (own := RX0) hI (by decide +kernel) rfl (Nat.le_of_ble_eq_true rfl) rfl ?_
  intro M C hMl
  refine g_iload_n C dX0_insert_0 rfl ?_
  refine g_istore_n (L' := [(3, .int (iZ ze)), (0, .ref (κ.2.1 81)), (1, .int (iZ v)), (2, .int (iZ ze))]) C dX0_insert_1 rfl (by decide) rfl ?_
  have lp2 : ∀ (fz9 : Nat) (p : Nat) (x3 : Int) (g : Nat → Int), (p < fz9) → (x3 = (p : Int)) → (p < 16) → (∀ j, j < p → R32 (g j)) → (insA v p g = insA v e (σ.1 82)) → G M κ 4 (En M κ (qV κ (fun σ' => σ' = aI σ 82 (insA v e (σ.1 82))))) 2 [(0, .ref (κ.2.1 81)), (1, .int (iZ v)), (2, .int (iZ ze)), (3, .int (iZ x3))] [] (aI σ 82 g) := by
    intro fz9
    induction fz9 with
    | zero => intro p x3 g hm0; exact absurd hm0 (Nat.not_lt_zero _)
    | succ fz9 ih =>
      intro p x3 g hm2 hx3 hp hg hI2
      refine g_iload_n C dX0_insert_2 rfl ?_
      refine g_if_le (tgt := 38) C dX0_insert_3 (by decide) (by unfold R32; omega) (fun h1 => ?_) (fun h1 => ?_)
      · refine g_aload_n C dX0_insert_38 rfl ?_
        refine gf_X0_9 C dX0_insert_39 rfl ?_
        refine g_iload_n C dX0_insert_42 rfl ?_
        refine g_pc (pc' := 43) rfl ?_
        refine g_iload_n C dX0_insert_43 rfl ?_
        refine g_iast (n := p) (N := 16) C dX0_insert_44 rfl rfl (by omega) (by omega) (by decide) ?_
        rw [sI_aI]
        exact g_return C dX0_insert_45 (by rw [← hI2]; rcases Nat.eq_zero_or_pos p with q | q; (subst q; rfl); first | (exfalso; omega) | (obtain ⟨p0, rfl⟩ : ∃ p0, p = p0 + 1 := ⟨p - 1, by omega⟩; rw [Nat.add_sub_cancel] at *; rw [insA, if_neg (by omega)]))
      · refine g_aload_n C dX0_insert_6 rfl ?_
        refine gf_X0_9 C dX0_insert_7 rfl ?_
        refine g_iload_n C dX0_insert_10 rfl ?_
        refine g_iconst (z := 1) C dX0_insert_11 rfl ?_
        refine g_isub C dX0_insert_12 ?_
        refine g_pc (pc' := 13) rfl ?_
        refine g_iaz (n := (p - 1)) (N := 16) (v := (g (p - 1))) C dX0_insert_13 rfl rfl (by omega) (by omega) (by decide) (congrFun aI_k _) ?_
        refine g_iload_n C dX0_insert_14 rfl ?_
        refine g_icmp_le (tgt := 38) C dX0_insert_15 (by decide) ⟨hg _ (by omega), hv⟩ (fun h2 => ?_) (fun h2 => ?_)
        · refine g_aload_n C dX0_insert_38 rfl ?_
          refine gf_X0_9 C dX0_insert_39 rfl ?_
          refine g_iload_n C dX0_insert_42 rfl ?_
          refine g_iload_n C dX0_insert_43 rfl ?_
          refine g_iast (n := p) (N := 16) C dX0_insert_44 rfl rfl (by omega) (by omega) (by decide) ?_
          rw [sI_aI]
          refine g_pc (pc' := 45) rfl ?_
          exact g_return C dX0_insert_45 (by rw [← hI2]; rcases Nat.eq_zero_or_pos p with q | q; (subst q; rfl); first | (exfalso; omega) | (obtain ⟨p0, rfl⟩ : ∃ p0, p = p0 + 1 := ⟨p - 1, by omega⟩; rw [Nat.add_sub_cancel] at *; rw [insA, if_neg (by omega)]))
        · refine g_aload_n C dX0_insert_18 rfl ?_
          refine gf_X0_9 C dX0_insert_19 rfl ?_
          refine g_iload_n C dX0_insert_22 rfl ?_
          refine g_aload_n C dX0_insert_23 rfl ?_
          refine gf_X0_9 C dX0_insert_24 rfl ?_
          refine g_iload_n C dX0_insert_27 rfl ?_
          refine g_iconst (z := 1) C dX0_insert_28 rfl ?_
          refine g_pc (pc' := 29) rfl ?_
          refine g_isub C dX0_insert_29 ?_
          refine g_iaz (n := (p - 1)) (N := 16) (v := (g (p - 1))) C dX0_insert_30 rfl rfl (by omega) (by omega) (by decide) (congrFun aI_k _) ?_
          refine g_iast (n := p) (N := 16) C dX0_insert_31 rfl rfl (by omega) (by omega) (by decide) ?_
          rw [sI_aI]
          have hI3 : insA v (p - 1) (updI g p (g (p - 1))) = insA v e (σ.1 82) := by
            rw [← hI2]; obtain ⟨p0, rfl⟩ : ∃ p0, p = p0 + 1 := ⟨p - 1, by omega⟩; rw [Nat.add_sub_cancel] at *; rw [insA, if_pos (by omega)]
          have hg' : ∀ j, j < p - 1 → R32 (updI g p (g (p - 1)) j) := fun j hj => by rw [updI_n (by omega)]; exact hg j (by omega)
          refine g_iinc (q := 3) (v := (x3 + (-1))) (L' := [(3, .int (iZ (x3 + (-1)))), (0, .ref (κ.2.1 81)), (1, .int (iZ v)), (2, .int (iZ ze))]) C dX0_insert_32 rfl rfl (by decide) rfl ?_
          refine g_goto (tgt := 2) C dX0_insert_35 (by decide) ?_
          exact g_loc [1, 2, 3, 0] (by rfl) (ih (p - 1) (x3 + (-1)) (updI g p (g (p - 1))) (by omega) (by omega) (by omega) hg' hI3)
  exact g_loc [1, 2, 3, 0] (by rfl) (lp2 _ e ze (σ.1 82) (Nat.lt_succ_self _) he he16 hs rfl)
set_option maxHeartbeats 4000000 in
set_option maxRecDepth 100000 in
theorem c_X0_differentIn {κ : Kp} (hI : Ij κ) (l : Launch) (σ : St) {a b : Nat} {za zb : Int} (ha : za = (a : Int)) (hb : zb = (b : Int)) (hab : a ≤ b ∧ b ≤ 16) (hs : ∀ j, j < b → R32 (σ.1 82 j)) : CtI κ l 0 yX0_differentIn cX0_differentIn 5 .int [.ref (κ.2.1 81), .int (iZ za), .int (iZ zb)] σ (fun z σ' => z = (dif (σ.1 82) a b : Int) ∧ σ' = σ) := by
  refine Ct.ofG (own := RX0) hI (by decide +kernel) rfl (Nat.le_of_ble_eq_true rfl) rfl ?_
  intro M C hMl
  refine g_iconst (z := 0) C dX0_differentIn_0 rfl ?_
  refine g_istore_n (L' := [(3, .int (iZ 0)), (0, .ref (κ.2.1 81)), (1, .int (iZ za)), (2, .int (iZ zb))]) C dX0_differentIn_1 rfl (by decide) rfl ?_
  refine g_iload_n C dX0_differentIn_2 rfl ?_
  refine g_istore (L' := [(4, .int (iZ za)), (3, .int (iZ 0)), (0, .ref (κ.2.1 81)), (1, .int (iZ za)), (2, .int (iZ zb))]) C dX0_differentIn_3 (by decide) rfl ?_
  have lp5 : ∀ (fz9 : Nat) (i : Nat) (x3 : Int) (x4 : Int), (b - i < fz9) → (x3 = (dif (σ.1 82) a i : Int)) → (x4 = (i : Int)) → (a ≤ i ∧ i ≤ b) → G M κ 5 (En M κ (qI κ (fun z σ' => z = (dif (σ.1 82) a b : Int) ∧ σ' = σ))) 5 [(0, .ref (κ.2.1 81)), (1, .int (iZ za)), (2, .int (iZ zb)), (3, .int (iZ x3)), (4, .int (iZ x4))] [] σ := by
    intro fz9
    induction fz9 with
    | zero => intro i x3 x4 hm0; exact absurd hm0 (Nat.not_lt_zero _)
    | succ fz9 ih =>
      intro i x3 x4 hm5 hx3 hx4 hi
      have hdl := dif_le (σ.1 82) a i
      have hd1 : dif (σ.1 82) a (i + 1) = dif (σ.1 82) a i + (if a ≤ i ∧ (i = a ∨ σ.1 82 i ≠ σ.1 82 (i - 1)) then 1 else 0) := rfl
      refine g_iload C dX0_differentIn_5 rfl ?_
      refine g_iload_n C dX0_differentIn_7 rfl ?_
      refine g_icmp_ge (tgt := 45) C dX0_differentIn_8 (by decide) (by unfold R32; omega) (fun h1 => ?_) (fun h1 => ?_)
      · refine g_pc (pc' := 45) rfl ?_
        refine g_iload_n C dX0_differentIn_45 rfl ?_
        exact g_ireturn C dX0_differentIn_46 ⟨by rw [hx3, show i = b by omega], rfl⟩
      · refine g_iload C dX0_differentIn_11 rfl ?_
        refine g_iload_n C dX0_differentIn_13 rfl ?_
        refine g_icmp_eq (tgt := 36) C dX0_differentIn_14 (by decide) (by unfold R32; omega) (fun h2 => ?_) (fun h2 => ?_)
        · refine g_iinc (q := 3) (v := (x3 + 1)) (L' := [(3, .int (iZ (x3 + 1))), (0, .ref (κ.2.1 81)), (1, .int (iZ za)), (2, .int (iZ zb)), (4, .int (iZ x4))]) C dX0_differentIn_36 rfl rfl (by decide) rfl ?_
          refine g_iinc (q := 4) (v := (x4 + 1)) (L' := [(4, .int (iZ (x4 + 1))), (3, .int (iZ (x3 + 1))), (0, .ref (κ.2.1 81)), (1, .int (iZ za)), (2, .int (iZ zb))]) C dX0_differentIn_39 rfl rfl (by decide) rfl ?_
          refine g_goto (tgt := 5) C dX0_differentIn_42 (by decide) ?_
          exact g_loc [2, 3, 4, 1, 0] (by rfl) (ih (i + 1) (x3 + 1) (x4 + 1) (by omega) (by rw [hd1]; (first | rw [if_pos (by omega)] | rw [if_neg (by omega)]); omega) (by omega) (by omega))
        · refine g_pc (pc' := 17) rfl ?_
          refine g_aload_n C dX0_differentIn_17 rfl ?_
          refine gf_X0_9 C dX0_differentIn_18 rfl ?_
          refine g_iload C dX0_differentIn_21 rfl ?_
          refine g_iaz (n := i) (N := 16) (v := (σ.1 82 i)) C dX0_differentIn_23 rfl rfl (by omega) (by omega) (by decide) rfl ?_
          refine g_aload_n C dX0_differentIn_24 rfl ?_
          refine gf_X0_9 C dX0_differentIn_25 rfl ?_
          refine g_iload C dX0_differentIn_28 rfl ?_
          refine g_iconst (z := 1) C dX0_differentIn_30 rfl ?_
          refine g_pc (pc' := 31) rfl ?_
          refine g_isub C dX0_differentIn_31 ?_
          refine g_iaz (n := (i - 1)) (N := 16) (v := (σ.1 82 (i - 1))) C dX0_differentIn_32 rfl rfl (by omega) (by omega) (by decide) rfl ?_
          refine g_icmp_eq (tgt := 39) C dX0_differentIn_33 (by decide) ⟨hs _ (by omega), hs _ (by omega)⟩ (fun h3 => ?_) (fun h3 => ?_)
          · refine g_iinc (q := 4) (v := (x4 + 1)) (L' := [(4, .int (iZ (x4 + 1))), (0, .ref (κ.2.1 81)), (1, .int (iZ za)), (2, .int (iZ zb)), (3, .int (iZ x3))]) C dX0_differentIn_39 rfl rfl (by decide) rfl ?_
            refine g_goto (tgt := 5) C dX0_differentIn_42 (by decide) ?_
            exact g_loc [1, 2, 3, 4, 0] (by rfl) (ih (i + 1) x3 (x4 + 1) (by omega) (by rw [hd1]; (first | rw [if_pos (by omega)] | rw [if_neg (by omega)]); omega) (by omega) (by omega))
          · refine g_iinc (q := 3) (v := (x3 + 1)) (L' := [(3, .int (iZ (x3 + 1))), (0, .ref (κ.2.1 81)), (1, .int (iZ za)), (2, .int (iZ zb)), (4, .int (iZ x4))]) C dX0_differentIn_36 rfl rfl (by decide) rfl ?_
            refine g_iinc (q := 4) (v := (x4 + 1)) (L' := [(4, .int (iZ (x4 + 1))), (3, .int (iZ (x3 + 1))), (0, .ref (κ.2.1 81)), (1, .int (iZ za)), (2, .int (iZ zb))]) C dX0_differentIn_39 rfl rfl (by decide) rfl ?_
            refine g_goto (tgt := 5) C dX0_differentIn_42 (by decide) ?_
            exact g_loc [2, 3, 4, 1, 0] (by rfl) (ih (i + 1) (x3 + 1) (x4 + 1) (by omega) (by rw [hd1]; (first | rw [if_pos (by omega)] | rw [if_neg (by omega)]); omega) (by omega) (by omega))
  exact g_loc [2, 3, 4, 1, 0] (by rfl) (lp5 _ a 0 za (Nat.lt_succ_self _) (by rw [dif_0 _ _ _ (Nat.le_refl _)]; rfl) ha (by omega))
set_option maxHeartbeats 4000000 in
set_option maxRecDepth 100000 in
theorem c_X0_differentValues {κ : Kp} (hI : Ij κ) (l : Launch) (σ : St) {n : Nat} (hn : σ.1 81 1 = (n : Int)) (hn16 : n ≤ 16) (hs : ∀ j, j < n → R32 (σ.1 82 j)) : CtI κ l 1 yX0_differentValues cX0_differentValues 1 .int [.ref (κ.2.1 81)] σ (fun z σ' => z = (dif (σ.1 82) 0 n : Int) ∧ σ' = σ) := by
  refine Ct.ofG (own := RX0) hI (by decide +kernel) rfl (Nat.le_of_ble_eq_true rfl) rfl ?_
  intro M C hMl
  refine g_aload_n C dX0_differentValues_0 rfl ?_
  refine g_iconst (z := 0) C dX0_differentValues_1 rfl ?_
  refine g_aload_n C dX0_differentValues_2 rfl ?_
  refine gf_X0_15 (z := (n : Int)) C dX0_differentValues_3 rfl hn ?_
  refine gc_X0_51 C dX0_differentValues_6 rfl (c_X0_differentIn hI (Ml M) σ (a := 0) (b := n) rfl rfl ⟨Nat.zero_le _, hn16⟩ hs) (by decide) (Nat.le_of_ble_eq_true rfl) (fun z σ1 ⟨hz, hσ⟩ => ?_)
  subst z; subst σ1
  exact g_ireturn C dX0_differentValues_9 ⟨rfl, rfl⟩
def HC (k : Nat) : Prop := 81 ≤ k ∧ k ≤ 86
theorem kd5_all2 : ∀ k, k < 165 → kd k = 5 → k ≤ 27 := by decide +kernel
theorem kd5_le {k : Nat} (h : kd k = 5) : k ≤ 27 := kd5_all2 k (kd_lt (by omega)) h
def HB (σ : St) (S : Nat → Int) (n m k : Nat) : Prop := σ.1 81 6 = (bct n m k : Int) ∧ ∀ j, j < bct n m k → σ.1 83 j = S (bfr n m (bix n m k j)) ∧ σ.1 84 j = S (bfr n m (bix n m k j + 1) - 1) ∧ σ.1 85 j = ((bfr n m (bix n m k j + 1) - bfr n m (bix n m k j) : Nat) : Int) ∧ σ.1 86 j = (dif S (bfr n m (bix n m k j)) (bfr n m (bix n m k j + 1)) : Int)
/-- the histogram's cells hold what a column of n values in m buckets asks -/
def HS (σ : St) (c : Nat → Int) (n m : Nat) : Prop := σ.1 81 1 = (n : Int) ∧ (∀ j, j < n → σ.1 82 j = srt c n j) ∧ HB σ (srt c n) n m m
def abk (σ : St) (a b B : Nat) : St := if a < b then sI (sI (sI (sI (sI σ 83 B (σ.1 82 a)) 84 B (σ.1 82 (b - 1))) 85 B ((b - a : Nat) : Int)) 86 B (dif (σ.1 82) a b : Int)) 81 6 ((B : Int) + 1) else σ
set_option maxHeartbeats 4000000 in
set_option maxRecDepth 100000 in
theorem c_X0_addBucket {κ : Kp} (hI : Ij κ) (l : Launch) (σ : St) {a b B : Nat} {za zb : Int} (ha : za = (a : Int)) (hb : zb = (b : Int)) (hb16 : b ≤ 16) (hab : a ≤ b) (hB : σ.1 81 6 = (B : Int)) (hB8 : a < b → B < 8) (hs : ∀ j, j < b → R32 (σ.1 82 j)) : CtV κ l 1 yX0_addBucket cX0_addBucket 3 [.ref (κ.2.1 81), .int (iZ za), .int (iZ zb)] σ (fun σ' => σ' = abk σ a b B) := by
  refine Ct.ofG (own := RX0) hI (by decide +kernel) rfl (Nat.le_of_ble_eq_true rfl) rfl ?_
  intro M C hMl
  refine g_iload_n C dX0_addBucket_0 rfl ?_
  refine g_iload_n C dX0_addBucket_1 rfl ?_
  refine g_icmp_ge (tgt := 83) C dX0_addBucket_2 (by decide) (by unfold R32; omega) (fun h1 => ?_) (fun h1 => ?_)
  · exact g_return C dX0_addBucket_83 (by unfold abk; rw [if_neg (by omega)])
  · refine g_aload_n C dX0_addBucket_5 rfl ?_
    refine gf_X0_31 (z := (B : Int)) C dX0_addBucket_6 rfl hB ?_
    refine g_bipush (z := 8) C dX0_addBucket_9 rfl ?_
    refine g_pc (pc' := 11) rfl ?_
    refine g_icmp_ge (tgt := 83) C dX0_addBucket_11 (by decide) (by unfold R32; omega) (fun h2 => ?_) (fun h2 => ?_)
    · exfalso; have := hB8 (by omega); omega
    · refine g_aload_n C dX0_addBucket_14 rfl ?_
      refine gf_X0_19 C dX0_addBucket_15 rfl ?_
      refine g_aload_n C dX0_addBucket_18 rfl ?_
      refine gf_X0_31 (z := (B : Int)) C dX0_addBucket_19 rfl hB ?_
      refine g_aload_n C dX0_addBucket_22 rfl ?_
      refine gf_X0_9 C dX0_addBucket_23 rfl ?_
      refine g_iload_n C dX0_addBucket_26 rfl ?_
      refine g_pc (pc' := 27) rfl ?_
      refine g_iaz (n := a) (N := 16) (v := (σ.1 82 a)) C dX0_addBucket_27 rfl rfl (by omega) (by omega) (by decide) rfl ?_
      refine g_iast (n := B) (N := 8) C dX0_addBucket_28 rfl rfl (by omega) (by omega) (by decide) ?_
      refine g_aload_n C dX0_addBucket_29 rfl ?_
      refine gf_X0_22 C dX0_addBucket_30 rfl ?_
      refine g_aload_n C dX0_addBucket_33 rfl ?_
      refine gf_X0_31 (z := (B : Int)) C dX0_addBucket_34 rfl ((rI_k (by decide)).trans hB) ?_
      refine g_aload_n C dX0_addBucket_37 rfl ?_
      refine gf_X0_9 C dX0_addBucket_38 rfl ?_
      refine g_pc (pc' := 41) rfl ?_
      refine g_iload_n C dX0_addBucket_41 rfl ?_
      refine g_iconst (z := 1) C dX0_addBucket_42 rfl ?_
      refine g_isub C dX0_addBucket_43 ?_
      refine g_iaz (n := (b - 1)) (N := 16) (v := (σ.1 82 (b - 1))) C dX0_addBucket_44 rfl rfl (by omega) (by omega) (by decide) (rI_k (by decide)) ?_
      refine g_iast (n := B) (N := 8) C dX0_addBucket_45 rfl rfl (by omega) (by omega) (by decide) ?_
      refine g_aload_n C dX0_addBucket_46 rfl ?_
      refine gf_X0_25 C dX0_addBucket_47 rfl ?_
      refine g_aload_n C dX0_addBucket_50 rfl ?_
      refine g_pc (pc' := 51) rfl ?_
      refine gf_X0_31 (z := (B : Int)) C dX0_addBucket_51 rfl ((rI_k (by decide)).trans ((rI_k (by decide)).trans hB)) ?_
      refine g_iload_n C dX0_addBucket_54 rfl ?_
      refine g_iload_n C dX0_addBucket_55 rfl ?_
      refine g_isub C dX0_addBucket_56 ?_
      refine g_iast (n := B) (N := 8) C dX0_addBucket_57 rfl rfl (by omega) (by omega) (by decide) ?_
      refine g_sig (σ' := (sI (sI (sI σ 83 B (σ.1 82 a)) 84 B (σ.1 82 (b - 1))) 85 B ((b - a : Nat) : Int))) (by rw [show zb - za = ((b - a : Nat) : Int) by omega]) ?_
      refine g_aload_n C dX0_addBucket_58 rfl ?_
      refine gf_X0_28 C dX0_addBucket_59 rfl ?_
      refine g_aload_n C dX0_addBucket_62 rfl ?_
      refine g_pc (pc' := 63) rfl ?_
      refine gf_X0_31 (z := (B : Int)) C dX0_addBucket_63 rfl ((rI_k (by decide)).trans ((rI_k (by decide)).trans ((rI_k (by decide)).trans hB))) ?_
      refine g_aload_n C dX0_addBucket_66 rfl ?_
      refine g_iload_n C dX0_addBucket_67 rfl ?_
      refine g_iload_n C dX0_addBucket_68 rfl ?_
      refine gc_X0_51 C dX0_addBucket_69 rfl (c_X0_differentIn hI (Ml M) (sI (sI (sI σ 83 B (σ.1 82 a)) 84 B (σ.1 82 (b - 1))) 85 B ((b - a : Nat) : Int)) (a := a) (b := b) ha hb ⟨by omega, hb16⟩ (fun j hj => by rw [rI_K (by decide), rI_K (by decide), rI_K (by decide)]; exact hs j hj)) (by decide) (Nat.le_of_ble_eq_true rfl) (fun z σ1 ⟨hz, hσ⟩ => ?_)
      subst σ1
      rw [rI_K (by decide), rI_K (by decide), rI_K (by decide)] at hz
      subst z
      refine g_iast (n := B) (N := 8) C dX0_addBucket_72 rfl rfl (by omega) (by omega) (by decide) ?_
      refine g_aload_n C dX0_addBucket_73 rfl ?_
      refine g_dup C dX0_addBucket_74 rfl ?_
      refine g_pc (pc' := 75) rfl ?_
      refine gf_X0_31 (z := (B : Int)) C dX0_addBucket_75 rfl ((rI_k (by decide)).trans ((rI_k (by decide)).trans ((rI_k (by decide)).trans ((rI_k (by decide)).trans hB)))) ?_
      refine g_iconst (z := 1) C dX0_addBucket_78 rfl ?_
      refine g_iadd C dX0_addBucket_79 ?_
      refine gp_X0_31 C dX0_addBucket_80 rfl ?_
      exact g_return C dX0_addBucket_83 (by unfold abk; rw [if_pos (by omega)])
/-- one value more is sorted in -/
theorem fill_step {σ s : St} {c : Nat → Int} {i : Nat} (h : ∀ j, j < i → s.1 82 j = srt c i j) {v : Int} (hv : v = c i) : ∀ j, j < i + 1 → (aI s 82 (insA v i (s.1 82))).1 82 j = srt c (i + 1) j := by
  intro j hj
  rw [aI_k, hv]
  exact insA_cong h j (by omega)
/-- one bucket more -/
theorem HB_step {s : St} {S : Nat → Int} {n m k : Nat} (h : HB s S n m k) (hm : 0 < m) (hk : k < m) (hS : ∀ j, j < n → s.1 82 j = S j) : HB (abk s (bfr n m k) (bfr n m (k + 1)) (bct n m k)) S n m (k + 1) ∧ (abk s (bfr n m k) (bfr n m (k + 1)) (bct n m k)).1 82 = s.1 82 ∧ (abk s (bfr n m k) (bfr n m (k + 1)) (bct n m k)).1 81 1 = s.1 81 1 ∧ Fr HC s (abk s (bfr n m k) (bfr n m (k + 1)) (bct n m k)) := by
  have hle := bfr_le n m (k + 1) hm (by omega)
  by_cases hn : bfr n m k < bfr n m (k + 1)
  · have e : abk s (bfr n m k) (bfr n m (k + 1)) (bct n m k) = sI (sI (sI (sI (sI s 83 (bct n m k) (s.1 82 (bfr n m k))) 84 (bct n m k) (s.1 82 (bfr n m (k + 1) - 1))) 85 (bct n m k) ((bfr n m (k + 1) - bfr n m k : Nat) : Int)) 86 (bct n m k) (dif (s.1 82) (bfr n m k) (bfr n m (k + 1)) : Int)) 81 6 ((bct n m k : Int) + 1) := if_pos hn
    have e3 : bct n m (k + 1) = bct n m k + 1 := by rw [bct, if_pos hn]
    have hd : dif (s.1 82) (bfr n m k) (bfr n m (k + 1)) = dif S (bfr n m k) (bfr n m (k + 1)) := dif_cong (fun j hj => hS j (by omega))
    rw [e]
    refine ⟨⟨?_, fun j hj => ?_⟩, ?_, ?_, ?_⟩
    · rw [rI_s, e3]; omega
    · by_cases hjk : j = bct n m k
      · subst hjk
        rw [bix_new n m k hn]
        refine ⟨?_, ?_, ?_, ?_⟩
        · rw [rI_k (by decide), rI_k (by decide), rI_k (by decide), rI_k (by decide), rI_s, hS _ (by omega)]
        · rw [rI_k (by decide), rI_k (by decide), rI_k (by decide), rI_s, hS _ (by omega)]
        · rw [rI_k (by decide), rI_k (by decide), rI_s]
        · rw [rI_k (by decide), rI_s, hd]
      · have hj' : j < bct n m k := by omega
        rw [bix_keep n m k j hj']
        obtain ⟨h1, h2, h3, h4⟩ := h.2 j hj'
        refine ⟨?_, ?_, ?_, ?_⟩
        · rw [rI_k (by decide), rI_k (by decide), rI_k (by decide), rI_k (by decide), rI_j hjk, h1]
        · rw [rI_k (by decide), rI_k (by decide), rI_k (by decide), rI_j hjk, rI_k (by decide), h2]
        · rw [rI_k (by decide), rI_k (by decide), rI_j hjk, rI_k (by decide), rI_k (by decide), h3]
        · rw [rI_k (by decide), rI_j hjk, rI_k (by decide), rI_k (by decide), rI_k (by decide), h4]
    · rw [rI_K (by decide), rI_K (by decide), rI_K (by decide), rI_K (by decide), rI_K (by decide)]
    · rw [rI_j (by decide), rI_k (by decide), rI_k (by decide), rI_k (by decide), rI_k (by decide)]
    · exact (((((Fr.rf.sI (by unfold HC; omega)).sI (by unfold HC; omega)).sI (by unfold HC; omega)).sI (by unfold HC; omega)).sI (by unfold HC; omega))
  · have e : abk s (bfr n m k) (bfr n m (k + 1)) (bct n m k) = s := if_neg hn
    have e3 : bct n m (k + 1) = bct n m k := by rw [bct, if_neg hn]; rfl
    rw [e]
    refine ⟨⟨by rw [e3]; exact h.1, fun j hj => ?_⟩, rfl, rfl, Fr.rf⟩
    rw [e3] at hj
    rw [bix_keep n m k j hj]
    exact h.2 j hj
theorem bct_lt8 {n m k : Nat} (hm : m ≤ 8) (hk : k < m) : bct n m k < 8 := by have := bct_le n m k; omega
set_option maxHeartbeats 4000000 in
set_option maxRecDepth 100000 in
theorem c_X0_fill {κ : Kp} (hI : Ij κ) (l : Launch) (σ : St) {k n m col : Nat} {c : Nat → Int} {zc : Int} (hk : kd k = 5) (hzc : zc = (col : Int)) (hcol : col < 3) (hn : σ.1 k 1 = (n : Int)) (hn16 : n ≤ 16) (hm : σ.1 k 2 = (m : Int)) (hm8 : 0 < m ∧ m ≤ 8) (hcc : ∀ i, i < n → σ.1 (k + 1) (i * 3 + col) = c i) (hc : ∀ i, i < n → 0 ≤ c i ∧ c i ≤ 99) : CtV κ l 2 yX0_fill cX0_fill 4 [.ref (κ.2.1 81), .ref (κ.2.1 k), .int (iZ zc)] σ (fun σ' => Fr HC σ σ' ∧ HS σ' c n m) := by
  refine Ct.ofG (own := RX0) hI (by decide +kernel) rfl (Nat.le_of_ble_eq_true rfl) rfl ?_
  intro M C hMl
  have hk27 := kd5_le hk
  have hk81 : ¬ HC k := by unfold HC; omega
  have hk82 : ¬ HC (k + 1) := by unfold HC; omega
  refine g_aload_n C dX0_fill_0 rfl ?_
  refine g_aload_n C dX0_fill_1 rfl ?_
  refine gf_X0_34 (z := (n : Int)) C dX0_fill_2 hk hn ?_
  refine gp_X0_15 C dX0_fill_5 rfl ?_
  refine g_iconst (z := 0) C dX0_fill_8 rfl ?_
  refine g_istore_n (L' := [(3, .int (iZ 0)), (0, .ref (κ.2.1 81)), (1, .ref (κ.2.1 k)), (2, .int (iZ zc))]) C dX0_fill_9 rfl (by decide) rfl ?_
  have lp10 : ∀ (fz9 : Nat) (i : Nat) (x3 : Int) (s : St), (n - i < fz9) → (x3 = (i : Int)) → (i ≤ n) → (Fr HC σ s) → (s.1 81 1 = (n : Int)) → (∀ j, j < i → s.1 82 j = srt c i j) → G M κ 4 (En M κ (qV κ (fun σ' => Fr HC σ σ' ∧ HS σ' c n m))) 10 [(0, .ref (κ.2.1 81)), (1, .ref (κ.2.1 k)), (2, .int (iZ zc)), (3, .int (iZ x3))] [] s := by
    intro fz9
    induction fz9 with
    | zero => intro i x3 s hm0; exact absurd hm0 (Nat.not_lt_zero _)
    | succ fz9 ih =>
      intro i x3 s hm10 hx3 hi hF h81 hs
      refine g_iload_n C dX0_fill_10 rfl ?_
      refine g_pc (pc' := 11) rfl ?_
      refine g_aload_n C dX0_fill_11 rfl ?_
      refine gf_X0_15 (z := (n : Int)) C dX0_fill_12 rfl h81 ?_
      refine g_icmp_ge (tgt := 35) C dX0_fill_15 (by decide) (by unfold R32; omega) (fun h1 => ?_) (fun h1 => ?_)
      · refine g_aload_n C dX0_fill_35 rfl ?_
        refine g_iconst (z := 0) C dX0_fill_36 rfl ?_
        refine gp_X0_31 C dX0_fill_37 rfl ?_
        refine g_iconst (z := 0) C dX0_fill_40 rfl ?_
        refine g_istore_n (L' := [(3, .int (iZ 0)), (0, .ref (κ.2.1 81)), (1, .ref (κ.2.1 k)), (2, .int (iZ zc))]) C dX0_fill_41 rfl (by decide) rfl ?_
        have lp42 : ∀ (fz9 : Nat) (b : Nat) (x3 : Int) (s2 : St), (m - b < fz9) → (x3 = (b : Int)) → (b ≤ m) → (Fr HC σ s2) → (s2.1 81 1 = (n : Int)) → (∀ j, j < n → s2.1 82 j = srt c n j) → (HB s2 (srt c n) n m b) → G M κ 4 (En M κ (qV κ (fun σ' => Fr HC σ σ' ∧ HS σ' c n m))) 42 [(0, .ref (κ.2.1 81)), (1, .ref (κ.2.1 k)), (2, .int (iZ zc)), (3, .int (iZ x3))] [] s2 := by
          intro fz9
          induction fz9 with
          | zero => intro b x3 s2 hm0; exact absurd hm0 (Nat.not_lt_zero _)
          | succ fz9 ih =>
            intro b x3 s2 hm42 hx3b hb hF2 h81 hs2 hHB
            subst hx3b
            have hm2 : s2.1 k 2 = (m : Int) := by rw [hF2.1 k hk81]; exact hm
            have e1 : (b : Int) * (n : Int) = ((b * n : Nat) : Int) := (Int.natCast_mul b n).symm
            have e2 : ((b : Int) + 1) * (n : Int) = (((b + 1) * n : Nat) : Int) := by rw [Int.natCast_mul]; rfl
            have e3 : b * n ≤ 8 * 16 := Nat.mul_le_mul (by omega) hn16
            have e4 : (b + 1) * n ≤ 9 * 16 := Nat.mul_le_mul (by omega) hn16
            refine g_pc (pc' := 42) rfl ?_
            refine g_iload_n C dX0_fill_42 rfl ?_
            refine g_aload_n C dX0_fill_43 rfl ?_
            refine gf_X0_47 (z := (m : Int)) C dX0_fill_44 hk hm2 ?_
            refine g_icmp_ge (tgt := 84) C dX0_fill_47 (by decide) (by unfold R32; omega) (fun h2 => ?_) (fun h2 => ?_)
            · exact g_return C dX0_fill_84 ⟨hF2, h81, hs2, by rw [show b = m by omega] at hHB; exact hHB⟩
            · refine g_aload_n C dX0_fill_50 rfl ?_
              refine g_iload_n C dX0_fill_51 rfl ?_
              refine g_aload_n C dX0_fill_52 rfl ?_
              refine g_pc (pc' := 53) rfl ?_
              refine gf_X0_15 (z := (n : Int)) C dX0_fill_53 rfl h81 ?_
              refine g_imul C dX0_fill_56 ?_
              refine g_aload_n C dX0_fill_57 rfl ?_
              refine gf_X0_47 (z := (m : Int)) C dX0_fill_58 hk hm2 ?_
              refine g_idiv C dX0_fill_61 (by rw [e1]; omega) ?_
              refine g_iload_n C dX0_fill_62 rfl ?_
              refine g_iconst (z := 1) C dX0_fill_63 rfl ?_
              refine g_iadd C dX0_fill_64 ?_
              refine g_pc (pc' := 65) rfl ?_
              refine g_aload_n C dX0_fill_65 rfl ?_
              refine gf_X0_15 (z := (n : Int)) C dX0_fill_66 rfl h81 ?_
              refine g_imul C dX0_fill_69 ?_
              refine g_aload_n C dX0_fill_70 rfl ?_
              refine gf_X0_47 (z := (m : Int)) C dX0_fill_71 hk hm2 ?_
              refine g_idiv C dX0_fill_74 (by rw [e2]; omega) ?_
              have hst := HB_step hHB hm8.1 (by omega) hs2
              refine gc_X0_48 C dX0_fill_75 rfl (c_X0_addBucket hI (Ml M) s2 (a := bfr n m b) (b := bfr n m (b + 1)) (B := bct n m b) (by rw [e1]; rfl) (by rw [e2]; rfl) (by have := bfr_le n m (b + 1) hm8.1 (by omega); omega) (bfr_mono n m b) hHB.1 (fun _ => bct_lt8 hm8.2 (by omega)) (fun j hj => by have h9 := bfr_le n m (b + 1) hm8.1 (by omega); rw [hs2 j (by omega)]; have := srt_rng (c := c) (lo := 0) (hi := 99) (i := n) hc j (by omega); unfold R32; omega)) (by decide) (Nat.le_of_ble_eq_true rfl) (fun σ1 hσ => ?_)
              subst σ1
              refine g_iinc (q := 3) (v := ((b : Int) + 1)) (L' := [(3, .int (iZ ((b : Int) + 1))), (0, .ref (κ.2.1 81)), (1, .ref (κ.2.1 k)), (2, .int (iZ zc))]) C dX0_fill_78 rfl rfl (by decide) rfl ?_
              refine g_pc (pc' := 81) rfl ?_
              refine g_goto (tgt := 42) C dX0_fill_81 (by decide) ?_
              exact g_loc [1, 2, 3, 0] (by rfl) (ih (b + 1) ((b : Int) + 1) (abk s2 (bfr n m b) (bfr n m (b + 1)) (bct n m b)) (by omega) rfl (by omega) (hF2.tr hst.2.2.2) (by rw [hst.2.2.1]; exact h81) (fun j hj => by rw [hst.2.1]; exact hs2 j hj) hst.1)
        exact g_loc [1, 2, 3, 0] (by rfl) (lp42 _ 0 0 (sI s 81 6 0) (Nat.lt_succ_self _) rfl (Nat.zero_le _) (hF.sI (by unfold HC; omega)) (by rw [rI_j (by decide)]; exact h81) (fun j hj => by rw [rI_k (by decide), show n = i by omega]; exact hs j (by omega)) ⟨rI_s, fun j hj => absurd hj (Nat.not_lt_zero j)⟩)
      · refine g_aload_n C dX0_fill_18 rfl ?_
        refine g_aload_n C dX0_fill_19 rfl ?_
        refine g_iload_n C dX0_fill_20 rfl ?_
        refine g_iload_n C dX0_fill_21 rfl ?_
        have hv1 : s.1 (k + 1) = σ.1 (k + 1) := hF.1 _ hk82
        refine gc_X0_39 C dX0_fill_22 hk (c_X5_valueAt hI (Ml M) s hk (i := i) (c := col) hx3 hzc ⟨by omega, hcol⟩) (by decide) (Nat.le_of_ble_eq_true rfl) (fun z σ1 ⟨hz, hσ⟩ => ?_)
        subst σ1
        rw [hv1] at hz
        rw [hcc i (by omega)] at hz
        subst z
        have hci := hc i (by omega)
        refine g_iload_n C dX0_fill_25 rfl ?_
        refine gc_X0_43 C dX0_fill_26 rfl (c_X0_insert hI (Ml M) s (e := i) (v := c i) hx3 (by omega) (by unfold R32; omega) (fun j hj => by rw [hs j hj]; have := srt_rng (c := c) (lo := 0) (hi := 99) (i := i) (fun q hq => hc q (by omega)) j hj; unfold R32; omega)) (by decide) (Nat.le_of_ble_eq_true rfl) (fun σ1 hσ => ?_)
        subst σ1
        refine g_pc (pc' := 29) rfl ?_
        refine g_iinc (q := 3) (v := (x3 + 1)) (L' := [(3, .int (iZ (x3 + 1))), (0, .ref (κ.2.1 81)), (1, .ref (κ.2.1 k)), (2, .int (iZ zc))]) C dX0_fill_29 rfl rfl (by decide) rfl ?_
        refine g_goto (tgt := 10) C dX0_fill_32 (by decide) ?_
        exact g_loc [1, 2, 3, 0] (by rfl) (ih (i + 1) (x3 + 1) (aI s 82 (insA (c i) i (s.1 82))) (by omega) (by omega) (by omega) (hF.aI (by unfold HC; omega)) (by rw [aI_ne (by decide)]; exact h81) (fill_step (σ := σ) hs rfl))
  exact g_loc [1, 2, 3, 0] (by rfl) (lp10 _ 0 0 (sI σ 81 1 (n : Int)) (Nat.lt_succ_self _) rfl (Nat.zero_le _) (Fr.rf.sI (by unfold HC; omega)) rI_s (fun j hj => absurd hj (Nat.not_lt_zero j)))

/-! MATCHES: the sum -/
theorem g_lraw {M : MC} {κ : Kp} {nL : Nat} {Q : State → Prop} {pc : Nat} {L : List (Nat × Value)} {st : List Value} {σ : St} {x y : Int64} (h : x = y) (k : G M κ nL Q pc L (.long y :: st) σ) : G M κ nL Q pc L (.long x :: st) σ := h ▸ k
theorem i2l_z {z : Int} (h : R32 z) : (iZ z).toInt64 = Int64.ofInt z := by
  unfold R32 at h
  exact Int32.toInt64_ofInt (by have : Int32.minValue.toInt = -2147483648 := by decide
                                omega) (by have : Int32.maxValue.toInt = 2147483647 := by decide
                                           omega)
/-- lines of a table weighed by their value at a column -/
def wS (w : Wv) (p : Nat) (g : Nat → Nat) (n : Nat) : Nat := nsum n (fun i => g i * wv w (p / 3) i (p % 3))
set_option maxHeartbeats 4000000 in
set_option maxRecDepth 100000 in
theorem c_X1_sumOf {κ : Kp} (hI : Ij κ) (l : Launch) (σ : St) {w : Wv} (hX : XW 0 σ w) (hW : OKW w) {p : Nat} {zp : Int} (hp : zp = (p : Int)) (hp14 : p ≤ 14) {g : Nat → Nat} (hg : ∀ j, j < 16 → σ.1 102 j = (g j : Int)) (hgb : ∀ j, j < 16 → g j ≤ 165536) : CtJ κ l 1 yX1_sumOf cX1_sumOf 6 [.ref (κ.2.1 98), .int (iZ zp)] σ (fun z σ' => z = Int64.ofInt (wS w p g (wl w (p / 3)) : Int) ∧ σ' = σ) := by
  refine Ct.ofG (own := RX1) hI (by decide +kernel) rfl (Nat.le_of_ble_eq_true rfl) rfl ?_
  intro M C hMl
  have hto := hW.1 (p / 3) (by omega)
  have hkp : kd (2 + 2 * (p / 3)) = 5 := kd_tab (p / 3) (by omega)
  refine g_aload_n C dX1_sumOf_0 rfl ?_
  refine gf_X1_28 C dX1_sumOf_1 rfl ?_
  refine gf_X1_52 C dX1_sumOf_4 rfl ?_
  refine g_iload_n C dX1_sumOf_7 rfl ?_
  refine g_iconst (z := 3) C dX1_sumOf_8 rfl ?_
  refine g_idiv C dX1_sumOf_9 (by omega) ?_
  have hkz1 : kd (2 + 2 * (p / 3)) = 5 := kd_tab (p / 3) (by omega)
  refine g_aald (n := (p / 3)) (N := 5) (c := 23) (r := (2 + 2 * (p / 3))) C dX1_sumOf_10 rfl (by decide) rfl (by decide) rfl (by omega) (by omega) (by decide) (rf_23 _ _ rfl) ?_
  refine g_pc (pc' := 11) rfl ?_
  refine g_astore_n (L' := [(2, .ref (κ.2.1 (2 + 2 * (p / 3)))), (0, .ref (κ.2.1 98)), (1, .int (iZ zp))]) C dX1_sumOf_11 rfl (by decide) rfl ?_
  refine g_lconst0 C dX1_sumOf_12 ?_
  refine g_lstore_n (L' := [(3, .long 0), (2, .ref (κ.2.1 (2 + 2 * (p / 3)))), (0, .ref (κ.2.1 98)), (1, .int (iZ zp))]) C dX1_sumOf_13 rfl (by decide) rfl ?_
  refine g_iconst (z := 0) C dX1_sumOf_14 rfl ?_
  refine g_istore (L' := [(5, .int (iZ 0)), (3, .long 0), (2, .ref (κ.2.1 (2 + 2 * (p / 3)))), (0, .ref (κ.2.1 98)), (1, .int (iZ zp))]) C dX1_sumOf_15 (by decide) rfl ?_
  have lp17 : ∀ (fz9 : Nat) (i : Nat) (x3 : Int64) (x5 : Int), (wl w (p / 3) - i < fz9) → (x3 = Int64.ofInt (wS w p g i : Int)) → (x5 = (i : Int)) → (i ≤ wl w (p / 3)) → G M κ 6 (En M κ (qJ κ (fun z σ' => z = Int64.ofInt (wS w p g (wl w (p / 3)) : Int) ∧ σ' = σ))) 17 [(0, .ref (κ.2.1 98)), (1, .int (iZ zp)), (2, .ref (κ.2.1 (2 + 2 * (p / 3)))), (3, .long x3), (5, .int (iZ x5))] [] σ := by
    intro fz9
    induction fz9 with
    | zero => intro i x3 x5 hm0; exact absurd hm0 (Nat.not_lt_zero _)
    | succ fz9 ih17 =>
      intro i x3 x5 hm17 hx3 hx5 hi
      refine g_iload C dX1_sumOf_17 rfl ?_
      refine g_aload_n C dX1_sumOf_19 rfl ?_
      refine gf_X1_58 (z := (wl w (p / 3) : Int)) C dX1_sumOf_20 hkp ((hX.1 (p / 3) (by omega)).1) ?_
      refine g_pc (pc' := 23) rfl ?_
      refine g_icmp_ge (tgt := 54) C dX1_sumOf_23 (by decide) (by unfold R32; omega) (fun h2 => ?_) (fun h2 => ?_)
      · refine g_lload_n C dX1_sumOf_54 rfl ?_
        exact g_lreturn C dX1_sumOf_55 ⟨by rw [hx3, show i = wl w (p / 3) by omega], rfl⟩
      · refine g_lload_n C dX1_sumOf_26 rfl ?_
        refine g_aload_n C dX1_sumOf_27 rfl ?_
        refine gf_X1_25 C dX1_sumOf_28 rfl ?_
        refine g_iload C dX1_sumOf_31 rfl ?_
        refine g_iaz (n := i) (N := 16) (v := (g i : Int)) C dX1_sumOf_33 rfl rfl (by omega) (by omega) (by decide) (hg i (by omega)) ?_
        refine g_pc (pc' := 34) rfl ?_
        refine g_i2l C dX1_sumOf_34 ?_
        have hgi0 := hgb i (by omega)
        refine g_lraw (i2l_z (by unfold R32; omega)) ?_
        refine g_aload_n C dX1_sumOf_35 rfl ?_
        refine g_iload C dX1_sumOf_36 rfl ?_
        refine g_iload_n C dX1_sumOf_38 rfl ?_
        refine g_iconst (z := 3) C dX1_sumOf_39 rfl ?_
        refine g_irem C dX1_sumOf_40 (by omega) ?_
        have hvv := (hX.1 (p / 3) (by omega)).2.2.2 i (by omega) (p % 3) (by omega)
        have hv99 := hto.2.2.2 i (by omega) (p % 3) (by omega)
        rw [show 0 + 3 + 2 * (p / 3) = 2 + 2 * (p / 3) + 1 by omega] at hvv
        have hgi := hgb i (by omega)
        refine gc_X1_63 C dX1_sumOf_41 hkp (c_X5_valueAt hI (Ml M) σ hkp (i := i) (c := (p % 3)) (by omega) (by omega) ⟨by omega, by omega⟩) (by decide) (Nat.le_of_ble_eq_true rfl) (fun z σ1 ⟨hz, hσ⟩ => ?_)
        subst σ1
        rw [hvv] at hz
        subst z
        refine g_i2l C dX1_sumOf_44 ?_
        refine g_lraw (i2l_z (by unfold R32; omega)) ?_
        refine g_pc (pc' := 45) rfl ?_
        refine g_lmul C dX1_sumOf_45 ?_
        refine g_ladd C dX1_sumOf_46 ?_
        refine g_lstore_n (L' := [(3, .long (x3 + ((Int64.ofInt (g i : Int)) * (Int64.ofInt (wv w (p / 3) i (p % 3) : Int))))), (0, .ref (κ.2.1 98)), (1, .int (iZ zp)), (2, .ref (κ.2.1 (2 + 2 * (p / 3)))), (5, .int (iZ x5))]) C dX1_sumOf_47 rfl (by decide) rfl ?_
        refine g_iinc (q := 4) (v := (x5 + 1)) (L' := [(5, .int (iZ (x5 + 1))), (3, .long (x3 + ((Int64.ofInt (g i : Int)) * (Int64.ofInt (wv w (p / 3) i (p % 3) : Int))))), (0, .ref (κ.2.1 98)), (1, .int (iZ zp)), (2, .ref (κ.2.1 (2 + 2 * (p / 3))))]) C dX1_sumOf_48 rfl rfl (by decide) rfl ?_
        refine g_goto (tgt := 17) C dX1_sumOf_51 (by decide) ?_
        exact g_loc [2, 3, 4, 1, 0] (by rfl) (ih17 (i + 1) _ (x5 + 1) (by omega) (by rw [hx3, ← Int64.ofInt_mul, ← Int64.ofInt_add]; exact congrArg Int64.ofInt (by show _ = ((nsum (i + 1) _ : Nat) : Int); rw [nsum, Int.natCast_add, Int.natCast_mul]; rfl)) (by omega) (by omega))
  exact g_loc [3, 4, 2, 1, 0] (by rfl) (lp17 _ 0 0 0 (Nat.lt_succ_self _) rfl rfl (Nat.zero_le _))

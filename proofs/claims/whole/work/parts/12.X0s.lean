set_option maxHeartbeats 4000000 in
set_option maxRecDepth 100000 in
theorem c_X0_shareLess {κ : Kp} (hI : Ij κ) (l : Launch) (σ : St) {c : Nat → Int} {n m : Nat} (hH : HS σ c n m) (hn16 : n ≤ 16) (hm8 : 0 < m ∧ m ≤ 8) (hc : ∀ i, i < n → 0 ≤ c i ∧ c i ≤ 99) (h0 : 0 < n) {v : Int} (hv : 0 ≤ v ∧ v ≤ 99) : CtF κ l 0 yX0_shareLess cX0_shareLess 4 [.ref (κ.2.1 81), .int (iZ v)] σ (fun z σ' => z = lsS (srt c n) n m v ∧ σ' = σ) := by
  refine Ct.ofG (own := RX0) hI (by decide +kernel) rfl (Nat.le_of_ble_eq_true rfl) rfl ?_
  intro M C hMl
  have hS : SR (srt c n) n := srt_rng hc
  have hbc := bct_le n m m
  refine g_fconst0 C dX0_shareLess_0 ?_
  refine g_fstore_n (L' := [(2, .float FP.fconst0), (0, .ref (κ.2.1 81)), (1, .int (iZ v))]) C dX0_shareLess_1 rfl (by decide) rfl ?_
  refine g_iconst (z := 0) C dX0_shareLess_2 rfl ?_
  refine g_istore_n (L' := [(3, .int (iZ 0)), (2, .float FP.fconst0), (0, .ref (κ.2.1 81)), (1, .int (iZ v))]) C dX0_shareLess_3 rfl (by decide) rfl ?_
  have lp4 : ∀ (fz9 : Nat) (j : Nat) (x2 : UInt32) (x3 : Int), (bct n m m - j < fz9) → (x3 = (j : Int)) → (j ≤ bct n m m) → (x2 = lsF (srt c n) n m v j) → G M κ 4 (En M κ (qF κ (fun z σ' => z = lsS (srt c n) n m v ∧ σ' = σ))) 4 [(0, .ref (κ.2.1 81)), (1, .int (iZ v)), (2, .float x2), (3, .int (iZ x3))] [] σ := by
    intro fz9
    induction fz9 with
    | zero => intro j x2 x3 hm0; exact absurd hm0 (Nat.not_lt_zero _)
    | succ fz9 ih =>
      intro j x2 x3 hm4 hx3 hj hx2
      subst x2
      have hab : j < bct n m m → bA n m j < bB n m j ∧ bB n m j ≤ n := bAB n m j hm8.1
      have hrA : j < bct n m m → 0 ≤ srt c n (bA n m j) ∧ srt c n (bA n m j) ≤ 99 := fun q => hS _ (by have := hab q; omega)
      have hrB : j < bct n m m → 0 ≤ srt c n (bB n m j - 1) ∧ srt c n (bB n m j - 1) ≤ 99 := fun q => hS _ (by have := hab q; omega)
      refine g_iload_n C dX0_shareLess_4 rfl ?_
      refine g_aload_n C dX0_shareLess_5 rfl ?_
      refine gf_X0_31 (z := (bct n m m : Int)) C dX0_shareLess_6 rfl hH.2.2.1 ?_
      refine g_pc (pc' := 9) rfl ?_
      refine g_icmp_ge (tgt := 88) C dX0_shareLess_9 (by decide) (by unfold R32; omega) (fun h1 => ?_) (fun h1 => ?_)
      · refine g_fload_n C dX0_shareLess_88 rfl ?_
        refine g_aload_n C dX0_shareLess_89 rfl ?_
        refine gf_X0_15 (z := (n : Int)) C dX0_shareLess_90 rfl hH.1 ?_
        refine g_i2f C dX0_shareLess_93 ?_
        refine g_fdiv C dX0_shareLess_94 (by have h9 := (lsS_B (v := v) hS hm8.1 hn16 h0).vf; unfold lsS at h9; rw [show bct n m m = j by omega] at h9; exact h9) ?_
        exact g_freturn C dX0_shareLess_95 ⟨by rw [lsS, show bct n m m = j by omega], rfl⟩
      · have hab := hab (by omega)
        have hrA := hrA (by omega)
        have hrB := hrB (by omega)
        refine g_iload_n C dX0_shareLess_12 rfl ?_
        refine g_pc (pc' := 13) rfl ?_
        refine g_aload_n C dX0_shareLess_13 rfl ?_
        refine gf_X0_22 C dX0_shareLess_14 rfl ?_
        refine g_iload_n C dX0_shareLess_17 rfl ?_
        refine g_iaz (n := j) (N := 8) (v := (srt c n (bB n m j - 1))) C dX0_shareLess_18 rfl rfl (by omega) (by omega) (by decide) ((hH.2.2.2 j (by omega)).2.1) ?_
        refine g_icmp_le (tgt := 35) C dX0_shareLess_19 (by decide) (by unfold R32; omega) (fun h2 => ?_) (fun h2 => ?_)
        · refine g_iload_n C dX0_shareLess_35 rfl ?_
          refine g_aload_n C dX0_shareLess_36 rfl ?_
          refine gf_X0_19 C dX0_shareLess_37 rfl ?_
          refine g_pc (pc' := 40) rfl ?_
          refine g_iload_n C dX0_shareLess_40 rfl ?_
          refine g_iaz (n := j) (N := 8) (v := (srt c n (bA n m j))) C dX0_shareLess_41 rfl rfl (by omega) (by omega) (by decide) ((hH.2.2.2 j (by omega)).1) ?_
          refine g_icmp_le (tgt := 82) C dX0_shareLess_42 (by decide) (by unfold R32; omega) (fun h3 => ?_) (fun h3 => ?_)
          · refine g_iinc (q := 3) (v := (x3 + 1)) (L' := [(3, .int (iZ (x3 + 1))), (0, .ref (κ.2.1 81)), (1, .int (iZ v)), (2, .float (lsF (srt c n) n m v j))]) C dX0_shareLess_82 rfl rfl (by decide) rfl ?_
            refine g_goto (tgt := 4) C dX0_shareLess_85 (by decide) ?_
            exact g_loc [1, 2, 3, 0] (by rfl) (ih (j + 1) (lsF (srt c n) n m v j) (x3 + 1) (by omega) (by omega) (by omega) (by rw [lsF]; first | rw [if_pos (by omega)] | rw [if_neg (by omega), if_pos (by omega)] | rw [if_neg (by omega), if_neg (by omega)] | rw [if_neg (by omega)]))
          · refine g_fload_n C dX0_shareLess_45 rfl ?_
            refine g_aload_n C dX0_shareLess_46 rfl ?_
            refine gf_X0_25 C dX0_shareLess_47 rfl ?_
            refine g_pc (pc' := 50) rfl ?_
            refine g_iload_n C dX0_shareLess_50 rfl ?_
            refine g_iaz (n := j) (N := 8) (v := ((bB n m j - bA n m j : Nat) : Int)) C dX0_shareLess_51 rfl rfl (by omega) (by omega) (by decide) ((hH.2.2.2 j (by omega)).2.2.1) ?_
            refine g_i2f C dX0_shareLess_52 ?_
            refine g_iload_n C dX0_shareLess_53 rfl ?_
            refine g_aload_n C dX0_shareLess_54 rfl ?_
            refine gf_X0_19 C dX0_shareLess_55 rfl ?_
            refine g_iload_n C dX0_shareLess_58 rfl ?_
            refine g_iaz (n := j) (N := 8) (v := (srt c n (bA n m j))) C dX0_shareLess_59 rfl rfl (by omega) (by omega) (by decide) ((hH.2.2.2 j (by omega)).1) ?_
            refine g_pc (pc' := 60) rfl ?_
            refine g_isub C dX0_shareLess_60 ?_
            refine g_i2f C dX0_shareLess_61 ?_
            refine g_aload_n C dX0_shareLess_62 rfl ?_
            refine gf_X0_22 C dX0_shareLess_63 rfl ?_
            refine g_iload_n C dX0_shareLess_66 rfl ?_
            refine g_iaz (n := j) (N := 8) (v := (srt c n (bB n m j - 1))) C dX0_shareLess_67 rfl rfl (by omega) (by omega) (by decide) ((hH.2.2.2 j (by omega)).2.1) ?_
            refine g_aload_n C dX0_shareLess_68 rfl ?_
            refine gf_X0_19 C dX0_shareLess_69 rfl ?_
            refine g_pc (pc' := 72) rfl ?_
            refine g_iload_n C dX0_shareLess_72 rfl ?_
            refine g_iaz (n := j) (N := 8) (v := (srt c n (bA n m j))) C dX0_shareLess_73 rfl rfl (by omega) (by omega) (by decide) ((hH.2.2.2 j (by omega)).1) ?_
            refine g_isub C dX0_shareLess_74 ?_
            refine g_iconst (z := 1) C dX0_shareLess_75 rfl ?_
            refine g_iadd C dX0_shareLess_76 ?_
            refine g_i2f C dX0_shareLess_77 ?_
            refine g_fdiv C dX0_shareLess_78 (part_B hS hm8.1 hn16 (by omega) (by omega) (by omega)).vf ?_
            refine g_fmul C dX0_shareLess_79 (fB_muls (fB_i2f (by omega)) (part_B hS hm8.1 hn16 (by omega) (by omega) (by omega)) (by omega)).vf ?_
            refine g_pc (pc' := 80) rfl ?_
            refine g_fadd C dX0_shareLess_80 (by have h9 := (lsF_B (v := v) hS hm8.1 hn16 (j + 1) (by omega)).vf; rwa [lsF, if_neg (by omega), if_pos (by omega)] at h9) ?_
            refine g_fstore_n (L' := [(2, .float (FP.fadd (lsF (srt c n) n m v j) (FP.fmul (FP.i2f (iZ ((bB n m j - bA n m j : Nat) : Int))) (FP.fdiv (FP.i2f (iZ (v - (srt c n (bA n m j))))) (FP.i2f (iZ (((srt c n (bB n m j - 1)) - (srt c n (bA n m j))) + 1))))))), (0, .ref (κ.2.1 81)), (1, .int (iZ v)), (3, .int (iZ x3))]) C dX0_shareLess_81 rfl (by decide) rfl ?_
            refine g_iinc (q := 3) (v := (x3 + 1)) (L' := [(3, .int (iZ (x3 + 1))), (2, .float (FP.fadd (lsF (srt c n) n m v j) (FP.fmul (FP.i2f (iZ ((bB n m j - bA n m j : Nat) : Int))) (FP.fdiv (FP.i2f (iZ (v - (srt c n (bA n m j))))) (FP.i2f (iZ (((srt c n (bB n m j - 1)) - (srt c n (bA n m j))) + 1))))))), (0, .ref (κ.2.1 81)), (1, .int (iZ v))]) C dX0_shareLess_82 rfl rfl (by decide) rfl ?_
            refine g_goto (tgt := 4) C dX0_shareLess_85 (by decide) ?_
            exact g_loc [2, 3, 1, 0] (by rfl) (ih (j + 1) (FP.fadd (lsF (srt c n) n m v j) (FP.fmul (FP.i2f (iZ ((bB n m j - bA n m j : Nat) : Int))) (FP.fdiv (FP.i2f (iZ (v - (srt c n (bA n m j))))) (FP.i2f (iZ (((srt c n (bB n m j - 1)) - (srt c n (bA n m j))) + 1)))))) (x3 + 1) (by omega) (by omega) (by omega) (by rw [lsF]; first | rw [if_pos (by omega)] | rw [if_neg (by omega), if_pos (by omega)] | rw [if_neg (by omega), if_neg (by omega)] | rw [if_neg (by omega)]))
        · refine g_fload_n C dX0_shareLess_22 rfl ?_
          refine g_aload_n C dX0_shareLess_23 rfl ?_
          refine gf_X0_25 C dX0_shareLess_24 rfl ?_
          refine g_iload_n C dX0_shareLess_27 rfl ?_
          refine g_pc (pc' := 28) rfl ?_
          refine g_iaz (n := j) (N := 8) (v := ((bB n m j - bA n m j : Nat) : Int)) C dX0_shareLess_28 rfl rfl (by omega) (by omega) (by decide) ((hH.2.2.2 j (by omega)).2.2.1) ?_
          refine g_i2f C dX0_shareLess_29 ?_
          refine g_fadd C dX0_shareLess_30 (by have h9 := (lsF_B (v := v) hS hm8.1 hn16 (j + 1) (by omega)).vf; rwa [lsF, if_pos (by omega)] at h9) ?_
          refine g_fstore_n (L' := [(2, .float (FP.fadd (lsF (srt c n) n m v j) (FP.i2f (iZ ((bB n m j - bA n m j : Nat) : Int))))), (0, .ref (κ.2.1 81)), (1, .int (iZ v)), (3, .int (iZ x3))]) C dX0_shareLess_31 rfl (by decide) rfl ?_
          refine g_goto (tgt := 82) C dX0_shareLess_32 (by decide) ?_
          refine g_iinc (q := 3) (v := (x3 + 1)) (L' := [(3, .int (iZ (x3 + 1))), (2, .float (FP.fadd (lsF (srt c n) n m v j) (FP.i2f (iZ ((bB n m j - bA n m j : Nat) : Int))))), (0, .ref (κ.2.1 81)), (1, .int (iZ v))]) C dX0_shareLess_82 rfl rfl (by decide) rfl ?_
          refine g_goto (tgt := 4) C dX0_shareLess_85 (by decide) ?_
          exact g_loc [2, 3, 1, 0] (by rfl) (ih (j + 1) (FP.fadd (lsF (srt c n) n m v j) (FP.i2f (iZ ((bB n m j - bA n m j : Nat) : Int)))) (x3 + 1) (by omega) (by omega) (by omega) (by rw [lsF]; first | rw [if_pos (by omega)] | rw [if_neg (by omega), if_pos (by omega)] | rw [if_neg (by omega), if_neg (by omega)] | rw [if_neg (by omega)]))
  exact g_loc [2, 3, 1, 0] (by rfl) (lp4 _ 0 FP.fconst0 0 (Nat.lt_succ_self _) rfl (Nat.zero_le _) rfl)
set_option maxHeartbeats 4000000 in
set_option maxRecDepth 100000 in
theorem c_X0_shareEqual {κ : Kp} (hI : Ij κ) (l : Launch) (σ : St) {c : Nat → Int} {n m : Nat} (hH : HS σ c n m) (hn16 : n ≤ 16) (hm8 : 0 < m ∧ m ≤ 8) (hc : ∀ i, i < n → 0 ≤ c i ∧ c i ≤ 99) (h0 : 0 < n) {v : Int} (hv : 0 ≤ v ∧ v ≤ 99) : CtF κ l 0 yX0_shareEqual cX0_shareEqual 4 [.ref (κ.2.1 81), .int (iZ v)] σ (fun z σ' => z = eqS (srt c n) n m v ∧ σ' = σ) := by
  refine Ct.ofG (own := RX0) hI (by decide +kernel) rfl (Nat.le_of_ble_eq_true rfl) rfl ?_
  intro M C hMl
  have hS : SR (srt c n) n := srt_rng hc
  have hbc := bct_le n m m
  refine g_fconst0 C dX0_shareEqual_0 ?_
  refine g_fstore_n (L' := [(2, .float FP.fconst0), (0, .ref (κ.2.1 81)), (1, .int (iZ v))]) C dX0_shareEqual_1 rfl (by decide) rfl ?_
  refine g_iconst (z := 0) C dX0_shareEqual_2 rfl ?_
  refine g_istore_n (L' := [(3, .int (iZ 0)), (2, .float FP.fconst0), (0, .ref (κ.2.1 81)), (1, .int (iZ v))]) C dX0_shareEqual_3 rfl (by decide) rfl ?_
  have lp4 : ∀ (fz9 : Nat) (j : Nat) (x2 : UInt32) (x3 : Int), (bct n m m - j < fz9) → (x3 = (j : Int)) → (j ≤ bct n m m) → (x2 = eqF (srt c n) n m v j) → G M κ 4 (En M κ (qF κ (fun z σ' => z = eqS (srt c n) n m v ∧ σ' = σ))) 4 [(0, .ref (κ.2.1 81)), (1, .int (iZ v)), (2, .float x2), (3, .int (iZ x3))] [] σ := by
    intro fz9
    induction fz9 with
    | zero => intro j x2 x3 hm0; exact absurd hm0 (Nat.not_lt_zero _)
    | succ fz9 ih =>
      intro j x2 x3 hm4 hx3 hj hx2
      subst x2
      have hab : j < bct n m m → bA n m j < bB n m j ∧ bB n m j ≤ n := bAB n m j hm8.1
      have hrA : j < bct n m m → 0 ≤ srt c n (bA n m j) ∧ srt c n (bA n m j) ≤ 99 := fun q => hS _ (by have := hab q; omega)
      have hrB : j < bct n m m → 0 ≤ srt c n (bB n m j - 1) ∧ srt c n (bB n m j - 1) ≤ 99 := fun q => hS _ (by have := hab q; omega)
      refine g_iload_n C dX0_shareEqual_4 rfl ?_
      refine g_aload_n C dX0_shareEqual_5 rfl ?_
      refine gf_X0_31 (z := (bct n m m : Int)) C dX0_shareEqual_6 rfl hH.2.2.1 ?_
      refine g_pc (pc' := 9) rfl ?_
      refine g_icmp_ge (tgt := 56) C dX0_shareEqual_9 (by decide) (by unfold R32; omega) (fun h1 => ?_) (fun h1 => ?_)
      · refine g_fload_n C dX0_shareEqual_56 rfl ?_
        refine g_aload_n C dX0_shareEqual_57 rfl ?_
        refine gf_X0_15 (z := (n : Int)) C dX0_shareEqual_58 rfl hH.1 ?_
        refine g_i2f C dX0_shareEqual_61 ?_
        refine g_fdiv C dX0_shareEqual_62 (by have h9 := (eqS_B (S := srt c n) (v := v) hm8.1 hn16 h0).vf; unfold eqS at h9; rw [show bct n m m = j by omega] at h9; exact h9) ?_
        exact g_freturn C dX0_shareEqual_63 ⟨by rw [eqS, show bct n m m = j by omega], rfl⟩
      · have hab := hab (by omega)
        have hrA := hrA (by omega)
        have hrB := hrB (by omega)
        have hdp := dif_pos (srt c n) _ _ hab.1
        have hdl := dif_le (srt c n) (bA n m j) (bB n m j)
        refine g_iload_n C dX0_shareEqual_12 rfl ?_
        refine g_pc (pc' := 13) rfl ?_
        refine g_aload_n C dX0_shareEqual_13 rfl ?_
        refine gf_X0_19 C dX0_shareEqual_14 rfl ?_
        refine g_iload_n C dX0_shareEqual_17 rfl ?_
        refine g_iaz (n := j) (N := 8) (v := (srt c n (bA n m j))) C dX0_shareEqual_18 rfl rfl (by omega) (by omega) (by decide) ((hH.2.2.2 j (by omega)).1) ?_
        refine g_icmp_lt (tgt := 50) C dX0_shareEqual_19 (by decide) (by unfold R32; omega) (fun h2 => ?_) (fun h2 => ?_)
        · refine g_iinc (q := 3) (v := (x3 + 1)) (L' := [(3, .int (iZ (x3 + 1))), (0, .ref (κ.2.1 81)), (1, .int (iZ v)), (2, .float (eqF (srt c n) n m v j))]) C dX0_shareEqual_50 rfl rfl (by decide) rfl ?_
          refine g_goto (tgt := 4) C dX0_shareEqual_53 (by decide) ?_
          exact g_loc [1, 2, 3, 0] (by rfl) (ih (j + 1) (eqF (srt c n) n m v j) (x3 + 1) (by omega) (by omega) (by omega) (by rw [eqF]; first | rw [if_pos (by omega)] | rw [if_neg (by omega), if_pos (by omega)] | rw [if_neg (by omega), if_neg (by omega)] | rw [if_neg (by omega)]))
        · refine g_iload_n C dX0_shareEqual_22 rfl ?_
          refine g_pc (pc' := 23) rfl ?_
          refine g_aload_n C dX0_shareEqual_23 rfl ?_
          refine gf_X0_22 C dX0_shareEqual_24 rfl ?_
          refine g_iload_n C dX0_shareEqual_27 rfl ?_
          refine g_iaz (n := j) (N := 8) (v := (srt c n (bB n m j - 1))) C dX0_shareEqual_28 rfl rfl (by omega) (by omega) (by decide) ((hH.2.2.2 j (by omega)).2.1) ?_
          refine g_icmp_gt (tgt := 50) C dX0_shareEqual_29 (by decide) (by unfold R32; omega) (fun h3 => ?_) (fun h3 => ?_)
          · refine g_iinc (q := 3) (v := (x3 + 1)) (L' := [(3, .int (iZ (x3 + 1))), (0, .ref (κ.2.1 81)), (1, .int (iZ v)), (2, .float (eqF (srt c n) n m v j))]) C dX0_shareEqual_50 rfl rfl (by decide) rfl ?_
            refine g_goto (tgt := 4) C dX0_shareEqual_53 (by decide) ?_
            exact g_loc [1, 2, 3, 0] (by rfl) (ih (j + 1) (eqF (srt c n) n m v j) (x3 + 1) (by omega) (by omega) (by omega) (by rw [eqF]; first | rw [if_pos (by omega)] | rw [if_neg (by omega), if_pos (by omega)] | rw [if_neg (by omega), if_neg (by omega)] | rw [if_neg (by omega)]))
          · refine g_fload_n C dX0_shareEqual_32 rfl ?_
            refine g_pc (pc' := 33) rfl ?_
            refine g_aload_n C dX0_shareEqual_33 rfl ?_
            refine gf_X0_25 C dX0_shareEqual_34 rfl ?_
            refine g_iload_n C dX0_shareEqual_37 rfl ?_
            refine g_iaz (n := j) (N := 8) (v := ((bB n m j - bA n m j : Nat) : Int)) C dX0_shareEqual_38 rfl rfl (by omega) (by omega) (by decide) ((hH.2.2.2 j (by omega)).2.2.1) ?_
            refine g_i2f C dX0_shareEqual_39 ?_
            refine g_aload_n C dX0_shareEqual_40 rfl ?_
            refine gf_X0_28 C dX0_shareEqual_41 rfl ?_
            refine g_iload_n C dX0_shareEqual_44 rfl ?_
            refine g_pc (pc' := 45) rfl ?_
            refine g_iaz (n := j) (N := 8) (v := ((dif (srt c n) (bA n m j) (bB n m j) : Nat) : Int)) C dX0_shareEqual_45 rfl rfl (by omega) (by omega) (by decide) ((hH.2.2.2 j (by omega)).2.2.2) ?_
            refine g_i2f C dX0_shareEqual_46 ?_
            refine g_fdiv C dX0_shareEqual_47 (fB_quot2 (fB_i2f (by omega)) (by omega) (by omega) (by omega)).vf ?_
            refine g_fadd C dX0_shareEqual_48 (by have h9 := (eqF_B (S := srt c n) (v := v) hm8.1 hn16 (j + 1) (by omega)).vf; rwa [eqF, if_pos (by omega)] at h9) ?_
            refine g_fstore_n (L' := [(2, .float (FP.fadd (eqF (srt c n) n m v j) (FP.fdiv (FP.i2f (iZ ((bB n m j - bA n m j : Nat) : Int))) (FP.i2f (iZ ((dif (srt c n) (bA n m j) (bB n m j) : Nat) : Int)))))), (0, .ref (κ.2.1 81)), (1, .int (iZ v)), (3, .int (iZ x3))]) C dX0_shareEqual_49 rfl (by decide) rfl ?_
            refine g_iinc (q := 3) (v := (x3 + 1)) (L' := [(3, .int (iZ (x3 + 1))), (2, .float (FP.fadd (eqF (srt c n) n m v j) (FP.fdiv (FP.i2f (iZ ((bB n m j - bA n m j : Nat) : Int))) (FP.i2f (iZ ((dif (srt c n) (bA n m j) (bB n m j) : Nat) : Int)))))), (0, .ref (κ.2.1 81)), (1, .int (iZ v))]) C dX0_shareEqual_50 rfl rfl (by decide) rfl ?_
            refine g_goto (tgt := 4) C dX0_shareEqual_53 (by decide) ?_
            exact g_loc [2, 3, 1, 0] (by rfl) (ih (j + 1) (FP.fadd (eqF (srt c n) n m v j) (FP.fdiv (FP.i2f (iZ ((bB n m j - bA n m j : Nat) : Int))) (FP.i2f (iZ ((dif (srt c n) (bA n m j) (bB n m j) : Nat) : Int))))) (x3 + 1) (by omega) (by omega) (by omega) (by rw [eqF]; first | rw [if_pos (by omega)] | rw [if_neg (by omega), if_pos (by omega)] | rw [if_neg (by omega), if_neg (by omega)] | rw [if_neg (by omega)]))
  exact g_loc [2, 3, 1, 0] (by rfl) (lp4 _ 0 FP.fconst0 0 (Nat.lt_succ_self _) rfl (Nat.zero_le _) rfl)
set_option maxHeartbeats 4000000 in
set_option maxRecDepth 100000 in
theorem c_X0_shareOf {κ : Kp} (hI : Ij κ) (l : Launch) (σ : St) {c : Nat → Int} {n m : Nat} (hH : HS σ c n m) (hn16 : n ≤ 16) (hm8 : 0 < m ∧ m ≤ 8) (hc : ∀ i, i < n → 0 ≤ c i ∧ c i ≤ 99) {sg v : Int} (hsg : 0 ≤ sg ∧ sg ≤ 2) (hv : 0 ≤ v ∧ v ≤ 99) : CtF κ l 1 yX0_shareOf cX0_shareOf 4 [.ref (κ.2.1 81), .int (iZ sg), .int (iZ v)] σ (fun z σ' => z = shr (srt c n) n m sg v ∧ σ' = σ) := by
  refine Ct.ofG (own := RX0) hI (by decide +kernel) rfl (Nat.le_of_ble_eq_true rfl) rfl ?_
  intro M C hMl
  have hS : SR (srt c n) n := srt_rng hc
  have hbc := bct_le n m m
  refine g_aload_n C dX0_shareOf_0 rfl ?_
  refine gf_X0_15 (z := (n : Int)) C dX0_shareOf_1 rfl hH.1 ?_
  refine g_if_ne (tgt := 9) C dX0_shareOf_4 (by decide) (by unfold R32; omega) (fun h1 => ?_) (fun h1 => ?_)
  · refine g_iload_n C dX0_shareOf_9 rfl ?_
    refine g_if_ne (tgt := 19) C dX0_shareOf_10 (by decide) (by unfold R32; omega) (fun h2 => ?_) (fun h2 => ?_)
    · refine g_iload_n C dX0_shareOf_19 rfl ?_
      refine g_iconst (z := 1) C dX0_shareOf_20 rfl ?_
      refine g_pc (pc' := 21) rfl ?_
      refine g_icmp_ne (tgt := 30) C dX0_shareOf_21 (by decide) (by unfold R32; omega) (fun h3 => ?_) (fun h3 => ?_)
      · refine g_fconst1 C dX0_shareOf_30 ?_
        refine g_aload_n C dX0_shareOf_31 rfl ?_
        refine g_iload_n C dX0_shareOf_32 rfl ?_
        refine gc_X0_54 C dX0_shareOf_33 rfl (c_X0_shareLess hI (Ml M) σ hH hn16 hm8 hc (by omega) hv) (by decide) (Nat.le_of_ble_eq_true rfl) (fun z σ1 ⟨hz, hσ⟩ => ?_)
        subst z
        subst σ1
        refine g_aload_n C dX0_shareOf_36 rfl ?_
        refine g_iload_n C dX0_shareOf_37 rfl ?_
        refine gc_X0_58 C dX0_shareOf_38 rfl (c_X0_shareEqual hI (Ml M) σ hH hn16 hm8 hc (by omega) hv) (by decide) (Nat.le_of_ble_eq_true rfl) (fun z σ1 ⟨hz, hσ⟩ => ?_)
        subst z
        subst σ1
        refine g_pc (pc' := 41) rfl ?_
        refine g_fadd C dX0_shareOf_41 (lsq_B hS hm8.1 hn16 (by omega)).vf ?_
        refine g_fsub C dX0_shareOf_42 (vf_of (fsub_1 (lsq_B hS hm8.1 hn16 (by omega))).1) ?_
        refine g_fstore_n (L' := [(3, .float (FP.fsub FP.fconst1 (FP.fadd (lsS (srt c n) n m v) (eqS (srt c n) n m v)))), (0, .ref (κ.2.1 81)), (1, .int (iZ sg)), (2, .int (iZ v))]) C dX0_shareOf_43 rfl (by decide) rfl ?_
        refine g_fload_n C dX0_shareOf_44 rfl ?_
        refine g_fconst0 C dX0_shareOf_45 ?_
        refine g_fcmp C dX0_shareOf_46 ?_
        refine g_ifr_ge (tgt := 54) C dX0_shareOf_47 (by decide) (fun h4 => ?_) (fun h4 => ?_)
        · refine g_fload_n C dX0_shareOf_54 rfl ?_
          refine g_pc (pc' := 55) rfl ?_
          exact g_freturn C dX0_shareOf_55 ⟨by unfold shr; rw [if_neg (by omega), if_neg (by omega), if_neg (by omega), if_neg ((cv_g _).1.mp h4)], rfl⟩
        · refine g_fconst0 C dX0_shareOf_50 ?_
          refine g_goto (tgt := 55) C dX0_shareOf_51 (by decide) ?_
          exact g_freturn C dX0_shareOf_55 ⟨by unfold shr; first | rw [if_pos (by omega)] | rw [if_neg (by omega), if_neg (by omega), if_neg (by omega), if_pos (Classical.not_not.mp (fun q => h4 ((cv_g _).1.mpr q)))], rfl⟩
      · refine g_aload_n C dX0_shareOf_24 rfl ?_
        refine g_iload_n C dX0_shareOf_25 rfl ?_
        refine gc_X0_58 C dX0_shareOf_26 rfl (c_X0_shareEqual hI (Ml M) σ hH hn16 hm8 hc (by omega) hv) (by decide) (Nat.le_of_ble_eq_true rfl) (fun z σ1 ⟨hz, hσ⟩ => ?_)
        subst z
        subst σ1
        exact g_freturn C dX0_shareOf_29 ⟨by unfold shr; rw [if_neg (by omega), if_neg (by omega), if_pos (by omega)], rfl⟩
    · refine g_pc (pc' := 13) rfl ?_
      refine g_aload_n C dX0_shareOf_13 rfl ?_
      refine g_iload_n C dX0_shareOf_14 rfl ?_
      refine gc_X0_54 C dX0_shareOf_15 rfl (c_X0_shareLess hI (Ml M) σ hH hn16 hm8 hc (by omega) hv) (by decide) (Nat.le_of_ble_eq_true rfl) (fun z σ1 ⟨hz, hσ⟩ => ?_)
      subst z
      subst σ1
      exact g_freturn C dX0_shareOf_18 ⟨by unfold shr; rw [if_neg (by omega), if_pos (by omega)], rfl⟩
  · refine g_fconst0 C dX0_shareOf_7 ?_
    exact g_freturn C dX0_shareOf_8 ⟨by unfold shr; first | rw [if_pos (by omega)] | rw [if_neg (by omega), if_neg (by omega), if_neg (by omega), if_pos (Classical.not_not.mp (fun q => h0x ((cv_g _).1.mpr q)))], rfl⟩

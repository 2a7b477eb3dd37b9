/-! THE MODEL: shares and thoughts -/
def dg (n : Int) : Nat := if n ≤ 0 then 0 else Nat.log2 n.toNat + 1
theorem dg_w (x : Int32) : dg x.toInt = digN x := rfl
theorem dg_s {n : Int} (h : 0 < n) : dg n = 1 + dg (n / 2) := by
  unfold dg
  rw [if_neg (by omega)]
  by_cases h2 : n / 2 ≤ 0
  · rw [if_pos h2, show n.toNat = 1 by omega]; rfl
  · rw [if_neg h2, Nat.log2_def, if_pos (by omega), show n.toNat / 2 = (n / 2).toNat by omega]
    omega
theorem dg_0 {n : Int} (h : n ≤ 0) : dg n = 0 := if_pos h
set_option maxHeartbeats 4000000 in
set_option maxRecDepth 100000 in
theorem c_X10_less {κ : Kp} (hI : Ij κ) (l : Launch) (σ : St) {w : Wv} (hM : MW σ w) (hW : OKW w) {p : Nat} {zp : Int} (hp : zp = (p : Int)) (hp14 : p ≤ 14) (hH : HBm σ (wsrt w p) (wl w (p / 3)) (wb w (p / 3)) (wb w (p / 3))) (h0 : 0 < (wl w (p / 3))) {v : Int} (hv : 0 ≤ v ∧ v ≤ 99) : CtF κ l 0 yX10_less cX10_less 6 [.ref (κ.2.1 105), .int (iZ zp), .int (iZ v)] σ (fun z σ' => z = lsS (wsrt w p) (wl w (p / 3)) (wb w (p / 3)) v ∧ σ' = σ) := by
  refine Ct.ofG (own := RX10) hI (by decide +kernel) rfl (Nat.le_of_ble_eq_true rfl) rfl ?_
  intro M C hMl
  have hto := hW.1 (p / 3) (by omega)
  have hn16 := hto.1
  have hm8 := hto.2.1
  have hS : SR (wsrt w p) (wl w (p / 3)) := wsrt_r hW hp14
  have hbc := bct_le (wl w (p / 3)) (wb w (p / 3)) (wb w (p / 3))
  refine g_fconst0 C dX10_less_0 ?_
  refine g_fstore_n (L' := [(3, .float FP.fconst0), (0, .ref (κ.2.1 105)), (1, .int (iZ zp)), (2, .int (iZ v))]) C dX10_less_1 rfl (by decide) rfl ?_
  refine g_iconst (z := 0) C dX10_less_2 rfl ?_
  refine g_istore (L' := [(4, .int (iZ 0)), (3, .float FP.fconst0), (0, .ref (κ.2.1 105)), (1, .int (iZ zp)), (2, .int (iZ v))]) C dX10_less_3 (by decide) rfl ?_
  have lp5 : ∀ (fz9 : Nat) (j : Nat) (x3 : UInt32) (x4 : Int), (bct (wl w (p / 3)) (wb w (p / 3)) (wb w (p / 3)) - j < fz9) → (x4 = (j : Int)) → (j ≤ bct (wl w (p / 3)) (wb w (p / 3)) (wb w (p / 3))) → (x3 = lsF (wsrt w p) (wl w (p / 3)) (wb w (p / 3)) v j) → G M κ 6 (En M κ (qF κ (fun z σ' => z = lsS (wsrt w p) (wl w (p / 3)) (wb w (p / 3)) v ∧ σ' = σ))) 5 [(0, .ref (κ.2.1 105)), (1, .int (iZ zp)), (2, .int (iZ v)), (3, .float x3), (4, .int (iZ x4))] [] σ := by
    intro fz9
    induction fz9 with
    | zero => intro j x3 x4 hm0; exact absurd hm0 (Nat.not_lt_zero _)
    | succ fz9 ih5 =>
      intro j x3 x4 hm5 hx4 hj hx3
      subst x3
      have hab : j < bct (wl w (p / 3)) (wb w (p / 3)) (wb w (p / 3)) → bA (wl w (p / 3)) (wb w (p / 3)) j < bB (wl w (p / 3)) (wb w (p / 3)) j ∧ bB (wl w (p / 3)) (wb w (p / 3)) j ≤ (wl w (p / 3)) := bAB (wl w (p / 3)) (wb w (p / 3)) j hm8.1
      have hrA : j < bct (wl w (p / 3)) (wb w (p / 3)) (wb w (p / 3)) → 0 ≤ (wsrt w p) (bA (wl w (p / 3)) (wb w (p / 3)) j) ∧ (wsrt w p) (bA (wl w (p / 3)) (wb w (p / 3)) j) ≤ 99 := fun q => hS _ (by have := hab q; omega)
      have hrB : j < bct (wl w (p / 3)) (wb w (p / 3)) (wb w (p / 3)) → 0 ≤ (wsrt w p) (bB (wl w (p / 3)) (wb w (p / 3)) j - 1) ∧ (wsrt w p) (bB (wl w (p / 3)) (wb w (p / 3)) j - 1) ≤ 99 := fun q => hS _ (by have := hab q; omega)
      refine g_iload C dX10_less_5 rfl ?_
      refine g_aload_n C dX10_less_7 rfl ?_
      refine gf_X10_157 (z := (bct (wl w (p / 3)) (wb w (p / 3)) (wb w (p / 3)) : Int)) C dX10_less_8 rfl hH.1 ?_
      refine g_pc (pc' := 11) rfl ?_
      refine g_icmp_ge (tgt := 95) C dX10_less_11 (by decide) (by unfold R32; omega) (fun h1 => ?_) (fun h1 => ?_)
      · refine g_fload_n C dX10_less_95 rfl ?_
        refine g_aload_n C dX10_less_96 rfl ?_
        refine gf_X10_13 C dX10_less_97 rfl ?_
        refine g_iload_n C dX10_less_100 rfl ?_
        refine g_iconst (z := 3) C dX10_less_101 rfl ?_
        refine g_idiv C dX10_less_102 (by omega) ?_
        refine g_iaz (n := (p / 3)) (N := 5) (v := ((wl w (p / 3)) : Int)) C dX10_less_103 rfl rfl (by omega) (by omega) (by decide) ((hM.1 (p / 3) (by omega)).1) ?_
        refine g_pc (pc' := 104) rfl ?_
        refine g_i2f C dX10_less_104 ?_
        refine g_fdiv C dX10_less_105 (by have h9 := (lsS_B (v := v) hS hm8.1 hn16 h0).vf; unfold lsS at h9; rw [show bct (wl w (p / 3)) (wb w (p / 3)) (wb w (p / 3)) = j by omega] at h9; exact h9) ?_
        exact g_freturn C dX10_less_106 ⟨by rw [lsS, show bct (wl w (p / 3)) (wb w (p / 3)) (wb w (p / 3)) = j by omega], rfl⟩
      · have hab := hab (by omega)
        have hrA := hrA (by omega)
        have hrB := hrB (by omega)
        refine g_aload_n C dX10_less_14 rfl ?_
        refine gf_X10_49 C dX10_less_15 rfl ?_
        refine g_iload C dX10_less_18 rfl ?_
        refine g_iaz (n := j) (N := 8) (v := ((bB (wl w (p / 3)) (wb w (p / 3)) j - bA (wl w (p / 3)) (wb w (p / 3)) j : Nat) : Int)) C dX10_less_20 rfl rfl (by omega) (by omega) (by decide) ((hH.2 j (by omega)).2.2.1) ?_
        refine g_i2f C dX10_less_21 ?_
        refine g_pc (pc' := 22) rfl ?_
        refine g_fstore (L' := [(5, .float (FP.i2f (iZ ((bB (wl w (p / 3)) (wb w (p / 3)) j - bA (wl w (p / 3)) (wb w (p / 3)) j : Nat) : Int)))), (0, .ref (κ.2.1 105)), (1, .int (iZ zp)), (2, .int (iZ v)), (3, .float (lsF (wsrt w p) (wl w (p / 3)) (wb w (p / 3)) v j)), (4, .int (iZ x4))]) C dX10_less_22 (by decide) rfl ?_
        refine g_iload_n C dX10_less_24 rfl ?_
        refine g_aload_n C dX10_less_25 rfl ?_
        refine gf_X10_46 C dX10_less_26 rfl ?_
        refine g_iload C dX10_less_29 rfl ?_
        refine g_iaz (n := j) (N := 8) (v := ((wsrt w p) (bB (wl w (p / 3)) (wb w (p / 3)) j - 1))) C dX10_less_31 rfl rfl (by omega) (by omega) (by decide) ((hH.2 j (by omega)).2.1) ?_
        refine g_icmp_le (tgt := 43) C dX10_less_32 (by decide) (by unfold R32; omega) (fun h2 => ?_) (fun h2 => ?_)
        · refine g_iload_n C dX10_less_43 rfl ?_
          refine g_pc (pc' := 44) rfl ?_
          refine g_aload_n C dX10_less_44 rfl ?_
          refine gf_X10_43 C dX10_less_45 rfl ?_
          refine g_iload C dX10_less_48 rfl ?_
          refine g_iaz (n := j) (N := 8) (v := ((wsrt w p) (bA (wl w (p / 3)) (wb w (p / 3)) j))) C dX10_less_50 rfl rfl (by omega) (by omega) (by decide) ((hH.2 j (by omega)).1) ?_
          refine g_icmp_le (tgt := 89) C dX10_less_51 (by decide) (by unfold R32; omega) (fun h3 => ?_) (fun h3 => ?_)
          · refine g_iinc (q := 5) (v := (x4 + 1)) (L' := [(4, .int (iZ (x4 + 1))), (5, .float (FP.i2f (iZ ((bB (wl w (p / 3)) (wb w (p / 3)) j - bA (wl w (p / 3)) (wb w (p / 3)) j : Nat) : Int)))), (0, .ref (κ.2.1 105)), (1, .int (iZ zp)), (2, .int (iZ v)), (3, .float (lsF (wsrt w p) (wl w (p / 3)) (wb w (p / 3)) v j))]) C dX10_less_89 rfl rfl (by decide) rfl ?_
            refine g_goto (tgt := 5) C dX10_less_92 (by decide) ?_
            exact g_loc [2, 3, 4, 5, 0] (by rfl) (ih5 (j + 1) (lsF (wsrt w p) (wl w (p / 3)) (wb w (p / 3)) v j) (x4 + 1) (by omega) (by omega) (by omega) (by rw [lsF]; first | rw [if_pos (by omega)] | rw [if_neg (by omega), if_pos (by omega)] | rw [if_neg (by omega), if_neg (by omega)] | rw [if_neg (by omega)]))
          · refine g_fload_n C dX10_less_54 rfl ?_
            refine g_pc (pc' := 55) rfl ?_
            refine g_fload C dX10_less_55 rfl ?_
            refine g_iload_n C dX10_less_57 rfl ?_
            refine g_aload_n C dX10_less_58 rfl ?_
            refine gf_X10_43 C dX10_less_59 rfl ?_
            refine g_iload C dX10_less_62 rfl ?_
            refine g_iaz (n := j) (N := 8) (v := ((wsrt w p) (bA (wl w (p / 3)) (wb w (p / 3)) j))) C dX10_less_64 rfl rfl (by omega) (by omega) (by decide) ((hH.2 j (by omega)).1) ?_
            refine g_isub C dX10_less_65 ?_
            refine g_i2f C dX10_less_66 ?_
            refine g_pc (pc' := 67) rfl ?_
            refine g_aload_n C dX10_less_67 rfl ?_
            refine gf_X10_46 C dX10_less_68 rfl ?_
            refine g_iload C dX10_less_71 rfl ?_
            refine g_iaz (n := j) (N := 8) (v := ((wsrt w p) (bB (wl w (p / 3)) (wb w (p / 3)) j - 1))) C dX10_less_73 rfl rfl (by omega) (by omega) (by decide) ((hH.2 j (by omega)).2.1) ?_
            refine g_aload_n C dX10_less_74 rfl ?_
            refine gf_X10_43 C dX10_less_75 rfl ?_
            refine g_iload C dX10_less_78 rfl ?_
            refine g_iaz (n := j) (N := 8) (v := ((wsrt w p) (bA (wl w (p / 3)) (wb w (p / 3)) j))) C dX10_less_80 rfl rfl (by omega) (by omega) (by decide) ((hH.2 j (by omega)).1) ?_
            refine g_pc (pc' := 81) rfl ?_
            refine g_isub C dX10_less_81 ?_
            refine g_iconst (z := 1) C dX10_less_82 rfl ?_
            refine g_iadd C dX10_less_83 ?_
            refine g_i2f C dX10_less_84 ?_
            refine g_fdiv C dX10_less_85 (part_B hS hm8.1 hn16 (by omega) (by omega) (by omega)).vf ?_
            refine g_fmul C dX10_less_86 (fB_muls (fB_i2f (by omega)) (part_B hS hm8.1 hn16 (by omega) (by omega) (by omega)) (by omega)).vf ?_
            refine g_fadd C dX10_less_87 (by have h9 := (lsF_B (v := v) hS hm8.1 hn16 (j + 1) (by omega)).vf; rwa [lsF, if_neg (by omega), if_pos (by omega)] at h9) ?_
            refine g_fstore_n (L' := [(3, .float (FP.fadd (lsF (wsrt w p) (wl w (p / 3)) (wb w (p / 3)) v j) (FP.fmul (FP.i2f (iZ ((bB (wl w (p / 3)) (wb w (p / 3)) j - bA (wl w (p / 3)) (wb w (p / 3)) j : Nat) : Int))) (FP.fdiv (FP.i2f (iZ (v - ((wsrt w p) (bA (wl w (p / 3)) (wb w (p / 3)) j))))) (FP.i2f (iZ ((((wsrt w p) (bB (wl w (p / 3)) (wb w (p / 3)) j - 1)) - ((wsrt w p) (bA (wl w (p / 3)) (wb w (p / 3)) j))) + 1))))))), (5, .float (FP.i2f (iZ ((bB (wl w (p / 3)) (wb w (p / 3)) j - bA (wl w (p / 3)) (wb w (p / 3)) j : Nat) : Int)))), (0, .ref (κ.2.1 105)), (1, .int (iZ zp)), (2, .int (iZ v)), (4, .int (iZ x4))]) C dX10_less_88 rfl (by decide) rfl ?_
            refine g_pc (pc' := 89) rfl ?_
            refine g_iinc (q := 5) (v := (x4 + 1)) (L' := [(4, .int (iZ (x4 + 1))), (3, .float (FP.fadd (lsF (wsrt w p) (wl w (p / 3)) (wb w (p / 3)) v j) (FP.fmul (FP.i2f (iZ ((bB (wl w (p / 3)) (wb w (p / 3)) j - bA (wl w (p / 3)) (wb w (p / 3)) j : Nat) : Int))) (FP.fdiv (FP.i2f (iZ (v - ((wsrt w p) (bA (wl w (p / 3)) (wb w (p / 3)) j))))) (FP.i2f (iZ ((((wsrt w p) (bB (wl w (p / 3)) (wb w (p / 3)) j - 1)) - ((wsrt w p) (bA (wl w (p / 3)) (wb w (p / 3)) j))) + 1))))))), (5, .float (FP.i2f (iZ ((bB (wl w (p / 3)) (wb w (p / 3)) j - bA (wl w (p / 3)) (wb w (p / 3)) j : Nat) : Int)))), (0, .ref (κ.2.1 105)), (1, .int (iZ zp)), (2, .int (iZ v))]) C dX10_less_89 rfl rfl (by decide) rfl ?_
            refine g_goto (tgt := 5) C dX10_less_92 (by decide) ?_
            exact g_loc [3, 4, 5, 1, 0] (by rfl) (ih5 (j + 1) (FP.fadd (lsF (wsrt w p) (wl w (p / 3)) (wb w (p / 3)) v j) (FP.fmul (FP.i2f (iZ ((bB (wl w (p / 3)) (wb w (p / 3)) j - bA (wl w (p / 3)) (wb w (p / 3)) j : Nat) : Int))) (FP.fdiv (FP.i2f (iZ (v - ((wsrt w p) (bA (wl w (p / 3)) (wb w (p / 3)) j))))) (FP.i2f (iZ ((((wsrt w p) (bB (wl w (p / 3)) (wb w (p / 3)) j - 1)) - ((wsrt w p) (bA (wl w (p / 3)) (wb w (p / 3)) j))) + 1)))))) (x4 + 1) (by omega) (by omega) (by omega) (by rw [lsF]; first | rw [if_pos (by omega)] | rw [if_neg (by omega), if_pos (by omega)] | rw [if_neg (by omega), if_neg (by omega)] | rw [if_neg (by omega)]))
        · refine g_fload_n C dX10_less_35 rfl ?_
          refine g_fload C dX10_less_36 rfl ?_
          refine g_fadd C dX10_less_38 (by have h9 := (lsF_B (v := v) hS hm8.1 hn16 (j + 1) (by omega)).vf; rwa [lsF, if_pos (by omega)] at h9) ?_
          refine g_fstore_n (L' := [(3, .float (FP.fadd (lsF (wsrt w p) (wl w (p / 3)) (wb w (p / 3)) v j) (FP.i2f (iZ ((bB (wl w (p / 3)) (wb w (p / 3)) j - bA (wl w (p / 3)) (wb w (p / 3)) j : Nat) : Int))))), (5, .float (FP.i2f (iZ ((bB (wl w (p / 3)) (wb w (p / 3)) j - bA (wl w (p / 3)) (wb w (p / 3)) j : Nat) : Int)))), (0, .ref (κ.2.1 105)), (1, .int (iZ zp)), (2, .int (iZ v)), (4, .int (iZ x4))]) C dX10_less_39 rfl (by decide) rfl ?_
          refine g_goto (tgt := 89) C dX10_less_40 (by decide) ?_
          refine g_iinc (q := 5) (v := (x4 + 1)) (L' := [(4, .int (iZ (x4 + 1))), (3, .float (FP.fadd (lsF (wsrt w p) (wl w (p / 3)) (wb w (p / 3)) v j) (FP.i2f (iZ ((bB (wl w (p / 3)) (wb w (p / 3)) j - bA (wl w (p / 3)) (wb w (p / 3)) j : Nat) : Int))))), (5, .float (FP.i2f (iZ ((bB (wl w (p / 3)) (wb w (p / 3)) j - bA (wl w (p / 3)) (wb w (p / 3)) j : Nat) : Int)))), (0, .ref (κ.2.1 105)), (1, .int (iZ zp)), (2, .int (iZ v))]) C dX10_less_89 rfl rfl (by decide) rfl ?_
          refine g_pc (pc' := 92) rfl ?_
          refine g_goto (tgt := 5) C dX10_less_92 (by decide) ?_
          exact g_loc [3, 4, 5, 1, 0] (by rfl) (ih5 (j + 1) (FP.fadd (lsF (wsrt w p) (wl w (p / 3)) (wb w (p / 3)) v j) (FP.i2f (iZ ((bB (wl w (p / 3)) (wb w (p / 3)) j - bA (wl w (p / 3)) (wb w (p / 3)) j : Nat) : Int)))) (x4 + 1) (by omega) (by omega) (by omega) (by rw [lsF]; first | rw [if_pos (by omega)] | rw [if_neg (by omega), if_pos (by omega)] | rw [if_neg (by omega), if_neg (by omega)] | rw [if_neg (by omega)]))
  exact g_loc [2, 3, 4, 1, 0] (by rfl) (lp5 _ 0 FP.fconst0 0 (Nat.lt_succ_self _) rfl (Nat.zero_le _) rfl)
set_option maxHeartbeats 4000000 in
set_option maxRecDepth 100000 in
theorem c_X10_equal {κ : Kp} (hI : Ij κ) (l : Launch) (σ : St) {w : Wv} (hM : MW σ w) (hW : OKW w) {p : Nat} {zp : Int} (hp : zp = (p : Int)) (hp14 : p ≤ 14) (hH : HBm σ (wsrt w p) (wl w (p / 3)) (wb w (p / 3)) (wb w (p / 3))) (h0 : 0 < (wl w (p / 3))) {v : Int} (hv : 0 ≤ v ∧ v ≤ 99) : CtF κ l 1 yX10_equal cX10_equal 5 [.ref (κ.2.1 105), .int (iZ zp), .int (iZ v)] σ (fun z σ' => z = eqS (wsrt w p) (wl w (p / 3)) (wb w (p / 3)) v ∧ σ' = σ) := by
  refine Ct.ofG (own := RX10) hI (by decide +kernel) rfl (Nat.le_of_ble_eq_true rfl) rfl ?_
  intro M C hMl
  have hto := hW.1 (p / 3) (by omega)
  have hn16 := hto.1
  have hm8 := hto.2.1
  have hS : SR (wsrt w p) (wl w (p / 3)) := wsrt_r hW hp14
  have hbc := bct_le (wl w (p / 3)) (wb w (p / 3)) (wb w (p / 3))
  refine g_fconst0 C dX10_equal_0 ?_
  refine g_fstore_n (L' := [(3, .float FP.fconst0), (0, .ref (κ.2.1 105)), (1, .int (iZ zp)), (2, .int (iZ v))]) C dX10_equal_1 rfl (by decide) rfl ?_
  refine g_iconst (z := 0) C dX10_equal_2 rfl ?_
  refine g_istore (L' := [(4, .int (iZ 0)), (3, .float FP.fconst0), (0, .ref (κ.2.1 105)), (1, .int (iZ zp)), (2, .int (iZ v))]) C dX10_equal_3 (by decide) rfl ?_
  have lp5 : ∀ (fz9 : Nat) (j : Nat) (x3 : UInt32) (x4 : Int), (bct (wl w (p / 3)) (wb w (p / 3)) (wb w (p / 3)) - j < fz9) → (x4 = (j : Int)) → (j ≤ bct (wl w (p / 3)) (wb w (p / 3)) (wb w (p / 3))) → (x3 = eqF (wsrt w p) (wl w (p / 3)) (wb w (p / 3)) v j) → G M κ 5 (En M κ (qF κ (fun z σ' => z = eqS (wsrt w p) (wl w (p / 3)) (wb w (p / 3)) v ∧ σ' = σ))) 5 [(0, .ref (κ.2.1 105)), (1, .int (iZ zp)), (2, .int (iZ v)), (3, .float x3), (4, .int (iZ x4))] [] σ := by
    intro fz9
    induction fz9 with
    | zero => intro j x3 x4 hm0; exact absurd hm0 (Nat.not_lt_zero _)
    | succ fz9 ih5 =>
      intro j x3 x4 hm5 hx4 hj hx3
      subst x3
      have hab : j < bct (wl w (p / 3)) (wb w (p / 3)) (wb w (p / 3)) → bA (wl w (p / 3)) (wb w (p / 3)) j < bB (wl w (p / 3)) (wb w (p / 3)) j ∧ bB (wl w (p / 3)) (wb w (p / 3)) j ≤ (wl w (p / 3)) := bAB (wl w (p / 3)) (wb w (p / 3)) j hm8.1
      have hrA : j < bct (wl w (p / 3)) (wb w (p / 3)) (wb w (p / 3)) → 0 ≤ (wsrt w p) (bA (wl w (p / 3)) (wb w (p / 3)) j) ∧ (wsrt w p) (bA (wl w (p / 3)) (wb w (p / 3)) j) ≤ 99 := fun q => hS _ (by have := hab q; omega)
      have hrB : j < bct (wl w (p / 3)) (wb w (p / 3)) (wb w (p / 3)) → 0 ≤ (wsrt w p) (bB (wl w (p / 3)) (wb w (p / 3)) j - 1) ∧ (wsrt w p) (bB (wl w (p / 3)) (wb w (p / 3)) j - 1) ≤ 99 := fun q => hS _ (by have := hab q; omega)
      refine g_iload C dX10_equal_5 rfl ?_
      refine g_aload_n C dX10_equal_7 rfl ?_
      refine gf_X10_157 (z := (bct (wl w (p / 3)) (wb w (p / 3)) (wb w (p / 3)) : Int)) C dX10_equal_8 rfl hH.1 ?_
      refine g_pc (pc' := 11) rfl ?_
      refine g_icmp_ge (tgt := 61) C dX10_equal_11 (by decide) (by unfold R32; omega) (fun h1 => ?_) (fun h1 => ?_)
      · refine g_fload_n C dX10_equal_61 rfl ?_
        refine g_aload_n C dX10_equal_62 rfl ?_
        refine gf_X10_13 C dX10_equal_63 rfl ?_
        refine g_iload_n C dX10_equal_66 rfl ?_
        refine g_iconst (z := 3) C dX10_equal_67 rfl ?_
        refine g_idiv C dX10_equal_68 (by omega) ?_
        refine g_iaz (n := (p / 3)) (N := 5) (v := ((wl w (p / 3)) : Int)) C dX10_equal_69 rfl rfl (by omega) (by omega) (by decide) ((hM.1 (p / 3) (by omega)).1) ?_
        refine g_pc (pc' := 70) rfl ?_
        refine g_i2f C dX10_equal_70 ?_
        refine g_fdiv C dX10_equal_71 (by have h9 := (eqS_B (S := (wsrt w p)) (v := v) hm8.1 hn16 h0).vf; unfold eqS at h9; rw [show bct (wl w (p / 3)) (wb w (p / 3)) (wb w (p / 3)) = j by omega] at h9; exact h9) ?_
        exact g_freturn C dX10_equal_72 ⟨by rw [eqS, show bct (wl w (p / 3)) (wb w (p / 3)) (wb w (p / 3)) = j by omega], rfl⟩
      · have hab := hab (by omega)
        have hrA := hrA (by omega)
        have hrB := hrB (by omega)
        have hdp := dif_pos (wsrt w p) _ _ hab.1
        have hdl := dif_le (wsrt w p) (bA (wl w (p / 3)) (wb w (p / 3)) j) (bB (wl w (p / 3)) (wb w (p / 3)) j)
        refine g_iload_n C dX10_equal_14 rfl ?_
        refine g_aload_n C dX10_equal_15 rfl ?_
        refine gf_X10_43 C dX10_equal_16 rfl ?_
        refine g_iload C dX10_equal_19 rfl ?_
        refine g_iaz (n := j) (N := 8) (v := ((wsrt w p) (bA (wl w (p / 3)) (wb w (p / 3)) j))) C dX10_equal_21 rfl rfl (by omega) (by omega) (by decide) ((hH.2 j (by omega)).1) ?_
        refine g_pc (pc' := 22) rfl ?_
        refine g_aload_n C dX10_equal_22 rfl ?_
        refine gf_X10_46 C dX10_equal_23 rfl ?_
        refine g_iload C dX10_equal_26 rfl ?_
        refine g_iaz (n := j) (N := 8) (v := ((wsrt w p) (bB (wl w (p / 3)) (wb w (p / 3)) j - 1))) C dX10_equal_28 rfl rfl (by omega) (by omega) (by decide) ((hH.2 j (by omega)).2.1) ?_
        refine gc_X10_145 C dX10_equal_29 (c_X10_isIn hI (Ml M) σ (v := v) (a := ((wsrt w p) (bA (wl w (p / 3)) (wb w (p / 3)) j))) (b := ((wsrt w p) (bB (wl w (p / 3)) (wb w (p / 3)) j - 1))) (by unfold R32; omega) (by unfold R32; omega) (by unfold R32; omega)) (by decide) (Nat.le_of_ble_eq_true rfl) (fun z σ9 ⟨hz, hσ⟩ => ?_)
        subst z
        subst σ9
        refine g_ifb_eq (tgt := 55) C dX10_equal_32 (by decide) (fun h2 => ?_) (fun h2 => ?_)
        · refine g_iinc (q := 4) (v := (x4 + 1)) (L' := [(4, .int (iZ (x4 + 1))), (0, .ref (κ.2.1 105)), (1, .int (iZ zp)), (2, .int (iZ v)), (3, .float (eqF (wsrt w p) (wl w (p / 3)) (wb w (p / 3)) v j))]) C dX10_equal_55 rfl rfl (by decide) rfl ?_
          refine g_goto (tgt := 5) C dX10_equal_58 (by decide) ?_
          exact g_loc [1, 2, 3, 4, 0] (by rfl) (ih5 (j + 1) (eqF (wsrt w p) (wl w (p / 3)) (wb w (p / 3)) v j) (x4 + 1) (by omega) (by omega) (by omega) (by rw [eqF]; first | rw [if_pos (by omega)] | rw [if_neg (by omega), if_pos (by omega)] | rw [if_neg (by omega), if_neg (by omega)] | rw [if_neg (by omega)]))
        · refine g_pc (pc' := 35) rfl ?_
          refine g_fload_n C dX10_equal_35 rfl ?_
          refine g_aload_n C dX10_equal_36 rfl ?_
          refine gf_X10_49 C dX10_equal_37 rfl ?_
          refine g_iload C dX10_equal_40 rfl ?_
          refine g_iaz (n := j) (N := 8) (v := ((bB (wl w (p / 3)) (wb w (p / 3)) j - bA (wl w (p / 3)) (wb w (p / 3)) j : Nat) : Int)) C dX10_equal_42 rfl rfl (by omega) (by omega) (by decide) ((hH.2 j (by omega)).2.2.1) ?_
          refine g_i2f C dX10_equal_43 ?_
          refine g_aload_n C dX10_equal_44 rfl ?_
          refine gf_X10_52 C dX10_equal_45 rfl ?_
          refine g_pc (pc' := 48) rfl ?_
          refine g_iload C dX10_equal_48 rfl ?_
          refine g_iaz (n := j) (N := 8) (v := ((dif (wsrt w p) (bA (wl w (p / 3)) (wb w (p / 3)) j) (bB (wl w (p / 3)) (wb w (p / 3)) j) : Nat) : Int)) C dX10_equal_50 rfl rfl (by omega) (by omega) (by decide) ((hH.2 j (by omega)).2.2.2) ?_
          refine g_i2f C dX10_equal_51 ?_
          refine g_fdiv C dX10_equal_52 (fB_quot2 (fB_i2f (by omega)) (by omega) (by omega) (by omega)).vf ?_
          refine g_fadd C dX10_equal_53 (by have h9 := (eqF_B (S := (wsrt w p)) (v := v) hm8.1 hn16 (j + 1) (by omega)).vf; rwa [eqF, if_pos (by omega)] at h9) ?_
          refine g_fstore_n (L' := [(3, .float (FP.fadd (eqF (wsrt w p) (wl w (p / 3)) (wb w (p / 3)) v j) (FP.fdiv (FP.i2f (iZ ((bB (wl w (p / 3)) (wb w (p / 3)) j - bA (wl w (p / 3)) (wb w (p / 3)) j : Nat) : Int))) (FP.i2f (iZ ((dif (wsrt w p) (bA (wl w (p / 3)) (wb w (p / 3)) j) (bB (wl w (p / 3)) (wb w (p / 3)) j) : Nat) : Int)))))), (0, .ref (κ.2.1 105)), (1, .int (iZ zp)), (2, .int (iZ v)), (4, .int (iZ x4))]) C dX10_equal_54 rfl (by decide) rfl ?_
          refine g_iinc (q := 4) (v := (x4 + 1)) (L' := [(4, .int (iZ (x4 + 1))), (3, .float (FP.fadd (eqF (wsrt w p) (wl w (p / 3)) (wb w (p / 3)) v j) (FP.fdiv (FP.i2f (iZ ((bB (wl w (p / 3)) (wb w (p / 3)) j - bA (wl w (p / 3)) (wb w (p / 3)) j : Nat) : Int))) (FP.i2f (iZ ((dif (wsrt w p) (bA (wl w (p / 3)) (wb w (p / 3)) j) (bB (wl w (p / 3)) (wb w (p / 3)) j) : Nat) : Int)))))), (0, .ref (κ.2.1 105)), (1, .int (iZ zp)), (2, .int (iZ v))]) C dX10_equal_55 rfl rfl (by decide) rfl ?_
          refine g_goto (tgt := 5) C dX10_equal_58 (by decide) ?_
          exact g_loc [2, 3, 4, 1, 0] (by rfl) (ih5 (j + 1) (FP.fadd (eqF (wsrt w p) (wl w (p / 3)) (wb w (p / 3)) v j) (FP.fdiv (FP.i2f (iZ ((bB (wl w (p / 3)) (wb w (p / 3)) j - bA (wl w (p / 3)) (wb w (p / 3)) j : Nat) : Int))) (FP.i2f (iZ ((dif (wsrt w p) (bA (wl w (p / 3)) (wb w (p / 3)) j) (bB (wl w (p / 3)) (wb w (p / 3)) j) : Nat) : Int))))) (x4 + 1) (by omega) (by omega) (by omega) (by rw [eqF]; first | rw [if_pos (by omega)] | rw [if_neg (by omega), if_pos (by omega)] | rw [if_neg (by omega), if_neg (by omega)] | rw [if_neg (by omega)]))
  exact g_loc [2, 3, 4, 1, 0] (by rfl) (lp5 _ 0 FP.fconst0 0 (Nat.lt_succ_self _) rfl (Nat.zero_le _) rfl)
set_option maxHeartbeats 4000000 in
set_option maxRecDepth 100000 in
theorem c_X10_shareOf {κ : Kp} (hI : Ij κ) (l : Launch) (σ : St) {w : Wv} (hM : MW σ w) (hW : OKW w) {p : Nat} {zp : Int} (hp : zp = (p : Int)) (hp14 : p ≤ 14) {sg v : Int} (hsg : 0 ≤ sg ∧ sg ≤ 2) (hv : 0 ≤ v ∧ v ≤ 99) : CtF κ l 3 yX10_shareOf cX10_shareOf 5 [.ref (κ.2.1 105), .int (iZ zp), .int (iZ sg), .int (iZ v)] σ (fun z σ' => z = wshr w p sg v ∧ Fm HM HT σ σ') := by
  refine Ct.ofG (own := RX10) hI (by decide +kernel) rfl (Nat.le_of_ble_eq_true rfl) rfl ?_
  intro M C hMl
  have hto := hW.1 (p / 3) (by omega)
  have hn16 := hto.1
  have hm8 := hto.2.1
  have hS : SR (wsrt w p) (wl w (p / 3)) := wsrt_r hW hp14
  refine g_aload_n C dX10_shareOf_0 rfl ?_
  refine gf_X10_13 C dX10_shareOf_1 rfl ?_
  refine g_iload_n C dX10_shareOf_4 rfl ?_
  refine g_iconst (z := 3) C dX10_shareOf_5 rfl ?_
  refine g_idiv C dX10_shareOf_6 (by omega) ?_
  refine g_iaz (n := (p / 3)) (N := 5) (v := ((wl w (p / 3)) : Int)) C dX10_shareOf_7 rfl rfl (by omega) (by omega) (by decide) ((hM.1 (p / 3) (by omega)).1) ?_
  refine g_if_ne (tgt := 13) C dX10_shareOf_8 (by decide) (by unfold R32; omega) (fun h1 => ?_) (fun h1 => ?_)
  · refine g_pc (pc' := 13) rfl ?_
    refine g_aload_n C dX10_shareOf_13 rfl ?_
    refine g_iload_n C dX10_shareOf_14 rfl ?_
    refine gc_X10_163 C dX10_shareOf_15 rfl (c_X10_findBuckets hI (Ml M) σ hM hW hp hp14) (by decide) (Nat.le_of_ble_eq_true rfl) (fun s1 ⟨hF, hH⟩ => ?_)
    have hM1 := hM.hm hF
    refine g_iload_n C dX10_shareOf_18 rfl ?_
    refine g_if_ne (tgt := 29) C dX10_shareOf_19 (by decide) (by unfold R32; omega) (fun h2 => ?_) (fun h2 => ?_)
    · refine g_iload_n C dX10_shareOf_29 rfl ?_
      refine g_iconst (z := 1) C dX10_shareOf_30 rfl ?_
      refine g_icmp_ne (tgt := 41) C dX10_shareOf_31 (by decide) (by unfold R32; omega) (fun h3 => ?_) (fun h3 => ?_)
      · refine g_pc (pc' := 41) rfl ?_
        refine g_fconst1 C dX10_shareOf_41 ?_
        refine g_aload_n C dX10_shareOf_42 rfl ?_
        refine g_iload_n C dX10_shareOf_43 rfl ?_
        refine g_iload_n C dX10_shareOf_44 rfl ?_
        refine gc_X10_167 C dX10_shareOf_45 rfl (c_X10_less hI (Ml M) s1 hM1 hW hp hp14 hH (by omega) hv) (by decide) (Nat.le_of_ble_eq_true rfl) (fun z σ9 ⟨hz, hσ⟩ => ?_)
        subst z
        subst σ9
        refine g_aload_n C dX10_shareOf_48 rfl ?_
        refine g_iload_n C dX10_shareOf_49 rfl ?_
        refine g_iload_n C dX10_shareOf_50 rfl ?_
        refine g_pc (pc' := 51) rfl ?_
        refine gc_X10_171 C dX10_shareOf_51 rfl (c_X10_equal hI (Ml M) s1 hM1 hW hp hp14 hH (by omega) hv) (by decide) (Nat.le_of_ble_eq_true rfl) (fun z σ9 ⟨hz, hσ⟩ => ?_)
        subst z
        subst σ9
        refine g_fadd C dX10_shareOf_54 (lsq_B hS hm8.1 hn16 (by omega)).vf ?_
        refine g_fsub C dX10_shareOf_55 (vf_of (fsub_1 (lsq_B hS hm8.1 hn16 (by omega))).1) ?_
        refine g_fstore (L' := [(4, .float (FP.fsub FP.fconst1 (FP.fadd (lsS (wsrt w p) (wl w (p / 3)) (wb w (p / 3)) v) (eqS (wsrt w p) (wl w (p / 3)) (wb w (p / 3)) v)))), (0, .ref (κ.2.1 105)), (1, .int (iZ zp)), (2, .int (iZ sg)), (3, .int (iZ v))]) C dX10_shareOf_56 (by decide) rfl ?_
        refine g_fload C dX10_shareOf_58 rfl ?_
        refine g_fconst0 C dX10_shareOf_60 ?_
        refine g_fcmp C dX10_shareOf_61 ?_
        refine g_ifr_ge (tgt := 69) C dX10_shareOf_62 (by decide) (fun h4 => ?_) (fun h4 => ?_)
        · refine g_pc (pc' := 69) rfl ?_
          refine g_fload C dX10_shareOf_69 rfl ?_
          exact g_freturn C dX10_shareOf_71 ⟨by unfold wshr shr; rw [if_neg (by omega), if_neg (by omega), if_neg (by omega), if_neg ((cv_g _).1.mp h4)], hF⟩
        · refine g_fconst0 C dX10_shareOf_65 ?_
          refine g_goto (tgt := 71) C dX10_shareOf_66 (by decide) ?_
          exact g_freturn C dX10_shareOf_71 ⟨by unfold wshr shr; rw [if_neg (by omega), if_neg (by omega), if_neg (by omega), if_pos (Classical.not_not.mp (fun q => h4 ((cv_g _).1.mpr q)))], hF⟩
      · refine g_aload_n C dX10_shareOf_34 rfl ?_
        refine g_iload_n C dX10_shareOf_35 rfl ?_
        refine g_iload_n C dX10_shareOf_36 rfl ?_
        refine g_pc (pc' := 37) rfl ?_
        refine gc_X10_171 C dX10_shareOf_37 rfl (c_X10_equal hI (Ml M) s1 hM1 hW hp hp14 hH (by omega) hv) (by decide) (Nat.le_of_ble_eq_true rfl) (fun z σ9 ⟨hz, hσ⟩ => ?_)
        subst z
        subst σ9
        exact g_freturn C dX10_shareOf_40 ⟨by unfold wshr shr; rw [if_neg (by omega), if_neg (by omega), if_pos (by omega)], hF⟩
    · refine g_aload_n C dX10_shareOf_22 rfl ?_
      refine g_iload_n C dX10_shareOf_23 rfl ?_
      refine g_iload_n C dX10_shareOf_24 rfl ?_
      refine gc_X10_167 C dX10_shareOf_25 rfl (c_X10_less hI (Ml M) s1 hM1 hW hp hp14 hH (by omega) hv) (by decide) (Nat.le_of_ble_eq_true rfl) (fun z σ9 ⟨hz, hσ⟩ => ?_)
      subst z
      subst σ9
      exact g_freturn C dX10_shareOf_28 ⟨by unfold wshr shr; rw [if_neg (by omega), if_pos (by omega)], hF⟩
  · refine g_fconst0 C dX10_shareOf_11 ?_
    refine g_pc (pc' := 12) rfl ?_
    exact g_freturn C dX10_shareOf_12 ⟨by unfold wshr shr; rw [if_pos (by omega)], Fm.rf⟩
set_option maxHeartbeats 4000000 in
set_option maxRecDepth 100000 in
theorem c_X10_thoughtOfTable {κ : Kp} (hI : Ij κ) (l : Launch) (σ : St) {w : Wv} (hM : MW σ w) (hW : OKW w) {t : Nat} {zt : Int} (ht : zt = (t : Int)) (ht5 : t < 5) : CtF κ l 4 yX10_thoughtOfTable cX10_thoughtOfTable 4 [.ref (κ.2.1 105), .int (iZ zt)] σ (fun z σ' => z = tht w t ∧ Fm HM HT σ σ') := by
  refine Ct.ofG (own := RX10) hI (by decide +kernel) rfl (Nat.le_of_ble_eq_true rfl) rfl ?_
  intro M C hMl
  have hto := hW.1 t ht5
  have hfo := hW.2.1
  refine g_aload_n C dX10_thoughtOfTable_0 rfl ?_
  refine gf_X10_13 C dX10_thoughtOfTable_1 rfl ?_
  refine g_iload_n C dX10_thoughtOfTable_4 rfl ?_
  refine g_iaz (n := t) (N := 5) (v := (wl w t : Int)) C dX10_thoughtOfTable_5 rfl rfl (by omega) (by omega) (by decide) ((hM.1 t (by omega)).1) ?_
  refine g_i2f C dX10_thoughtOfTable_6 ?_
  refine g_fstore_n (L' := [(2, .float (FP.i2f (iZ (wl w t : Int)))), (0, .ref (κ.2.1 105)), (1, .int (iZ zt))]) C dX10_thoughtOfTable_7 rfl (by decide) rfl ?_
  refine g_iconst (z := 0) C dX10_thoughtOfTable_8 rfl ?_
  refine g_pc (pc' := 9) rfl ?_
  refine g_istore_n (L' := [(3, .int (iZ 0)), (2, .float (FP.i2f (iZ (wl w t : Int)))), (0, .ref (κ.2.1 105)), (1, .int (iZ zt))]) C dX10_thoughtOfTable_9 rfl (by decide) rfl ?_
  have lp10 : ∀ (fz9 : Nat) (f : Nat) (x2 : UInt32) (x3 : Int) (s : St), (wnf w - f < fz9) → (x3 = (f : Int)) → (f ≤ wnf w) → (x2 = thF w t f) → (Fm HM HT σ s) → G M κ 4 (En M κ (qF κ (fun z σ' => z = tht w t ∧ Fm HM HT σ σ'))) 10 [(0, .ref (κ.2.1 105)), (1, .int (iZ zt)), (2, .float x2), (3, .int (iZ x3))] [] s := by
    intro fz9
    induction fz9 with
    | zero => intro f x2 x3 s hm0; exact absurd hm0 (Nat.not_lt_zero _)
    | succ fz9 ih10 =>
      intro f x2 x3 s hm10 hx3 hf hx2 hF
      subst x2
      have hMs := hM.hm hF
      refine g_iload_n C dX10_thoughtOfTable_10 rfl ?_
      refine g_aload_n C dX10_thoughtOfTable_11 rfl ?_
      refine gf_X10_174 (z := (wnf w : Int)) C dX10_thoughtOfTable_12 rfl hMs.2.1.1 ?_
      refine g_icmp_ge (tgt := 61) C dX10_thoughtOfTable_15 (by decide) (by unfold R32; omega) (fun h1 => ?_) (fun h1 => ?_)
      · refine g_fload_n C dX10_thoughtOfTable_61 rfl ?_
        exact g_freturn C dX10_thoughtOfTable_62 ⟨by rw [tht, show wnf w = f by omega], hF⟩
      · have hfo2 := hfo.2 f (by omega)
        refine g_aload_n C dX10_thoughtOfTable_18 rfl ?_
        refine g_pc (pc' := 19) rfl ?_
        refine gf_X10_25 C dX10_thoughtOfTable_19 rfl ?_
        refine g_iload_n C dX10_thoughtOfTable_22 rfl ?_
        refine g_iaz (n := f) (N := 8) (v := (wfp w f : Int)) C dX10_thoughtOfTable_23 rfl rfl (by omega) (by omega) (by decide) ((hMs.2.1.2 f (by omega)).1) ?_
        refine g_iconst (z := 3) C dX10_thoughtOfTable_24 rfl ?_
        refine g_idiv C dX10_thoughtOfTable_25 (by omega) ?_
        refine g_iload_n C dX10_thoughtOfTable_26 rfl ?_
        refine g_icmp_ne (tgt := 55) C dX10_thoughtOfTable_27 (by decide) (by unfold R32; omega) (fun h2 => ?_) (fun h2 => ?_)
        · refine g_iinc (q := 3) (v := (x3 + 1)) (L' := [(3, .int (iZ (x3 + 1))), (0, .ref (κ.2.1 105)), (1, .int (iZ zt)), (2, .float (thF w t f))]) C dX10_thoughtOfTable_55 rfl rfl (by decide) rfl ?_
          refine g_pc (pc' := 58) rfl ?_
          refine g_goto (tgt := 10) C dX10_thoughtOfTable_58 (by decide) ?_
          exact g_loc [1, 2, 3, 0] (by rfl) (ih10 (f + 1) (thF w t f) (x3 + 1) s (by omega) (by omega) (by omega) (by rw [thF]; first | rw [if_pos (by omega)] | rw [if_neg (by omega)]) hF)
        · refine g_fload_n C dX10_thoughtOfTable_30 rfl ?_
          refine g_aload_n C dX10_thoughtOfTable_31 rfl ?_
          refine g_aload_n C dX10_thoughtOfTable_32 rfl ?_
          refine gf_X10_25 C dX10_thoughtOfTable_33 rfl ?_
          refine g_iload_n C dX10_thoughtOfTable_36 rfl ?_
          refine g_iaz (n := f) (N := 8) (v := (wfp w f : Int)) C dX10_thoughtOfTable_37 rfl rfl (by omega) (by omega) (by decide) ((hMs.2.1.2 f (by omega)).1) ?_
          refine g_aload_n C dX10_thoughtOfTable_38 rfl ?_
          refine g_pc (pc' := 39) rfl ?_
          refine gf_X10_28 C dX10_thoughtOfTable_39 rfl ?_
          refine g_iload_n C dX10_thoughtOfTable_42 rfl ?_
          refine g_iaz (n := f) (N := 8) (v := (wfs w f : Int)) C dX10_thoughtOfTable_43 rfl rfl (by omega) (by omega) (by decide) ((hMs.2.1.2 f (by omega)).2.1) ?_
          refine g_aload_n C dX10_thoughtOfTable_44 rfl ?_
          refine gf_X10_31 C dX10_thoughtOfTable_45 rfl ?_
          refine g_iload_n C dX10_thoughtOfTable_48 rfl ?_
          refine g_iaz (n := f) (N := 8) (v := (wfv w f : Int)) C dX10_thoughtOfTable_49 rfl rfl (by omega) (by omega) (by decide) ((hMs.2.1.2 f (by omega)).2.2) ?_
          refine gc_X10_177 C dX10_thoughtOfTable_50 rfl (c_X10_shareOf hI (Ml M) s hMs hW (p := wfp w f) rfl (by omega) (sg := (wfs w f : Int)) (v := (wfv w f : Int)) (by omega) (by omega)) (by decide) (Nat.le_of_ble_eq_true rfl) (fun z s1 ⟨hz, hF1⟩ => ?_)
          subst z
          refine g_pc (pc' := 53) rfl ?_
          refine g_fmul C dX10_thoughtOfTable_53 (by have h9 := (thF_B hW ht5 (f + 1) (by omega)).vf; rwa [thF, if_pos (by omega)] at h9) ?_
          refine g_fstore_n (L' := [(2, .float (FP.fmul (thF w t f) (wshr w (wfp w f) (wfs w f) (wfv w f)))), (0, .ref (κ.2.1 105)), (1, .int (iZ zt)), (3, .int (iZ x3))]) C dX10_thoughtOfTable_54 rfl (by decide) rfl ?_
          refine g_iinc (q := 3) (v := (x3 + 1)) (L' := [(3, .int (iZ (x3 + 1))), (2, .float (FP.fmul (thF w t f) (wshr w (wfp w f) (wfs w f) (wfv w f)))), (0, .ref (κ.2.1 105)), (1, .int (iZ zt))]) C dX10_thoughtOfTable_55 rfl rfl (by decide) rfl ?_
          refine g_goto (tgt := 10) C dX10_thoughtOfTable_58 (by decide) ?_
          exact g_loc [2, 3, 1, 0] (by rfl) (ih10 (f + 1) (FP.fmul (thF w t f) (wshr w (wfp w f) (wfs w f) (wfv w f))) (x3 + 1) s1 (by omega) (by omega) (by omega) (by rw [thF]; first | rw [if_pos (by omega)] | rw [if_neg (by omega)]) (hF.tr hF1))
  exact g_loc [2, 3, 1, 0] (by rfl) (lp10 _ 0 (FP.i2f (iZ (wl w t : Int))) 0 σ (Nat.lt_succ_self _) rfl (Nat.zero_le _) rfl Fm.rf)
set_option maxHeartbeats 4000000 in
set_option maxRecDepth 100000 in
theorem c_X10_shareOfJoin {κ : Kp} (hI : Ij κ) (l : Launch) (σ : St) {w : Wv} (hM : MW σ w) (hW : OKW w) {j : Nat} {zj : Int} (hj : zj = (j : Int)) (hjn : j < wnj w) : CtF κ l 3 yX10_shareOfJoin cX10_shareOfJoin 5 [.ref (κ.2.1 105), .int (iZ zj)] σ (fun z σ' => z = wjs w j ∧ Fm HM HT σ σ') := by
  refine Ct.ofG (own := RX10) hI (by decide +kernel) rfl (Nat.le_of_ble_eq_true rfl) rfl ?_
  intro M C hMl
  have hjo := hW.2.2.2 j hjn
  have hj8 := hW.2.2.1
  have hd1 := wdif_le hW hjo.1
  have hd2 := wdif_le hW hjo.2.1
  refine g_aload_n C dX10_shareOfJoin_0 rfl ?_
  refine g_aload_n C dX10_shareOfJoin_1 rfl ?_
  refine gf_X10_34 C dX10_shareOfJoin_2 rfl ?_
  refine g_iload_n C dX10_shareOfJoin_5 rfl ?_
  refine g_iaz (n := j) (N := 8) (v := (wja w j : Int)) C dX10_shareOfJoin_6 rfl rfl (by omega) (by omega) (by decide) ((hM.2.2.1.2 j (by omega)).1) ?_
  refine gc_X10_181 C dX10_shareOfJoin_7 rfl (c_X10_differentOf hI (Ml M) σ hM hW (p := wja w j) rfl (by omega)) (by decide) (Nat.le_of_ble_eq_true rfl) (fun z σ1 ⟨hz, hF⟩ => ?_)
  subst z
  have hMσ1 := hM.hm hF.so
  refine g_istore_n (L' := [(2, .int (iZ (wdif w (wja w j) : Int))), (0, .ref (κ.2.1 105)), (1, .int (iZ zj))]) C dX10_shareOfJoin_10 rfl (by decide) rfl ?_
  refine g_pc (pc' := 11) rfl ?_
  refine g_aload_n C dX10_shareOfJoin_11 rfl ?_
  refine g_aload_n C dX10_shareOfJoin_12 rfl ?_
  refine gf_X10_37 C dX10_shareOfJoin_13 rfl ?_
  refine g_iload_n C dX10_shareOfJoin_16 rfl ?_
  refine g_iaz (n := j) (N := 8) (v := (wjb w j : Int)) C dX10_shareOfJoin_17 rfl rfl (by omega) (by omega) (by decide) ((hMσ1.2.2.1.2 j (by omega)).2) ?_
  refine gc_X10_181 C dX10_shareOfJoin_18 rfl (c_X10_differentOf hI (Ml M) σ1 hMσ1 hW (p := wjb w j) rfl (by omega)) (by decide) (Nat.le_of_ble_eq_true rfl) (fun z σ2 ⟨hz, hG⟩ => ?_)
  subst z
  have hMσ1σ2 := hMσ1.hm hG.so
  refine g_istore_n (L' := [(3, .int (iZ (wdif w (wjb w j) : Int))), (2, .int (iZ (wdif w (wja w j) : Int))), (0, .ref (κ.2.1 105)), (1, .int (iZ zj))]) C dX10_shareOfJoin_21 rfl (by decide) rfl ?_
  refine g_iload_n C dX10_shareOfJoin_22 rfl ?_
  refine g_pc (pc' := 23) rfl ?_
  refine g_iload_n C dX10_shareOfJoin_23 rfl ?_
  refine g_icmp_le (tgt := 31) C dX10_shareOfJoin_24 (by decide) (by unfold R32; omega) (fun h1 => ?_) (fun h1 => ?_)
  · refine g_iload_n C dX10_shareOfJoin_31 rfl ?_
    refine g_int (z' := ((max (wdif w (wja w j)) (wdif w (wjb w j)) : Nat) : Int)) (by omega) ?_
    refine g_istore (L' := [(4, .int (iZ ((max (wdif w (wja w j)) (wdif w (wjb w j)) : Nat) : Int))), (3, .int (iZ (wdif w (wjb w j) : Int))), (2, .int (iZ (wdif w (wja w j) : Int))), (0, .ref (κ.2.1 105)), (1, .int (iZ zj))]) C dX10_shareOfJoin_32 (by decide) rfl ?_
    refine g_iload C dX10_shareOfJoin_34 rfl ?_
    refine g_if_ne (tgt := 43) C dX10_shareOfJoin_36 (by decide) (by unfold R32; omega) (fun h2 => ?_) (fun h2 => ?_)
    · refine g_fconst1 C dX10_shareOfJoin_43 ?_
      refine g_iload C dX10_shareOfJoin_44 rfl ?_
      refine g_pc (pc' := 46) rfl ?_
      refine g_i2f C dX10_shareOfJoin_46 ?_
      refine g_fdiv C dX10_shareOfJoin_47 (fB_quot (a := 1) (by rw [Nat.one_mul]; exact fB_1) (by omega) (by omega) (by omega)).vf ?_
      exact g_freturn C dX10_shareOfJoin_48 ⟨by unfold wjs; rw [if_neg (by omega)], hF.so.tr hG.so⟩
    · refine g_fconst0 C dX10_shareOfJoin_39 ?_
      refine g_goto (tgt := 48) C dX10_shareOfJoin_40 (by decide) ?_
      exact g_freturn C dX10_shareOfJoin_48 ⟨by unfold wjs; rw [if_pos (by omega)], hF.so.tr hG.so⟩
  · refine g_iload_n C dX10_shareOfJoin_27 rfl ?_
    refine g_goto (tgt := 32) C dX10_shareOfJoin_28 (by decide) ?_
    refine g_int (z' := ((max (wdif w (wja w j)) (wdif w (wjb w j)) : Nat) : Int)) (by omega) ?_
    refine g_pc (pc' := 32) rfl ?_
    refine g_istore (L' := [(4, .int (iZ ((max (wdif w (wja w j)) (wdif w (wjb w j)) : Nat) : Int))), (3, .int (iZ (wdif w (wjb w j) : Int))), (2, .int (iZ (wdif w (wja w j) : Int))), (0, .ref (κ.2.1 105)), (1, .int (iZ zj))]) C dX10_shareOfJoin_32 (by decide) rfl ?_
    refine g_iload C dX10_shareOfJoin_34 rfl ?_
    refine g_if_ne (tgt := 43) C dX10_shareOfJoin_36 (by decide) (by unfold R32; omega) (fun h3 => ?_) (fun h3 => ?_)
    · refine g_fconst1 C dX10_shareOfJoin_43 ?_
      refine g_iload C dX10_shareOfJoin_44 rfl ?_
      refine g_i2f C dX10_shareOfJoin_46 ?_
      refine g_fdiv C dX10_shareOfJoin_47 (fB_quot (a := 1) (by rw [Nat.one_mul]; exact fB_1) (by omega) (by omega) (by omega)).vf ?_
      exact g_freturn C dX10_shareOfJoin_48 ⟨by unfold wjs; rw [if_neg (by omega)], hF.so.tr hG.so⟩
    · refine g_pc (pc' := 39) rfl ?_
      refine g_fconst0 C dX10_shareOfJoin_39 ?_
      refine g_goto (tgt := 48) C dX10_shareOfJoin_40 (by decide) ?_
      exact g_freturn C dX10_shareOfJoin_48 ⟨by unfold wjs; rw [if_pos (by omega)], hF.so.tr hG.so⟩
set_option maxHeartbeats 4000000 in
set_option maxRecDepth 100000 in
theorem c_X10_isWithin {κ : Kp} (hI : Ij κ) (l : Launch) (σ : St) {w : Wv} (hM : MW σ w) (hW : OKW w) {j s : Nat} {zj zs : Int} (hj : zj = (j : Int)) (hs : zs = (s : Int)) (hjn : j < wnj w) (hs32 : s < 32) : CtI κ l 1 yX10_isWithin cX10_isWithin 3 .boolean [.ref (κ.2.1 105), .int (iZ zj), .int (iZ zs)] σ (fun z σ' => z = bZ (bitv s (wja w j / 3) = 1 ∧ bitv s (wjb w j / 3) = 1) ∧ σ' = σ) := by
  refine Ct.ofG (own := RX10) hI (by decide +kernel) rfl (Nat.le_of_ble_eq_true rfl) rfl ?_
  intro M C hMl
  have hjo := hW.2.2.2 j hjn
  have hj8 := hW.2.2.1
  refine g_iload_n C dX10_isWithin_0 rfl ?_
  refine g_aload_n C dX10_isWithin_1 rfl ?_
  refine gf_X10_34 C dX10_isWithin_2 rfl ?_
  refine g_iload_n C dX10_isWithin_5 rfl ?_
  refine g_iaz (n := j) (N := 8) (v := (wja w j : Int)) C dX10_isWithin_6 rfl rfl (by omega) (by omega) (by decide) ((hM.2.2.1.2 j (by omega)).1) ?_
  refine g_iconst (z := 3) C dX10_isWithin_7 rfl ?_
  refine g_idiv C dX10_isWithin_8 (by omega) ?_
  refine g_pc (pc' := 9) rfl ?_
  refine gc_X10_184 C dX10_isWithin_9 (c_X10_has hI (Ml M) σ (s := s) (k := ((wja w j) / 3)) (by omega) (by omega) (by omega) (by omega)) (by decide) (Nat.le_of_ble_eq_true rfl) (fun z σ9 ⟨hz, hσ⟩ => ?_)
  subst z
  subst σ9
  refine g_ifb_eq (tgt := 34) C dX10_isWithin_12 (by decide) (fun h1 => ?_) (fun h1 => ?_)
  · refine g_iconst (z := 0) C dX10_isWithin_34 rfl ?_
    exact g_zreturn C dX10_isWithin_35 (by omega) ⟨(bZ_f (fun q => by first | exact absurd q.1 (by assumption) | exact absurd q.2 (by assumption))).symm, rfl⟩
  · refine g_iload_n C dX10_isWithin_15 rfl ?_
    refine g_aload_n C dX10_isWithin_16 rfl ?_
    refine gf_X10_37 C dX10_isWithin_17 rfl ?_
    refine g_iload_n C dX10_isWithin_20 rfl ?_
    refine g_pc (pc' := 21) rfl ?_
    refine g_iaz (n := j) (N := 8) (v := (wjb w j : Int)) C dX10_isWithin_21 rfl rfl (by omega) (by omega) (by decide) ((hM.2.2.1.2 j (by omega)).2) ?_
    refine g_iconst (z := 3) C dX10_isWithin_22 rfl ?_
    refine g_idiv C dX10_isWithin_23 (by omega) ?_
    refine gc_X10_184 C dX10_isWithin_24 (c_X10_has hI (Ml M) σ (s := s) (k := ((wjb w j) / 3)) (by omega) (by omega) (by omega) (by omega)) (by decide) (Nat.le_of_ble_eq_true rfl) (fun z σ9 ⟨hz, hσ⟩ => ?_)
    subst z
    subst σ9
    refine g_ifb_eq (tgt := 34) C dX10_isWithin_27 (by decide) (fun h2 => ?_) (fun h2 => ?_)
    · refine g_iconst (z := 0) C dX10_isWithin_34 rfl ?_
      exact g_zreturn C dX10_isWithin_35 (by omega) ⟨(bZ_f (fun q => by first | exact absurd q.1 (by assumption) | exact absurd q.2 (by assumption))).symm, rfl⟩
    · refine g_iconst (z := 1) C dX10_isWithin_30 rfl ?_
      refine g_pc (pc' := 31) rfl ?_
      refine g_goto (tgt := 35) C dX10_isWithin_31 (by decide) ?_
      exact g_zreturn C dX10_isWithin_35 (by omega) ⟨(bZ_t ⟨by assumption, by assumption⟩).symm, rfl⟩
set_option maxHeartbeats 4000000 in
set_option maxRecDepth 100000 in
theorem c_X10_thoughtOf {κ : Kp} (hI : Ij κ) (l : Launch) (σ : St) {w : Wv} (hM : MW σ w) (hW : OKW w) {s : Nat} {zs : Int} (hs : zs = (s : Int)) (hs32 : s < 32) : CtF κ l 5 yX10_thoughtOf cX10_thoughtOf 4 [.ref (κ.2.1 105), .int (iZ zs)] σ (fun z σ' => z = tho w s ∧ Fm HM HT σ σ') := by
  refine Ct.ofG (own := RX10) hI (by decide +kernel) rfl (Nat.le_of_ble_eq_true rfl) rfl ?_
  intro M C hMl
  refine g_fconst1 C dX10_thoughtOf_0 ?_
  refine g_fstore_n (L' := [(2, .float FP.fconst1), (0, .ref (κ.2.1 105)), (1, .int (iZ zs))]) C dX10_thoughtOf_1 rfl (by decide) rfl ?_
  refine g_iconst (z := 0) C dX10_thoughtOf_2 rfl ?_
  refine g_istore_n (L' := [(3, .int (iZ 0)), (2, .float FP.fconst1), (0, .ref (κ.2.1 105)), (1, .int (iZ zs))]) C dX10_thoughtOf_3 rfl (by decide) rfl ?_
  have lp4 : ∀ (fz9 : Nat) (t : Nat) (x2 : UInt32) (x3 : Int) (q : St), (5 - t < fz9) → (x3 = (t : Int)) → (t ≤ 5) → (x2 = toT w s t) → (Fm HM HT σ q) → G M κ 4 (En M κ (qF κ (fun z σ' => z = tho w s ∧ Fm HM HT σ σ'))) 4 [(0, .ref (κ.2.1 105)), (1, .int (iZ zs)), (2, .float x2), (3, .int (iZ x3))] [] q := by
    intro fz9
    induction fz9 with
    | zero => intro t x2 x3 q hm0; exact absurd hm0 (Nat.not_lt_zero _)
    | succ fz9 ih4 =>
      intro t x2 x3 q hm4 hx3 ht hx2 hF
      subst x2
      have hMq := hM.hm hF
      refine g_iload_n C dX10_thoughtOf_4 rfl ?_
      refine g_iconst (z := 5) C dX10_thoughtOf_5 rfl ?_
      refine g_icmp_ge (tgt := 31) C dX10_thoughtOf_6 (by decide) (by unfold R32; omega) (fun h1 => ?_) (fun h1 => ?_)
      · refine g_pc (pc' := 31) rfl ?_
        refine g_iconst (z := 0) C dX10_thoughtOf_31 rfl ?_
        refine g_istore_n (L' := [(3, .int (iZ 0)), (0, .ref (κ.2.1 105)), (1, .int (iZ zs)), (2, .float (toT w s t))]) C dX10_thoughtOf_32 rfl (by decide) rfl ?_
        have lp33 : ∀ (fz9 : Nat) (j : Nat) (x2 : UInt32) (x3 : Int) (q2 : St), (wnj w - j < fz9) → (x3 = (j : Int)) → (j ≤ wnj w) → (x2 = toJ w s j) → (Fm HM HT σ q2) → G M κ 4 (En M κ (qF κ (fun z σ' => z = tho w s ∧ Fm HM HT σ σ'))) 33 [(0, .ref (κ.2.1 105)), (1, .int (iZ zs)), (2, .float x2), (3, .int (iZ x3))] [] q2 := by
          intro fz9
          induction fz9 with
          | zero => intro j x2 x3 q2 hm0; exact absurd hm0 (Nat.not_lt_zero _)
          | succ fz9 ih33 =>
            intro j x2 x3 q2 hm33 hx3b hj hx2b hF2
            subst x2
            have hj8 := hW.2.2.1
            have hMq2 := hM.hm hF2
            refine g_iload_n C dX10_thoughtOf_33 rfl ?_
            refine g_aload_n C dX10_thoughtOf_34 rfl ?_
            refine gf_X10_192 (z := (wnj w : Int)) C dX10_thoughtOf_35 rfl hMq2.2.2.1.1 ?_
            refine g_icmp_ge (tgt := 64) C dX10_thoughtOf_38 (by decide) (by unfold R32; omega) (fun h2 => ?_) (fun h2 => ?_)
            · refine g_fload_n C dX10_thoughtOf_64 rfl ?_
              exact g_freturn C dX10_thoughtOf_65 ⟨by rw [tho, show wnj w = j by omega], hF2⟩
            · refine g_pc (pc' := 41) rfl ?_
              refine g_aload_n C dX10_thoughtOf_41 rfl ?_
              refine g_iload_n C dX10_thoughtOf_42 rfl ?_
              refine g_iload_n C dX10_thoughtOf_43 rfl ?_
              refine gc_X10_195 C dX10_thoughtOf_44 rfl (c_X10_isWithin hI (Ml M) q2 hMq2 hW (j := j) (s := s) hx3b hs (by omega) hs32) (by decide) (Nat.le_of_ble_eq_true rfl) (fun z σ9 ⟨hz, hσ⟩ => ?_)
              subst z
              subst σ9
              refine g_ifb_eq (tgt := 58) C dX10_thoughtOf_47 (by decide) (fun h3 => ?_) (fun h3 => ?_)
              · refine g_iinc (q := 3) (v := (x3 + 1)) (L' := [(3, .int (iZ (x3 + 1))), (0, .ref (κ.2.1 105)), (1, .int (iZ zs)), (2, .float (toJ w s j))]) C dX10_thoughtOf_58 rfl rfl (by decide) rfl ?_
                refine g_goto (tgt := 33) C dX10_thoughtOf_61 (by decide) ?_
                exact g_loc [1, 2, 3, 0] (by rfl) (ih33 (j + 1) (toJ w s j) (x3 + 1) q2 (by omega) (by omega) (by omega) (by rw [toJ]; first | rw [if_pos (by assumption)] | rw [if_neg (by assumption)]) hF2)
              · refine g_fload_n C dX10_thoughtOf_50 rfl ?_
                refine g_pc (pc' := 51) rfl ?_
                refine g_aload_n C dX10_thoughtOf_51 rfl ?_
                refine g_iload_n C dX10_thoughtOf_52 rfl ?_
                refine gc_X10_198 C dX10_thoughtOf_53 rfl (c_X10_shareOfJoin hI (Ml M) q2 hMq2 hW (j := j) hx3b (by omega)) (by decide) (Nat.le_of_ble_eq_true rfl) (fun z q3 ⟨hz, hF3⟩ => ?_)
                subst z
                refine g_fmul C dX10_thoughtOf_56 (by have h9 := (toJ_B (s := s) hW (j + 1) (by omega)).vf; rwa [toJ, if_pos (by assumption)] at h9) ?_
                refine g_fstore_n (L' := [(2, .float (FP.fmul (toJ w s j) (wjs w j))), (0, .ref (κ.2.1 105)), (1, .int (iZ zs)), (3, .int (iZ x3))]) C dX10_thoughtOf_57 rfl (by decide) rfl ?_
                refine g_iinc (q := 3) (v := (x3 + 1)) (L' := [(3, .int (iZ (x3 + 1))), (2, .float (FP.fmul (toJ w s j) (wjs w j))), (0, .ref (κ.2.1 105)), (1, .int (iZ zs))]) C dX10_thoughtOf_58 rfl rfl (by decide) rfl ?_
                refine g_goto (tgt := 33) C dX10_thoughtOf_61 (by decide) ?_
                exact g_loc [2, 3, 1, 0] (by rfl) (ih33 (j + 1) (FP.fmul (toJ w s j) (wjs w j)) (x3 + 1) q3 (by omega) (by omega) (by omega) (by rw [toJ]; first | rw [if_pos (by assumption)] | rw [if_neg (by assumption)]) (hF2.tr hF3))
        exact g_loc [1, 2, 3, 0] (by rfl) (lp33 _ 0 (toT w s t) 0 q (Nat.lt_succ_self _) rfl (Nat.zero_le _) (by rw [show t = 5 by omega]; rfl) hF)
      · refine g_iload_n C dX10_thoughtOf_9 rfl ?_
        refine g_pc (pc' := 10) rfl ?_
        refine g_iload_n C dX10_thoughtOf_10 rfl ?_
        refine gc_X10_184 C dX10_thoughtOf_11 (c_X10_has hI (Ml M) q (s := s) (k := t) (by omega) (by omega) (by omega) (by omega)) (by decide) (Nat.le_of_ble_eq_true rfl) (fun z σ9 ⟨hz, hσ⟩ => ?_)
        subst z
        subst σ9
        refine g_ifb_eq (tgt := 25) C dX10_thoughtOf_14 (by decide) (fun h4 => ?_) (fun h4 => ?_)
        · refine g_iinc (q := 3) (v := (x3 + 1)) (L' := [(3, .int (iZ (x3 + 1))), (0, .ref (κ.2.1 105)), (1, .int (iZ zs)), (2, .float (toT w s t))]) C dX10_thoughtOf_25 rfl rfl (by decide) rfl ?_
          refine g_goto (tgt := 4) C dX10_thoughtOf_28 (by decide) ?_
          exact g_loc [1, 2, 3, 0] (by rfl) (ih4 (t + 1) (toT w s t) (x3 + 1) q (by omega) (by omega) (by omega) (by rw [toT]; first | rw [if_pos (by omega)] | rw [if_neg (by omega)]) hF)
        · refine g_fload_n C dX10_thoughtOf_17 rfl ?_
          refine g_aload_n C dX10_thoughtOf_18 rfl ?_
          refine g_iload_n C dX10_thoughtOf_19 rfl ?_
          refine g_pc (pc' := 20) rfl ?_
          refine gc_X10_188 C dX10_thoughtOf_20 rfl (c_X10_thoughtOfTable hI (Ml M) q hMq hW (t := t) hx3 (by omega)) (by decide) (Nat.le_of_ble_eq_true rfl) (fun z q1 ⟨hz, hF1⟩ => ?_)
          subst z
          refine g_fmul C dX10_thoughtOf_23 (by have h9 := (toT_B (s := s) hW (t + 1) (by omega)).vf; rwa [toT, if_pos (by omega)] at h9) ?_
          refine g_fstore_n (L' := [(2, .float (FP.fmul (toT w s t) (tht w t))), (0, .ref (κ.2.1 105)), (1, .int (iZ zs)), (3, .int (iZ x3))]) C dX10_thoughtOf_24 rfl (by decide) rfl ?_
          refine g_iinc (q := 3) (v := (x3 + 1)) (L' := [(3, .int (iZ (x3 + 1))), (2, .float (FP.fmul (toT w s t) (tht w t))), (0, .ref (κ.2.1 105)), (1, .int (iZ zs))]) C dX10_thoughtOf_25 rfl rfl (by decide) rfl ?_
          refine g_goto (tgt := 4) C dX10_thoughtOf_28 (by decide) ?_
          exact g_loc [2, 3, 1, 0] (by rfl) (ih4 (t + 1) (FP.fmul (toT w s t) (tht w t)) (x3 + 1) q1 (by omega) (by omega) (by omega) (by rw [toT]; first | rw [if_pos (by omega)] | rw [if_neg (by omega)]) (hF.tr hF1))
  exact g_loc [2, 3, 1, 0] (by rfl) (lp4 _ 0 FP.fconst1 0 σ (Nat.lt_succ_self _) rfl (by omega) rfl Fm.rf)
set_option maxHeartbeats 4000000 in
set_option maxRecDepth 100000 in
theorem c_X10_sortingOf {κ : Kp} (hI : Ij κ) (l : Launch) (σ : St) {w : Wv} (hM : MW σ w) (hW : OKW w) {s : Nat} {zs : Int} (hs : zs = (s : Int)) (hs32 : s < 32) : CtF κ l 6 yX10_sortingOf cX10_sortingOf 5 [.ref (κ.2.1 105), .int (iZ zs)] σ (fun z σ' => z = cso (tho w s) ∧ Fm HM HT σ σ') := by
  refine Ct.ofG (own := RX10) hI (by decide +kernel) rfl (Nat.le_of_ble_eq_true rfl) rfl ?_
  intro M C hMl
  refine g_aload_n C dX10_sortingOf_0 rfl ?_
  refine g_iload_n C dX10_sortingOf_1 rfl ?_
  refine gc_X10_201 C dX10_sortingOf_2 rfl (c_X10_thoughtOf hI (Ml M) σ hM hW (s := s) hs hs32) (by decide) (Nat.le_of_ble_eq_true rfl) (fun z q ⟨hz, hF⟩ => ?_)
  subst z
  refine g_fstore_n (L' := [(2, .float (tho w s)), (0, .ref (κ.2.1 105)), (1, .int (iZ zs))]) C dX10_sortingOf_5 rfl (by decide) rfl ?_
  refine g_iconst (z := 0) C dX10_sortingOf_6 rfl ?_
  refine g_istore_n (L' := [(3, .int (iZ 0)), (2, .float (tho w s)), (0, .ref (κ.2.1 105)), (1, .int (iZ zs))]) C dX10_sortingOf_7 rfl (by decide) rfl ?_
  refine g_fload_n C dX10_sortingOf_8 rfl ?_
  refine g_pc (pc' := 9) rfl ?_
  refine g_f2i C dX10_sortingOf_9 ?_
  refine g_raw (iZ_of _) ?_
  refine g_istore (L' := [(4, .int (iZ ((FP.f2i (tho w s)).toInt))), (3, .int (iZ 0)), (2, .float (tho w s)), (0, .ref (κ.2.1 105)), (1, .int (iZ zs))]) C dX10_sortingOf_10 (by decide) rfl ?_
  have lp12 : ∀ (fz9 : Nat) (d : Nat) (x3 : Int) (x4 : Int), (x4.toNat < fz9) → (x3 = (d : Int)) → (d + dg x4 = digN (FP.f2i (tho w s))) → (R32 x4) → G M κ 5 (En M κ (qF κ (fun z σ' => z = cso (tho w s) ∧ Fm HM HT σ σ'))) 12 [(0, .ref (κ.2.1 105)), (1, .int (iZ zs)), (2, .float (tho w s)), (3, .int (iZ x3)), (4, .int (iZ x4))] [] q := by
    intro fz9
    induction fz9 with
    | zero => intro d x3 x4 hm0; exact absurd hm0 (Nat.not_lt_zero _)
    | succ fz9 ih12 =>
      intro d x3 x4 hm12 hx3 hd hx4
      have hdl := digN_le (FP.f2i (tho w s))
      refine g_iload C dX10_sortingOf_12 rfl ?_
      refine g_if_le (tgt := 29) C dX10_sortingOf_14 (by decide) (by unfold R32; omega) (fun h1 => ?_) (fun h1 => ?_)
      · have hd0 := dg_0 (n := x4) (by omega)
        have hx3e : x3 = ((digN (FP.f2i (tho w s)) : Nat) : Int) := by omega
        have hcv := (cso_B (a := 20) (tho_B hW s) (by decide)).vf
        refine g_fload_n C dX10_sortingOf_29 rfl ?_
        refine g_iload_n C dX10_sortingOf_30 rfl ?_
        refine g_i2f C dX10_sortingOf_31 ?_
        refine g_fmul C dX10_sortingOf_32 (by rw [hx3e]; exact hcv) ?_
        refine g_pc (pc' := 33) rfl ?_
        exact g_freturn C dX10_sortingOf_33 ⟨by rw [hx3e]; rfl, hF⟩
      · refine g_iinc (q := 3) (v := (x3 + 1)) (L' := [(3, .int (iZ (x3 + 1))), (0, .ref (κ.2.1 105)), (1, .int (iZ zs)), (2, .float (tho w s)), (4, .int (iZ x4))]) C dX10_sortingOf_17 rfl rfl (by decide) rfl ?_
        refine g_iload C dX10_sortingOf_20 rfl ?_
        refine g_iconst (z := 2) C dX10_sortingOf_22 rfl ?_
        refine g_idiv C dX10_sortingOf_23 (by omega) ?_
        refine g_istore (L' := [(4, .int (iZ (x4 / 2))), (3, .int (iZ (x3 + 1))), (0, .ref (κ.2.1 105)), (1, .int (iZ zs)), (2, .float (tho w s))]) C dX10_sortingOf_24 (by decide) rfl ?_
        refine g_goto (tgt := 12) C dX10_sortingOf_26 (by decide) ?_
        exact g_loc [2, 3, 4, 1, 0] (by rfl) (ih12 (d + 1) (x3 + 1) (x4 / 2) (by omega) (by omega) (by have := dg_s (n := x4) (by omega); omega) (by unfold R32; omega))
  exact g_loc [3, 4, 2, 1, 0] (by rfl) (lp12 _ 0 0 ((FP.f2i (tho w s)).toInt) (Nat.lt_succ_self _) rfl (by rw [dg_w, Nat.zero_add]) (R32_of _))
theorem MV.hm {σ σ' : St} {V : Vw} (h : MV σ V) (g : Fm HM HT σ σ') : MV σ' V := h.scr (g.mono (fun k e => by unfold HM at e; unfold SC; omega) (fun j e => by unfold HT at e; unfold SX; omega))
theorem Fm.hmY {σ σ' : St} (g : Fm HM HT σ σ') : Fr YC σ σ' := g.toY (fun k e => by unfold HM at e; omega)
set_option maxHeartbeats 4000000 in
set_option maxRecDepth 100000 in
theorem c_X10_different {κ : Kp} (hI : Ij κ) (l : Launch) (σ : St) {V : Vw} (hM : MV σ V) (hO : OKV V) {p : Int} (hp : R32 p) : CtI κ l 3 yX10_different cX10_different 2 .int [.ref (κ.2.1 105), .int (iZ p)] σ (fun z σ' => z = (aDifferent V p).1 ∧ MV σ' (aDifferent V p).2 ∧ Fr YC σ σ') := by
  refine Ct.ofG (own := RX10) hI (by decide +kernel) rfl (Nat.le_of_ble_eq_true rfl) rfl ?_
  intro M C hMl
  refine g_iload_n C dX10_different_0 rfl ?_
  refine gc_X10_312 C dX10_different_1 (c_X10_isPlace hI (Ml M) σ (v := p) (by unfold R32; omega)) (by decide) (Nat.le_of_ble_eq_true rfl) (fun z σ9 ⟨hz, hσ⟩ => ?_)
  subst z
  subst σ9
  refine g_ifb_eq (tgt := 15) C dX10_different_4 (by decide) (fun h1 => ?_) (fun h1 => ?_)
  · refine g_aload_n C dX10_different_15 rfl ?_
    refine g_iconst (z := (-1)) C dX10_different_16 rfl ?_
    refine gc_X10_274 C dX10_different_17 rfl (c_X10_no hI (Ml M) σ (y := 1) (v := (-1)) (by first | rfl | omega) (by decide)) (by decide) (Nat.le_of_ble_eq_true rfl) (fun z σ9 ⟨hz, hσ⟩ => ?_)
    subst z
    subst σ9
    exact g_ireturn C dX10_different_20 (by first | (exfalso; omega) | (rw [show aDifferent V p = rfs 1 V by unfold aDifferent; (first | rw [if_pos (by omega)] | rw [if_neg (by omega)])]; exact ⟨rfl, hM.ref (by omega), YC.ref⟩))
  · refine g_pc (pc' := 7) rfl ?_
    refine g_aload_n C dX10_different_7 rfl ?_
    refine g_iload_n C dX10_different_8 rfl ?_
    refine gc_X10_181 C dX10_different_9 rfl (c_X10_differentOf hI (Ml M) σ hM.1 hO.1 (p := p.toNat) (by omega) (by omega)) (by decide) (Nat.le_of_ble_eq_true rfl) (fun z s1 ⟨hz, hF⟩ => ?_)
    refine g_goto (tgt := 20) C dX10_different_12 (by decide) ?_
    exact g_ireturn C dX10_different_20 (by first | (exfalso; omega) | (rw [show aDifferent V p = ((wdif (vW V) p.toNat : Int), V) by unfold aDifferent; (first | rw [if_pos (by omega)] | rw [if_neg (by omega)])]; exact ⟨hz, hM.hm hF.so, hF.so.hmY⟩))
set_option maxHeartbeats 4000000 in
set_option maxRecDepth 100000 in
theorem c_X10_share {κ : Kp} (hI : Ij κ) (l : Launch) (σ : St) {V : Vw} (hM : MV σ V) (hO : OKV V) {p s v : Int} (hp : R32 p) (hs : R32 s) (hv : R32 v) : CtI κ l 4 yX10_share cX10_share 5 .int [.ref (κ.2.1 105), .int (iZ p), .int (iZ s), .int (iZ v)] σ (fun z σ' => z = (aShare V p s v).1 ∧ MV σ' (aShare V p s v).2 ∧ Fr YC σ σ') := by
  refine Ct.ofG (own := RX10) hI (by decide +kernel) rfl (Nat.le_of_ble_eq_true rfl) rfl ?_
  intro M C hMl
  refine g_iload_n C dX10_share_0 rfl ?_
  refine gc_X10_312 C dX10_share_1 (c_X10_isPlace hI (Ml M) σ (v := p) (by unfold R32; omega)) (by decide) (Nat.le_of_ble_eq_true rfl) (fun z σ9 ⟨hz, hσ⟩ => ?_)
  subst z
  subst σ9
  refine g_ifb_ne (tgt := 11) C dX10_share_4 (by decide) (fun h1 => ?_) (fun h1 => ?_)
  · refine g_iload_n C dX10_share_11 rfl ?_
    refine g_iload_n C dX10_share_12 rfl ?_
    refine gc_X10_374 C dX10_share_13 (c_X10_isAsked hI (Ml M) σ (s := s) (v := v) (by assumption) (by assumption)) (by decide) (Nat.le_of_ble_eq_true rfl) (fun z σ9 ⟨hz, hσ⟩ => ?_)
    subst z
    subst σ9
    refine g_ifb_ne (tgt := 24) C dX10_share_16 (by decide) (fun h2 => ?_) (fun h2 => ?_)
    · refine g_pc (pc' := 24) rfl ?_
      refine g_iconst (z := 0) C dX10_share_24 rfl ?_
      refine g_istore (L' := [(4, .int (iZ 0)), (0, .ref (κ.2.1 105)), (1, .int (iZ p)), (2, .int (iZ s)), (3, .int (iZ v))]) C dX10_share_25 (by decide) rfl ?_
      refine g_iload C dX10_share_27 rfl ?_
      refine g_if_eq (tgt := 44) C dX10_share_29 (by decide) (by unfold R32; omega) (fun h3 => ?_) (fun h3 => ?_)
      · refine g_aload_n C dX10_share_44 rfl ?_
        refine g_iload_n C dX10_share_45 rfl ?_
        refine g_iload_n C dX10_share_46 rfl ?_
        refine g_iload_n C dX10_share_47 rfl ?_
        refine g_pc (pc' := 48) rfl ?_
        refine gc_X10_177 C dX10_share_48 rfl (c_X10_shareOf hI (Ml M) σ hM.1 hO.1 (p := p.toNat) (by omega) (by omega) (sg := s) (v := v) (by omega) (by omega)) (by decide) (Nat.le_of_ble_eq_true rfl) (fun z s1 ⟨hz, hF⟩ => ?_)
        subst z
        refine gc_X10_258 C dX10_share_51 (c_Jxf58ca_floatToIntBits_5c35a hI (Ml M) s1 (FN.of (wshr_B hO.1 (by omega)))) (by decide) (Nat.le_of_ble_eq_true rfl) (fun z2 σ9 ⟨hz2, hσ⟩ => ?_)
        subst σ9
        exact g_ireturn C dX10_share_54 (by first | (exfalso; omega) | (rw [show aShare V p s v = (((wshr (vW V) p.toNat s v).toNat : Int), V) by unfold aShare; (first | rw [if_pos (by omega)] | rw [if_neg (by omega), if_pos (by omega)] | rw [if_neg (by omega), if_neg (by omega)])]; exact ⟨hz2, hM.hm hF, hF.hmY⟩))
      · exfalso; omega
    · refine g_bipush (z := (-6)) C dX10_share_19 rfl ?_
      refine g_goto (tgt := 25) C dX10_share_21 (by decide) ?_
      refine g_istore (L' := [(4, .int (iZ (-6))), (0, .ref (κ.2.1 105)), (1, .int (iZ p)), (2, .int (iZ s)), (3, .int (iZ v))]) C dX10_share_25 (by decide) rfl ?_
      refine g_iload C dX10_share_27 rfl ?_
      refine g_if_eq (tgt := 44) C dX10_share_29 (by decide) (by unfold R32; omega) (fun h4 => ?_) (fun h4 => ?_)
      · exfalso; omega
      · refine g_pc (pc' := 32) rfl ?_
        refine g_aload_n C dX10_share_32 rfl ?_
        refine g_iload C dX10_share_33 rfl ?_
        refine gc_X10_274 C dX10_share_35 rfl (c_X10_no hI (Ml M) σ (y := 6) (v := (-6)) (by first | rfl | omega) (by decide)) (by decide) (Nat.le_of_ble_eq_true rfl) (fun z σ9 ⟨hz, hσ⟩ => ?_)
        subst z
        subst σ9
        refine g_bipush (z := 10) C dX10_share_38 rfl ?_
        refine g_isub C dX10_share_40 ?_
        refine g_goto (tgt := 54) C dX10_share_41 (by decide) ?_
        exact g_ireturn C dX10_share_54 (by first | (exfalso; omega) | (rw [show aShare V p s v = rfT 6 V by unfold aShare; (first | rw [if_pos (by omega)] | rw [if_neg (by omega), if_pos (by omega)] | rw [if_neg (by omega), if_neg (by omega)])]; exact ⟨rfl, hM.ref (by omega), YC.ref⟩))
  · refine g_iconst (z := (-1)) C dX10_share_7 rfl ?_
    refine g_pc (pc' := 8) rfl ?_
    refine g_goto (tgt := 25) C dX10_share_8 (by decide) ?_
    refine g_istore (L' := [(4, .int (iZ (-1))), (0, .ref (κ.2.1 105)), (1, .int (iZ p)), (2, .int (iZ s)), (3, .int (iZ v))]) C dX10_share_25 (by decide) rfl ?_
    refine g_iload C dX10_share_27 rfl ?_
    refine g_if_eq (tgt := 44) C dX10_share_29 (by decide) (by unfold R32; omega) (fun h5 => ?_) (fun h5 => ?_)
    · exfalso; omega
    · refine g_aload_n C dX10_share_32 rfl ?_
      refine g_iload C dX10_share_33 rfl ?_
      refine gc_X10_274 C dX10_share_35 rfl (c_X10_no hI (Ml M) σ (y := 1) (v := (-1)) (by first | rfl | omega) (by decide)) (by decide) (Nat.le_of_ble_eq_true rfl) (fun z σ9 ⟨hz, hσ⟩ => ?_)
      subst z
      subst σ9
      refine g_bipush (z := 10) C dX10_share_38 rfl ?_
      refine g_pc (pc' := 40) rfl ?_
      refine g_isub C dX10_share_40 ?_
      refine g_goto (tgt := 54) C dX10_share_41 (by decide) ?_
      exact g_ireturn C dX10_share_54 (by first | (exfalso; omega) | (rw [show aShare V p s v = rfT 1 V by unfold aShare; (first | rw [if_pos (by omega)] | rw [if_neg (by omega), if_pos (by omega)] | rw [if_neg (by omega), if_neg (by omega)])]; exact ⟨rfl, hM.ref (by omega), YC.ref⟩))
set_option maxHeartbeats 4000000 in
set_option maxRecDepth 100000 in
theorem c_X10_joinShare {κ : Kp} (hI : Ij κ) (l : Launch) (σ : St) {V : Vw} (hM : MV σ V) (hO : OKV V) {j : Int} (hj : R32 j) : CtI κ l 4 yX10_joinShare cX10_joinShare 2 .int [.ref (κ.2.1 105), .int (iZ j)] σ (fun z σ' => z = (aJoinShare V j).1 ∧ MV σ' (aJoinShare V j).2 ∧ Fr YC σ σ') := by
  refine Ct.ofG (own := RX10) hI (by decide +kernel) rfl (Nat.le_of_ble_eq_true rfl) rfl ?_
  intro M C hMl
  have hnj8 := hO.1.2.2.1
  refine g_iload_n C dX10_joinShare_0 rfl ?_
  refine g_iconst (z := 0) C dX10_joinShare_1 rfl ?_
  refine g_aload_n C dX10_joinShare_2 rfl ?_
  refine gf_X10_192 (z := (wnj (vW V) : Int)) C dX10_joinShare_3 rfl hM.1.2.2.1.1 ?_
  refine g_iconst (z := 1) C dX10_joinShare_6 rfl ?_
  refine g_isub C dX10_joinShare_7 ?_
  refine gc_X10_145 C dX10_joinShare_8 (c_X10_isIn hI (Ml M) σ (v := j) (a := 0) (b := ((wnj (vW V) : Int) - 1)) (by unfold R32; omega) (by unfold R32; omega) (by unfold R32; omega)) (by decide) (Nat.le_of_ble_eq_true rfl) (fun z σ9 ⟨hz, hσ⟩ => ?_)
  subst z
  subst σ9
  refine g_pc (pc' := 11) rfl ?_
  refine g_ifb_eq (tgt := 25) C dX10_joinShare_11 (by decide) (fun h1 => ?_) (fun h1 => ?_)
  · refine g_aload_n C dX10_joinShare_25 rfl ?_
    refine g_iconst (z := (-1)) C dX10_joinShare_26 rfl ?_
    refine gc_X10_274 C dX10_joinShare_27 rfl (c_X10_no hI (Ml M) σ (y := 1) (v := (-1)) (by first | rfl | omega) (by decide)) (by decide) (Nat.le_of_ble_eq_true rfl) (fun z σ9 ⟨hz, hσ⟩ => ?_)
    subst z
    subst σ9
    exact g_ireturn C dX10_joinShare_30 (by first | (exfalso; omega) | (rw [show aJoinShare V j = rfs 1 V by unfold aJoinShare; (first | rw [if_pos (by omega)] | rw [if_neg (by omega)])]; exact ⟨rfl, hM.ref (by omega), YC.ref⟩))
  · refine g_aload_n C dX10_joinShare_14 rfl ?_
    refine g_iload_n C dX10_joinShare_15 rfl ?_
    refine gc_X10_198 C dX10_joinShare_16 rfl (c_X10_shareOfJoin hI (Ml M) σ hM.1 hO.1 (j := j.toNat) (by omega) (by omega)) (by decide) (Nat.le_of_ble_eq_true rfl) (fun z s1 ⟨hz, hF⟩ => ?_)
    subst z
    refine g_pc (pc' := 19) rfl ?_
    refine gc_X10_258 C dX10_joinShare_19 (c_Jxf58ca_floatToIntBits_5c35a hI (Ml M) s1 (FN.of (wjs_B hO.1 (j := j.toNat) (by omega)))) (by decide) (Nat.le_of_ble_eq_true rfl) (fun z2 σ9 ⟨hz2, hσ⟩ => ?_)
    subst σ9
    refine g_goto (tgt := 30) C dX10_joinShare_22 (by decide) ?_
    exact g_ireturn C dX10_joinShare_30 (by first | (exfalso; omega) | (rw [show aJoinShare V j = (((wjs (vW V) j.toNat).toNat : Int), V) by unfold aJoinShare; (first | rw [if_pos (by omega)] | rw [if_neg (by omega)])]; exact ⟨hz2, hM.hm hF, hF.hmY⟩))
set_option maxHeartbeats 4000000 in
set_option maxRecDepth 100000 in
theorem c_X10_thought {κ : Kp} (hI : Ij κ) (l : Launch) (σ : St) {V : Vw} (hM : MV σ V) (hO : OKV V) {s : Int} (hs : R32 s) : CtI κ l 6 yX10_thought cX10_thought 2 .int [.ref (κ.2.1 105), .int (iZ s)] σ (fun z σ' => z = (aThought V s).1 ∧ MV σ' (aThought V s).2 ∧ Fr YC σ σ') := by
  refine Ct.ofG (own := RX10) hI (by decide +kernel) rfl (Nat.le_of_ble_eq_true rfl) rfl ?_
  intro M C hMl
  refine g_iload_n C dX10_thought_0 rfl ?_
  refine gc_X10_267 C dX10_thought_1 (c_X10_isSet hI (Ml M) σ (v := s) (by unfold R32; omega)) (by decide) (Nat.le_of_ble_eq_true rfl) (fun z σ9 ⟨hz, hσ⟩ => ?_)
  subst z
  subst σ9
  refine g_ifb_eq (tgt := 18) C dX10_thought_4 (by decide) (fun h1 => ?_) (fun h1 => ?_)
  · refine g_aload_n C dX10_thought_18 rfl ?_
    refine g_bipush (z := (-6)) C dX10_thought_19 rfl ?_
    refine gc_X10_274 C dX10_thought_21 rfl (c_X10_no hI (Ml M) σ (y := 6) (v := (-6)) (by first | rfl | omega) (by decide)) (by decide) (Nat.le_of_ble_eq_true rfl) (fun z σ9 ⟨hz, hσ⟩ => ?_)
    subst z
    subst σ9
    exact g_ireturn C dX10_thought_24 (by first | (exfalso; omega) | (rw [show aThought V s = rfs 6 V by unfold aThought; (first | rw [if_pos (by omega)] | rw [if_neg (by omega)])]; exact ⟨rfl, hM.ref (by omega), YC.ref⟩))
  · refine g_pc (pc' := 7) rfl ?_
    refine g_aload_n C dX10_thought_7 rfl ?_
    refine g_iload_n C dX10_thought_8 rfl ?_
    refine gc_X10_201 C dX10_thought_9 rfl (c_X10_thoughtOf hI (Ml M) σ hM.1 hO.1 (s := s.toNat) (by omega) (by omega)) (by decide) (Nat.le_of_ble_eq_true rfl) (fun z s1 ⟨hz, hF⟩ => ?_)
    subst z
    refine gc_X10_258 C dX10_thought_12 (c_Jxf58ca_floatToIntBits_5c35a hI (Ml M) s1 (FN.of (tho_B hO.1 _))) (by decide) (Nat.le_of_ble_eq_true rfl) (fun z2 σ9 ⟨hz2, hσ⟩ => ?_)
    subst σ9
    refine g_goto (tgt := 24) C dX10_thought_15 (by decide) ?_
    exact g_ireturn C dX10_thought_24 (by first | (exfalso; omega) | (rw [show aThought V s = (((tho (vW V) s.toNat).toNat : Int), V) by unfold aThought; (first | rw [if_pos (by omega)] | rw [if_neg (by omega)])]; exact ⟨hz2, hM.hm hF, hF.hmY⟩))
set_option maxHeartbeats 4000000 in
set_option maxRecDepth 100000 in
theorem c_X10_sorting {κ : Kp} (hI : Ij κ) (l : Launch) (σ : St) {V : Vw} (hM : MV σ V) (hO : OKV V) {s : Int} (hs : R32 s) : CtI κ l 7 yX10_sorting cX10_sorting 2 .int [.ref (κ.2.1 105), .int (iZ s)] σ (fun z σ' => z = (aSorting V s).1 ∧ MV σ' (aSorting V s).2 ∧ Fr YC σ σ') := by
  refine Ct.ofG (own := RX10) hI (by decide +kernel) rfl (Nat.le_of_ble_eq_true rfl) rfl ?_
  intro M C hMl
  refine g_iload_n C dX10_sorting_0 rfl ?_
  refine gc_X10_267 C dX10_sorting_1 (c_X10_isSet hI (Ml M) σ (v := s) (by unfold R32; omega)) (by decide) (Nat.le_of_ble_eq_true rfl) (fun z σ9 ⟨hz, hσ⟩ => ?_)
  subst z
  subst σ9
  refine g_ifb_eq (tgt := 18) C dX10_sorting_4 (by decide) (fun h1 => ?_) (fun h1 => ?_)
  · refine g_aload_n C dX10_sorting_18 rfl ?_
    refine g_bipush (z := (-6)) C dX10_sorting_19 rfl ?_
    refine gc_X10_274 C dX10_sorting_21 rfl (c_X10_no hI (Ml M) σ (y := 6) (v := (-6)) (by first | rfl | omega) (by decide)) (by decide) (Nat.le_of_ble_eq_true rfl) (fun z σ9 ⟨hz, hσ⟩ => ?_)
    subst z
    subst σ9
    exact g_ireturn C dX10_sorting_24 (by first | (exfalso; omega) | (rw [show aSorting V s = rfs 6 V by unfold aSorting; (first | rw [if_pos (by omega)] | rw [if_neg (by omega)])]; exact ⟨rfl, hM.ref (by omega), YC.ref⟩))
  · refine g_pc (pc' := 7) rfl ?_
    refine g_aload_n C dX10_sorting_7 rfl ?_
    refine g_iload_n C dX10_sorting_8 rfl ?_
    refine gc_X10_242 C dX10_sorting_9 rfl (c_X10_sortingOf hI (Ml M) σ hM.1 hO.1 (s := s.toNat) (by omega) (by omega)) (by decide) (Nat.le_of_ble_eq_true rfl) (fun z s1 ⟨hz, hF⟩ => ?_)
    subst z
    refine gc_X10_258 C dX10_sorting_12 (c_Jxf58ca_floatToIntBits_5c35a hI (Ml M) s1 (FN.of (cso_B (a := 20) (tho_B hO.1 _) (by decide)))) (by decide) (Nat.le_of_ble_eq_true rfl) (fun z2 σ9 ⟨hz2, hσ⟩ => ?_)
    subst σ9
    refine g_goto (tgt := 24) C dX10_sorting_15 (by decide) ?_
    exact g_ireturn C dX10_sorting_24 (by first | (exfalso; omega) | (rw [show aSorting V s = (((cso (tho (vW V) s.toNat)).toNat : Int), V) by unfold aSorting; (first | rw [if_pos (by omega)] | rw [if_neg (by omega)])]; exact ⟨hz2, hM.hm hF, hF.hmY⟩))

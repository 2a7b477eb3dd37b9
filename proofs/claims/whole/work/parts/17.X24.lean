/-! Arrays.fill, Node, Shelf -/
def fillL (σ : St) (k n : Nat) (v : Int64) : St := (σ.1, σ.2.1, fun a b => if a = k ∧ b < n then v else σ.2.2 a b)
def fillI (σ : St) (k n : Nat) (v : Int) : St := (fun a b => if a = k ∧ b < n then v else σ.1 a b, σ.2)
theorem fillL_0 {σ : St} {k : Nat} {v : Int64} : fillL σ k 0 v = σ := by unfold fillL; apply Prod.ext; rfl; (apply Prod.ext; rfl; (funext a b; simp))
theorem fillI_0 {σ : St} {k : Nat} {v : Int} : fillI σ k 0 v = σ := by unfold fillI; apply Prod.ext; (funext a b; simp); rfl
theorem fillL_s {σ : St} {k i : Nat} {v : Int64} : sL (fillL σ k i v) k i v = fillL σ k (i + 1) v := by
  unfold sL fillL
  congr 2
  funext a b
  by_cases h : a = k
  · by_cases h2 : b = i
    · simp [h, h2]
    · by_cases h3 : b < i
      · simp [h, h2, h3, show b < i + 1 by omega]
      · simp [h, h2, h3, show ¬ b < i + 1 by omega]
  · simp [h]
theorem fillI_s {σ : St} {k i : Nat} {v : Int} : sI (fillI σ k i v) k i v = fillI σ k (i + 1) v := by
  unfold sI fillI
  congr 1
  funext a b
  by_cases h : a = k
  · by_cases h2 : b = i
    · simp [h, h2]
    · by_cases h3 : b < i
      · simp [h, h2, h3, show b < i + 1 by omega]
      · simp [h, h2, h3, show ¬ b < i + 1 by omega]
  · simp [h]
set_option maxHeartbeats 4000000 in
set_option maxRecDepth 100000 in
theorem c_J7_fill_d0a16 {κ : Kp} (hI : Ij κ) (l : Launch) (σ : St) {k N : Nat} {v : Int64} (hk : kd k = 22) (hN : len k = N) (hNb : N < 2147483648) : CtV κ l 0 yJ7_fill_d0a16 cJ7_fill_d0a16 5 [.ref (κ.2.1 k), .long v] σ (fun σ' => σ' = fillL σ k N v) := by
  refine Ct.ofG (own := RJ7) hI (by decide +kernel) rfl (Nat.le_of_ble_eq_true rfl) rfl ?_
  intro M C hMl
  refine g_iconst (z := 0) C dJ7_fill_d0a16_0 rfl ?_
  refine g_istore_n (L' := [(3, .int (iZ 0)), (0, .ref (κ.2.1 k)), (1, .long v)]) C dJ7_fill_d0a16_1 rfl (by decide) rfl ?_
  refine g_aload_n C dJ7_fill_d0a16_2 rfl ?_
  refine g_alenL (N := N) C dJ7_fill_d0a16_3 hk hN ?_
  refine g_sig (σ' := (fillL σ k 0 v)) fillL_0.symm ?_
  refine g_istore (L' := [(4, .int (iZ (N : Int))), (3, .int (iZ 0)), (0, .ref (κ.2.1 k)), (1, .long v)]) C dJ7_fill_d0a16_4 (by decide) rfl ?_
  have lp6 : ∀ (fz9 : Nat) (i : Nat) (x3 : Int), (N - i < fz9) → (x3 = (i : Int)) → (i ≤ N) → G M κ 5 (En M κ (qV κ (fun σ' => σ' = fillL σ k N v))) 6 [(0, .ref (κ.2.1 k)), (1, .long v), (3, .int (iZ x3)), (4, .int (iZ (N : Int)))] [] (fillL σ k i v) := by
    intro fz9
    induction fz9 with
    | zero => intro i x3 hm0; exact absurd hm0 (Nat.not_lt_zero _)
    | succ fz9 ih =>
      intro i x3 hm6 hx3 hi
      refine g_iload_n C dJ7_fill_d0a16_6 rfl ?_
      refine g_iload C dJ7_fill_d0a16_7 rfl ?_
      refine g_pc (pc' := 9) rfl ?_
      refine g_icmp_ge (tgt := 22) C dJ7_fill_d0a16_9 (by decide) (by unfold R32; omega) (fun h1 => ?_) (fun h1 => ?_)
      · exact g_return C dJ7_fill_d0a16_22 (by rw [show i = N by omega])
      · refine g_aload_n C dJ7_fill_d0a16_12 rfl ?_
        refine g_iload_n C dJ7_fill_d0a16_13 rfl ?_
        refine g_lload_n C dJ7_fill_d0a16_14 rfl ?_
        refine g_last (n := i) (N := N) C dJ7_fill_d0a16_15 hk hN (by omega) (by omega) (by omega) ?_
        rw [fillL_s]
        refine g_iinc (q := 2) (v := (x3 + 1)) (L' := [(3, .int (iZ (x3 + 1))), (0, .ref (κ.2.1 k)), (1, .long v), (4, .int (iZ (N : Int)))]) C dJ7_fill_d0a16_16 rfl rfl (by decide) rfl ?_
        refine g_goto (tgt := 6) C dJ7_fill_d0a16_19 (by decide) ?_
        exact g_loc [1, 2, 0, 3] (by rfl) (ih (i + 1) (x3 + 1) (by omega) (by omega) (by omega))
  exact g_loc [2, 3, 1, 0] (by rfl) (lp6 _ 0 0 (Nat.lt_succ_self _) rfl (Nat.zero_le _))
set_option maxHeartbeats 4000000 in
set_option maxRecDepth 100000 in
theorem c_J7_fill_53178 {κ : Kp} (hI : Ij κ) (l : Launch) (σ : St) {k N : Nat} {v : Int} (hk : kd k = 20) (hN : len k = N) (hNb : N < 2147483648) : CtV κ l 0 yJ7_fill_53178 cJ7_fill_53178 4 [.ref (κ.2.1 k), .int (iZ v)] σ (fun σ' => σ' = fillI σ k N v) := by
  refine Ct.ofG (own := RJ7) hI (by decide +kernel) rfl (Nat.le_of_ble_eq_true rfl) rfl ?_
  intro M C hMl
  refine g_iconst (z := 0) C dJ7_fill_53178_0 rfl ?_
  refine g_istore_n (L' := [(2, .int (iZ 0)), (0, .ref (κ.2.1 k)), (1, .int (iZ v))]) C dJ7_fill_53178_1 rfl (by decide) rfl ?_
  refine g_aload_n C dJ7_fill_53178_2 rfl ?_
  refine g_alen (N := N) C dJ7_fill_53178_3 hk hN ?_
  refine g_sig (σ' := (fillI σ k 0 v)) fillI_0.symm ?_
  refine g_istore_n (L' := [(3, .int (iZ (N : Int))), (2, .int (iZ 0)), (0, .ref (κ.2.1 k)), (1, .int (iZ v))]) C dJ7_fill_53178_4 rfl (by decide) rfl ?_
  have lp5 : ∀ (fz9 : Nat) (i : Nat) (x3 : Int), (N - i < fz9) → (x3 = (i : Int)) → (i ≤ N) → G M κ 4 (En M κ (qV κ (fun σ' => σ' = fillI σ k N v))) 5 [(0, .ref (κ.2.1 k)), (1, .int (iZ v)), (2, .int (iZ x3)), (3, .int (iZ (N : Int)))] [] (fillI σ k i v) := by
    intro fz9
    induction fz9 with
    | zero => intro i x3 hm0; exact absurd hm0 (Nat.not_lt_zero _)
    | succ fz9 ih =>
      intro i x3 hm5 hx3 hi
      refine g_iload_n C dJ7_fill_53178_5 rfl ?_
      refine g_iload_n C dJ7_fill_53178_6 rfl ?_
      refine g_pc (pc' := 7) rfl ?_
      refine g_icmp_ge (tgt := 20) C dJ7_fill_53178_7 (by decide) (by unfold R32; omega) (fun h1 => ?_) (fun h1 => ?_)
      · exact g_return C dJ7_fill_53178_20 (by rw [show i = N by omega])
      · refine g_aload_n C dJ7_fill_53178_10 rfl ?_
        refine g_iload_n C dJ7_fill_53178_11 rfl ?_
        refine g_iload_n C dJ7_fill_53178_12 rfl ?_
        refine g_iast (n := i) (N := N) C dJ7_fill_53178_13 hk hN (by omega) (by omega) (by omega) ?_
        rw [fillI_s]
        refine g_iinc (q := 2) (v := (x3 + 1)) (L' := [(2, .int (iZ (x3 + 1))), (0, .ref (κ.2.1 k)), (1, .int (iZ v)), (3, .int (iZ (N : Int)))]) C dJ7_fill_53178_14 rfl rfl (by decide) rfl ?_
        refine g_goto (tgt := 5) C dJ7_fill_53178_17 (by decide) ?_
        exact g_loc [1, 2, 0, 3] (by rfl) (ih (i + 1) (x3 + 1) (by omega) (by omega) (by omega))
  exact g_loc [2, 3, 1, 0] (by rfl) (lp5 _ 0 0 (Nat.lt_succ_self _) rfl (Nat.zero_le _))
/-- the seven slots of a node go over -/
def nBec (σ : St) (k k2 : Nat) : St := sI (sI (sI (sI (sI (sI (sI σ k 0 (σ.1 k2 0)) k 1 (σ.1 k2 1)) k 2 (σ.1 k2 2)) k 3 (σ.1 k2 3)) k 4 (σ.1 k2 4)) k 5 (σ.1 k2 5)) k 6 (σ.1 k2 6)
def spk (w a : Int) : Prop := a = 0 ∨ (a = 1 ∧ w = 0) ∨ (a = 2 ∧ 1 ≤ w ∧ w ≤ 3) ∨ (a = 3 ∧ w = 3) ∨ (a = 4 ∧ w = 4)
theorem nBec_at {σ : St} {k k2 : Nat} {j : Nat} (hj : j < 7) : (nBec σ k k2).1 k j = σ.1 k2 j := by
  unfold nBec
  rcases (show j = 0 ∨ j = 1 ∨ j = 2 ∨ j = 3 ∨ j = 4 ∨ j = 5 ∨ j = 6 by omega) with rfl | rfl | rfl | rfl | rfl | rfl | rfl <;> simp [sI]
theorem nBec_ne {σ : St} {k k2 q : Nat} (h : q ≠ k) : (nBec σ k k2).1 q = σ.1 q := by unfold nBec; rw [rI_K h, rI_K h, rI_K h, rI_K h, rI_K h, rI_K h, rI_K h]
theorem nBec_2 {σ : St} {k k2 : Nat} : (nBec σ k k2).2 = σ.2 := rfl

set_option maxHeartbeats 4000000 in
set_option maxRecDepth 100000 in
theorem c_X2_become {κ : Kp} (hI : Ij κ) (l : Launch) (σ : St) {k k2 : Nat} (hk : kd k = 2) (hk2 : kd k2 = 2) (hne : k2 ≠ k) : CtV κ l 0 yX2_become cX2_become 2 [.ref (κ.2.1 k), .ref (κ.2.1 k2)] σ (fun σ' => σ' = nBec σ k k2) := by
  refine Ct.ofG (own := RX2) hI (by decide +kernel) rfl (Nat.le_of_ble_eq_true rfl) rfl ?_
  intro M C hMl
  refine g_aload_n C dX2_become_0 rfl ?_
  refine g_aload_n C dX2_become_1 rfl ?_
  refine gf_X2_9 (z := (σ.1 k2 0)) C dX2_become_2 hk2 rfl ?_
  refine gp_X2_9 C dX2_become_5 hk ?_
  refine g_aload_n C dX2_become_8 rfl ?_
  refine g_aload_n C dX2_become_9 rfl ?_
  refine gf_X2_15 (z := (σ.1 k2 1)) C dX2_become_10 hk2 (rI_k (by omega)) ?_
  refine g_pc (pc' := 13) rfl ?_
  refine gp_X2_15 C dX2_become_13 hk ?_
  refine g_aload_n C dX2_become_16 rfl ?_
  refine g_aload_n C dX2_become_17 rfl ?_
  refine gf_X2_18 (z := (σ.1 k2 2)) C dX2_become_18 hk2 ((rI_k (by omega)).trans (rI_k (by omega))) ?_
  refine gp_X2_18 C dX2_become_21 hk ?_
  refine g_aload_n C dX2_become_24 rfl ?_
  refine g_aload_n C dX2_become_25 rfl ?_
  refine gf_X2_21 (z := (σ.1 k2 3)) C dX2_become_26 hk2 ((rI_k (by omega)).trans ((rI_k (by omega)).trans (rI_k (by omega)))) ?_
  refine g_pc (pc' := 29) rfl ?_
  refine gp_X2_21 C dX2_become_29 hk ?_
  refine g_aload_n C dX2_become_32 rfl ?_
  refine g_aload_n C dX2_become_33 rfl ?_
  refine gf_X2_24 (z := (σ.1 k2 4)) C dX2_become_34 hk2 ((rI_k (by omega)).trans ((rI_k (by omega)).trans ((rI_k (by omega)).trans (rI_k (by omega))))) ?_
  refine gp_X2_24 C dX2_become_37 hk ?_
  refine g_aload_n C dX2_become_40 rfl ?_
  refine g_aload_n C dX2_become_41 rfl ?_
  refine gf_X2_27 (z := (σ.1 k2 5)) C dX2_become_42 hk2 ((rI_k (by omega)).trans ((rI_k (by omega)).trans ((rI_k (by omega)).trans ((rI_k (by omega)).trans (rI_k (by omega)))))) ?_
  refine g_pc (pc' := 45) rfl ?_
  refine gp_X2_27 C dX2_become_45 hk ?_
  refine g_aload_n C dX2_become_48 rfl ?_
  refine g_aload_n C dX2_become_49 rfl ?_
  refine gf_X2_30 (z := (σ.1 k2 6)) C dX2_become_50 hk2 ((rI_k (by omega)).trans ((rI_k (by omega)).trans ((rI_k (by omega)).trans ((rI_k (by omega)).trans ((rI_k (by omega)).trans (rI_k (by omega))))))) ?_
  refine gp_X2_30 C dX2_become_53 hk ?_
  exact g_return C dX2_become_56 rfl
set_option maxHeartbeats 4000000 in
set_option maxRecDepth 100000 in
theorem c_X2_speaks {κ : Kp} (hI : Ij κ) (l : Launch) (σ : St) {k : Nat} {w a : Int} (hk : kd k = 2) (hw : σ.1 k 0 = w) (hw5 : 0 ≤ w ∧ w ≤ 4) (ha : 0 ≤ a ∧ a ≤ 4) : CtI κ l 0 yX2_speaks cX2_speaks 2 .boolean [.ref (κ.2.1 k), .int (iZ a)] σ (fun z σ' => (z = 0 ∨ z = 1) ∧ (z = 1 ↔ spk w a) ∧ σ' = σ) := by
  refine Ct.ofG (own := RX2) hI (by decide +kernel) rfl (Nat.le_of_ble_eq_true rfl) rfl ?_
  intro M C hMl
  refine g_iload_n C dX2_speaks_0 rfl ?_
  have hs1 : a < 0 ∨ 3 < a ∨ a = 0 ∨ a = 1 ∨ a = 2 ∨ a = 3 := by omega
  rcases hs1 with hs1 | hs1 | hs1 | hs1 | hs1 | hs1
  · omega
  · refine g_tswd (tgt := 91) C dX2_speaks_1 (by unfold R32; omega) (by omega) (by decide) ?_
    refine g_aload_n C dX2_speaks_91 rfl ?_
    refine gf_X2_9 (z := w) C dX2_speaks_92 hk hw ?_
    refine g_iconst (z := 4) C dX2_speaks_95 rfl ?_
    refine g_icmp_ne (tgt := 103) C dX2_speaks_96 (by decide) (by unfold R32; omega) (fun h2 => ?_) (fun h2 => ?_)
    · refine g_iconst (z := 0) C dX2_speaks_103 rfl ?_
      refine g_pc (pc' := 104) rfl ?_
      exact g_zreturn C dX2_speaks_104 (by omega) ⟨by omega, by unfold spk; omega, rfl⟩
    · refine g_iconst (z := 1) C dX2_speaks_99 rfl ?_
      refine g_goto (tgt := 104) C dX2_speaks_100 (by decide) ?_
      exact g_zreturn C dX2_speaks_104 (by omega) ⟨by omega, by unfold spk; omega, rfl⟩
  · refine g_int (z' := 0) hs1 ?_
    refine g_tsw (tgt := 32) C dX2_speaks_1 (by decide) (by decide) rfl (by decide) ?_
    refine g_iconst (z := 1) C dX2_speaks_32 rfl ?_
    exact g_zreturn C dX2_speaks_33 (by omega) ⟨by omega, by unfold spk; omega, rfl⟩
  · refine g_int (z' := 1) hs1 ?_
    refine g_tsw (tgt := 34) C dX2_speaks_1 (by decide) (by decide) rfl (by decide) ?_
    refine g_aload_n C dX2_speaks_34 rfl ?_
    refine gf_X2_9 (z := w) C dX2_speaks_35 hk hw ?_
    refine g_pc (pc' := 38) rfl ?_
    refine g_if_ne (tgt := 45) C dX2_speaks_38 (by decide) (by unfold R32; omega) (fun h3 => ?_) (fun h3 => ?_)
    · refine g_iconst (z := 0) C dX2_speaks_45 rfl ?_
      exact g_zreturn C dX2_speaks_46 (by omega) ⟨by omega, by unfold spk; omega, rfl⟩
    · refine g_iconst (z := 1) C dX2_speaks_41 rfl ?_
      refine g_goto (tgt := 46) C dX2_speaks_42 (by decide) ?_
      exact g_zreturn C dX2_speaks_46 (by omega) ⟨by omega, by unfold spk; omega, rfl⟩
  · refine g_int (z' := 2) hs1 ?_
    refine g_tsw (tgt := 47) C dX2_speaks_1 (by decide) (by decide) rfl (by decide) ?_
    refine g_aload_n C dX2_speaks_47 rfl ?_
    refine gf_X2_9 (z := w) C dX2_speaks_48 hk hw ?_
    refine g_pc (pc' := 51) rfl ?_
    refine g_iconst (z := 1) C dX2_speaks_51 rfl ?_
    refine g_icmp_eq (tgt := 71) C dX2_speaks_52 (by decide) (by unfold R32; omega) (fun h4 => ?_) (fun h4 => ?_)
    · refine g_iconst (z := 1) C dX2_speaks_71 rfl ?_
      refine g_goto (tgt := 76) C dX2_speaks_72 (by decide) ?_
      exact g_zreturn C dX2_speaks_76 (by omega) ⟨by omega, by unfold spk; omega, rfl⟩
    · refine g_aload_n C dX2_speaks_55 rfl ?_
      refine gf_X2_9 (z := w) C dX2_speaks_56 hk hw ?_
      refine g_iconst (z := 2) C dX2_speaks_59 rfl ?_
      refine g_pc (pc' := 60) rfl ?_
      refine g_icmp_eq (tgt := 71) C dX2_speaks_60 (by decide) (by unfold R32; omega) (fun h5 => ?_) (fun h5 => ?_)
      · refine g_iconst (z := 1) C dX2_speaks_71 rfl ?_
        refine g_goto (tgt := 76) C dX2_speaks_72 (by decide) ?_
        exact g_zreturn C dX2_speaks_76 (by omega) ⟨by omega, by unfold spk; omega, rfl⟩
      · refine g_aload_n C dX2_speaks_63 rfl ?_
        refine gf_X2_9 (z := w) C dX2_speaks_64 hk hw ?_
        refine g_iconst (z := 3) C dX2_speaks_67 rfl ?_
        refine g_icmp_ne (tgt := 75) C dX2_speaks_68 (by decide) (by unfold R32; omega) (fun h6 => ?_) (fun h6 => ?_)
        · refine g_pc (pc' := 75) rfl ?_
          refine g_iconst (z := 0) C dX2_speaks_75 rfl ?_
          exact g_zreturn C dX2_speaks_76 (by omega) ⟨by omega, by unfold spk; omega, rfl⟩
        · refine g_iconst (z := 1) C dX2_speaks_71 rfl ?_
          refine g_goto (tgt := 76) C dX2_speaks_72 (by decide) ?_
          exact g_zreturn C dX2_speaks_76 (by omega) ⟨by omega, by unfold spk; omega, rfl⟩
  · refine g_int (z' := 3) hs1 ?_
    refine g_tsw (tgt := 77) C dX2_speaks_1 (by decide) (by decide) rfl (by decide) ?_
    refine g_aload_n C dX2_speaks_77 rfl ?_
    refine gf_X2_9 (z := w) C dX2_speaks_78 hk hw ?_
    refine g_iconst (z := 3) C dX2_speaks_81 rfl ?_
    refine g_pc (pc' := 82) rfl ?_
    refine g_icmp_ne (tgt := 89) C dX2_speaks_82 (by decide) (by unfold R32; omega) (fun h7 => ?_) (fun h7 => ?_)
    · refine g_iconst (z := 0) C dX2_speaks_89 rfl ?_
      exact g_zreturn C dX2_speaks_90 (by omega) ⟨by omega, by unfold spk; omega, rfl⟩
    · refine g_iconst (z := 1) C dX2_speaks_85 rfl ?_
      refine g_goto (tgt := 90) C dX2_speaks_86 (by decide) ?_
      exact g_zreturn C dX2_speaks_90 (by omega) ⟨by omega, by unfold spk; omega, rfl⟩
set_option maxHeartbeats 4000000 in
set_option maxRecDepth 100000 in
theorem c_X2_speech {κ : Kp} (hI : Ij κ) (l : Launch) (σ : St) {k T : Nat} {a : Int} (hk : kd k = 2) (hT : σ.1 k 1 = (T : Int)) (hT32 : T < 32) (ha : 0 ≤ a ∧ a ≤ 4) : CtI κ l 1 yX2_speech cX2_speech 2 .int [.ref (κ.2.1 k), .int (iZ a)] σ (fun z σ' => z = (if a = 0 then σ.1 k 3 else if a = 1 then (leastT T : Int) else if a = 2 then σ.1 k 4 else if a = 3 then σ.1 k 5 else σ.1 k 2) ∧ σ' = σ) := by
  refine Ct.ofG (own := RX2) hI (by decide +kernel) rfl (Nat.le_of_ble_eq_true rfl) rfl ?_
  intro M C hMl
  refine g_iload_n C dX2_speech_0 rfl ?_
  have hs1 : a < 0 ∨ 3 < a ∨ a = 0 ∨ a = 1 ∨ a = 2 ∨ a = 3 := by omega
  rcases hs1 with hs1 | hs1 | hs1 | hs1 | hs1 | hs1
  · omega
  · refine g_tswd (tgt := 55) C dX2_speech_1 (by unfold R32; omega) (by omega) (by decide) ?_
    refine g_aload_n C dX2_speech_55 rfl ?_
    refine gf_X2_18 (z := (σ.1 k 2)) C dX2_speech_56 hk rfl ?_
    exact g_ireturn C dX2_speech_59 ⟨by first | rw [if_pos (by omega)] | rw [if_neg (by omega), if_pos (by omega)] | rw [if_neg (by omega), if_neg (by omega), if_pos (by omega)] | rw [if_neg (by omega), if_neg (by omega), if_neg (by omega), if_pos (by omega)] | rw [if_neg (by omega), if_neg (by omega), if_neg (by omega), if_neg (by omega)], rfl⟩
  · refine g_int (z' := 0) hs1 ?_
    refine g_tsw (tgt := 32) C dX2_speech_1 (by decide) (by decide) rfl (by decide) ?_
    refine g_aload_n C dX2_speech_32 rfl ?_
    refine gf_X2_21 (z := (σ.1 k 3)) C dX2_speech_33 hk rfl ?_
    refine g_pc (pc' := 36) rfl ?_
    exact g_ireturn C dX2_speech_36 ⟨by first | rw [if_pos (by omega)] | rw [if_neg (by omega), if_pos (by omega)] | rw [if_neg (by omega), if_neg (by omega), if_pos (by omega)] | rw [if_neg (by omega), if_neg (by omega), if_neg (by omega), if_pos (by omega)] | rw [if_neg (by omega), if_neg (by omega), if_neg (by omega), if_neg (by omega)], rfl⟩
  · refine g_int (z' := 1) hs1 ?_
    refine g_tsw (tgt := 37) C dX2_speech_1 (by decide) (by decide) rfl (by decide) ?_
    refine g_aload_n C dX2_speech_37 rfl ?_
    refine gf_X2_15 (z := (T : Int)) C dX2_speech_38 hk hT ?_
    refine gc_X2_33 C dX2_speech_41 (c_X9_leastOf hI (Ml M) σ (s := T) rfl hT32) (by decide) (Nat.le_of_ble_eq_true rfl) (fun z σ1 ⟨hz, hσ⟩ => ?_)
    subst z
    subst σ1
    exact g_ireturn C dX2_speech_44 ⟨by first | rw [if_pos (by omega)] | rw [if_neg (by omega), if_pos (by omega)] | rw [if_neg (by omega), if_neg (by omega), if_pos (by omega)] | rw [if_neg (by omega), if_neg (by omega), if_neg (by omega), if_pos (by omega)] | rw [if_neg (by omega), if_neg (by omega), if_neg (by omega), if_neg (by omega)], rfl⟩
  · refine g_int (z' := 2) hs1 ?_
    refine g_tsw (tgt := 45) C dX2_speech_1 (by decide) (by decide) rfl (by decide) ?_
    refine g_aload_n C dX2_speech_45 rfl ?_
    refine gf_X2_24 (z := (σ.1 k 4)) C dX2_speech_46 hk rfl ?_
    exact g_ireturn C dX2_speech_49 ⟨by first | rw [if_pos (by omega)] | rw [if_neg (by omega), if_pos (by omega)] | rw [if_neg (by omega), if_neg (by omega), if_pos (by omega)] | rw [if_neg (by omega), if_neg (by omega), if_neg (by omega), if_pos (by omega)] | rw [if_neg (by omega), if_neg (by omega), if_neg (by omega), if_neg (by omega)], rfl⟩
  · refine g_int (z' := 3) hs1 ?_
    refine g_tsw (tgt := 50) C dX2_speech_1 (by decide) (by decide) rfl (by decide) ?_
    refine g_pc (pc' := 50) rfl ?_
    refine g_aload_n C dX2_speech_50 rfl ?_
    refine gf_X2_27 (z := (σ.1 k 5)) C dX2_speech_51 hk rfl ?_
    exact g_ireturn C dX2_speech_54 ⟨by first | rw [if_pos (by omega)] | rw [if_neg (by omega), if_pos (by omega)] | rw [if_neg (by omega), if_neg (by omega), if_pos (by omega)] | rw [if_neg (by omega), if_neg (by omega), if_neg (by omega), if_pos (by omega)] | rw [if_neg (by omega), if_neg (by omega), if_neg (by omega), if_neg (by omega)], rfl⟩
def shRow (σ : St) (k : Nat) (so n : Int) : St := fillL (sI (sI (sI σ k 0 1) k 1 so) k 2 n) (k + 1) 160 0
def lowb (so : Int) (v : Int64) : Int64 := if so = 0 then v.toInt32.toInt8.toInt32.toInt64 else if so = 1 then v.toInt32.toInt16.toInt32.toInt64 else if so = 2 then v.toInt32.toInt64 else v
set_option maxHeartbeats 4000000 in
set_option maxRecDepth 100000 in
theorem c_X4_becomeRow {κ : Kp} (hI : Ij κ) (l : Launch) (σ : St) {k : Nat} (hk : kd k = 4) (so n : Int) : CtV κ l 1 yX4_becomeRow cX4_becomeRow 3 [.ref (κ.2.1 k), .int (iZ so), .int (iZ n)] σ (fun σ' => σ' = shRow σ k so n) := by
  refine Ct.ofG (own := RX4) hI (by decide +kernel) rfl (Nat.le_of_ble_eq_true rfl) rfl ?_
  intro M C hMl
  refine g_aload_n C dX4_becomeRow_0 rfl ?_
  refine g_iconst (z := 1) C dX4_becomeRow_1 rfl ?_
  refine gp_X4_11 C dX4_becomeRow_2 hk ?_
  refine g_aload_n C dX4_becomeRow_5 rfl ?_
  refine g_iload_n C dX4_becomeRow_6 rfl ?_
  refine gp_X4_15 C dX4_becomeRow_7 hk ?_
  refine g_aload_n C dX4_becomeRow_10 rfl ?_
  refine g_pc (pc' := 11) rfl ?_
  refine g_iload_n C dX4_becomeRow_11 rfl ?_
  refine gp_X4_18 C dX4_becomeRow_12 hk ?_
  refine g_aload_n C dX4_becomeRow_15 rfl ?_
  refine gf_X4_21 C dX4_becomeRow_16 hk ?_
  refine g_lconst0 C dX4_becomeRow_19 ?_
  refine gc_X4_32 C dX4_becomeRow_20 (c_J7_fill_d0a16 hI (Ml M) (sI (sI (sI σ k 0 1) k 1 so) k 2 n) (N := 160) (kd4 hk).1 (kd4 hk).2.1 (by decide)) (by decide) (Nat.le_of_ble_eq_true rfl) (fun σ1 hσ => ?_)
  subst σ1
  exact g_return C dX4_becomeRow_23 rfl
set_option maxHeartbeats 4000000 in
set_option maxRecDepth 100000 in
theorem c_X4_becomeNode {κ : Kp} (hI : Ij κ) (l : Launch) (σ : St) {k k2 : Nat} (hk : kd k = 4) (hk2 : kd k2 = 2) (hne : k2 ≠ k + 2) : CtV κ l 1 yX4_becomeNode cX4_becomeNode 2 [.ref (κ.2.1 k), .ref (κ.2.1 k2)] σ (fun σ' => σ' = nBec (sI σ k 0 2) (k + 2) k2) := by
  refine Ct.ofG (own := RX4) hI (by decide +kernel) rfl (Nat.le_of_ble_eq_true rfl) rfl ?_
  intro M C hMl
  refine g_aload_n C dX4_becomeNode_0 rfl ?_
  refine g_iconst (z := 2) C dX4_becomeNode_1 rfl ?_
  refine gp_X4_11 C dX4_becomeNode_2 hk ?_
  refine g_aload_n C dX4_becomeNode_5 rfl ?_
  refine gf_X4_28 C dX4_becomeNode_6 hk ?_
  refine g_aload_n C dX4_becomeNode_9 rfl ?_
  refine gc_X4_38 C dX4_becomeNode_10 (kd4 hk).2.2 (c_X2_become hI (Ml M) (sI σ k 0 2) (kd4 hk).2.2 hk2 hne) (by decide) (Nat.le_of_ble_eq_true rfl) (fun σ1 hσ => ?_)
  subst σ1
  refine g_pc (pc' := 13) rfl ?_
  exact g_return C dX4_becomeNode_13 rfl
set_option maxHeartbeats 4000000 in
set_option maxRecDepth 100000 in
theorem c_X4_told {κ : Kp} (hI : Ij κ) (l : Launch) (σ : St) {k : Nat} {kn so wy : Int} (hk : kd k = 4) (hkn : σ.1 k 0 = kn) (hkn3 : kn = 0 ∨ kn = 1 ∨ kn = 2) (hso : σ.1 k 1 = so) (hwy : σ.1 (k + 2) 0 = wy) : CtI κ l 0 yX4_told cX4_told 1 .int [.ref (κ.2.1 k)] σ (fun z σ' => z = (if kn = 0 then -1 else if kn = 1 then 100 + so else 200 + wy) ∧ σ' = σ) := by
  refine Ct.ofG (own := RX4) hI (by decide +kernel) rfl (Nat.le_of_ble_eq_true rfl) rfl ?_
  intro M C hMl
  refine g_aload_n C dX4_told_0 rfl ?_
  refine gf_X4_11 (z := kn) C dX4_told_1 hk hkn ?_
  refine g_if_ne (tgt := 9) C dX4_told_4 (by decide) (by unfold R32; omega) (fun h1 => ?_) (fun h1 => ?_)
  · refine g_aload_n C dX4_told_9 rfl ?_
    refine gf_X4_11 (z := kn) C dX4_told_10 hk hkn ?_
    refine g_iconst (z := 1) C dX4_told_13 rfl ?_
    refine g_icmp_ne (tgt := 27) C dX4_told_14 (by decide) (by unfold R32; omega) (fun h2 => ?_) (fun h2 => ?_)
    · refine g_pc (pc' := 27) rfl ?_
      refine g_sipush (z := 200) C dX4_told_27 rfl ?_
      refine g_aload_n C dX4_told_30 rfl ?_
      refine gf_X4_28 C dX4_told_31 hk ?_
      refine gf_X4_42 (z := wy) C dX4_told_34 (kd4 hk).2.2 hwy ?_
      refine g_iadd C dX4_told_37 ?_
      exact g_ireturn C dX4_told_38 ⟨by first | rw [if_pos (by omega)] | rw [if_neg (by omega), if_pos (by omega)] | rw [if_neg (by omega), if_neg (by omega)], rfl⟩
    · refine g_bipush (z := 100) C dX4_told_17 rfl ?_
      refine g_aload_n C dX4_told_19 rfl ?_
      refine g_pc (pc' := 20) rfl ?_
      refine gf_X4_15 (z := so) C dX4_told_20 hk hso ?_
      refine g_iadd C dX4_told_23 ?_
      refine g_goto (tgt := 38) C dX4_told_24 (by decide) ?_
      exact g_ireturn C dX4_told_38 ⟨by first | rw [if_pos (by omega)] | rw [if_neg (by omega), if_pos (by omega)] | rw [if_neg (by omega), if_neg (by omega)], rfl⟩
  · refine g_iconst (z := (-1)) C dX4_told_7 rfl ?_
    exact g_ireturn C dX4_told_8 ⟨by first | rw [if_pos (by omega)] | rw [if_neg (by omega), if_pos (by omega)] | rw [if_neg (by omega), if_neg (by omega)], rfl⟩
set_option maxHeartbeats 4000000 in
set_option maxRecDepth 100000 in
theorem c_X4_keep {κ : Kp} (hI : Ij κ) (l : Launch) (σ : St) {k i : Nat} {zi so : Int} {v : Int64} (hk : kd k = 4) (hso : σ.1 k 1 = so) (hso3 : 0 ≤ so ∧ so ≤ 3) (hi : zi = (i : Int)) (hi160 : i < 160) : CtV κ l 0 yX4_keep cX4_keep 4 [.ref (κ.2.1 k), .int (iZ zi), .long v] σ (fun σ' => σ' = sL σ (k + 1) i (lowb so v)) := by
  refine Ct.ofG (own := RX4) hI (by decide +kernel) rfl (Nat.le_of_ble_eq_true rfl) rfl ?_
  intro M C hMl
  refine g_aload_n C dX4_keep_0 rfl ?_
  refine gf_X4_15 (z := so) C dX4_keep_1 hk hso ?_
  have hs1 : so < 0 ∨ 2 < so ∨ so = 0 ∨ so = 1 ∨ so = 2 := by omega
  rcases hs1 with hs1 | hs1 | hs1 | hs1 | hs1
  · omega
  · refine g_tswd (tgt := 70) C dX4_keep_4 (by unfold R32; omega) (by omega) (by decide) ?_
    refine g_aload_n C dX4_keep_70 rfl ?_
    refine gf_X4_21 C dX4_keep_71 hk ?_
    refine g_iload_n C dX4_keep_74 rfl ?_
    refine g_lload_n C dX4_keep_75 rfl ?_
    refine g_pc (pc' := 76) rfl ?_
    refine g_last (n := i) (N := 160) C dX4_keep_76 (kd4 hk).1 (kd4 hk).2.1 (by omega) (by omega) (by decide) ?_
    exact g_return C dX4_keep_77 (by unfold lowb; first | rw [if_pos (by omega)] | rw [if_neg (by omega), if_pos (by omega)] | rw [if_neg (by omega), if_neg (by omega), if_pos (by omega)] | rw [if_neg (by omega), if_neg (by omega), if_neg (by omega)])
  · refine g_int (z' := 0) hs1 ?_
    refine g_tsw (tgt := 32) C dX4_keep_4 (by decide) (by decide) rfl (by decide) ?_
    refine g_aload_n C dX4_keep_32 rfl ?_
    refine gf_X4_21 C dX4_keep_33 hk ?_
    refine g_iload_n C dX4_keep_36 rfl ?_
    refine g_lload_n C dX4_keep_37 rfl ?_
    refine g_l2i C dX4_keep_38 ?_
    refine g_i2b C dX4_keep_39 ?_
    refine g_pc (pc' := 40) rfl ?_
    refine g_i2l C dX4_keep_40 ?_
    refine g_last (n := i) (N := 160) C dX4_keep_41 (kd4 hk).1 (kd4 hk).2.1 (by omega) (by omega) (by decide) ?_
    refine g_goto (tgt := 77) C dX4_keep_42 (by decide) ?_
    exact g_return C dX4_keep_77 (by unfold lowb; first | rw [if_pos (by omega)] | rw [if_neg (by omega), if_pos (by omega)] | rw [if_neg (by omega), if_neg (by omega), if_pos (by omega)] | rw [if_neg (by omega), if_neg (by omega), if_neg (by omega)])
  · refine g_int (z' := 1) hs1 ?_
    refine g_tsw (tgt := 45) C dX4_keep_4 (by decide) (by decide) rfl (by decide) ?_
    refine g_aload_n C dX4_keep_45 rfl ?_
    refine gf_X4_21 C dX4_keep_46 hk ?_
    refine g_iload_n C dX4_keep_49 rfl ?_
    refine g_lload_n C dX4_keep_50 rfl ?_
    refine g_pc (pc' := 51) rfl ?_
    refine g_l2i C dX4_keep_51 ?_
    refine g_i2s C dX4_keep_52 ?_
    refine g_i2l C dX4_keep_53 ?_
    refine g_last (n := i) (N := 160) C dX4_keep_54 (kd4 hk).1 (kd4 hk).2.1 (by omega) (by omega) (by decide) ?_
    refine g_goto (tgt := 77) C dX4_keep_55 (by decide) ?_
    exact g_return C dX4_keep_77 (by unfold lowb; first | rw [if_pos (by omega)] | rw [if_neg (by omega), if_pos (by omega)] | rw [if_neg (by omega), if_neg (by omega), if_pos (by omega)] | rw [if_neg (by omega), if_neg (by omega), if_neg (by omega)])
  · refine g_int (z' := 2) hs1 ?_
    refine g_tsw (tgt := 58) C dX4_keep_4 (by decide) (by decide) rfl (by decide) ?_
    refine g_aload_n C dX4_keep_58 rfl ?_
    refine gf_X4_21 C dX4_keep_59 hk ?_
    refine g_pc (pc' := 62) rfl ?_
    refine g_iload_n C dX4_keep_62 rfl ?_
    refine g_lload_n C dX4_keep_63 rfl ?_
    refine g_l2i C dX4_keep_64 ?_
    refine g_i2l C dX4_keep_65 ?_
    refine g_last (n := i) (N := 160) C dX4_keep_66 (kd4 hk).1 (kd4 hk).2.1 (by omega) (by omega) (by decide) ?_
    refine g_goto (tgt := 77) C dX4_keep_67 (by decide) ?_
    exact g_return C dX4_keep_77 (by unfold lowb; first | rw [if_pos (by omega)] | rw [if_neg (by omega), if_pos (by omega)] | rw [if_neg (by omega), if_neg (by omega), if_pos (by omega)] | rw [if_neg (by omega), if_neg (by omega), if_neg (by omega)])
set_option maxHeartbeats 4000000 in
set_option maxRecDepth 100000 in
theorem c_X4_intAt {κ : Kp} (hI : Ij κ) (l : Launch) (σ : St) {k i : Nat} {zi : Int} (hk : kd k = 4) (hi : zi = (i : Int)) (hi160 : i < 160) : CtI κ l 0 yX4_intAt cX4_intAt 2 .int [.ref (κ.2.1 k), .int (iZ zi)] σ (fun z σ' => z = (σ.2.2 (k + 1) i).toInt32.toInt ∧ σ' = σ) := by
  refine Ct.ofG (own := RX4) hI (by decide +kernel) rfl (Nat.le_of_ble_eq_true rfl) rfl ?_
  intro M C hMl
  refine g_aload_n C dX4_intAt_0 rfl ?_
  refine gf_X4_21 C dX4_intAt_1 hk ?_
  refine g_iload_n C dX4_intAt_4 rfl ?_
  refine g_laz (n := i) (N := 160) (v := (σ.2.2 (k + 1) i)) C dX4_intAt_5 (kd4 hk).1 (kd4 hk).2.1 (by omega) (by omega) (by decide) rfl ?_
  refine g_l2i C dX4_intAt_6 ?_
  refine g_raw (iZ_of _) ?_
  exact g_ireturn C dX4_intAt_7 ⟨rfl, rfl⟩

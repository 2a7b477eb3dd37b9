set_option maxHeartbeats 4000000 in
set_option maxRecDepth 100000 in
theorem c_X5_valueAt {κ : Kp} (hI : Ij κ) (l : Launch) (σ : St) {k : Nat} (hk : kd k = 5) {i c : Nat} {zi zc : Int} (hi : zi = (i : Int)) (hc : zc = (c : Int)) (hb : i < 16 ∧ c < 3) : CtI κ l 0 yX5_valueAt cX5_valueAt 3 .int [.ref (κ.2.1 k), .int (iZ zi), .int (iZ zc)] σ (fun z σ' => z = σ.1 (k + 1) (i * 3 + c) ∧ σ' = σ) := by
  refine Ct.ofG (own := RX5) hI (by decide +kernel) rfl (Nat.le_of_ble_eq_true rfl) rfl ?_
  intro M C hMl
  refine g_aload_n C dX5_valueAt_0 rfl ?_
  refine gf_X5_9 C dX5_valueAt_1 hk ?_
  refine g_iload_n C dX5_valueAt_4 rfl ?_
  refine g_iconst (z := 3) C dX5_valueAt_5 rfl ?_
  refine g_imul C dX5_valueAt_6 ?_
  refine g_iload_n C dX5_valueAt_7 rfl ?_
  refine g_iadd C dX5_valueAt_8 ?_
  refine g_pc (pc' := 9) rfl ?_
  refine g_iaz (n := ((i * 3) + c)) (N := 48) (v := (σ.1 (k + 1) ((i * 3) + c))) C dX5_valueAt_9 (kd5 hk).1 (kd5 hk).2 (by omega) (by omega) (by decide) rfl ?_
  exact g_ireturn C dX5_valueAt_10 ⟨rfl, rfl⟩
def tAdd (σ : St) (k n : Nat) (a b c : Int) : St := if n < 16 then sI (sI (sI (sI σ (k + 1) (n * 3) a) (k + 1) (n * 3 + 1) b) (k + 1) (n * 3 + 2) c) k 1 ((n : Int) + 1) else σ
set_option maxHeartbeats 4000000 in
set_option maxRecDepth 100000 in
theorem c_X5_add {κ : Kp} (hI : Ij κ) (l : Launch) (σ : St) {k : Nat} (hk : kd k = 5) {n : Nat} (hn : σ.1 k 1 = (n : Int)) (hn16 : n ≤ 16) (a b c : Int) : CtV κ l 0 yX5_add cX5_add 5 [.ref (κ.2.1 k), .int (iZ a), .int (iZ b), .int (iZ c)] σ (fun σ' => σ' = tAdd σ k n a b c) := by
  refine Ct.ofG (own := RX5) hI (by decide +kernel) rfl (Nat.le_of_ble_eq_true rfl) rfl ?_
  intro M C hMl
  refine g_aload_n C dX5_add_0 rfl ?_
  refine gf_X5_15 (z := (n : Int)) C dX5_add_1 hk hn ?_
  refine g_iconst (z := 3) C dX5_add_4 rfl ?_
  refine g_imul C dX5_add_5 ?_
  refine g_istore (L' := [(4, .int (iZ ((n : Int) * 3))), (0, .ref (κ.2.1 k)), (1, .int (iZ a)), (2, .int (iZ b)), (3, .int (iZ c))]) C dX5_add_6 (by decide) rfl ?_
  refine g_aload_n C dX5_add_8 rfl ?_
  refine gf_X5_15 (z := (n : Int)) C dX5_add_9 hk hn ?_
  refine g_pc (pc' := 12) rfl ?_
  refine g_bipush (z := 16) C dX5_add_12 rfl ?_
  refine g_icmp_ge (tgt := 55) C dX5_add_14 (by decide) (by unfold R32; omega) (fun h1 => ?_) (fun h1 => ?_)
  · exact g_return C dX5_add_55 (by unfold tAdd; rw [if_neg (by omega)])
  · refine g_aload_n C dX5_add_17 rfl ?_
    refine gf_X5_9 C dX5_add_18 hk ?_
    refine g_iload C dX5_add_21 rfl ?_
    refine g_iload_n C dX5_add_23 rfl ?_
    refine g_iast (n := (n * 3)) (N := 48) C dX5_add_24 (kd5 hk).1 (kd5 hk).2 (by omega) (by omega) (by decide) ?_
    refine g_pc (pc' := 25) rfl ?_
    refine g_aload_n C dX5_add_25 rfl ?_
    refine gf_X5_9 C dX5_add_26 hk ?_
    refine g_iload C dX5_add_29 rfl ?_
    refine g_iconst (z := 1) C dX5_add_31 rfl ?_
    refine g_iadd C dX5_add_32 ?_
    refine g_iload_n C dX5_add_33 rfl ?_
    refine g_iast (n := ((n * 3) + 1)) (N := 48) C dX5_add_34 (kd5 hk).1 (kd5 hk).2 (by omega) (by omega) (by decide) ?_
    refine g_aload_n C dX5_add_35 rfl ?_
    refine g_pc (pc' := 36) rfl ?_
    refine gf_X5_9 C dX5_add_36 hk ?_
    refine g_iload C dX5_add_39 rfl ?_
    refine g_iconst (z := 2) C dX5_add_41 rfl ?_
    refine g_iadd C dX5_add_42 ?_
    refine g_iload_n C dX5_add_43 rfl ?_
    refine g_iast (n := ((n * 3) + 2)) (N := 48) C dX5_add_44 (kd5 hk).1 (kd5 hk).2 (by omega) (by omega) (by decide) ?_
    refine g_aload_n C dX5_add_45 rfl ?_
    refine g_dup C dX5_add_46 rfl ?_
    refine g_pc (pc' := 47) rfl ?_
    refine gf_X5_15 (z := (n : Int)) C dX5_add_47 hk ((rI_k (by omega)).trans ((rI_k (by omega)).trans ((rI_k (by omega)).trans hn))) ?_
    refine g_iconst (z := 1) C dX5_add_50 rfl ?_
    refine g_iadd C dX5_add_51 ?_
    refine gp_X5_15 C dX5_add_52 hk ?_
    exact g_return C dX5_add_55 (by unfold tAdd; rw [if_pos (by omega)])
def tBec (σ : St) (k k2 : Nat) : St := sI (sI (sI (cI σ (k2 + 1) (k + 1) 0 0 48) k 1 (σ.1 k2 1)) k 2 (σ.1 k2 2)) k 3 (σ.1 k2 3)
theorem rc_k {σ : St} {k k2 a b c k' j : Nat} (h : k' ≠ k2) : (cI σ k k2 a b c).1 k' j = σ.1 k' j := by simp [cI, h]
set_option maxHeartbeats 4000000 in
set_option maxRecDepth 100000 in
theorem c_X5_become {κ : Kp} (hI : Ij κ) (l : Launch) (σ : St) {k k2 : Nat} (hk : kd k = 5) (hk2 : kd k2 = 5) (hne : k2 ≠ k) : CtV κ l 1 yX5_become cX5_become 2 [.ref (κ.2.1 k), .ref (κ.2.1 k2)] σ (fun σ' => σ' = tBec σ k k2) := by
  refine Ct.ofG (own := RX5) hI (by decide +kernel) rfl (Nat.le_of_ble_eq_true rfl) rfl ?_
  intro M C hMl
  have hz : k2 ≠ k + 1 := fun e => by have := (kd5 hk).1; rw [← e] at this; omega
  refine g_aload_n C dX5_become_0 rfl ?_
  refine gf_X5_9 C dX5_become_1 hk2 ?_
  refine g_iconst (z := 0) C dX5_become_4 rfl ?_
  refine g_aload_n C dX5_become_5 rfl ?_
  refine gf_X5_9 C dX5_become_6 hk ?_
  refine g_iconst (z := 0) C dX5_become_9 rfl ?_
  refine g_bipush (z := 48) C dX5_become_10 rfl ?_
  refine g_pc (pc' := 12) rfl ?_
  refine gyi_X5_25 (a := 0) (b := 0) (c := 48) (N := 48) (N2 := 48) C dX5_become_12 (kd5 hk2).1 (kd5 hk2).2 (kd5 hk).1 (kd5 hk).2 (by omega) (by omega) (by omega) (by omega) (by decide) (Nat.le_of_ble_eq_true rfl) ?_
  refine g_aload_n C dX5_become_15 rfl ?_
  refine g_aload_n C dX5_become_16 rfl ?_
  refine gf_X5_15 (z := (σ.1 k2 1)) C dX5_become_17 hk2 (rc_k hz) ?_
  refine gp_X5_15 C dX5_become_20 hk ?_
  refine g_aload_n C dX5_become_23 rfl ?_
  refine g_aload_n C dX5_become_24 rfl ?_
  refine gf_X5_19 (z := (σ.1 k2 2)) C dX5_become_25 hk2 ((rI_k (by omega)).trans (rc_k hz)) ?_
  refine g_pc (pc' := 28) rfl ?_
  refine gp_X5_19 C dX5_become_28 hk ?_
  refine g_aload_n C dX5_become_31 rfl ?_
  refine g_aload_n C dX5_become_32 rfl ?_
  refine gf_X5_22 (z := (σ.1 k2 3)) C dX5_become_33 hk2 ((rI_k (by omega)).trans ((rI_k (by omega)).trans (rc_k hz))) ?_
  refine gp_X5_22 C dX5_become_36 hk ?_
  exact g_return C dX5_become_39 rfl

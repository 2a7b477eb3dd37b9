/-! THE PLANNER: a pair -/
theorem PO.fb {c : Cel} {K S : Nat} (h : PO c K S) (hw : zW c ≠ -1) : fB (zK c) (2 ^ K * fu) := (h.resolve_left hw).2.1
theorem hC_v {w : Wv} (hW : OKW w) {T : Nat → Nat → Cel} {a b ka kb : Nat} (ha : TPO (T a) ka a) (hb : TPO (T b) kb b) (h0a : zW (T a 0) ≠ -1) (h0b : zW (T b 0) ≠ -1) (k1 : 1 ≤ ka ∧ 1 ≤ kb ∧ ka + kb ≤ 5) : (∃ m, fB (FP.fmul FP.fconst2 (tho w b)) m) ∧ (∃ m, fB (FP.fadd (tho w a) (FP.fmul FP.fconst2 (tho w b))) m) ∧ (∃ m, fB (FP.fadd (FP.fadd (tho w a) (FP.fmul FP.fconst2 (tho w b))) (tho w (a + b))) m) ∧ (∃ m, fB (FP.fadd (zK (T a 0)) (zK (T b 0))) m) := by
  have g1 := (ha.get (o := 0) (by omega) h0a (Or.inl rfl))
  have g2 := (hb.get (o := 0) (by omega) h0b (Or.inl rfl))
  have m2 : fB (FP.fmul FP.fconst2 (tho w b)) (2 ^ 21 * fu) := fB_mul2 (i := 1) (j := 20) (by rw [Nat.pow_one]; exact fB_2) (tho_B hW b) (by decide)
  have m3 := fB_add2 (i := 21) (fB_up (tho_B hW a) (by decide)) m2 (by decide)
  exact ⟨⟨_, m2⟩, ⟨_, m3⟩, ⟨_, fB_add2 m3 (fB_up (tho_B hW (a + b)) (by decide)) (by decide)⟩, ⟨_, fB_add2 (i := 25 * (ka + kb - 1)) (fB_up (g1.2.2.2 rfl).1 (by omega)) (fB_up (g2.2.2.2 rfl).1 (by omega)) (by omega)⟩⟩
theorem lC_v {w : Wv} (hW : OKW w) {T : Nat → Nat → Cel} {a b ka kb : Nat} (ha : TPO (T a) ka a) (hb : TPO (T b) kb b) (h0a : zW (T a 0) ≠ -1) (h0b : zW (T b 0) ≠ -1) (k1 : 1 ≤ ka ∧ 1 ≤ kb ∧ ka + kb ≤ 5) : ∃ m, fB (FP.fmul (tho w a) (zK (T b 0))) m := ⟨_, fB_mul2 (tho_B hW a) ((hb.get (o := 0) (by omega) h0b (Or.inl rfl)).2.2.2 rfl).1 (by omega)⟩
theorem mC_v {w : Wv} (hW : OKW w) {T : Nat → Nat → Cel} {a b ka kb : Nat} {j : Int} (ha : TPO (T a) ka a) (hb : TPO (T b) kb b) (h0a : zW (T a 0) ≠ -1) (h0b : zW (T b 0) ≠ -1) (k1 : 1 ≤ ka ∧ 1 ≤ kb ∧ ka + kb ≤ 5) (ho : mO w a j < 16 ∧ mO w b j < 16) (hi : inO a (mO w a j) ∧ inO b (mO w b j)) : (∃ m, fB (FP.fadd (zK (T a (mO w a j))) (zK (T b (mO w b j)))) m) ∧ (∃ m, fB (FP.fadd (tho w a) (tho w b)) m) ∧ (∃ m, fB (FP.fadd (FP.fadd (tho w a) (tho w b)) (tho w (a + b))) m) := by
  have g1 := (ha.get ho.1 h0a hi.1)
  have g2 := (hb.get ho.2 h0b hi.2)
  have m3 := fB_add2 (i := 20) (tho_B hW a) (tho_B hW b) (by decide)
  exact ⟨⟨_, fB_add2 (i := 25 * (ka + kb - 1) + 1) (fB_up g1.2.1 (by omega)) (fB_up g2.2.1 (by omega)) (by omega)⟩, ⟨_, m3⟩, ⟨_, fB_add2 m3 (fB_up (tho_B hW (a + b)) (by decide)) (by decide)⟩⟩
theorem s1R_u {w : Wv} {T : Nat → Nat → Cel} {a b : Nat} {j : Int} {R : Nat → Cel} (o : Nat) : upR R 0 (addP (R 0) (hC w T a b j)) o = s1R w T a b j R o := by
  unfold upR s1R; split
  · rename_i e; subst e; rfl
  · rfl
theorem s2R_0 {w : Wv} {T : Nat → Nat → Cel} {a b : Nat} {j : Int} {R : Nat → Cel} (o : Nat) : s2R w T a b j R 0 o = R o := if_neg (fun e => by omega)
theorem s2R_m {w : Wv} {T : Nat → Nat → Cel} {a b m : Nat} {j : Int} {R : Nat → Cel} : s2R w T a b j R m m = R m := if_neg (fun e => by omega)
theorem s2R_s {w : Wv} {T : Nat → Nat → Cel} {a b m : Nat} {j : Int} {R : Nat → Cel} (h : ¬ inO a m) (o : Nat) : s2R w T a b j R m o = s2R w T a b j R (m + 1) o := by
  unfold s2R
  by_cases h1 : o < m ∧ inO a o
  · rw [if_pos h1, if_pos ⟨by omega, h1.2⟩]
  · rw [if_neg h1, if_neg (fun q => by
      rcases Nat.lt_or_ge o m with k | k
      · exact h1 ⟨k, q.2⟩
      · rw [show o = m by omega] at q; exact h q.2)]
theorem s2R_u {w : Wv} {T : Nat → Nat → Cel} {a b m : Nat} {j : Int} {R : Nat → Cel} (h : inO a m) (o : Nat) : upR (s2R w T a b j R m) m (addP (s2R w T a b j R m m) (lC w T a b j m)) o = s2R w T a b j R (m + 1) o := by
  unfold upR
  by_cases e : o = m
  · subst e
    rw [if_pos rfl, s2R_m]
    unfold s2R
    rw [if_pos ⟨by omega, h⟩]
  · rw [if_neg e]
    unfold s2R
    by_cases h1 : o < m ∧ inO a o
    · rw [if_pos h1, if_pos ⟨by omega, h1.2⟩]
    · rw [if_neg h1, if_neg (fun q => h1 ⟨by omega, q.2⟩)]
theorem s3R_u {w : Wv} {T : Nat → Nat → Cel} {a b : Nat} {j : Int} {R : Nat → Cel} (o : Nat) : upR (upR R 0 (addP (R 0) (mC w T a b j))) (mO w a j) (addP (upR R 0 (addP (R 0) (mC w T a b j)) (mO w a j)) (mC w T a b j)) o = s3R w T a b j R o := by
  have h0 : ¬ (mO w a j = 0) := by unfold mO; omega
  unfold upR s3R
  rw [if_neg h0]
  by_cases e : o = mO w a j
  · subst e; rw [if_pos rfl, if_pos (Or.inr rfl)]
  · rw [if_neg e]
    by_cases e2 : o = 0
    · subst e2; rw [if_pos rfl, if_pos (Or.inl rfl)]
    · rw [if_neg e2, if_neg (fun q => q.elim e2 e)]
set_option maxHeartbeats 4000000 in
set_option maxRecDepth 100000 in
theorem c_X3_offerPair {κ : Kp} (hI : Ij κ) (l : Launch) (σ : St) {w : Wv} (hX : XW 0 σ w) (hW : OKW w) {a b j : Nat} {za zb zj : Int} (hza : za = (a : Int)) (hzb : zb = (b : Int)) (hzj : zj = (j : Int)) (ha1 : 1 ≤ a) (hb1 : 1 ≤ b) (hab31 : a + b ≤ 31) (hk : kT a + kT b = kT (a + b)) (k1 : 1 ≤ kT a ∧ 1 ≤ kT b ∧ kT a + kT b ≤ 5) (hjn : j < wnj w) (hj7 : 0 ≤ (j : Int) ∧ (j : Int) ≤ 7) (hmo : mO w a j < 16 ∧ mO w b j < 16) (hio : inO a (mO w a j) ∧ inO b (mO w b j)) (hor : iZ za ||| iZ zb = iZ ((a + b : Nat) : Int)) {R : Nat → Cel} (hR : PRw σ (a + b) R) (hRO : RPO R (kT a + kT b)) (hA : PRw σ a (TT w a)) (hB : PRw σ b (TT w b)) (hta : σ.2.1 90 a = tho w a) (htb : σ.2.1 90 b = tho w b) (hts : σ.2.1 90 (a + b) = tho w (a + b)) : CtV κ l 2 yX3_offerPair cX3_offerPair 12 [.ref (κ.2.1 89), .int (iZ za), .int (iZ zb), .int (iZ zj)] σ (fun σ' => PRw σ' (a + b) (if zW (TT w a 0) ≠ -1 ∧ zW (TT w b 0) ≠ -1 then stP w (TT w) a b j R else R) ∧ KK (inS (a + b)) σ σ') := by
  refine Ct.ofG (own := RX3) hI (by decide +kernel) rfl (Nat.le_of_ble_eq_true rfl) rfl ?_
  intro M C hMl
  have hTa := TT_PO hW a a (Nat.le_refl _) ha1 (by omega)
  have hTb := TT_PO hW b b (Nat.le_refl _) hb1 (by omega)
  have hab : a < 32 ∧ b < 32 := ⟨by omega, by omega⟩
  have hma : mO w a j = wpl w a j + 1 := rfl
  have hmb : mO w b j = wpl w b j + 1 := rfl
  have hcA : R32 (zW (TT w a 0)) := by rcases hTa.1 0 (by omega) with h | h <;> (unfold R32; omega)
  have hcB : R32 (zW (TT w b 0)) := by rcases hTb.1 0 (by omega) with h | h <;> (unfold R32; omega)
  refine g_iload_n C dX3_offerPair_0 rfl ?_
  refine g_iconst (z := (-1)) C dX3_offerPair_1 rfl ?_
  refine gc_X3_55 C dX3_offerPair_2 (c_X9_cellOf hI (Ml M) σ (a := za) (b := (-1))) (by decide) (Nat.le_of_ble_eq_true rfl) (fun zc1 σ9 ⟨hzc1, hσ⟩ => ?_)
  subst σ9
  replace hzc1 : zc1 = ((16 * a + 0 : Nat) : Int) := by omega
  refine g_istore (L' := [(4, .int (iZ zc1)), (0, .ref (κ.2.1 89)), (1, .int (iZ za)), (2, .int (iZ zb)), (3, .int (iZ zj))]) C dX3_offerPair_5 (by decide) rfl ?_
  refine g_iload_n C dX3_offerPair_7 rfl ?_
  refine g_iconst (z := (-1)) C dX3_offerPair_8 rfl ?_
  refine gc_X3_55 C dX3_offerPair_9 (c_X9_cellOf hI (Ml M) σ (a := zb) (b := (-1))) (by decide) (Nat.le_of_ble_eq_true rfl) (fun zc2 σ9 ⟨hzc2, hσ⟩ => ?_)
  subst σ9
  replace hzc2 : zc2 = ((16 * b + 0 : Nat) : Int) := by omega
  refine g_pc (pc' := 12) rfl ?_
  refine g_istore (L' := [(5, .int (iZ zc2)), (4, .int (iZ zc1)), (0, .ref (κ.2.1 89)), (1, .int (iZ za)), (2, .int (iZ zb)), (3, .int (iZ zj))]) C dX3_offerPair_12 (by decide) rfl ?_
  refine g_aload_n C dX3_offerPair_14 rfl ?_
  refine gf_X3_15 C dX3_offerPair_15 rfl ?_
  refine g_iload C dX3_offerPair_18 rfl ?_
  refine g_iaz (n := (16 * a + 0)) (N := 512) (v := (zW (TT w a (0)))) C dX3_offerPair_20 rfl rfl (by omega) (by omega) (by decide) ((hA (0) (by omega)).1) ?_
  refine g_iconst (z := (-1)) C dX3_offerPair_21 rfl ?_
  refine g_icmp_eq (tgt := 36) C dX3_offerPair_22 (by decide) ⟨hcA, by unfold R32; omega⟩ (fun h1 => ?_) (fun h1 => ?_)
  · exact g_return C dX3_offerPair_36 ⟨by rw [if_neg (fun e => by omega)]; exact hR, KK.rf⟩
  · refine g_pc (pc' := 25) rfl ?_
    refine g_aload_n C dX3_offerPair_25 rfl ?_
    refine gf_X3_15 C dX3_offerPair_26 rfl ?_
    refine g_iload C dX3_offerPair_29 rfl ?_
    refine g_iaz (n := (16 * b + 0)) (N := 512) (v := (zW (TT w b (0)))) C dX3_offerPair_31 rfl rfl (by omega) (by omega) (by decide) ((hB (0) (by omega)).1) ?_
    refine g_iconst (z := (-1)) C dX3_offerPair_32 rfl ?_
    refine g_icmp_ne (tgt := 37) C dX3_offerPair_33 (by decide) ⟨hcB, by unfold R32; omega⟩ (fun h2 => ?_) (fun h2 => ?_)
    · have h0a : zW (TT w a 0) ≠ -1 := by assumption
      have h0b : zW (TT w b 0) ≠ -1 := by assumption
      obtain ⟨⟨_, hv59⟩, ⟨_, hv60⟩, ⟨_, hv69⟩, ⟨_, hv90⟩⟩ := hC_v hW hTa hTb h0a h0b k1
      obtain ⟨_, hv155⟩ := lC_v hW hTa hTb h0a h0b k1
      obtain ⟨⟨_, hv233⟩, ⟨_, hv246⟩, ⟨_, hv255⟩⟩ := mC_v (j := (j : Int)) hW hTa hTb h0a h0b k1 hmo hio
      have hv93 := PO.fb (hC_PO (j := (j : Int)) hW hTa hTb h0a h0b k1 hj7 hab) (show (1 : Int) ≠ -1 by decide)
      have hv256 := PO.fb (mC_PO (j := (j : Int)) hW hTa hTb h0a h0b k1 hj7 hab hmo hio) (show (3 : Int) ≠ -1 by decide)
      have hSO := stP_PO (j := (j : Int)) hW hTa hTb h0a h0b k1 hj7 hab hmo hio hRO
      have hwa := hTa.2 h0a _ hmo.1 hio.1
      have hwb := hTb.2 h0b _ hmo.2 hio.2
      refine g_iload_n C dX3_offerPair_37 rfl ?_
      refine g_iload_n C dX3_offerPair_38 rfl ?_
      refine g_pc (pc' := 39) rfl ?_
      refine g_ior C dX3_offerPair_39 ?_
      refine g_raw hor ?_
      refine g_iconst (z := (-1)) C dX3_offerPair_40 rfl ?_
      refine gc_X3_55 C dX3_offerPair_41 (c_X9_cellOf hI (Ml M) σ (a := ((a + b : Nat) : Int)) (b := (-1))) (by decide) (Nat.le_of_ble_eq_true rfl) (fun zc3 σ9 ⟨hzc3, hσ⟩ => ?_)
      subst σ9
      replace hzc3 : zc3 = ((16 * (a + b) + 0 : Nat) : Int) := by omega
      refine g_istore (L' := [(6, .int (iZ zc3)), (5, .int (iZ zc2)), (4, .int (iZ zc1)), (0, .ref (κ.2.1 89)), (1, .int (iZ za)), (2, .int (iZ zb)), (3, .int (iZ zj))]) C dX3_offerPair_44 (by decide) rfl ?_
      refine g_aload_n C dX3_offerPair_46 rfl ?_
      refine gf_X3_9 C dX3_offerPair_47 rfl ?_
      refine g_iload_n C dX3_offerPair_50 rfl ?_
      refine g_faz (n := a) (N := 32) (v := (tho w a)) C dX3_offerPair_51 rfl rfl (by omega) (by omega) (by decide) hta ?_
      refine g_pc (pc' := 52) rfl ?_
      refine g_fconst2 C dX3_offerPair_52 ?_
      refine g_aload_n C dX3_offerPair_53 rfl ?_
      refine gf_X3_9 C dX3_offerPair_54 rfl ?_
      refine g_iload_n C dX3_offerPair_57 rfl ?_
      refine g_faz (n := b) (N := 32) (v := (tho w b)) C dX3_offerPair_58 rfl rfl (by omega) (by omega) (by decide) htb ?_
      refine g_fmul C dX3_offerPair_59 hv59.vf ?_
      refine g_fadd C dX3_offerPair_60 hv60.vf ?_
      refine g_aload_n C dX3_offerPair_61 rfl ?_
      refine g_pc (pc' := 62) rfl ?_
      refine gf_X3_9 C dX3_offerPair_62 rfl ?_
      refine g_iload_n C dX3_offerPair_65 rfl ?_
      refine g_iload_n C dX3_offerPair_66 rfl ?_
      refine g_ior C dX3_offerPair_67 ?_
      refine g_raw hor ?_
      refine g_faz (n := (a + b)) (N := 32) (v := (tho w (a + b))) C dX3_offerPair_68 rfl rfl (by omega) (by omega) (by decide) hts ?_
      refine g_fadd C dX3_offerPair_69 hv69.vf ?_
      refine g_fstore (L' := [(7, .float (FP.fadd (FP.fadd (tho w a) (FP.fmul FP.fconst2 (tho w b))) (tho w (a + b)))), (6, .int (iZ zc3)), (5, .int (iZ zc2)), (4, .int (iZ zc1)), (0, .ref (κ.2.1 89)), (1, .int (iZ za)), (2, .int (iZ zb)), (3, .int (iZ zj))]) C dX3_offerPair_70 (by decide) rfl ?_
      refine g_aload_n C dX3_offerPair_72 rfl ?_
      refine g_pc (pc' := 73) rfl ?_
      refine g_iload C dX3_offerPair_73 rfl ?_
      refine g_iconst (z := 1) C dX3_offerPair_75 rfl ?_
      refine g_aload_n C dX3_offerPair_76 rfl ?_
      refine gf_X3_19 C dX3_offerPair_77 rfl ?_
      refine g_iload C dX3_offerPair_80 rfl ?_
      refine g_faz (n := (16 * a + 0)) (N := 512) (v := (zK (TT w a (0)))) C dX3_offerPair_82 rfl rfl (by omega) (by omega) (by decide) (((hA (0) (by omega)).2 h0a).1) ?_
      refine g_aload_n C dX3_offerPair_83 rfl ?_
      refine gf_X3_19 C dX3_offerPair_84 rfl ?_
      refine g_pc (pc' := 87) rfl ?_
      refine g_iload C dX3_offerPair_87 rfl ?_
      refine g_faz (n := (16 * b + 0)) (N := 512) (v := (zK (TT w b (0)))) C dX3_offerPair_89 rfl rfl (by omega) (by omega) (by decide) (((hB (0) (by omega)).2 h0b).1) ?_
      refine g_fadd C dX3_offerPair_90 hv90.vf ?_
      refine g_fload C dX3_offerPair_91 rfl ?_
      refine g_fadd C dX3_offerPair_93 hv93.vf ?_
      refine g_iload C dX3_offerPair_94 rfl ?_
      refine g_iload C dX3_offerPair_96 rfl ?_
      refine g_iload_n C dX3_offerPair_98 rfl ?_
      refine g_pc (pc' := 99) rfl ?_
      refine gc_X3_84 C dX3_offerPair_99 rfl (c_X3_offer hI (Ml M) σ (k := 16 * (a + b) + 0) hzc3 (by omega) (hR 0 (by omega)) (hRO 0 (by omega)) (PO.fb (hC_PO hW hTa hTb h0a h0b k1 hj7 hab) (show (1 : Int) ≠ -1 by decide)) (szR_cell (hA 0 (by omega)) h0a (by omega) hzc1) (szR_cell (hB 0 (by omega)) h0b (by omega) hzc2) (j := zj)) (by decide) (Nat.le_of_ble_eq_true rfl) (fun σ1 ⟨hP1, hK1⟩ => ?_)
      rw [hzc1, hzc2, hzj] at hP1
      have hR1 : PRw σ1 (a + b) (s1R w (TT w) a b j R) := (hR.set hP1 hK1).cong (fun o _ => s1R_u o)
      refine g_iconst (z := (-1)) C dX3_offerPair_102 rfl ?_
      refine g_istore (L' := [(8, .int (iZ (-1))), (7, .float (FP.fadd (FP.fadd (tho w a) (FP.fmul FP.fconst2 (tho w b))) (tho w (a + b)))), (6, .int (iZ zc3)), (5, .int (iZ zc2)), (4, .int (iZ zc1)), (0, .ref (κ.2.1 89)), (1, .int (iZ za)), (2, .int (iZ zb)), (3, .int (iZ zj))]) C dX3_offerPair_103 (by decide) rfl ?_
      have lp105 : ∀ (fz9 : Nat) (m : Nat) (x8 : Int) (q : St), (16 - m < fz9) → (x8 = (m : Int) - 1) → (m ≤ 16) → (PRw q (a + b) (s2R w (TT w) a b j (s1R w (TT w) a b j R) m)) → (KK (inS (a + b)) σ q) → G M κ 12 (En M κ (qV κ (fun σ' => PRw σ' (a + b) (if zW (TT w a 0) ≠ -1 ∧ zW (TT w b 0) ≠ -1 then stP w (TT w) a b j R else R) ∧ KK (inS (a + b)) σ σ'))) 105 [(0, .ref (κ.2.1 89)), (1, .int (iZ za)), (2, .int (iZ zb)), (3, .int (iZ zj)), (4, .int (iZ zc1)), (5, .int (iZ zc2)), (6, .int (iZ zc3)), (7, .float (FP.fadd (FP.fadd (tho w a) (FP.fmul FP.fconst2 (tho w b))) (tho w (a + b)))), (8, .int (iZ x8))] [] q := by
        intro fz9
        induction fz9 with
        | zero => intro m x8 q hm0; exact absurd hm0 (Nat.not_lt_zero _)
        | succ fz9 ih105 =>
          intro m x8 q hm105 hx8 hm hQ hKq
          have hAq : PRw q a (TT w a) := hA.kk hKq (fun o ho e => by unfold inS at e; omega)
          have hBq : PRw q b (TT w b) := hB.kk hKq (fun o ho e => by unfold inS at e; omega)
          have ht90 : ∀ u, q.2.1 90 u = σ.2.1 90 u := fun u => congrFun (hKq.1.2.1 90 (by unfold PLC; omega)) u
          have hXq := hX.frK hKq
          refine g_iload C dX3_offerPair_105 rfl ?_
          refine g_bipush (z := 15) C dX3_offerPair_107 rfl ?_
          refine g_icmp_ge (tgt := 185) C dX3_offerPair_109 (by decide) (by unfold R32; omega) (fun h3 => ?_) (fun h3 => ?_)
          · refine g_aload_n C dX3_offerPair_185 rfl ?_
            refine gf_X3_37 C dX3_offerPair_186 rfl ?_
            refine g_pc (pc' := 189) rfl ?_
            refine g_iload_n C dX3_offerPair_189 rfl ?_
            refine g_iload_n C dX3_offerPair_190 rfl ?_
            refine gc_X3_111 C dX3_offerPair_191 rfl (c_X8_placeIn hI (Ml M) q hXq hW (s := a) (j := j) hza hzj (by omega) hjn) (by decide) (Nat.le_of_ble_eq_true rfl) (fun z σ9 ⟨hz, hσ⟩ => ?_)
            subst z
            subst σ9
            refine g_istore (L' := [(8, .int (iZ (wpl w a j : Int))), (0, .ref (κ.2.1 89)), (1, .int (iZ za)), (2, .int (iZ zb)), (3, .int (iZ zj)), (4, .int (iZ zc1)), (5, .int (iZ zc2)), (6, .int (iZ zc3)), (7, .float (FP.fadd (FP.fadd (tho w a) (FP.fmul FP.fconst2 (tho w b))) (tho w (a + b))))]) C dX3_offerPair_194 (by decide) rfl ?_
            refine g_iload_n C dX3_offerPair_196 rfl ?_
            refine g_iload C dX3_offerPair_197 rfl ?_
            refine gc_X3_55 C dX3_offerPair_199 (c_X9_cellOf hI (Ml M) q (a := za) (b := (wpl w a j : Int))) (by decide) (Nat.le_of_ble_eq_true rfl) (fun zc6 σ9 ⟨hzc6, hσ⟩ => ?_)
            subst σ9
            replace hzc6 : zc6 = ((16 * a + mO w a j : Nat) : Int) := by omega
            refine g_istore (L' := [(9, .int (iZ zc6)), (8, .int (iZ (wpl w a j : Int))), (0, .ref (κ.2.1 89)), (1, .int (iZ za)), (2, .int (iZ zb)), (3, .int (iZ zj)), (4, .int (iZ zc1)), (5, .int (iZ zc2)), (6, .int (iZ zc3)), (7, .float (FP.fadd (FP.fadd (tho w a) (FP.fmul FP.fconst2 (tho w b))) (tho w (a + b))))]) C dX3_offerPair_202 (by decide) rfl ?_
            refine g_pc (pc' := 204) rfl ?_
            refine g_iload_n C dX3_offerPair_204 rfl ?_
            refine g_aload_n C dX3_offerPair_205 rfl ?_
            refine gf_X3_37 C dX3_offerPair_206 rfl ?_
            refine g_iload_n C dX3_offerPair_209 rfl ?_
            refine g_iload_n C dX3_offerPair_210 rfl ?_
            refine gc_X3_111 C dX3_offerPair_211 rfl (c_X8_placeIn hI (Ml M) q hXq hW (s := b) (j := j) hzb hzj (by omega) hjn) (by decide) (Nat.le_of_ble_eq_true rfl) (fun z σ9 ⟨hz, hσ⟩ => ?_)
            subst z
            subst σ9
            refine gc_X3_55 C dX3_offerPair_214 (c_X9_cellOf hI (Ml M) q (a := zb) (b := (wpl w b j : Int))) (by decide) (Nat.le_of_ble_eq_true rfl) (fun zc7 σ9 ⟨hzc7, hσ⟩ => ?_)
            subst σ9
            replace hzc7 : zc7 = ((16 * b + mO w b j : Nat) : Int) := by omega
            refine g_istore (L' := [(10, .int (iZ zc7)), (9, .int (iZ zc6)), (8, .int (iZ (wpl w a j : Int))), (0, .ref (κ.2.1 89)), (1, .int (iZ za)), (2, .int (iZ zb)), (3, .int (iZ zj)), (4, .int (iZ zc1)), (5, .int (iZ zc2)), (6, .int (iZ zc3)), (7, .float (FP.fadd (FP.fadd (tho w a) (FP.fmul FP.fconst2 (tho w b))) (tho w (a + b))))]) C dX3_offerPair_217 (by decide) rfl ?_
            refine g_pc (pc' := 219) rfl ?_
            refine g_aload_n C dX3_offerPair_219 rfl ?_
            refine gf_X3_19 C dX3_offerPair_220 rfl ?_
            refine g_iload C dX3_offerPair_223 rfl ?_
            refine g_faz (n := (16 * a + mO w a j)) (N := 512) (v := (zK (TT w a (mO w a j)))) C dX3_offerPair_225 rfl rfl (by omega) (by omega) (by decide) (((hAq (mO w a j) (by omega)).2 hwa).1) ?_
            refine g_aload_n C dX3_offerPair_226 rfl ?_
            refine gf_X3_19 C dX3_offerPair_227 rfl ?_
            refine g_iload C dX3_offerPair_230 rfl ?_
            refine g_faz (n := (16 * b + mO w b j)) (N := 512) (v := (zK (TT w b (mO w b j)))) C dX3_offerPair_232 rfl rfl (by omega) (by omega) (by decide) (((hBq (mO w b j) (by omega)).2 hwb).1) ?_
            refine g_pc (pc' := 233) rfl ?_
            refine g_fadd C dX3_offerPair_233 hv233.vf ?_
            refine g_aload_n C dX3_offerPair_234 rfl ?_
            refine gf_X3_9 C dX3_offerPair_235 rfl ?_
            refine g_iload_n C dX3_offerPair_238 rfl ?_
            refine g_faz (n := a) (N := 32) (v := (tho w a)) C dX3_offerPair_239 rfl rfl (by omega) (by omega) (by decide) ((ht90 _).trans hta) ?_
            refine g_aload_n C dX3_offerPair_240 rfl ?_
            refine gf_X3_9 C dX3_offerPair_241 rfl ?_
            refine g_iload_n C dX3_offerPair_244 rfl ?_
            refine g_pc (pc' := 245) rfl ?_
            refine g_faz (n := b) (N := 32) (v := (tho w b)) C dX3_offerPair_245 rfl rfl (by omega) (by omega) (by decide) ((ht90 _).trans htb) ?_
            refine g_fadd C dX3_offerPair_246 hv246.vf ?_
            refine g_aload_n C dX3_offerPair_247 rfl ?_
            refine gf_X3_9 C dX3_offerPair_248 rfl ?_
            refine g_iload_n C dX3_offerPair_251 rfl ?_
            refine g_iload_n C dX3_offerPair_252 rfl ?_
            refine g_ior C dX3_offerPair_253 ?_
            refine g_raw hor ?_
            refine g_faz (n := (a + b)) (N := 32) (v := (tho w (a + b))) C dX3_offerPair_254 rfl rfl (by omega) (by omega) (by decide) ((ht90 _).trans hts) ?_
            refine g_pc (pc' := 255) rfl ?_
            refine g_fadd C dX3_offerPair_255 hv255.vf ?_
            refine g_fadd C dX3_offerPair_256 hv256.vf ?_
            refine g_fstore (L' := [(11, .float (FP.fadd (FP.fadd (zK (TT w a (mO w a j))) (zK (TT w b (mO w b j)))) (FP.fadd (FP.fadd (tho w a) (tho w b)) (tho w (a + b))))), (10, .int (iZ zc7)), (9, .int (iZ zc6)), (8, .int (iZ (wpl w a j : Int))), (0, .ref (κ.2.1 89)), (1, .int (iZ za)), (2, .int (iZ zb)), (3, .int (iZ zj)), (4, .int (iZ zc1)), (5, .int (iZ zc2)), (6, .int (iZ zc3)), (7, .float (FP.fadd (FP.fadd (tho w a) (FP.fmul FP.fconst2 (tho w b))) (tho w (a + b))))]) C dX3_offerPair_257 (by decide) rfl ?_
            refine g_aload_n C dX3_offerPair_259 rfl ?_
            refine g_iload C dX3_offerPair_260 rfl ?_
            refine g_iconst (z := 3) C dX3_offerPair_262 rfl ?_
            refine g_fload C dX3_offerPair_263 rfl ?_
            refine g_iload C dX3_offerPair_265 rfl ?_
            refine g_pc (pc' := 267) rfl ?_
            refine g_iload C dX3_offerPair_267 rfl ?_
            refine g_iload_n C dX3_offerPair_269 rfl ?_
            refine gc_X3_84 C dX3_offerPair_270 rfl (c_X3_offer hI (Ml M) q (k := 16 * (a + b) + 0) hzc3 (by omega) (hQ 0 (by omega)) (hSO.2.1 m 0 (by omega)) (PO.fb (mC_PO hW hTa hTb h0a h0b k1 hj7 hab hmo hio) (show (3 : Int) ≠ -1 by decide)) (szR_cell (hAq (mO w a j) (by omega)) hwa (by omega) hzc6) (szR_cell (hBq (mO w b j) (by omega)) hwb (by omega) hzc7) (j := zj)) (by decide) (Nat.le_of_ble_eq_true rfl) (fun q2 ⟨hP2, hK2⟩ => ?_)
            rw [hzc6, hzc7, hzj] at hP2
            have hQ2 := hQ.set hP2 hK2
            have hAq2 : PRw q2 a (TT w a) := hAq.kk hK2 (fun o ho e => by omega)
            have hBq2 : PRw q2 b (TT w b) := hBq.kk hK2 (fun o ho e => by omega)
            refine g_aload_n C dX3_offerPair_273 rfl ?_
            refine g_iload_n C dX3_offerPair_274 rfl ?_
            refine g_iload_n C dX3_offerPair_275 rfl ?_
            refine g_ior C dX3_offerPair_276 ?_
            refine g_raw hor ?_
            refine g_iload C dX3_offerPair_277 rfl ?_
            refine g_pc (pc' := 279) rfl ?_
            refine gc_X3_55 C dX3_offerPair_279 (c_X9_cellOf hI (Ml M) q2 (a := ((a + b : Nat) : Int)) (b := (wpl w a j : Int))) (by decide) (Nat.le_of_ble_eq_true rfl) (fun zc8 σ9 ⟨hzc8, hσ⟩ => ?_)
            subst σ9
            replace hzc8 : zc8 = ((16 * (a + b) + mO w a j : Nat) : Int) := by omega
            refine g_iconst (z := 3) C dX3_offerPair_282 rfl ?_
            refine g_fload C dX3_offerPair_283 rfl ?_
            refine g_iload C dX3_offerPair_285 rfl ?_
            refine g_iload C dX3_offerPair_287 rfl ?_
            refine g_iload_n C dX3_offerPair_289 rfl ?_
            refine gc_X3_84 C dX3_offerPair_290 rfl (c_X3_offer hI (Ml M) q2 (k := 16 * (a + b) + mO w a j) hzc8 (by omega) (hQ2 (mO w a j) (by omega)) (by unfold upR; rw [if_neg (show ¬ (mO w a j = 0) by omega)]; exact hSO.2.1 m (mO w a j) (by omega)) (PO.fb (mC_PO hW hTa hTb h0a h0b k1 hj7 hab hmo hio) (show (3 : Int) ≠ -1 by decide)) (szR_cell (hAq2 (mO w a j) (by omega)) hwa (by omega) hzc6) (szR_cell (hBq2 (mO w b j) (by omega)) hwb (by omega) hzc7) (j := zj)) (by decide) (Nat.le_of_ble_eq_true rfl) (fun q3 ⟨hP3, hK3⟩ => ?_)
            rw [hzc6, hzc7, hzj] at hP3
            have hQ3 := hQ2.set hP3 hK3
            exact g_return C dX3_offerPair_293 ⟨by rw [if_pos ⟨h0a, h0b⟩]; exact hQ3.cong (fun o _ => (s3R_u (w := w) (T := TT w) (a := a) (b := b) (j := (j : Int)) (R := (s2R w (TT w) a b j (s1R w (TT w) a b j R) m)) o).trans (by rw [show m = 16 by omega]; rfl)), (hKq.tr (hK2.row (by omega))).tr (hK3.row (by omega))⟩
          · refine g_pc (pc' := 112) rfl ?_
            refine g_iload C dX3_offerPair_112 rfl ?_
            refine g_iconst (z := (-1)) C dX3_offerPair_114 rfl ?_
            refine g_icmp_eq (tgt := 127) C dX3_offerPair_115 (by decide) (by unfold R32; omega) (fun h4 => ?_) (fun h4 => ?_)
            · have hin : inO a m := by first | exact Or.inl (by omega) | exact Or.inr (by assumption)
              have hwm := hTa.2 h0a m (by omega) hin
              have hv156 := PO.fb (lC_PO (j := (j : Int)) hW hTa hTb h0a h0b k1 hj7 hab (show m < 16 by omega) hin) (show (2 : Int) ≠ -1 by decide)
              refine g_iload_n C dX3_offerPair_127 rfl ?_
              refine g_iload C dX3_offerPair_128 rfl ?_
              refine gc_X3_55 C dX3_offerPair_130 (c_X9_cellOf hI (Ml M) q (a := za) (b := x8)) (by decide) (Nat.le_of_ble_eq_true rfl) (fun zc4 σ9 ⟨hzc4, hσ⟩ => ?_)
              subst σ9
              replace hzc4 : zc4 = ((16 * a + m : Nat) : Int) := by omega
              refine g_istore (L' := [(9, .int (iZ zc4)), (0, .ref (κ.2.1 89)), (1, .int (iZ za)), (2, .int (iZ zb)), (3, .int (iZ zj)), (4, .int (iZ zc1)), (5, .int (iZ zc2)), (6, .int (iZ zc3)), (7, .float (FP.fadd (FP.fadd (tho w a) (FP.fmul FP.fconst2 (tho w b))) (tho w (a + b)))), (8, .int (iZ x8))]) C dX3_offerPair_133 (by decide) rfl ?_
              refine g_aload_n C dX3_offerPair_135 rfl ?_
              refine g_pc (pc' := 136) rfl ?_
              refine gf_X3_19 C dX3_offerPair_136 rfl ?_
              refine g_iload C dX3_offerPair_139 rfl ?_
              refine g_faz (n := (16 * a + m)) (N := 512) (v := (zK (TT w a (m)))) C dX3_offerPair_141 rfl rfl (by omega) (by omega) (by decide) (((hAq (m) (by omega)).2 hwm).1) ?_
              refine g_aload_n C dX3_offerPair_142 rfl ?_
              refine gf_X3_9 C dX3_offerPair_143 rfl ?_
              refine g_iload_n C dX3_offerPair_146 rfl ?_
              refine g_faz (n := a) (N := 32) (v := (tho w a)) C dX3_offerPair_147 rfl rfl (by omega) (by omega) (by decide) ((ht90 _).trans hta) ?_
              refine g_aload_n C dX3_offerPair_148 rfl ?_
              refine g_pc (pc' := 149) rfl ?_
              refine gf_X3_19 C dX3_offerPair_149 rfl ?_
              refine g_iload C dX3_offerPair_152 rfl ?_
              refine g_faz (n := (16 * b + 0)) (N := 512) (v := (zK (TT w b (0)))) C dX3_offerPair_154 rfl rfl (by omega) (by omega) (by decide) (((hBq (0) (by omega)).2 h0b).1) ?_
              refine g_fmul C dX3_offerPair_155 hv155.vf ?_
              refine g_fadd C dX3_offerPair_156 hv156.vf ?_
              refine g_fstore (L' := [(10, .float (FP.fadd (zK (TT w a (m))) (FP.fmul (tho w a) (zK (TT w b (0)))))), (9, .int (iZ zc4)), (0, .ref (κ.2.1 89)), (1, .int (iZ za)), (2, .int (iZ zb)), (3, .int (iZ zj)), (4, .int (iZ zc1)), (5, .int (iZ zc2)), (6, .int (iZ zc3)), (7, .float (FP.fadd (FP.fadd (tho w a) (FP.fmul FP.fconst2 (tho w b))) (tho w (a + b)))), (8, .int (iZ x8))]) C dX3_offerPair_157 (by decide) rfl ?_
              refine g_aload_n C dX3_offerPair_159 rfl ?_
              refine g_iload_n C dX3_offerPair_160 rfl ?_
              refine g_pc (pc' := 161) rfl ?_
              refine g_iload_n C dX3_offerPair_161 rfl ?_
              refine g_ior C dX3_offerPair_162 ?_
              refine g_raw hor ?_
              refine g_iload C dX3_offerPair_163 rfl ?_
              refine gc_X3_55 C dX3_offerPair_165 (c_X9_cellOf hI (Ml M) q (a := ((a + b : Nat) : Int)) (b := x8)) (by decide) (Nat.le_of_ble_eq_true rfl) (fun zc5 σ9 ⟨hzc5, hσ⟩ => ?_)
              subst σ9
              replace hzc5 : zc5 = ((16 * (a + b) + m : Nat) : Int) := by omega
              refine g_iconst (z := 2) C dX3_offerPair_168 rfl ?_
              refine g_fload C dX3_offerPair_169 rfl ?_
              refine g_iload C dX3_offerPair_171 rfl ?_
              refine g_iload C dX3_offerPair_173 rfl ?_
              refine g_pc (pc' := 175) rfl ?_
              refine g_iload_n C dX3_offerPair_175 rfl ?_
              refine gc_X3_84 C dX3_offerPair_176 rfl (c_X3_offer hI (Ml M) q (k := 16 * (a + b) + m) hzc5 (by omega) (hQ m (by omega)) (hSO.2.1 m m (by omega)) (PO.fb (lC_PO hW hTa hTb h0a h0b k1 hj7 hab (show m < 16 by omega) hin) (show (2 : Int) ≠ -1 by decide)) (szR_cell (hAq m (by omega)) hwm (by omega) hzc4) (szR_cell (hBq 0 (by omega)) h0b (by omega) hzc2) (j := zj)) (by decide) (Nat.le_of_ble_eq_true rfl) (fun q2 ⟨hP2, hK2⟩ => ?_)
              rw [hzc4, hzc2, hzj] at hP2
              refine g_iinc (q := 10) (v := (x8 + 1)) (L' := [(8, .int (iZ (x8 + 1))), (10, .float (FP.fadd (zK (TT w a (m))) (FP.fmul (tho w a) (zK (TT w b (0)))))), (9, .int (iZ zc4)), (0, .ref (κ.2.1 89)), (1, .int (iZ za)), (2, .int (iZ zb)), (3, .int (iZ zj)), (4, .int (iZ zc1)), (5, .int (iZ zc2)), (6, .int (iZ zc3)), (7, .float (FP.fadd (FP.fadd (tho w a) (FP.fmul FP.fconst2 (tho w b))) (tho w (a + b))))]) C dX3_offerPair_179 rfl rfl (by decide) rfl ?_
              refine g_goto (tgt := 105) C dX3_offerPair_182 (by decide) ?_
              exact g_loc [3, 4, 5, 6, 7, 8, 9, 10, 0] (by rfl) (ih105 (m + 1) (x8 + 1) q2 (by omega) (by omega) (by omega) ((hQ.set hP2 hK2).cong (fun o _ => s2R_u hin o)) (hKq.tr (hK2.row (by omega))))
            · refine g_iload_n C dX3_offerPair_118 rfl ?_
              refine g_iload C dX3_offerPair_119 rfl ?_
              refine gc_X3_107 C dX3_offerPair_121 (c_X9_isWithin hI (Ml M) q (s := a) (p := m - 1) hza (by omega) (by omega) (by omega)) (by decide) (Nat.le_of_ble_eq_true rfl) (fun z σ9 ⟨hz, hσ⟩ => ?_)
              subst z
              subst σ9
              refine g_ifb_eq (tgt := 179) C dX3_offerPair_124 (by decide) (fun h5 => ?_) (fun h5 => ?_)
              · refine g_pc (pc' := 179) rfl ?_
                refine g_iinc (q := 8) (v := (x8 + 1)) (L' := [(8, .int (iZ (x8 + 1))), (0, .ref (κ.2.1 89)), (1, .int (iZ za)), (2, .int (iZ zb)), (3, .int (iZ zj)), (4, .int (iZ zc1)), (5, .int (iZ zc2)), (6, .int (iZ zc3)), (7, .float (FP.fadd (FP.fadd (tho w a) (FP.fmul FP.fconst2 (tho w b))) (tho w (a + b))))]) C dX3_offerPair_179 rfl rfl (by decide) rfl ?_
                refine g_goto (tgt := 105) C dX3_offerPair_182 (by decide) ?_
                exact g_loc [1, 2, 3, 4, 5, 6, 7, 8, 0] (by rfl) (ih105 (m + 1) (x8 + 1) q (by omega) (by omega) (by omega) (hQ.cong (fun o _ => s2R_s (fun e => e.elim (by omega) (by assumption)) o)) hKq)
              · have hin : inO a m := by first | exact Or.inl (by omega) | exact Or.inr (by assumption)
                have hwm := hTa.2 h0a m (by omega) hin
                have hv156 := PO.fb (lC_PO (j := (j : Int)) hW hTa hTb h0a h0b k1 hj7 hab (show m < 16 by omega) hin) (show (2 : Int) ≠ -1 by decide)
                refine g_iload_n C dX3_offerPair_127 rfl ?_
                refine g_iload C dX3_offerPair_128 rfl ?_
                refine gc_X3_55 C dX3_offerPair_130 (c_X9_cellOf hI (Ml M) q (a := za) (b := x8)) (by decide) (Nat.le_of_ble_eq_true rfl) (fun zc4 σ9 ⟨hzc4, hσ⟩ => ?_)
                subst σ9
                replace hzc4 : zc4 = ((16 * a + m : Nat) : Int) := by omega
                refine g_istore (L' := [(9, .int (iZ zc4)), (0, .ref (κ.2.1 89)), (1, .int (iZ za)), (2, .int (iZ zb)), (3, .int (iZ zj)), (4, .int (iZ zc1)), (5, .int (iZ zc2)), (6, .int (iZ zc3)), (7, .float (FP.fadd (FP.fadd (tho w a) (FP.fmul FP.fconst2 (tho w b))) (tho w (a + b)))), (8, .int (iZ x8))]) C dX3_offerPair_133 (by decide) rfl ?_
                refine g_aload_n C dX3_offerPair_135 rfl ?_
                refine gf_X3_19 C dX3_offerPair_136 rfl ?_
                refine g_pc (pc' := 139) rfl ?_
                refine g_iload C dX3_offerPair_139 rfl ?_
                refine g_faz (n := (16 * a + m)) (N := 512) (v := (zK (TT w a (m)))) C dX3_offerPair_141 rfl rfl (by omega) (by omega) (by decide) (((hAq (m) (by omega)).2 hwm).1) ?_
                refine g_aload_n C dX3_offerPair_142 rfl ?_
                refine gf_X3_9 C dX3_offerPair_143 rfl ?_
                refine g_iload_n C dX3_offerPair_146 rfl ?_
                refine g_faz (n := a) (N := 32) (v := (tho w a)) C dX3_offerPair_147 rfl rfl (by omega) (by omega) (by decide) ((ht90 _).trans hta) ?_
                refine g_aload_n C dX3_offerPair_148 rfl ?_
                refine gf_X3_19 C dX3_offerPair_149 rfl ?_
                refine g_pc (pc' := 152) rfl ?_
                refine g_iload C dX3_offerPair_152 rfl ?_
                refine g_faz (n := (16 * b + 0)) (N := 512) (v := (zK (TT w b (0)))) C dX3_offerPair_154 rfl rfl (by omega) (by omega) (by decide) (((hBq (0) (by omega)).2 h0b).1) ?_
                refine g_fmul C dX3_offerPair_155 hv155.vf ?_
                refine g_fadd C dX3_offerPair_156 hv156.vf ?_
                refine g_fstore (L' := [(10, .float (FP.fadd (zK (TT w a (m))) (FP.fmul (tho w a) (zK (TT w b (0)))))), (9, .int (iZ zc4)), (0, .ref (κ.2.1 89)), (1, .int (iZ za)), (2, .int (iZ zb)), (3, .int (iZ zj)), (4, .int (iZ zc1)), (5, .int (iZ zc2)), (6, .int (iZ zc3)), (7, .float (FP.fadd (FP.fadd (tho w a) (FP.fmul FP.fconst2 (tho w b))) (tho w (a + b)))), (8, .int (iZ x8))]) C dX3_offerPair_157 (by decide) rfl ?_
                refine g_aload_n C dX3_offerPair_159 rfl ?_
                refine g_iload_n C dX3_offerPair_160 rfl ?_
                refine g_iload_n C dX3_offerPair_161 rfl ?_
                refine g_pc (pc' := 162) rfl ?_
                refine g_ior C dX3_offerPair_162 ?_
                refine g_raw hor ?_
                refine g_iload C dX3_offerPair_163 rfl ?_
                refine gc_X3_55 C dX3_offerPair_165 (c_X9_cellOf hI (Ml M) q (a := ((a + b : Nat) : Int)) (b := x8)) (by decide) (Nat.le_of_ble_eq_true rfl) (fun zc5 σ9 ⟨hzc5, hσ⟩ => ?_)
                subst σ9
                replace hzc5 : zc5 = ((16 * (a + b) + m : Nat) : Int) := by omega
                refine g_iconst (z := 2) C dX3_offerPair_168 rfl ?_
                refine g_fload C dX3_offerPair_169 rfl ?_
                refine g_iload C dX3_offerPair_171 rfl ?_
                refine g_iload C dX3_offerPair_173 rfl ?_
                refine g_iload_n C dX3_offerPair_175 rfl ?_
                refine g_pc (pc' := 176) rfl ?_
                refine gc_X3_84 C dX3_offerPair_176 rfl (c_X3_offer hI (Ml M) q (k := 16 * (a + b) + m) hzc5 (by omega) (hQ m (by omega)) (hSO.2.1 m m (by omega)) (PO.fb (lC_PO hW hTa hTb h0a h0b k1 hj7 hab (show m < 16 by omega) hin) (show (2 : Int) ≠ -1 by decide)) (szR_cell (hAq m (by omega)) hwm (by omega) hzc4) (szR_cell (hBq 0 (by omega)) h0b (by omega) hzc2) (j := zj)) (by decide) (Nat.le_of_ble_eq_true rfl) (fun q2 ⟨hP2, hK2⟩ => ?_)
                rw [hzc4, hzc2, hzj] at hP2
                refine g_iinc (q := 10) (v := (x8 + 1)) (L' := [(8, .int (iZ (x8 + 1))), (10, .float (FP.fadd (zK (TT w a (m))) (FP.fmul (tho w a) (zK (TT w b (0)))))), (9, .int (iZ zc4)), (0, .ref (κ.2.1 89)), (1, .int (iZ za)), (2, .int (iZ zb)), (3, .int (iZ zj)), (4, .int (iZ zc1)), (5, .int (iZ zc2)), (6, .int (iZ zc3)), (7, .float (FP.fadd (FP.fadd (tho w a) (FP.fmul FP.fconst2 (tho w b))) (tho w (a + b))))]) C dX3_offerPair_179 rfl rfl (by decide) rfl ?_
                refine g_goto (tgt := 105) C dX3_offerPair_182 (by decide) ?_
                exact g_loc [3, 4, 5, 6, 7, 8, 9, 10, 0] (by rfl) (ih105 (m + 1) (x8 + 1) q2 (by omega) (by omega) (by omega) ((hQ.set hP2 hK2).cong (fun o _ => s2R_u hin o)) (hKq.tr (hK2.row (by omega))))
      exact g_loc [5, 6, 7, 8, 4, 3, 2, 1, 0] (by rfl) (lp105 _ 0 (-1) σ1 (Nat.lt_succ_self _) (by omega) (by omega) (hR1.cong (fun o _ => (s2R_0 o).symm)) (hK1.row (by omega)))
    · exact g_return C dX3_offerPair_36 ⟨by rw [if_neg (fun e => by omega)]; exact hR, KK.rf⟩

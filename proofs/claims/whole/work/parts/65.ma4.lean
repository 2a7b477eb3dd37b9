/-! THE MODEL: the image -/
def kpF (σ : St) (k c i a r : Nat) : Int := if a = 161 ∧ c ≤ r ∧ r < c + i then σ.1 k (r - c) else if a = 105 ∧ r = 58 then ((c + i : Nat) : Int) else σ.1 a r
def rsF (σ : St) (k c i a r : Nat) : Int := if a = k ∧ r < i then σ.1 161 (c + r) else if a = 105 ∧ r = 58 then ((c + i : Nat) : Int) else σ.1 a r
theorem kpF_0 {σ : St} {k c : Nat} (h : σ.1 105 58 = (c : Int)) (a r : Nat) : σ.1 a r = kpF σ k c 0 a r := by
  unfold kpF
  rw [if_neg (by omega)]
  split
  · rename_i e; rw [e.1, e.2, h]; rfl
  · rfl
theorem rsF_0 {σ : St} {k c : Nat} (h : σ.1 105 58 = (c : Int)) (a r : Nat) : σ.1 a r = rsF σ k c 0 a r := by
  unfold rsF
  rw [if_neg (by omega)]
  split
  · rename_i e; rw [e.1, e.2, h]; rfl
  · rfl
theorem kpF_s {σ q : St} {k c i : Nat} (h : ∀ a r, q.1 a r = kpF σ k c i a r) {x v : Int} (hx : x = (c : Int) + (i : Int) + 1) (hv : v = σ.1 k i) (a r : Nat) : (sI (sI q 161 (c + i) v) 105 58 x).1 a r = kpF σ k c (i + 1) a r := by
  rw [sI_1, sI_1, h, hx, hv]
  unfold kpF
  by_cases e1 : a = 105 ∧ r = 58
  · rw [if_pos e1, if_neg (by omega), if_pos e1]; omega
  · rw [if_neg e1]
    by_cases e2 : a = 161 ∧ r = c + i
    · rw [if_pos e2, if_pos (by omega)]; exact congrArg (σ.1 k) (by omega)
    · rw [if_neg e2]
      by_cases e3 : a = 161 ∧ c ≤ r ∧ r < c + i
      · rw [if_pos e3, if_pos (by omega)]
      · rw [if_neg e3, if_neg e1, if_neg (by omega), if_neg e1]
theorem rsF_s {σ q : St} {k c i : Nat} (h : ∀ a r, q.1 a r = rsF σ k c i a r) (hk : k ≠ 105) {x v : Int} (hx : x = (c : Int) + (i : Int) + 1) (hv : v = σ.1 161 (c + i)) (a r : Nat) : (sI (sI q k i v) 105 58 x).1 a r = rsF σ k c (i + 1) a r := by
  rw [sI_1, sI_1, h, hx, hv]
  unfold rsF
  by_cases e1 : a = 105 ∧ r = 58
  · rw [if_pos e1, if_neg (by omega), if_pos e1]; omega
  · rw [if_neg e1]
    by_cases e2 : a = k ∧ r = i
    · rw [if_pos e2, if_pos (by omega)]; exact congrArg (σ.1 161) (by omega)
    · rw [if_neg e2]
      by_cases e3 : a = k ∧ r < i
      · rw [if_pos e3, if_pos (by omega)]
      · rw [if_neg e3, if_neg e1, if_neg (by omega), if_neg e1]
set_option maxHeartbeats 4000000 in
set_option maxRecDepth 100000 in
theorem c_X10_passes_k {κ : Kp} (hI : Ij κ) (l : Launch) (σ : St) {k c n : Nat} (hk : kd k = 20) (hl : len k = n) (hkr : 107 ≤ k ∧ k ≤ 115) (hc : σ.1 105 58 = (c : Int)) (hcn : c + n ≤ 298) (hb : σ.1 105 57 = 1) : CtV κ l 0 yX10_passes cX10_passes 3 [.ref (κ.2.1 105), .ref (κ.2.1 k)] σ (fun σ' => (∀ a r, σ'.1 a r = kpF σ k c n a r) ∧ σ'.2 = σ.2) := by
  refine Ct.ofG (own := RX10) hI (by decide +kernel) rfl (Nat.le_of_ble_eq_true rfl) rfl ?_
  intro M C hMl
  refine g_iconst (z := 0) C dX10_passes_0 rfl ?_
  refine g_istore_n (L' := [(2, .int (iZ 0)), (0, .ref (κ.2.1 105)), (1, .ref (κ.2.1 k))]) C dX10_passes_1 rfl (by decide) rfl ?_
  have lp2 : ∀ (fz9 : Nat) (i : Nat) (x2 : Int) (q : St), (n - i < fz9) → (x2 = (i : Int)) → (i ≤ n) → (∀ a r, q.1 a r = kpF σ k c i a r) → (q.2 = σ.2) → G M κ 3 (En M κ (qV κ (fun σ' => (∀ a r, σ'.1 a r = kpF σ k c n a r) ∧ σ'.2 = σ.2))) 2 [(0, .ref (κ.2.1 105)), (1, .ref (κ.2.1 k)), (2, .int (iZ x2))] [] q := by
    intro fz9
    induction fz9 with
    | zero => intro i x2 q hm0; exact absurd hm0 (Nat.not_lt_zero _)
    | succ fz9 ih2 =>
      intro i x2 q hm2 hx2 hi hq hq2
      have h58 : q.1 105 58 = ((c + i : Nat) : Int) := by rw [hq]; unfold kpF; rw [if_neg (by omega), if_pos ⟨rfl, rfl⟩]
      have h57 : q.1 105 57 = 1 := by rw [hq]; unfold kpF; rw [if_neg (by omega), if_neg (by decide)]; exact hb
      have hki : q.1 k i = σ.1 k i := by rw [hq]; unfold kpF; rw [if_neg (by omega), if_neg (by omega)]
      refine g_iload_n C dX10_passes_2 rfl ?_
      refine g_aload_n C dX10_passes_3 rfl ?_
      refine g_alen (N := n) C dX10_passes_4 hk hl ?_
      refine g_icmp_ge (tgt := 58) C dX10_passes_5 (by decide) (by unfold R32; omega) (fun h1 => ?_) (fun h1 => ?_)
      · exact g_return C dX10_passes_58 ⟨by rw [show n = i by omega]; exact hq, hq2⟩
      · refine g_pc (pc' := 8) rfl ?_
        refine g_aload_n C dX10_passes_8 rfl ?_
        refine gf_X10_384 (z := 1) C dX10_passes_9 rfl h57 ?_
        refine g_if_eq (tgt := 30) C dX10_passes_12 (by decide) (by unfold R32; omega) (fun h2 => ?_) (fun h2 => ?_)
        · exfalso; omega
        · refine g_aload_n C dX10_passes_15 rfl ?_
          refine gf_X10_139 C dX10_passes_16 rfl ?_
          refine g_aload_n C dX10_passes_19 rfl ?_
          refine gf_X10_388 (z := ((c + i : Nat) : Int)) C dX10_passes_20 rfl h58 ?_
          refine g_aload_n C dX10_passes_23 rfl ?_
          refine g_pc (pc' := 24) rfl ?_
          refine g_iload_n C dX10_passes_24 rfl ?_
          refine g_iaz (n := i) (N := n) (v := (σ.1 k i)) C dX10_passes_25 hk hl (by omega) (by omega) (by omega) hki ?_
          refine g_iast (n := (c + i)) (N := 310) C dX10_passes_26 rfl rfl (by omega) (by omega) (by decide) ?_
          refine g_goto (tgt := 42) C dX10_passes_27 (by decide) ?_
          refine g_aload_n C dX10_passes_42 rfl ?_
          refine g_dup C dX10_passes_43 rfl ?_
          refine gf_X10_388 (z := ((c + i : Nat) : Int)) C dX10_passes_44 rfl ((rI_k (by decide)).trans h58) ?_
          refine g_iconst (z := 1) C dX10_passes_47 rfl ?_
          refine g_pc (pc' := 48) rfl ?_
          refine g_iadd C dX10_passes_48 ?_
          refine gp_X10_388 C dX10_passes_49 rfl ?_
          refine g_iinc (q := 2) (v := (x2 + 1)) (L' := [(2, .int (iZ (x2 + 1))), (0, .ref (κ.2.1 105)), (1, .ref (κ.2.1 k))]) C dX10_passes_52 rfl rfl (by decide) rfl ?_
          refine g_goto (tgt := 2) C dX10_passes_55 (by decide) ?_
          exact g_loc [1, 2, 0] (by rfl) (ih2 (i + 1) (x2 + 1) (sI (sI q 161 (c + i) (σ.1 k i)) 105 58 (((c + i : Nat) : Int) + 1)) (by omega) (by omega) (by omega) (kpF_s hq (by omega) rfl) hq2)
  exact g_loc [1, 2, 0] (by rfl) (lp2 _ 0 0 σ (Nat.lt_succ_self _) rfl (Nat.zero_le _) (kpF_0 hc) rfl)
set_option maxHeartbeats 4000000 in
set_option maxRecDepth 100000 in
theorem c_X10_passes_r {κ : Kp} (hI : Ij κ) (l : Launch) (σ : St) {k c n : Nat} (hk : kd k = 20) (hl : len k = n) (hkr : 107 ≤ k ∧ k ≤ 115) (hc : σ.1 105 58 = (c : Int)) (hcn : c + n ≤ 298) (hb : σ.1 105 57 = 0) : CtV κ l 0 yX10_passes cX10_passes 3 [.ref (κ.2.1 105), .ref (κ.2.1 k)] σ (fun σ' => (∀ a r, σ'.1 a r = rsF σ k c n a r) ∧ σ'.2 = σ.2) := by
  refine Ct.ofG (own := RX10) hI (by decide +kernel) rfl (Nat.le_of_ble_eq_true rfl) rfl ?_
  intro M C hMl
  refine g_iconst (z := 0) C dX10_passes_0 rfl ?_
  refine g_istore_n (L' := [(2, .int (iZ 0)), (0, .ref (κ.2.1 105)), (1, .ref (κ.2.1 k))]) C dX10_passes_1 rfl (by decide) rfl ?_
  have lp2 : ∀ (fz9 : Nat) (i : Nat) (x2 : Int) (q : St), (n - i < fz9) → (x2 = (i : Int)) → (i ≤ n) → (∀ a r, q.1 a r = rsF σ k c i a r) → (q.2 = σ.2) → G M κ 3 (En M κ (qV κ (fun σ' => (∀ a r, σ'.1 a r = rsF σ k c n a r) ∧ σ'.2 = σ.2))) 2 [(0, .ref (κ.2.1 105)), (1, .ref (κ.2.1 k)), (2, .int (iZ x2))] [] q := by
    intro fz9
    induction fz9 with
    | zero => intro i x2 q hm0; exact absurd hm0 (Nat.not_lt_zero _)
    | succ fz9 ih2 =>
      intro i x2 q hm2 hx2 hi hq hq2
      have h58 : q.1 105 58 = ((c + i : Nat) : Int) := by rw [hq]; unfold rsF; rw [if_neg (by omega), if_pos ⟨rfl, rfl⟩]
      have h57 : q.1 105 57 = 0 := by rw [hq]; unfold rsF; rw [if_neg (by omega), if_neg (by decide)]; exact hb
      have h161 : q.1 161 (c + i) = σ.1 161 (c + i) := by rw [hq]; unfold rsF; rw [if_neg (by omega), if_neg (by omega)]
      refine g_iload_n C dX10_passes_2 rfl ?_
      refine g_aload_n C dX10_passes_3 rfl ?_
      refine g_alen (N := n) C dX10_passes_4 hk hl ?_
      refine g_icmp_ge (tgt := 58) C dX10_passes_5 (by decide) (by unfold R32; omega) (fun h1 => ?_) (fun h1 => ?_)
      · exact g_return C dX10_passes_58 ⟨by rw [show n = i by omega]; exact hq, hq2⟩
      · refine g_pc (pc' := 8) rfl ?_
        refine g_aload_n C dX10_passes_8 rfl ?_
        refine gf_X10_384 (z := 0) C dX10_passes_9 rfl h57 ?_
        refine g_if_eq (tgt := 30) C dX10_passes_12 (by decide) (by unfold R32; omega) (fun h2 => ?_) (fun h2 => ?_)
        · refine g_aload_n C dX10_passes_30 rfl ?_
          refine g_iload_n C dX10_passes_31 rfl ?_
          refine g_aload_n C dX10_passes_32 rfl ?_
          refine gf_X10_139 C dX10_passes_33 rfl ?_
          refine g_aload_n C dX10_passes_36 rfl ?_
          refine g_pc (pc' := 37) rfl ?_
          refine gf_X10_388 (z := ((c + i : Nat) : Int)) C dX10_passes_37 rfl h58 ?_
          refine g_iaz (n := (c + i)) (N := 310) (v := (σ.1 161 (c + i))) C dX10_passes_40 rfl rfl (by omega) (by omega) (by decide) h161 ?_
          refine g_iast (n := i) (N := n) C dX10_passes_41 hk hl (by omega) (by omega) (by omega) ?_
          refine g_aload_n C dX10_passes_42 rfl ?_
          refine g_dup C dX10_passes_43 rfl ?_
          refine gf_X10_388 (z := ((c + i : Nat) : Int)) C dX10_passes_44 rfl ((rI_k (by omega)).trans h58) ?_
          refine g_iconst (z := 1) C dX10_passes_47 rfl ?_
          refine g_iadd C dX10_passes_48 ?_
          refine g_pc (pc' := 49) rfl ?_
          refine gp_X10_388 C dX10_passes_49 rfl ?_
          refine g_iinc (q := 2) (v := (x2 + 1)) (L' := [(2, .int (iZ (x2 + 1))), (0, .ref (κ.2.1 105)), (1, .ref (κ.2.1 k))]) C dX10_passes_52 rfl rfl (by decide) rfl ?_
          refine g_goto (tgt := 2) C dX10_passes_55 (by decide) ?_
          exact g_loc [1, 2, 0] (by rfl) (ih2 (i + 1) (x2 + 1) (sI (sI q k i (σ.1 161 (c + i))) 105 58 (((c + i : Nat) : Int) + 1)) (by omega) (by omega) (by omega) (rsF_s hq (by omega) (by omega) rfl) hq2)
        · exfalso; omega
  exact g_loc [1, 2, 0] (by rfl) (lp2 _ 0 0 σ (Nat.lt_succ_self _) rfl (Nat.zero_le _) (rsF_0 hc) rfl)
set_option maxHeartbeats 4000000 in
set_option maxRecDepth 100000 in
theorem c_X10_passOne_k {κ : Kp} (hI : Ij κ) (l : Launch) (σ : St) {v : Int} {c : Nat} (hc : σ.1 105 58 = (c : Int)) (hc2 : c < 310) (hb : σ.1 105 57 = 1) : CtI κ l 0 yX10_passOne cX10_passOne 3 .int [.ref (κ.2.1 105), .int (iZ v)] σ (fun z σ' => z = v ∧ σ' = sI (sI σ 161 c v) 105 58 ((c : Int) + 1)) := by
  refine Ct.ofG (own := RX10) hI (by decide +kernel) rfl (Nat.le_of_ble_eq_true rfl) rfl ?_
  intro M C hMl
  refine g_aload_n C dX10_passOne_0 rfl ?_
  refine gf_X10_384 (z := 1) C dX10_passOne_1 rfl hb ?_
  refine g_if_eq (tgt := 11) C dX10_passOne_4 (by decide) (by unfold R32; omega) (fun h1 => ?_) (fun h1 => ?_)
  · exfalso; omega
  · refine g_iload_n C dX10_passOne_7 rfl ?_
    refine g_goto (tgt := 20) C dX10_passOne_8 (by decide) ?_
    refine g_istore_n (L' := [(2, .int (iZ v)), (0, .ref (κ.2.1 105)), (1, .int (iZ v))]) C dX10_passOne_20 rfl (by decide) rfl ?_
    refine g_aload_n C dX10_passOne_21 rfl ?_
    refine g_pc (pc' := 22) rfl ?_
    refine gf_X10_384 (z := 1) C dX10_passOne_22 rfl hb ?_
    refine g_if_eq (tgt := 38) C dX10_passOne_25 (by decide) (by unfold R32; omega) (fun h2 => ?_) (fun h2 => ?_)
    · exfalso; omega
    · refine g_aload_n C dX10_passOne_28 rfl ?_
      refine gf_X10_139 C dX10_passOne_29 rfl ?_
      refine g_aload_n C dX10_passOne_32 rfl ?_
      refine gf_X10_388 (z := (c : Int)) C dX10_passOne_33 rfl hc ?_
      refine g_iload_n C dX10_passOne_36 rfl ?_
      refine g_iast (n := c) (N := 310) C dX10_passOne_37 rfl rfl (by omega) (by omega) (by decide) ?_
      refine g_pc (pc' := 38) rfl ?_
      refine g_aload_n C dX10_passOne_38 rfl ?_
      refine g_dup C dX10_passOne_39 rfl ?_
      refine gf_X10_388 (z := (c : Int)) C dX10_passOne_40 rfl ((rI_k (by decide)).trans hc) ?_
      refine g_iconst (z := 1) C dX10_passOne_43 rfl ?_
      refine g_iadd C dX10_passOne_44 ?_
      refine gp_X10_388 C dX10_passOne_45 rfl ?_
      refine g_iload_n C dX10_passOne_48 rfl ?_
      exact g_ireturn C dX10_passOne_49 ⟨rfl, rfl⟩
set_option maxHeartbeats 4000000 in
set_option maxRecDepth 100000 in
theorem c_X10_passOne_r {κ : Kp} (hI : Ij κ) (l : Launch) (σ : St) {v : Int} {c : Nat} (hc : σ.1 105 58 = (c : Int)) (hc2 : c < 310) (hb : σ.1 105 57 = 0) : CtI κ l 0 yX10_passOne cX10_passOne 3 .int [.ref (κ.2.1 105), .int (iZ v)] σ (fun z σ' => z = σ.1 161 c ∧ σ' = sI σ 105 58 ((c : Int) + 1)) := by
  refine Ct.ofG (own := RX10) hI (by decide +kernel) rfl (Nat.le_of_ble_eq_true rfl) rfl ?_
  intro M C hMl
  refine g_aload_n C dX10_passOne_0 rfl ?_
  refine gf_X10_384 (z := 0) C dX10_passOne_1 rfl hb ?_
  refine g_if_eq (tgt := 11) C dX10_passOne_4 (by decide) (by unfold R32; omega) (fun h1 => ?_) (fun h1 => ?_)
  · refine g_aload_n C dX10_passOne_11 rfl ?_
    refine gf_X10_139 C dX10_passOne_12 rfl ?_
    refine g_aload_n C dX10_passOne_15 rfl ?_
    refine gf_X10_388 (z := (c : Int)) C dX10_passOne_16 rfl hc ?_
    refine g_pc (pc' := 19) rfl ?_
    refine g_iaz (n := c) (N := 310) (v := (σ.1 161 c)) C dX10_passOne_19 rfl rfl (by omega) (by omega) (by decide) rfl ?_
    refine g_istore_n (L' := [(2, .int (iZ (σ.1 161 c))), (0, .ref (κ.2.1 105)), (1, .int (iZ v))]) C dX10_passOne_20 rfl (by decide) rfl ?_
    refine g_aload_n C dX10_passOne_21 rfl ?_
    refine gf_X10_384 (z := 0) C dX10_passOne_22 rfl hb ?_
    refine g_if_eq (tgt := 38) C dX10_passOne_25 (by decide) (by unfold R32; omega) (fun h2 => ?_) (fun h2 => ?_)
    · refine g_aload_n C dX10_passOne_38 rfl ?_
      refine g_dup C dX10_passOne_39 rfl ?_
      refine gf_X10_388 (z := (c : Int)) C dX10_passOne_40 rfl hc ?_
      refine g_pc (pc' := 43) rfl ?_
      refine g_iconst (z := 1) C dX10_passOne_43 rfl ?_
      refine g_iadd C dX10_passOne_44 ?_
      refine gp_X10_388 C dX10_passOne_45 rfl ?_
      refine g_iload_n C dX10_passOne_48 rfl ?_
      exact g_ireturn C dX10_passOne_49 ⟨rfl, rfl⟩
    · exfalso; omega
  · exfalso; omega
def fcl (r : Nat) : Nat := if r < 5 then 107 else if r < 245 then 108 else if r < 250 then 109 else if r < 255 then 110 else if r < 263 then 111 else if r < 271 then 112 else if r < 279 then 113 else if r < 287 then 114 else if r < 295 then 115 else 105
def fix (r : Nat) : Nat := if r < 5 then r else if r < 245 then r - 5 else if r < 250 then r - 245 else if r < 255 then r - 250 else if r < 263 then r - 255 else if r < 271 then r - 263 else if r < 279 then r - 271 else if r < 287 then r - 279 else if r < 295 then r - 287 else r - 285
def S161 (k : Nat) : Prop := k = 161
def T57 (j : Nat) : Prop := j = 57 ∨ j = 58
def SWo (k : Nat) : Prop := 107 ≤ k ∧ k ≤ 115
def TWo (j : Nat) : Prop := j = 57 ∨ j = 58 ∨ (10 ≤ j ∧ j ≤ 12)
def Kpx (σ0 σ : St) (m : Nat) : Prop := (∀ r, r < m → σ.1 161 r = σ0.1 (fcl r) (fix r)) ∧ σ.1 105 58 = (m : Int) ∧ σ.1 105 57 = 1 ∧ Fm S161 T57 σ0 σ
def Rsx (σ0 σ : St) (m : Nat) : Prop := (∀ r, r < m → σ.1 (fcl r) (fix r) = σ0.1 161 r) ∧ (∀ r, σ.1 161 r = σ0.1 161 r) ∧ σ.1 105 58 = (m : Int) ∧ σ.1 105 57 = 0 ∧ Fm SWo TWo σ0 σ
theorem Kpx.st {σ0 σ σ' : St} {c k n : Nat} (h : Kpx σ0 σ c) (hq : ∀ a r, σ'.1 a r = kpF σ k c n a r) (h2 : σ'.2 = σ.2) (hk : 107 ≤ k ∧ k ≤ 115) (hf : ∀ j, j < n → fcl (c + j) = k ∧ fix (c + j) = j) : Kpx σ0 σ' (c + n) := by
  obtain ⟨h1, h3, h4, h5⟩ := h
  refine ⟨fun r hr => ?_, ?_, ?_, fun a ha hs => ⟨?_, by rw [h2]; exact (h5.1 a ha hs).2.1, by rw [h2]; exact (h5.1 a ha hs).2.2⟩, fun j hj => ?_⟩
  · rw [hq]; unfold kpF
    rcases Nat.lt_or_ge r c with g | g
    · rw [if_neg (by omega), if_neg (by omega)]; exact h1 r g
    · rw [if_pos ⟨rfl, g, hr⟩]
      obtain ⟨f1, f2⟩ := hf (r - c) (by omega)
      rw [show c + (r - c) = r by omega] at f1 f2
      rw [f1, f2, (h5.1 k (by omega) (by unfold S161; omega)).1]
  · rw [hq]; unfold kpF; rw [if_neg (by omega), if_pos ⟨rfl, rfl⟩]
  · rw [hq]; unfold kpF; rw [if_neg (by omega), if_neg (by decide)]; exact h4
  · funext r
    rw [hq]; unfold kpF; rw [if_neg (fun e => hs e.1), if_neg (fun e => ha e.1)]; exact congrFun (h5.1 a ha hs).1 r
  · rw [hq]; unfold kpF; rw [if_neg (by omega), if_neg (fun e => hj (Or.inr e.2))]; exact h5.2 j hj
theorem Kpx.one {σ0 σ : St} {c s : Nat} {v x : Int} (h : Kpx σ0 σ c) (hs : 10 ≤ s ∧ s ≤ 12) (hv : v = σ0.1 105 s) (hx : x = (c : Int) + 1) (hf : fcl c = 105 ∧ fix c = s) : Kpx σ0 (sI (sI (sI σ 161 c v) 105 58 x) 105 s v) (c + 1) := by
  obtain ⟨h1, h3, h4, h5⟩ := h
  refine ⟨fun r hr => ?_, ?_, ?_, fun a ha hs' => ⟨?_, (h5.1 a ha hs').2.1, (h5.1 a ha hs').2.2⟩, fun j hj => ?_⟩
  · rw [rI_k (by decide), rI_k (by decide)]
    rcases Nat.lt_or_ge r c with g | g
    · rw [rI_j (by omega)]; exact h1 r g
    · rw [show r = c by omega, rI_s, hf.1, hf.2]; exact hv
  · rw [rI_j (by omega), rI_s]; omega
  · rw [rI_j (by omega), rI_j (by decide), rI_k (by decide)]; exact h4
  · rw [sI_ne ha, sI_ne ha, sI_ne (fun e => hs' e)]; exact (h5.1 a ha hs').1
  · by_cases e : j = s
    · rw [e, rI_s]; exact hv
    · rw [rI_j e, rI_j (fun q => hj (Or.inr q)), rI_k (by decide)]; exact h5.2 j hj
theorem Rsx.st {σ0 σ σ' : St} {c k n : Nat} (h : Rsx σ0 σ c) (hq : ∀ a r, σ'.1 a r = rsF σ k c n a r) (h2 : σ'.2 = σ.2) (hk : 107 ≤ k ∧ k ≤ 115) (hcn : c + n ≤ 295) (hf : ∀ j, j < n → fcl (c + j) = k ∧ fix (c + j) = j) (hg : ∀ r, r < c → fcl r ≠ k ∧ fcl r ≠ 105) : Rsx σ0 σ' (c + n) := by
  obtain ⟨h1, h3, h4, h5, h6⟩ := h
  refine ⟨fun r hr => ?_, fun r => ?_, ?_, ?_, fun a ha hs => ⟨?_, by rw [h2]; exact (h6.1 a ha hs).2.1, by rw [h2]; exact (h6.1 a ha hs).2.2⟩, fun j hj => ?_⟩
  · rw [hq]; unfold rsF
    rcases Nat.lt_or_ge r c with g | g
    · have := hg r g
      rw [if_neg (fun e => this.1 e.1), if_neg (fun e => this.2 e.1)]; exact h1 r g
    · obtain ⟨f1, f2⟩ := hf (r - c) (by omega)
      rw [show c + (r - c) = r by omega] at f1 f2
      rw [f1, f2, if_pos ⟨rfl, by omega⟩, show c + (r - c) = r by omega]; exact h3 r
  · rw [hq]; unfold rsF; rw [if_neg (by omega), if_neg (by omega)]; exact h3 r
  · rw [hq]; unfold rsF; rw [if_neg (by omega), if_pos ⟨rfl, rfl⟩]
  · rw [hq]; unfold rsF; rw [if_neg (by omega), if_neg (by decide)]; exact h5
  · funext r
    rw [hq]; unfold rsF; rw [if_neg (fun e => hs (by unfold SWo; omega)), if_neg (fun e => ha e.1)]; exact congrFun (h6.1 a ha hs).1 r
  · rw [hq]; unfold rsF; rw [if_neg (by omega), if_neg (fun e => hj (Or.inr (Or.inl e.2)))]; exact h6.2 j hj
theorem Rsx.one {σ0 σ : St} {c s : Nat} {v x : Int} (h : Rsx σ0 σ c) (hs : 10 ≤ s ∧ s ≤ 12) (hv : v = σ.1 161 c) (hx : x = (c : Int) + 1) (hf : fcl c = 105 ∧ fix c = s) (hg : ∀ r, r < c → fcl r = 105 → fix r ≠ s ∧ fix r ≠ 58) : Rsx σ0 (sI (sI σ 105 58 x) 105 s v) (c + 1) := by
  obtain ⟨h1, h3, h4, h5, h6⟩ := h
  refine ⟨fun r hr => ?_, fun r => ?_, ?_, ?_, fun a ha hs' => ⟨?_, (h6.1 a ha hs').2.1, (h6.1 a ha hs').2.2⟩, fun j hj => ?_⟩
  · rcases Nat.lt_or_ge r c with g | g
    · by_cases e : fcl r = 105
      · have := hg r g e
        rw [e, rI_j this.1, rI_j this.2, ← e]; exact h1 r g
      · rw [rI_k e, rI_k e]; exact h1 r g
    · rw [show r = c by omega, hf.1, hf.2, rI_s, hv]; exact h3 c
  · rw [rI_k (by decide), rI_k (by decide)]; exact h3 r
  · rw [rI_j (by omega), rI_s]; omega
  · rw [rI_j (by omega), rI_j (by decide)]; exact h5
  · rw [sI_ne ha, sI_ne ha]; exact (h6.1 a ha hs').1
  · rw [rI_j (fun e => hj (by unfold TWo; omega)), rI_j (fun e => hj (Or.inr (Or.inl e)))]; exact h6.2 j hj
theorem fx1 {r : Nat} (h : r < 5) : fcl r = 107 ∧ fix r = r := by unfold fcl fix; rw [if_pos h, if_pos h]; exact ⟨rfl, rfl⟩
theorem fxA : ∀ r : Fin 298, (5 ≤ r.val → r.val < 245 → fcl r.val = 108 ∧ fix r.val = r.val - 5) ∧ (245 ≤ r.val → r.val < 250 → fcl r.val = 109 ∧ fix r.val = r.val - 245) ∧ (250 ≤ r.val → r.val < 255 → fcl r.val = 110 ∧ fix r.val = r.val - 250) ∧ (255 ≤ r.val → r.val < 263 → fcl r.val = 111 ∧ fix r.val = r.val - 255) ∧ (263 ≤ r.val → r.val < 271 → fcl r.val = 112 ∧ fix r.val = r.val - 263) ∧ (271 ≤ r.val → r.val < 279 → fcl r.val = 113 ∧ fix r.val = r.val - 271) ∧ (279 ≤ r.val → r.val < 287 → fcl r.val = 114 ∧ fix r.val = r.val - 279) ∧ (287 ≤ r.val → r.val < 295 → fcl r.val = 115 ∧ fix r.val = r.val - 287) ∧ (295 ≤ r.val → fcl r.val = 105 ∧ fix r.val = r.val - 285) := fun r => by
  unfold fcl fix
  refine ⟨fun h1 h2 => ?_, fun h1 h2 => ?_, fun h1 h2 => ?_, fun h1 h2 => ?_, fun h1 h2 => ?_, fun h1 h2 => ?_, fun h1 h2 => ?_, fun h1 h2 => ?_, fun h1 => ?_⟩ <;> constructor
  all_goals (repeat' split)
  all_goals omega
theorem Kpx.fin {σ0 σ : St} {w : Wv} (h : Kpx σ0 σ 298) (hM : MW σ0 w) (hW : OKW w) : MKe σ w := by
  have g : ∀ r, r < 298 → σ.1 161 r = σ0.1 (fcl r) (fix r) := h.1
  refine ⟨fun t ht => ?_, ⟨?_, fun f hf => ?_⟩, ⟨?_, fun j hj => ?_⟩, ?_⟩
  · obtain ⟨b1, b2, b3, b4⟩ := hM.1 t ht
    have e1 := fx1 ht
    have e2 := (fxA ⟨245 + t, by omega⟩).2.1 (by show 245 ≤ 245 + t; omega) (by show 245 + t < 250; omega)
    have e3 := (fxA ⟨250 + t, by omega⟩).2.2.1 (by show 250 ≤ 250 + t; omega) (by show 250 + t < 255; omega)
    dsimp only at e2 e3
    rw [g t (by omega), g (245 + t) (by omega), g (250 + t) (by omega), e1.1, e1.2, e2.1, e2.2, e3.1, e3.2, show 245 + t - 245 = t by omega, show 250 + t - 250 = t by omega]
    refine ⟨b1, b2, b3, fun i hi c hc => ?_⟩
    have hl := (hW.1 t ht).1
    have e4 := (fxA ⟨5 + (48 * t + (i * 3 + c)), by omega⟩).1 (by show 5 ≤ 5 + _; omega) (by show 5 + (48 * t + (i * 3 + c)) < 245; omega)
    dsimp only at e4
    rw [g _ (by omega), e4.1, e4.2, Nat.add_sub_cancel_left]
    exact b4 i hi c hc
  · rw [g 295 (by decide), ((fxA ⟨295, by decide⟩).2.2.2.2.2.2.2.2 (by decide)).1, ((fxA ⟨295, by decide⟩).2.2.2.2.2.2.2.2 (by decide)).2]; exact hM.2.1.1
  · obtain ⟨a1, a2, a3⟩ := hM.2.1.2 f hf
    have h8 := hW.2.1.1
    have e1 := (fxA ⟨255 + f, by omega⟩).2.2.2.1 (by show 255 ≤ 255 + f; omega) (by show 255 + f < 263; omega)
    have e2 := (fxA ⟨263 + f, by omega⟩).2.2.2.2.1 (by show 263 ≤ 263 + f; omega) (by show 263 + f < 271; omega)
    have e3 := (fxA ⟨271 + f, by omega⟩).2.2.2.2.2.1 (by show 271 ≤ 271 + f; omega) (by show 271 + f < 279; omega)
    dsimp only at e1 e2 e3
    rw [g _ (by omega), g (263 + f) (by omega), g (271 + f) (by omega), e1.1, e1.2, e2.1, e2.2, e3.1, e3.2, Nat.add_sub_cancel_left, Nat.add_sub_cancel_left, Nat.add_sub_cancel_left]
    exact ⟨a1, a2, a3⟩
  · rw [g 296 (by decide), ((fxA ⟨296, by decide⟩).2.2.2.2.2.2.2.2 (by decide)).1, ((fxA ⟨296, by decide⟩).2.2.2.2.2.2.2.2 (by decide)).2]; exact hM.2.2.1.1
  · obtain ⟨a1, a2⟩ := hM.2.2.1.2 j hj
    have h8 := hW.2.2.1
    have e1 := (fxA ⟨279 + j, by omega⟩).2.2.2.2.2.2.1 (by show 279 ≤ 279 + j; omega) (by show 279 + j < 287; omega)
    have e2 := (fxA ⟨287 + j, by omega⟩).2.2.2.2.2.2.2.1 (by show 287 ≤ 287 + j; omega) (by show 287 + j < 295; omega)
    dsimp only at e1 e2
    rw [g _ (by omega), g (287 + j) (by omega), e1.1, e1.2, e2.1, e2.2, Nat.add_sub_cancel_left, Nat.add_sub_cancel_left]
    exact ⟨a1, a2⟩
  · rw [g 297 (by decide), ((fxA ⟨297, by decide⟩).2.2.2.2.2.2.2.2 (by decide)).1, ((fxA ⟨297, by decide⟩).2.2.2.2.2.2.2.2 (by decide)).2]; exact hM.2.2.2
theorem Rsx.fin {σ0 σ : St} {w : Wv} (h : Rsx σ0 σ 298) (hM : MKe σ0 w) (hW : OKW w) : MW σ w := by
  have g : ∀ r, r < 298 → σ.1 (fcl r) (fix r) = σ0.1 161 r := h.1
  refine ⟨fun t ht => ?_, ⟨?_, fun f hf => ?_⟩, ⟨?_, fun j hj => ?_⟩, ?_⟩
  · obtain ⟨b1, b2, b3, b4⟩ := hM.1 t ht
    have e1 := fx1 ht
    have e2 := (fxA ⟨245 + t, by omega⟩).2.1 (by show 245 ≤ 245 + t; omega) (by show 245 + t < 250; omega)
    have e3 := (fxA ⟨250 + t, by omega⟩).2.2.1 (by show 250 ≤ 250 + t; omega) (by show 250 + t < 255; omega)
    dsimp only at e2 e3
    have g1 := g t (by omega)
    have g2 := g (245 + t) (by omega)
    have g3 := g (250 + t) (by omega)
    rw [e1.1, e1.2] at g1
    rw [e2.1, e2.2, Nat.add_sub_cancel_left] at g2
    rw [e3.1, e3.2, Nat.add_sub_cancel_left] at g3
    refine ⟨g1.trans b1, g2.trans b2, g3.trans b3, fun i hi c hc => ?_⟩
    have hl := (hW.1 t ht).1
    have e4 := (fxA ⟨5 + (48 * t + (i * 3 + c)), by omega⟩).1 (by show 5 ≤ 5 + _; omega) (by show 5 + (48 * t + (i * 3 + c)) < 245; omega)
    dsimp only at e4
    have g4 := g (5 + (48 * t + (i * 3 + c))) (by omega)
    rw [e4.1, e4.2, Nat.add_sub_cancel_left] at g4
    exact g4.trans (b4 i hi c hc)
  · have g1 := g 295 (by decide)
    rw [((fxA ⟨295, by decide⟩).2.2.2.2.2.2.2.2 (by decide)).1, ((fxA ⟨295, by decide⟩).2.2.2.2.2.2.2.2 (by decide)).2] at g1; exact g1.trans hM.2.1.1
  · obtain ⟨a1, a2, a3⟩ := hM.2.1.2 f hf
    have h8 := hW.2.1.1
    have e1 := (fxA ⟨255 + f, by omega⟩).2.2.2.1 (by show 255 ≤ 255 + f; omega) (by show 255 + f < 263; omega)
    have e2 := (fxA ⟨263 + f, by omega⟩).2.2.2.2.1 (by show 263 ≤ 263 + f; omega) (by show 263 + f < 271; omega)
    have e3 := (fxA ⟨271 + f, by omega⟩).2.2.2.2.2.1 (by show 271 ≤ 271 + f; omega) (by show 271 + f < 279; omega)
    dsimp only at e1 e2 e3
    have g1 := g (255 + f) (by omega)
    have g2 := g (263 + f) (by omega)
    have g3 := g (271 + f) (by omega)
    rw [e1.1, e1.2, Nat.add_sub_cancel_left] at g1
    rw [e2.1, e2.2, Nat.add_sub_cancel_left] at g2
    rw [e3.1, e3.2, Nat.add_sub_cancel_left] at g3
    exact ⟨g1.trans a1, g2.trans a2, g3.trans a3⟩
  · have g1 := g 296 (by decide)
    rw [((fxA ⟨296, by decide⟩).2.2.2.2.2.2.2.2 (by decide)).1, ((fxA ⟨296, by decide⟩).2.2.2.2.2.2.2.2 (by decide)).2] at g1; exact g1.trans hM.2.2.1.1
  · obtain ⟨a1, a2⟩ := hM.2.2.1.2 j hj
    have h8 := hW.2.2.1
    have e1 := (fxA ⟨279 + j, by omega⟩).2.2.2.2.2.2.1 (by show 279 ≤ 279 + j; omega) (by show 279 + j < 287; omega)
    have e2 := (fxA ⟨287 + j, by omega⟩).2.2.2.2.2.2.2.1 (by show 287 ≤ 287 + j; omega) (by show 287 + j < 295; omega)
    dsimp only at e1 e2
    have g1 := g (279 + j) (by omega)
    have g2 := g (287 + j) (by omega)
    rw [e1.1, e1.2, Nat.add_sub_cancel_left] at g1
    rw [e2.1, e2.2, Nat.add_sub_cancel_left] at g2
    exact ⟨g1.trans a1, g2.trans a2⟩
  · have g1 := g 297 (by decide)
    rw [((fxA ⟨297, by decide⟩).2.2.2.2.2.2.2.2 (by decide)).1, ((fxA ⟨297, by decide⟩).2.2.2.2.2.2.2.2 (by decide)).2] at g1; exact g1.trans hM.2.2.2
theorem fxJ {c n k o : Nat} (h : ∀ j, c ≤ j → j < c + n → fcl j = k ∧ fix j = j - c) : ∀ j, j < n → fcl (c + j) = k ∧ fix (c + j) = j := fun j hj => by
  have := h (c + j) (by omega) (by omega)
  rwa [Nat.add_sub_cancel_left] at this
theorem fxR : ∀ r : Fin 298, (r.val < 5 → fcl r.val ≠ 108) ∧ (r.val < 245 → fcl r.val ≠ 109) ∧ (r.val < 250 → fcl r.val ≠ 110) ∧ (r.val < 255 → fcl r.val ≠ 111) ∧ (r.val < 263 → fcl r.val ≠ 112) ∧ (r.val < 271 → fcl r.val ≠ 113) ∧ (r.val < 279 → fcl r.val ≠ 114) ∧ (r.val < 287 → fcl r.val ≠ 115) ∧ (r.val < 295 → fcl r.val ≠ 105) := fun r => by
  unfold fcl
  refine ⟨fun h => ?_, fun h => ?_, fun h => ?_, fun h => ?_, fun h => ?_, fun h => ?_, fun h => ?_, fun h => ?_, fun h => ?_⟩
  all_goals (repeat' split)
  all_goals omega
theorem fxO10 : ∀ r, r < 295 → fcl r = 105 → fix r ≠ 10 ∧ fix r ≠ 58 := fun r hr e => absurd e ((fxR ⟨r, by omega⟩).2.2.2.2.2.2.2.2 hr)
theorem fxO11 : ∀ r, r < 296 → fcl r = 105 → fix r ≠ 11 ∧ fix r ≠ 58 := fun r hr e => by
  rcases Nat.lt_or_ge r 295 with g | g
  · exact absurd e ((fxR ⟨r, by omega⟩).2.2.2.2.2.2.2.2 g)
  · rw [show r = 295 by omega]; decide
theorem fxO12 : ∀ r, r < 297 → fcl r = 105 → fix r ≠ 12 ∧ fix r ≠ 58 := fun r hr e => by
  rcases Nat.lt_or_ge r 295 with g | g
  · exact absurd e ((fxR ⟨r, by omega⟩).2.2.2.2.2.2.2.2 g)
  · rcases Nat.lt_or_ge r 296 with g2 | g2
    · rw [show r = 295 by omega]; decide
    · rw [show r = 296 by omega]; decide
set_option maxHeartbeats 4000000 in
set_option maxRecDepth 100000 in
theorem c_X10_passesAll_k {κ : Kp} (hI : Ij κ) (l : Launch) (σ : St) {w : Wv} (hM : MW σ w) (hW : OKW w) : CtV κ l 1 yX10_passesAll cX10_passesAll 2 [.ref (κ.2.1 105), .int (iZ 1)] σ (fun σ' => MKe σ' w ∧ Fm S161 T57 σ σ') := by
  refine Ct.ofG (own := RX10) hI (by decide +kernel) rfl (Nat.le_of_ble_eq_true rfl) rfl ?_
  intro M C hMl
  refine g_aload_n C dX10_passesAll_0 rfl ?_
  refine g_iconst (z := 0) C dX10_passesAll_1 rfl ?_
  refine gp_X10_388 C dX10_passesAll_2 rfl ?_
  refine g_aload_n C dX10_passesAll_5 rfl ?_
  refine g_iload_n C dX10_passesAll_6 rfl ?_
  refine gp_X10_384 C dX10_passesAll_7 rfl (by omega) ?_
  have hP0 : Kpx σ (sI (sI σ 105 58 0) 105 57 1) 0 := ⟨fun r hr => absurd hr (Nat.not_lt_zero _), (rI_j (by decide)).trans rI_s, rI_s, (Fm.rf.t (by unfold T57; omega)).t (by unfold T57; omega)⟩
  generalize hqe : (sI (sI σ 105 58 0) 105 57 1) = q0 at hP0 ⊢
  refine g_aload_n C dX10_passesAll_10 rfl ?_
  refine g_pc (pc' := 11) rfl ?_
  refine g_aload_n C dX10_passesAll_11 rfl ?_
  refine gf_X10_13 C dX10_passesAll_12 rfl ?_
  refine gc_X10_391 C dX10_passesAll_15 rfl (c_X10_passes_k hI (Ml M) q0 (k := 107) (c := 0) (n := 5) rfl rfl (by decide) hP0.2.1 (by decide) hP0.2.2.1) (by decide) (Nat.le_of_ble_eq_true rfl) (fun q1 ⟨hq, h2⟩ => ?_)
  have hP1 := hP0.st hq h2 (by decide) (fxJ (o := 0) (c := 0) (n := 5) (fun j _ h2 => by have := fx1 (r := j) (by omega); rwa [Nat.sub_zero]))
  refine g_aload_n C dX10_passesAll_18 rfl ?_
  refine g_aload_n C dX10_passesAll_19 rfl ?_
  refine gf_X10_16 C dX10_passesAll_20 rfl ?_
  refine gc_X10_391 C dX10_passesAll_23 rfl (c_X10_passes_k hI (Ml M) q1 (k := 108) (c := 5) (n := 240) rfl rfl (by decide) hP1.2.1 (by decide) hP1.2.2.1) (by decide) (Nat.le_of_ble_eq_true rfl) (fun q2 ⟨hq, h2⟩ => ?_)
  have hP2 := hP1.st hq h2 (by decide) (fxJ (o := 0) (c := 5) (n := 240) (fun j h1 h2 => (fxA ⟨j, by omega⟩).1 h1 (by show j < 245; omega)))
  refine g_aload_n C dX10_passesAll_26 rfl ?_
  refine g_pc (pc' := 27) rfl ?_
  refine g_aload_n C dX10_passesAll_27 rfl ?_
  refine gf_X10_19 C dX10_passesAll_28 rfl ?_
  refine gc_X10_391 C dX10_passesAll_31 rfl (c_X10_passes_k hI (Ml M) q2 (k := 109) (c := 245) (n := 5) rfl rfl (by decide) hP2.2.1 (by decide) hP2.2.2.1) (by decide) (Nat.le_of_ble_eq_true rfl) (fun q3 ⟨hq, h2⟩ => ?_)
  have hP3 := hP2.st hq h2 (by decide) (fxJ (o := 0) (c := 245) (n := 5) (fun j h1 h2 => (fxA ⟨j, by omega⟩).2.1 h1 (by show j < 250; omega)))
  refine g_aload_n C dX10_passesAll_34 rfl ?_
  refine g_aload_n C dX10_passesAll_35 rfl ?_
  refine gf_X10_22 C dX10_passesAll_36 rfl ?_
  refine gc_X10_391 C dX10_passesAll_39 rfl (c_X10_passes_k hI (Ml M) q3 (k := 110) (c := 250) (n := 5) rfl rfl (by decide) hP3.2.1 (by decide) hP3.2.2.1) (by decide) (Nat.le_of_ble_eq_true rfl) (fun q4 ⟨hq, h2⟩ => ?_)
  have hP4 := hP3.st hq h2 (by decide) (fxJ (o := 0) (c := 250) (n := 5) (fun j h1 h2 => (fxA ⟨j, by omega⟩).2.2.1 h1 (by show j < 255; omega)))
  refine g_aload_n C dX10_passesAll_42 rfl ?_
  refine g_pc (pc' := 43) rfl ?_
  refine g_aload_n C dX10_passesAll_43 rfl ?_
  refine gf_X10_25 C dX10_passesAll_44 rfl ?_
  refine gc_X10_391 C dX10_passesAll_47 rfl (c_X10_passes_k hI (Ml M) q4 (k := 111) (c := 255) (n := 8) rfl rfl (by decide) hP4.2.1 (by decide) hP4.2.2.1) (by decide) (Nat.le_of_ble_eq_true rfl) (fun q5 ⟨hq, h2⟩ => ?_)
  have hP5 := hP4.st hq h2 (by decide) (fxJ (o := 0) (c := 255) (n := 8) (fun j h1 h2 => (fxA ⟨j, by omega⟩).2.2.2.1 h1 (by show j < 263; omega)))
  refine g_aload_n C dX10_passesAll_50 rfl ?_
  refine g_aload_n C dX10_passesAll_51 rfl ?_
  refine gf_X10_28 C dX10_passesAll_52 rfl ?_
  refine gc_X10_391 C dX10_passesAll_55 rfl (c_X10_passes_k hI (Ml M) q5 (k := 112) (c := 263) (n := 8) rfl rfl (by decide) hP5.2.1 (by decide) hP5.2.2.1) (by decide) (Nat.le_of_ble_eq_true rfl) (fun q6 ⟨hq, h2⟩ => ?_)
  have hP6 := hP5.st hq h2 (by decide) (fxJ (o := 0) (c := 263) (n := 8) (fun j h1 h2 => (fxA ⟨j, by omega⟩).2.2.2.2.1 h1 (by show j < 271; omega)))
  refine g_aload_n C dX10_passesAll_58 rfl ?_
  refine g_pc (pc' := 59) rfl ?_
  refine g_aload_n C dX10_passesAll_59 rfl ?_
  refine gf_X10_31 C dX10_passesAll_60 rfl ?_
  refine gc_X10_391 C dX10_passesAll_63 rfl (c_X10_passes_k hI (Ml M) q6 (k := 113) (c := 271) (n := 8) rfl rfl (by decide) hP6.2.1 (by decide) hP6.2.2.1) (by decide) (Nat.le_of_ble_eq_true rfl) (fun q7 ⟨hq, h2⟩ => ?_)
  have hP7 := hP6.st hq h2 (by decide) (fxJ (o := 0) (c := 271) (n := 8) (fun j h1 h2 => (fxA ⟨j, by omega⟩).2.2.2.2.2.1 h1 (by show j < 279; omega)))
  refine g_aload_n C dX10_passesAll_66 rfl ?_
  refine g_aload_n C dX10_passesAll_67 rfl ?_
  refine gf_X10_34 C dX10_passesAll_68 rfl ?_
  refine gc_X10_391 C dX10_passesAll_71 rfl (c_X10_passes_k hI (Ml M) q7 (k := 114) (c := 279) (n := 8) rfl rfl (by decide) hP7.2.1 (by decide) hP7.2.2.1) (by decide) (Nat.le_of_ble_eq_true rfl) (fun q8 ⟨hq, h2⟩ => ?_)
  have hP8 := hP7.st hq h2 (by decide) (fxJ (o := 0) (c := 279) (n := 8) (fun j h1 h2 => (fxA ⟨j, by omega⟩).2.2.2.2.2.2.1 h1 (by show j < 287; omega)))
  refine g_aload_n C dX10_passesAll_74 rfl ?_
  refine g_pc (pc' := 75) rfl ?_
  refine g_aload_n C dX10_passesAll_75 rfl ?_
  refine gf_X10_37 C dX10_passesAll_76 rfl ?_
  refine gc_X10_391 C dX10_passesAll_79 rfl (c_X10_passes_k hI (Ml M) q8 (k := 115) (c := 287) (n := 8) rfl rfl (by decide) hP8.2.1 (by decide) hP8.2.2.1) (by decide) (Nat.le_of_ble_eq_true rfl) (fun q9 ⟨hq, h2⟩ => ?_)
  have hP9 := hP8.st hq h2 (by decide) (fxJ (o := 0) (c := 287) (n := 8) (fun j h1 h2 => (fxA ⟨j, by omega⟩).2.2.2.2.2.2.2.1 h1 (by show j < 295; omega)))
  refine g_aload_n C dX10_passesAll_82 rfl ?_
  refine g_aload_n C dX10_passesAll_83 rfl ?_
  refine g_aload_n C dX10_passesAll_84 rfl ?_
  refine gf_X10_174 (z := (q9.1 105 10)) C dX10_passesAll_85 rfl rfl ?_
  refine gc_X10_395 C dX10_passesAll_88 rfl (c_X10_passOne_k hI (Ml M) q9 (c := 295) (v := (q9.1 105 10)) hP9.2.1 (by decide) hP9.2.2.1) (by decide) (Nat.le_of_ble_eq_true rfl) (fun z σ9 ⟨hz, hσ⟩ => ?_)
  subst z
  subst σ9
  refine g_pc (pc' := 91) rfl ?_
  refine gp_X10_174 C dX10_passesAll_91 rfl ?_
  have hP10 := hP9.one (s := 10) (v := (q9.1 105 10)) (by decide) (hP9.2.2.2.2 10 (by unfold T57; omega)) (rfl : (((295 : Nat) : Int) + 1) = _) (by decide)
  generalize hqe9 : (sI (sI (sI q9 161 295 (q9.1 105 10)) 105 58 (((295 : Nat) : Int) + 1)) 105 10 (q9.1 105 10)) = q10 at hP10 ⊢
  refine g_aload_n C dX10_passesAll_94 rfl ?_
  refine g_aload_n C dX10_passesAll_95 rfl ?_
  refine g_aload_n C dX10_passesAll_96 rfl ?_
  refine gf_X10_192 (z := (q10.1 105 11)) C dX10_passesAll_97 rfl rfl ?_
  refine gc_X10_395 C dX10_passesAll_100 rfl (c_X10_passOne_k hI (Ml M) q10 (c := 296) (v := (q10.1 105 11)) hP10.2.1 (by decide) hP10.2.2.1) (by decide) (Nat.le_of_ble_eq_true rfl) (fun z σ9 ⟨hz, hσ⟩ => ?_)
  subst z
  subst σ9
  refine gp_X10_192 C dX10_passesAll_103 rfl ?_
  have hP11 := hP10.one (s := 11) (v := (q10.1 105 11)) (by decide) (hP10.2.2.2.2 11 (by unfold T57; omega)) (rfl : (((296 : Nat) : Int) + 1) = _) (by decide)
  generalize hqe10 : (sI (sI (sI q10 161 296 (q10.1 105 11)) 105 58 (((296 : Nat) : Int) + 1)) 105 11 (q10.1 105 11)) = q11 at hP11 ⊢
  refine g_aload_n C dX10_passesAll_106 rfl ?_
  refine g_pc (pc' := 107) rfl ?_
  refine g_aload_n C dX10_passesAll_107 rfl ?_
  refine g_aload_n C dX10_passesAll_108 rfl ?_
  refine gf_X10_142 (z := (q11.1 105 12)) C dX10_passesAll_109 rfl rfl ?_
  refine gc_X10_395 C dX10_passesAll_112 rfl (c_X10_passOne_k hI (Ml M) q11 (c := 297) (v := (q11.1 105 12)) hP11.2.1 (by decide) hP11.2.2.1) (by decide) (Nat.le_of_ble_eq_true rfl) (fun z σ9 ⟨hz, hσ⟩ => ?_)
  subst z
  subst σ9
  refine gp_X10_142 C dX10_passesAll_115 rfl ?_
  have hP12 := hP11.one (s := 12) (v := (q11.1 105 12)) (by decide) (hP11.2.2.2.2 12 (by unfold T57; omega)) (rfl : (((297 : Nat) : Int) + 1) = _) (by decide)
  generalize hqe11 : (sI (sI (sI q11 161 297 (q11.1 105 12)) 105 58 (((297 : Nat) : Int) + 1)) 105 12 (q11.1 105 12)) = q12 at hP12 ⊢
  exact g_return C dX10_passesAll_118 ⟨hP12.fin hM hW, hP12.2.2.2⟩
set_option maxHeartbeats 4000000 in
set_option maxRecDepth 100000 in
theorem c_X10_passesAll_r {κ : Kp} (hI : Ij κ) (l : Launch) (σ : St) {w : Wv} (hM : MKe σ w) (hW : OKW w) : CtV κ l 1 yX10_passesAll cX10_passesAll 2 [.ref (κ.2.1 105), .int (iZ 0)] σ (fun σ' => MW σ' w ∧ Fm SWo TWo σ σ') := by
  refine Ct.ofG (own := RX10) hI (by decide +kernel) rfl (Nat.le_of_ble_eq_true rfl) rfl ?_
  intro M C hMl
  refine g_aload_n C dX10_passesAll_0 rfl ?_
  refine g_iconst (z := 0) C dX10_passesAll_1 rfl ?_
  refine gp_X10_388 C dX10_passesAll_2 rfl ?_
  refine g_aload_n C dX10_passesAll_5 rfl ?_
  refine g_iload_n C dX10_passesAll_6 rfl ?_
  refine gp_X10_384 C dX10_passesAll_7 rfl (by omega) ?_
  have hP0 : Rsx σ (sI (sI σ 105 58 0) 105 57 0) 0 := ⟨fun r hr => absurd hr (Nat.not_lt_zero _), fun r => (rI_k (by decide)).trans (rI_k (by decide)), (rI_j (by decide)).trans rI_s, rI_s, (Fm.rf.t (by unfold TWo; omega)).t (by unfold TWo; omega)⟩
  generalize hqe : (sI (sI σ 105 58 0) 105 57 0) = q0 at hP0 ⊢
  refine g_aload_n C dX10_passesAll_10 rfl ?_
  refine g_pc (pc' := 11) rfl ?_
  refine g_aload_n C dX10_passesAll_11 rfl ?_
  refine gf_X10_13 C dX10_passesAll_12 rfl ?_
  refine gc_X10_391 C dX10_passesAll_15 rfl (c_X10_passes_r hI (Ml M) q0 (k := 107) (c := 0) (n := 5) rfl rfl (by decide) hP0.2.2.1 (by decide) hP0.2.2.2.1) (by decide) (Nat.le_of_ble_eq_true rfl) (fun q1 ⟨hq, h2⟩ => ?_)
  have hP1 := hP0.st hq h2 (by decide) (by decide) (fxJ (o := 0) (c := 0) (n := 5) (fun j _ h2 => by have := fx1 (r := j) (by omega); rwa [Nat.sub_zero])) (fun r hr => absurd hr (Nat.not_lt_zero _))
  refine g_aload_n C dX10_passesAll_18 rfl ?_
  refine g_aload_n C dX10_passesAll_19 rfl ?_
  refine gf_X10_16 C dX10_passesAll_20 rfl ?_
  refine gc_X10_391 C dX10_passesAll_23 rfl (c_X10_passes_r hI (Ml M) q1 (k := 108) (c := 5) (n := 240) rfl rfl (by decide) hP1.2.2.1 (by decide) hP1.2.2.2.1) (by decide) (Nat.le_of_ble_eq_true rfl) (fun q2 ⟨hq, h2⟩ => ?_)
  have hP2 := hP1.st hq h2 (by decide) (by decide) (fxJ (o := 0) (c := 5) (n := 240) (fun j h1 h2 => (fxA ⟨j, by omega⟩).1 h1 (by show j < 245; omega))) (fun r hr => ⟨(fxR ⟨r, by omega⟩).1 hr, (fxR ⟨r, by omega⟩).2.2.2.2.2.2.2.2 (by show r < 295; omega)⟩)
  refine g_aload_n C dX10_passesAll_26 rfl ?_
  refine g_pc (pc' := 27) rfl ?_
  refine g_aload_n C dX10_passesAll_27 rfl ?_
  refine gf_X10_19 C dX10_passesAll_28 rfl ?_
  refine gc_X10_391 C dX10_passesAll_31 rfl (c_X10_passes_r hI (Ml M) q2 (k := 109) (c := 245) (n := 5) rfl rfl (by decide) hP2.2.2.1 (by decide) hP2.2.2.2.1) (by decide) (Nat.le_of_ble_eq_true rfl) (fun q3 ⟨hq, h2⟩ => ?_)
  have hP3 := hP2.st hq h2 (by decide) (by decide) (fxJ (o := 0) (c := 245) (n := 5) (fun j h1 h2 => (fxA ⟨j, by omega⟩).2.1 h1 (by show j < 250; omega))) (fun r hr => ⟨(fxR ⟨r, by omega⟩).2.1 hr, (fxR ⟨r, by omega⟩).2.2.2.2.2.2.2.2 (by show r < 295; omega)⟩)
  refine g_aload_n C dX10_passesAll_34 rfl ?_
  refine g_aload_n C dX10_passesAll_35 rfl ?_
  refine gf_X10_22 C dX10_passesAll_36 rfl ?_
  refine gc_X10_391 C dX10_passesAll_39 rfl (c_X10_passes_r hI (Ml M) q3 (k := 110) (c := 250) (n := 5) rfl rfl (by decide) hP3.2.2.1 (by decide) hP3.2.2.2.1) (by decide) (Nat.le_of_ble_eq_true rfl) (fun q4 ⟨hq, h2⟩ => ?_)
  have hP4 := hP3.st hq h2 (by decide) (by decide) (fxJ (o := 0) (c := 250) (n := 5) (fun j h1 h2 => (fxA ⟨j, by omega⟩).2.2.1 h1 (by show j < 255; omega))) (fun r hr => ⟨(fxR ⟨r, by omega⟩).2.2.1 hr, (fxR ⟨r, by omega⟩).2.2.2.2.2.2.2.2 (by show r < 295; omega)⟩)
  refine g_aload_n C dX10_passesAll_42 rfl ?_
  refine g_pc (pc' := 43) rfl ?_
  refine g_aload_n C dX10_passesAll_43 rfl ?_
  refine gf_X10_25 C dX10_passesAll_44 rfl ?_
  refine gc_X10_391 C dX10_passesAll_47 rfl (c_X10_passes_r hI (Ml M) q4 (k := 111) (c := 255) (n := 8) rfl rfl (by decide) hP4.2.2.1 (by decide) hP4.2.2.2.1) (by decide) (Nat.le_of_ble_eq_true rfl) (fun q5 ⟨hq, h2⟩ => ?_)
  have hP5 := hP4.st hq h2 (by decide) (by decide) (fxJ (o := 0) (c := 255) (n := 8) (fun j h1 h2 => (fxA ⟨j, by omega⟩).2.2.2.1 h1 (by show j < 263; omega))) (fun r hr => ⟨(fxR ⟨r, by omega⟩).2.2.2.1 hr, (fxR ⟨r, by omega⟩).2.2.2.2.2.2.2.2 (by show r < 295; omega)⟩)
  refine g_aload_n C dX10_passesAll_50 rfl ?_
  refine g_aload_n C dX10_passesAll_51 rfl ?_
  refine gf_X10_28 C dX10_passesAll_52 rfl ?_
  refine gc_X10_391 C dX10_passesAll_55 rfl (c_X10_passes_r hI (Ml M) q5 (k := 112) (c := 263) (n := 8) rfl rfl (by decide) hP5.2.2.1 (by decide) hP5.2.2.2.1) (by decide) (Nat.le_of_ble_eq_true rfl) (fun q6 ⟨hq, h2⟩ => ?_)
  have hP6 := hP5.st hq h2 (by decide) (by decide) (fxJ (o := 0) (c := 263) (n := 8) (fun j h1 h2 => (fxA ⟨j, by omega⟩).2.2.2.2.1 h1 (by show j < 271; omega))) (fun r hr => ⟨(fxR ⟨r, by omega⟩).2.2.2.2.1 hr, (fxR ⟨r, by omega⟩).2.2.2.2.2.2.2.2 (by show r < 295; omega)⟩)
  refine g_aload_n C dX10_passesAll_58 rfl ?_
  refine g_pc (pc' := 59) rfl ?_
  refine g_aload_n C dX10_passesAll_59 rfl ?_
  refine gf_X10_31 C dX10_passesAll_60 rfl ?_
  refine gc_X10_391 C dX10_passesAll_63 rfl (c_X10_passes_r hI (Ml M) q6 (k := 113) (c := 271) (n := 8) rfl rfl (by decide) hP6.2.2.1 (by decide) hP6.2.2.2.1) (by decide) (Nat.le_of_ble_eq_true rfl) (fun q7 ⟨hq, h2⟩ => ?_)
  have hP7 := hP6.st hq h2 (by decide) (by decide) (fxJ (o := 0) (c := 271) (n := 8) (fun j h1 h2 => (fxA ⟨j, by omega⟩).2.2.2.2.2.1 h1 (by show j < 279; omega))) (fun r hr => ⟨(fxR ⟨r, by omega⟩).2.2.2.2.2.1 hr, (fxR ⟨r, by omega⟩).2.2.2.2.2.2.2.2 (by show r < 295; omega)⟩)
  refine g_aload_n C dX10_passesAll_66 rfl ?_
  refine g_aload_n C dX10_passesAll_67 rfl ?_
  refine gf_X10_34 C dX10_passesAll_68 rfl ?_
  refine gc_X10_391 C dX10_passesAll_71 rfl (c_X10_passes_r hI (Ml M) q7 (k := 114) (c := 279) (n := 8) rfl rfl (by decide) hP7.2.2.1 (by decide) hP7.2.2.2.1) (by decide) (Nat.le_of_ble_eq_true rfl) (fun q8 ⟨hq, h2⟩ => ?_)
  have hP8 := hP7.st hq h2 (by decide) (by decide) (fxJ (o := 0) (c := 279) (n := 8) (fun j h1 h2 => (fxA ⟨j, by omega⟩).2.2.2.2.2.2.1 h1 (by show j < 287; omega))) (fun r hr => ⟨(fxR ⟨r, by omega⟩).2.2.2.2.2.2.1 hr, (fxR ⟨r, by omega⟩).2.2.2.2.2.2.2.2 (by show r < 295; omega)⟩)
  refine g_aload_n C dX10_passesAll_74 rfl ?_
  refine g_pc (pc' := 75) rfl ?_
  refine g_aload_n C dX10_passesAll_75 rfl ?_
  refine gf_X10_37 C dX10_passesAll_76 rfl ?_
  refine gc_X10_391 C dX10_passesAll_79 rfl (c_X10_passes_r hI (Ml M) q8 (k := 115) (c := 287) (n := 8) rfl rfl (by decide) hP8.2.2.1 (by decide) hP8.2.2.2.1) (by decide) (Nat.le_of_ble_eq_true rfl) (fun q9 ⟨hq, h2⟩ => ?_)
  have hP9 := hP8.st hq h2 (by decide) (by decide) (fxJ (o := 0) (c := 287) (n := 8) (fun j h1 h2 => (fxA ⟨j, by omega⟩).2.2.2.2.2.2.2.1 h1 (by show j < 295; omega))) (fun r hr => ⟨(fxR ⟨r, by omega⟩).2.2.2.2.2.2.2.1 hr, (fxR ⟨r, by omega⟩).2.2.2.2.2.2.2.2 (by show r < 295; omega)⟩)
  refine g_aload_n C dX10_passesAll_82 rfl ?_
  refine g_aload_n C dX10_passesAll_83 rfl ?_
  refine g_aload_n C dX10_passesAll_84 rfl ?_
  refine gf_X10_174 (z := (q9.1 105 10)) C dX10_passesAll_85 rfl rfl ?_
  refine gc_X10_395 C dX10_passesAll_88 rfl (c_X10_passOne_r hI (Ml M) q9 (c := 295) (v := (q9.1 105 10)) hP9.2.2.1 (by decide) hP9.2.2.2.1) (by decide) (Nat.le_of_ble_eq_true rfl) (fun z σ9 ⟨hz, hσ⟩ => ?_)
  subst z
  subst σ9
  refine g_pc (pc' := 91) rfl ?_
  refine gp_X10_174 C dX10_passesAll_91 rfl ?_
  have hP10 := hP9.one (s := 10) (v := (q9.1 161 295)) (by decide) rfl (rfl : (((295 : Nat) : Int) + 1) = _) (by decide) (fun r hr => fxO10 r hr)
  generalize hqe9 : (sI (sI q9 105 58 (((295 : Nat) : Int) + 1)) 105 10 (q9.1 161 295)) = q10 at hP10 ⊢
  refine g_aload_n C dX10_passesAll_94 rfl ?_
  refine g_aload_n C dX10_passesAll_95 rfl ?_
  refine g_aload_n C dX10_passesAll_96 rfl ?_
  refine gf_X10_192 (z := (q10.1 105 11)) C dX10_passesAll_97 rfl rfl ?_
  refine gc_X10_395 C dX10_passesAll_100 rfl (c_X10_passOne_r hI (Ml M) q10 (c := 296) (v := (q10.1 105 11)) hP10.2.2.1 (by decide) hP10.2.2.2.1) (by decide) (Nat.le_of_ble_eq_true rfl) (fun z σ9 ⟨hz, hσ⟩ => ?_)
  subst z
  subst σ9
  refine gp_X10_192 C dX10_passesAll_103 rfl ?_
  have hP11 := hP10.one (s := 11) (v := (q10.1 161 296)) (by decide) rfl (rfl : (((296 : Nat) : Int) + 1) = _) (by decide) (fun r hr => fxO11 r hr)
  generalize hqe10 : (sI (sI q10 105 58 (((296 : Nat) : Int) + 1)) 105 11 (q10.1 161 296)) = q11 at hP11 ⊢
  refine g_aload_n C dX10_passesAll_106 rfl ?_
  refine g_pc (pc' := 107) rfl ?_
  refine g_aload_n C dX10_passesAll_107 rfl ?_
  refine g_aload_n C dX10_passesAll_108 rfl ?_
  refine gf_X10_142 (z := (q11.1 105 12)) C dX10_passesAll_109 rfl rfl ?_
  refine gc_X10_395 C dX10_passesAll_112 rfl (c_X10_passOne_r hI (Ml M) q11 (c := 297) (v := (q11.1 105 12)) hP11.2.2.1 (by decide) hP11.2.2.2.1) (by decide) (Nat.le_of_ble_eq_true rfl) (fun z σ9 ⟨hz, hσ⟩ => ?_)
  subst z
  subst σ9
  refine gp_X10_142 C dX10_passesAll_115 rfl ?_
  have hP12 := hP11.one (s := 12) (v := (q11.1 161 297)) (by decide) rfl (rfl : (((297 : Nat) : Int) + 1) = _) (by decide) (fun r hr => fxO12 r hr)
  generalize hqe11 : (sI (sI q11 105 58 (((297 : Nat) : Int) + 1)) 105 12 (q11.1 161 297)) = q12 at hP12 ⊢
  exact g_return C dX10_passesAll_118 ⟨hP12.fin hM hW, hP12.2.2.2.2⟩
theorem MV.img {σ σ' : St} {V : Vw} (h : MV σ V) (hF : Fm S161 T57 (sI σ 105 56 1) σ') (hK : MKe σ' (vW V)) : MV σ' (V.1, (1, vW V), V.2.2) := by
  have g : Fm S161 (fun j => T57 j ∨ j = 56) σ σ' := (Fm.rf.t (Or.inr rfl)).tr (hF.mono (fun k e => e) (fun j e => Or.inl e))
  exact ⟨h.1.fm g (fun k _ _ e => by unfold S161 at e; omega) (fun j _ _ e => by unfold T57 at e; omega), ⟨(hF.2 56 (by unfold T57; omega)).trans rI_s, fun _ => hK⟩, h.2.2.1.fm g (fun k _ _ e => by unfold S161 at e; omega), h.2.2.2.1.fm g (fun k _ _ e => by unfold S161 at e; omega) (by unfold T57; omega), h.2.2.2.2.fm g (by unfold S161; omega) (by unfold T57; omega)⟩
set_option maxHeartbeats 4000000 in
set_option maxRecDepth 100000 in
theorem c_X10_image {κ : Kp} (hI : Ij κ) (l : Launch) (σ : St) {V : Vw} (hM : MV σ V) (hO : OKV V) : CtI κ l 2 yX10_image cX10_image 1 .int [.ref (κ.2.1 105)] σ (fun z σ' => z = (aImage V).1 ∧ MV σ' (aImage V).2 ∧ Fr YC σ σ') := by
  refine Ct.ofG (own := RX10) hI (by decide +kernel) rfl (Nat.le_of_ble_eq_true rfl) rfl ?_
  intro M C hMl
  refine g_aload_n C dX10_image_0 rfl ?_
  refine g_iconst (z := 1) C dX10_image_1 rfl ?_
  refine gp_X10_398 C dX10_image_2 rfl (by decide) ?_
  refine g_aload_n C dX10_image_5 rfl ?_
  refine g_iconst (z := 1) C dX10_image_6 rfl ?_
  refine gc_X10_401 C dX10_image_7 rfl (c_X10_passesAll_k hI (Ml M) (sI σ 105 56 1) (w := vW V) (hM.1.fm (S := fun _ => False) (T := fun j => j = 56) (Fm.rf.t rfl) (fun _ _ _ e => e) (fun j _ _ e => by omega)) hO.1) (by decide) (Nat.le_of_ble_eq_true rfl) (fun σ1 ⟨hK, hF⟩ => ?_)
  have hM1 := hM.img hF hK
  refine g_aload_n C dX10_image_10 rfl ?_
  refine g_pc (pc' := 11) rfl ?_
  refine gc_X10_405 C dX10_image_11 rfl (c_X10_allLines hI (Ml M) σ1 hM1.1 hO.l) (by decide) (Nat.le_of_ble_eq_true rfl) (fun z σ9 ⟨hz, hσ⟩ => ?_)
  subst σ9
  exact g_ireturn C dX10_image_14 ⟨hz, hM1, (Fr.rf.sI (by unfold YC; omega)).tr (hF.toY (fun k e => by unfold S161 at e; omega))⟩
set_option maxHeartbeats 4000000 in
set_option maxRecDepth 100000 in
theorem c_X10_restore {κ : Kp} (hI : Ij κ) (l : Launch) (σ : St) {V : Vw} (hM : MV σ V) (hO : OKV V) : CtI κ l 2 yX10_restore cX10_restore 1 .int [.ref (κ.2.1 105)] σ (fun z σ' => z = (aRestore V).1 ∧ MV σ' (aRestore V).2 ∧ Fr YC σ σ') := by
  refine Ct.ofG (own := RX10) hI (by decide +kernel) rfl (Nat.le_of_ble_eq_true rfl) rfl ?_
  intro M C hMl
  have hh1 := hO.2.1.1
  refine g_aload_n C dX10_restore_0 rfl ?_
  refine gf_X10_398 (z := (vHas V : Int)) C dX10_restore_1 rfl hM.2.1.1 ?_
  refine g_if_ne (tgt := 14) C dX10_restore_4 (by decide) (by unfold R32; omega) (fun h1 => ?_) (fun h1 => ?_)
  · refine g_aload_n C dX10_restore_14 rfl ?_
    refine g_iconst (z := 0) C dX10_restore_15 rfl ?_
    have hv1 : vHas V = 1 := by omega
    refine gc_X10_401 C dX10_restore_16 rfl (c_X10_passesAll_r hI (Ml M) σ (w := vIm V) (hM.2.1.2 hv1) (hO.2.1.2 hv1)) (by decide) (Nat.le_of_ble_eq_true rfl) (fun σ1 ⟨hK, hF⟩ => ?_)
    have hM1 : MV σ1 (vIm V, V.2) := hM.wor (hF.mono (fun k e => by unfold SWo at e; unfold SW; omega) (fun j e => by unfold TWo at e; unfold SWt SX; omega)) hK
    refine g_aload_n C dX10_restore_19 rfl ?_
    refine g_pc (pc' := 20) rfl ?_
    refine gc_X10_405 C dX10_restore_20 rfl (c_X10_allLines hI (Ml M) σ1 hM1.1 (fun t ht => ((hO.2.1.2 hv1).1 t ht).1)) (by decide) (Nat.le_of_ble_eq_true rfl) (fun z σ9 ⟨hz, hσ⟩ => ?_)
    subst σ9
    exact g_ireturn C dX10_restore_23 (by rw [show aRestore V = ((wsum (vIm V) 5 : Int), (vIm V, V.2)) by unfold aRestore; (first | rw [if_pos (by omega)] | rw [if_neg (by omega)])]; exact ⟨hz, hM1, hF.toY (fun k e => by unfold SWo at e; omega)⟩)
  · refine g_aload_n C dX10_restore_7 rfl ?_
    refine g_bipush (z := (-6)) C dX10_restore_8 rfl ?_
    refine gc_X10_274 C dX10_restore_10 rfl (c_X10_no hI (Ml M) σ (y := 6) (v := (-6)) (by first | rfl | omega) (by decide)) (by decide) (Nat.le_of_ble_eq_true rfl) (fun z σ9 ⟨hz, hσ⟩ => ?_)
    subst z
    subst σ9
    exact g_ireturn C dX10_restore_13 (by rw [show aRestore V = rfs 6 V by unfold aRestore; (first | rw [if_pos (by omega)] | rw [if_neg (by omega)])]; exact ⟨rfl, hM.ref (by omega), YC.ref⟩)

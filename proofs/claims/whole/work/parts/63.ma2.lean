/-! THE MODEL: shelves -/
def Ssh (k : Nat) : Prop := 146 ≤ k ∧ k ≤ 151
theorem MV.hd {σ : St} {V : Vw} (h : MV σ V) (hO : OKV V) {s : Nat} (hs : s < 8) : (sK (vSh V) s = 0 ∧ σ.1 146 s = 0) ∨ (sK (vSh V) s = 1 ∧ σ.1 146 s = 100 + (sO (vSh V) s : Int) ∧ sO (vSh V) s ≤ 3 ∧ σ.1 147 s = (sN (vSh V) s : Int) ∧ sN (vSh V) s ≤ 160) ∨ (sK (vSh V) s = 2 ∧ σ.1 146 s = 200 + sD (vSh V) s 0 ∧ 0 ≤ sD (vSh V) s 0 ∧ sD (vSh V) s 0 ≤ 4) := by
  obtain ⟨a0, a1, a2⟩ := h.2.2.1 s hs
  obtain ⟨b0, b1, b2⟩ := hO.2.2.1 s hs
  have : sK (vSh V) s = 0 ∨ sK (vSh V) s = 1 ∨ sK (vSh V) s = 2 := by omega
  rcases this with e | e | e
  · exact Or.inl ⟨e, a0 e⟩
  · obtain ⟨c1, c2, -⟩ := a1 e
    exact Or.inr (Or.inl ⟨e, c1, (b1 e).1, c2, (b1 e).2⟩)
  · exact Or.inr (Or.inr ⟨e, (a2 e).1, (b2 e).1⟩)
theorem MV.shelf {σ σ' : St} {V : Vw} {s k o n : Nat} {e : Nat → Int64} {d : Nat → Int} (h : MV σ V) (hO : OKV V) (hs : s < 8) (hF : Fm Ssh NoT σ σ') (hA : ∀ a q, 146 ≤ a → a ≤ 150 → q ≠ s → σ'.1 a q = σ.1 a q) (hE : ∀ q, (q < 160 * s ∨ 160 * s + 160 ≤ q) → σ'.2.2 151 q = σ.2.2 151 q) (h0 : k = 0 → σ'.1 146 s = 0) (h1 : k = 1 → σ'.1 146 s = 100 + (o : Int) ∧ σ'.1 147 s = (n : Int) ∧ ∀ i, i < n → σ'.2.2 151 (160 * s + i) = e i) (h2 : k = 2 → σ'.1 146 s = 200 + d 0 ∧ σ'.1 148 s = d 3 ∧ σ'.1 149 s = d 4 ∧ σ'.1 150 s = abt d) : MV σ' (vSet V (hset (vSh V) s k o n e d)) ∧ Fr YC σ σ' := by
  refine ⟨⟨h.1.fm hF (fun k _ _ e => by unfold Ssh at e; omega) (fun j _ _ e => e), h.2.1.fm hF (fun e => by unfold Ssh at e; omega) (fun e => e), fun a ha => ?_, h.2.2.2.1.fm hF (fun k _ _ e => by unfold Ssh at e; omega) (fun e => e), h.2.2.2.2.fm hF (fun e => by unfold Ssh at e; omega) (fun e => e)⟩, hF.toY (fun k e => by unfold Ssh at e; omega)⟩
  show (sK (hset (vSh V) s k o n e d) a = 0 → _) ∧ (sK (hset (vSh V) s k o n e d) a = 1 → _ = 100 + (sO (hset (vSh V) s k o n e d) a : Int) ∧ _ = (sN (hset (vSh V) s k o n e d) a : Int) ∧ ∀ i, i < sN (hset (vSh V) s k o n e d) a → _ = sE (hset (vSh V) s k o n e d) a i) ∧ (sK (hset (vSh V) s k o n e d) a = 2 → _ = 200 + sD (hset (vSh V) s k o n e d) a 0 ∧ _ = sD (hset (vSh V) s k o n e d) a 3 ∧ _ = sD (hset (vSh V) s k o n e d) a 4 ∧ _ = abt (sD (hset (vSh V) s k o n e d) a))
  by_cases has : a = s
  · subst has
    obtain ⟨e1, e2, e3, e4, e5⟩ := hset_s (h := vSh V) (s := a) (k := k) (o := o) (n := n) (e := e) (d := d)
    rw [e1, e2, e3, e5]
    refine ⟨h0, fun q => ?_, h2⟩
    obtain ⟨g1, g2, g3⟩ := h1 q
    exact ⟨g1, g2, fun i hi => (g3 i hi).trans (congrFun e4 i).symm⟩
  · obtain ⟨e1, e2, e3, e4, e5⟩ := hset_n (h := vSh V) (s := s) (a := a) (k := k) (o := o) (n := n) (e := e) (d := d) has
    rw [e1, e2, e3, e5, hA 146 a (by decide) (by decide) has, hA 147 a (by decide) (by decide) has, hA 148 a (by decide) (by decide) has, hA 149 a (by decide) (by decide) has, hA 150 a (by decide) (by decide) has]
    obtain ⟨c0, c1, c2⟩ := h.2.2.1 a ha
    refine ⟨c0, fun q => ?_, c2⟩
    obtain ⟨d1, d2, d3⟩ := c1 q
    have hn := ((hO.2.2.1 a ha).2.1 q).2
    refine ⟨d1, d2, fun i hi => ?_⟩
    rw [hE _ (by omega), d3 i hi]
    exact (congrFun e4 i).symm
set_option maxHeartbeats 4000000 in
set_option maxRecDepth 100000 in
theorem c_X10_isRow {κ : Kp} (hI : Ij κ) (l : Launch) (σ : St) {s : Nat} {zs : Int} (hs : zs = (s : Int)) (hs8 : s < 8) (hr : R32 (σ.1 146 s)) : CtI κ l 1 yX10_isRow cX10_isRow 2 .boolean [.ref (κ.2.1 105), .int (iZ zs)] σ (fun z σ' => z = bZ (100 ≤ σ.1 146 s ∧ σ.1 146 s ≤ 199) ∧ σ' = σ) := by
  refine Ct.ofG (own := RX10) hI (by decide +kernel) rfl (Nat.le_of_ble_eq_true rfl) rfl ?_
  intro M C hMl
  refine g_aload_n C dX10_isRow_0 rfl ?_
  refine gf_X10_101 C dX10_isRow_1 rfl ?_
  refine g_iload_n C dX10_isRow_4 rfl ?_
  refine g_iaz (n := s) (N := 8) (v := (σ.1 146 s)) C dX10_isRow_5 rfl rfl (by omega) (by omega) (by decide) rfl ?_
  refine g_bipush (z := 100) C dX10_isRow_6 rfl ?_
  refine g_sipush (z := 199) C dX10_isRow_8 rfl ?_
  refine gc_X10_145 C dX10_isRow_11 (c_X10_isIn hI (Ml M) σ (v := (σ.1 146 s)) (a := 100) (b := 199) (by unfold R32; omega) (by unfold R32; omega) (by unfold R32; omega)) (by decide) (Nat.le_of_ble_eq_true rfl) (fun z σ9 ⟨hz, hσ⟩ => ?_)
  subst z
  subst σ9
  refine g_pc (pc' := 14) rfl ?_
  exact g_zreturn C dX10_isRow_14 (bZ_01 _) ⟨rfl, rfl⟩
set_option maxHeartbeats 4000000 in
set_option maxRecDepth 100000 in
theorem c_X10_lowest {κ : Kp} (hI : Ij κ) (l : Launch) (σ : St) {so : Int} {v : Int64} (hso : 0 ≤ so ∧ so ≤ 3) : CtJ κ l 0 yX10_lowest cX10_lowest 3 [.int (iZ so), .long v] σ (fun z σ' => z = lowb so v ∧ σ' = σ) := by
  refine Ct.ofG (own := RX10) hI (by decide +kernel) rfl (Nat.le_of_ble_eq_true rfl) rfl ?_
  intro M C hMl
  refine g_iload_n C dX10_lowest_0 rfl ?_
  refine g_if_ne (tgt := 11) C dX10_lowest_1 (by decide) (by unfold R32; omega) (fun h1 => ?_) (fun h1 => ?_)
  · refine g_iload_n C dX10_lowest_11 rfl ?_
    refine g_iconst (z := 1) C dX10_lowest_12 rfl ?_
    refine g_icmp_ne (tgt := 23) C dX10_lowest_13 (by decide) (by unfold R32; omega) (fun h2 => ?_) (fun h2 => ?_)
    · refine g_iload_n C dX10_lowest_23 rfl ?_
      refine g_iconst (z := 2) C dX10_lowest_24 rfl ?_
      refine g_pc (pc' := 25) rfl ?_
      refine g_icmp_ne (tgt := 34) C dX10_lowest_25 (by decide) (by unfold R32; omega) (fun h3 => ?_) (fun h3 => ?_)
      · refine g_lload_n C dX10_lowest_34 rfl ?_
        exact g_lreturn C dX10_lowest_35 ⟨by unfold lowb; first | rw [if_pos (by omega)] | rw [if_neg (by omega), if_pos (by omega)] | rw [if_neg (by omega), if_neg (by omega), if_pos (by omega)] | rw [if_neg (by omega), if_neg (by omega), if_neg (by omega)], rfl⟩
      · refine g_lload_n C dX10_lowest_28 rfl ?_
        refine g_l2i C dX10_lowest_29 ?_
        refine g_i2l C dX10_lowest_30 ?_
        refine g_goto (tgt := 35) C dX10_lowest_31 (by decide) ?_
        exact g_lreturn C dX10_lowest_35 ⟨by unfold lowb; first | rw [if_pos (by omega)] | rw [if_neg (by omega), if_pos (by omega)] | rw [if_neg (by omega), if_neg (by omega), if_pos (by omega)] | rw [if_neg (by omega), if_neg (by omega), if_neg (by omega)], rfl⟩
    · refine g_pc (pc' := 16) rfl ?_
      refine g_lload_n C dX10_lowest_16 rfl ?_
      refine g_l2i C dX10_lowest_17 ?_
      refine g_i2s C dX10_lowest_18 ?_
      refine g_i2l C dX10_lowest_19 ?_
      refine g_goto (tgt := 35) C dX10_lowest_20 (by decide) ?_
      exact g_lreturn C dX10_lowest_35 ⟨by unfold lowb; first | rw [if_pos (by omega)] | rw [if_neg (by omega), if_pos (by omega)] | rw [if_neg (by omega), if_neg (by omega), if_pos (by omega)] | rw [if_neg (by omega), if_neg (by omega), if_neg (by omega)], rfl⟩
  · refine g_lload_n C dX10_lowest_4 rfl ?_
    refine g_l2i C dX10_lowest_5 ?_
    refine g_pc (pc' := 6) rfl ?_
    refine g_i2b C dX10_lowest_6 ?_
    refine g_i2l C dX10_lowest_7 ?_
    refine g_goto (tgt := 35) C dX10_lowest_8 (by decide) ?_
    exact g_lreturn C dX10_lowest_35 ⟨by unfold lowb; first | rw [if_pos (by omega)] | rw [if_neg (by omega), if_pos (by omega)] | rw [if_neg (by omega), if_neg (by omega), if_pos (by omega)] | rw [if_neg (by omega), if_neg (by omega), if_neg (by omega)], rfl⟩
set_option maxHeartbeats 4000000 in
set_option maxRecDepth 100000 in
theorem c_X10_notRow {κ : Kp} (hI : Ij κ) (l : Launch) (σ : St) {V : Vw} (hM : MV σ V) (hO : OKV V) {x : Int} (hx : R32 x) : CtI κ l 2 yX10_notRow cX10_notRow 2 .int [.ref (κ.2.1 105), .int (iZ x)] σ (fun z σ' => z = -(wnr V x : Int) ∧ σ' = σ) := by
  refine Ct.ofG (own := RX10) hI (by decide +kernel) rfl (Nat.le_of_ble_eq_true rfl) rfl ?_
  intro M C hMl
  refine g_iload_n C dX10_notRow_0 rfl ?_
  refine gc_X10_315 C dX10_notRow_1 (c_X10_isShelf hI (Ml M) σ (v := x) (by unfold R32; omega)) (by decide) (Nat.le_of_ble_eq_true rfl) (fun z σ9 ⟨hz, hσ⟩ => ?_)
  subst z
  subst σ9
  refine g_ifb_ne (tgt := 11) C dX10_notRow_4 (by decide) (fun h1 => ?_) (fun h1 => ?_)
  · have hhx := hM.hd hO (s := x.toNat) (by omega)
    refine g_aload_n C dX10_notRow_11 rfl ?_
    refine gf_X10_101 C dX10_notRow_12 rfl ?_
    refine g_iload_n C dX10_notRow_15 rfl ?_
    refine g_iaz (n := x.toNat) (N := 8) (v := (σ.1 146 x.toNat)) C dX10_notRow_16 rfl rfl (by omega) (by omega) (by decide) rfl ?_
    refine g_pc (pc' := 17) rfl ?_
    refine g_sipush (z := 200) C dX10_notRow_17 rfl ?_
    refine g_icmp_lt (tgt := 28) C dX10_notRow_20 (by decide) (by unfold R32; omega) (fun h2 => ?_) (fun h2 => ?_)
    · refine g_aload_n C dX10_notRow_28 rfl ?_
      refine gf_X10_101 C dX10_notRow_29 rfl ?_
      refine g_iload_n C dX10_notRow_32 rfl ?_
      refine g_iaz (n := x.toNat) (N := 8) (v := (σ.1 146 x.toNat)) C dX10_notRow_33 rfl rfl (by omega) (by omega) (by decide) rfl ?_
      refine g_if_ne (tgt := 42) C dX10_notRow_34 (by decide) (by unfold R32; omega) (fun h3 => ?_) (fun h3 => ?_)
      · refine g_iconst (z := 0) C dX10_notRow_42 rfl ?_
        refine g_pc (pc' := 43) rfl ?_
        exact g_ireturn C dX10_notRow_43 ⟨by have hw := wnr_int V x; (first | rw [if_pos (by omega), if_pos (by omega)] at hw | rw [if_pos (by omega), if_neg (by omega), if_pos (by omega)] at hw | rw [if_pos (by omega), if_neg (by omega), if_neg (by omega)] at hw | rw [if_neg (by omega)] at hw); omega, rfl⟩
      · refine g_bipush (z := (-3)) C dX10_notRow_37 rfl ?_
        refine g_goto (tgt := 43) C dX10_notRow_39 (by decide) ?_
        exact g_ireturn C dX10_notRow_43 ⟨by have hw := wnr_int V x; (first | rw [if_pos (by omega), if_pos (by omega)] at hw | rw [if_pos (by omega), if_neg (by omega), if_pos (by omega)] at hw | rw [if_pos (by omega), if_neg (by omega), if_neg (by omega)] at hw | rw [if_neg (by omega)] at hw); omega, rfl⟩
    · refine g_bipush (z := (-2)) C dX10_notRow_23 rfl ?_
      refine g_goto (tgt := 43) C dX10_notRow_25 (by decide) ?_
      exact g_ireturn C dX10_notRow_43 ⟨by have hw := wnr_int V x; (first | rw [if_pos (by omega), if_pos (by omega)] at hw | rw [if_pos (by omega), if_neg (by omega), if_pos (by omega)] at hw | rw [if_pos (by omega), if_neg (by omega), if_neg (by omega)] at hw | rw [if_neg (by omega)] at hw); omega, rfl⟩
  · refine g_iconst (z := (-1)) C dX10_notRow_7 rfl ?_
    refine g_pc (pc' := 8) rfl ?_
    refine g_goto (tgt := 43) C dX10_notRow_8 (by decide) ?_
    exact g_ireturn C dX10_notRow_43 ⟨by have hw := wnr_int V x; (first | rw [if_pos (by omega), if_pos (by omega)] at hw | rw [if_pos (by omega), if_neg (by omega), if_pos (by omega)] at hw | rw [if_pos (by omega), if_neg (by omega), if_neg (by omega)] at hw | rw [if_neg (by omega)] at hw); omega, rfl⟩
set_option maxHeartbeats 4000000 in
set_option maxRecDepth 100000 in
theorem c_X10_row {κ : Kp} (hI : Ij κ) (l : Launch) (σ : St) {V : Vw} (hM : MV σ V) (hO : OKV V) {x so n : Int} (hx : R32 x) (hso : R32 so) (hn : R32 n) : CtI κ l 2 yX10_row cX10_row 6 .int [.ref (κ.2.1 105), .int (iZ x), .int (iZ so), .int (iZ n)] σ (fun z σ' => z = (aRow V x so n).1 ∧ MV σ' (aRow V x so n).2 ∧ Fr YC σ σ') := by
  refine Ct.ofG (own := RX10) hI (by decide +kernel) rfl (Nat.le_of_ble_eq_true rfl) rfl ?_
  intro M C hMl
  refine g_iload_n C dX10_row_0 rfl ?_
  refine gc_X10_315 C dX10_row_1 (c_X10_isShelf hI (Ml M) σ (v := x) (by unfold R32; omega)) (by decide) (Nat.le_of_ble_eq_true rfl) (fun z σ9 ⟨hz, hσ⟩ => ?_)
  subst z
  subst σ9
  refine g_ifb_ne (tgt := 11) C dX10_row_4 (by decide) (fun h1 => ?_) (fun h1 => ?_)
  · refine g_iload_n C dX10_row_11 rfl ?_
    refine g_if_ge (tgt := 20) C dX10_row_12 (by decide) (by unfold R32; omega) (fun h2 => ?_) (fun h2 => ?_)
    · refine g_iload_n C dX10_row_20 rfl ?_
      refine g_iconst (z := 0) C dX10_row_21 rfl ?_
      refine g_pc (pc' := 22) rfl ?_
      refine g_iconst (z := 3) C dX10_row_22 rfl ?_
      refine gc_X10_145 C dX10_row_23 (c_X10_isIn hI (Ml M) σ (v := so) (a := 0) (b := 3) (by unfold R32; omega) (by unfold R32; omega) (by unfold R32; omega)) (by decide) (Nat.le_of_ble_eq_true rfl) (fun z σ9 ⟨hz, hσ⟩ => ?_)
      subst z
      subst σ9
      refine g_ifb_ne (tgt := 34) C dX10_row_26 (by decide) (fun h3 => ?_) (fun h3 => ?_)
      · refine g_iload_n C dX10_row_34 rfl ?_
        refine g_sipush (z := 160) C dX10_row_35 rfl ?_
        refine g_icmp_le (tgt := 46) C dX10_row_38 (by decide) (by unfold R32; omega) (fun h4 => ?_) (fun h4 => ?_)
        · refine g_iconst (z := 0) C dX10_row_46 rfl ?_
          refine g_istore (L' := [(4, .int (iZ 0)), (0, .ref (κ.2.1 105)), (1, .int (iZ x)), (2, .int (iZ so)), (3, .int (iZ n))]) C dX10_row_47 (by decide) rfl ?_
          refine g_pc (pc' := 49) rfl ?_
          refine g_iload C dX10_row_49 rfl ?_
          refine g_if_eq (tgt := 61) C dX10_row_51 (by decide) (by unfold R32; omega) (fun h5 => ?_) (fun h5 => ?_)
          · refine g_aload_n C dX10_row_61 rfl ?_
            refine gf_X10_101 C dX10_row_62 rfl ?_
            refine g_iload_n C dX10_row_65 rfl ?_
            refine g_bipush (z := 100) C dX10_row_66 rfl ?_
            refine g_iload_n C dX10_row_68 rfl ?_
            refine g_iadd C dX10_row_69 ?_
            refine g_pc (pc' := 70) rfl ?_
            refine g_iast (n := x.toNat) (N := 8) C dX10_row_70 rfl rfl (by omega) (by omega) (by decide) ?_
            refine g_aload_n C dX10_row_71 rfl ?_
            refine gf_X10_104 C dX10_row_72 rfl ?_
            refine g_iload_n C dX10_row_75 rfl ?_
            refine g_iload_n C dX10_row_76 rfl ?_
            refine g_iast (n := x.toNat) (N := 8) C dX10_row_77 rfl rfl (by omega) (by omega) (by decide) ?_
            refine g_iconst (z := 0) C dX10_row_78 rfl ?_
            refine g_istore (L' := [(5, .int (iZ 0)), (4, .int (iZ 0)), (0, .ref (κ.2.1 105)), (1, .int (iZ x)), (2, .int (iZ so)), (3, .int (iZ n))]) C dX10_row_79 (by decide) rfl ?_
            have lp81 : ∀ (fz9 : Nat) (i : Nat) (x5 : Int) (q : St), (n.toNat - i < fz9) → (x5 = (i : Int)) → ((i : Int) ≤ n) → (q.1 = (sI (sI σ 146 x.toNat (100 + so)) 147 x.toNat n).1) → (q.2.1 = σ.2.1) → (∀ k, k ≠ 151 → q.2.2 k = σ.2.2 k) → (∀ r, r < i → q.2.2 151 (160 * x.toNat + r) = 0) → (∀ r, (r < 160 * x.toNat ∨ 160 * x.toNat + 160 ≤ r) → q.2.2 151 r = σ.2.2 151 r) → ((0 ≤ x ∧ x < 8) ∧ (0 ≤ so ∧ so ≤ 3) ∧ 0 ≤ n ∧ n ≤ 160) → G M κ 6 (En M κ (qI κ (fun z σ' => z = (aRow V x so n).1 ∧ MV σ' (aRow V x so n).2 ∧ Fr YC σ σ'))) 81 [(0, .ref (κ.2.1 105)), (1, .int (iZ x)), (2, .int (iZ so)), (3, .int (iZ n)), (4, .int (iZ 0)), (5, .int (iZ x5))] [] q := by
              intro fz9
              induction fz9 with
              | zero => intro i x5 q hm0; exact absurd hm0 (Nat.not_lt_zero _)
              | succ fz9 ih81 =>
                intro i x5 q hm81 hx5 hi hq1 hq2 hq3 hq4 hq5 hxx
                refine g_pc (pc' := 81) rfl ?_
                refine g_iload C dX10_row_81 rfl ?_
                refine g_iload_n C dX10_row_83 rfl ?_
                refine g_icmp_ge (tgt := 107) C dX10_row_84 (by decide) (by unfold R32; omega) (fun h6 => ?_) (fun h6 => ?_)
                · refine g_iconst (z := 1) C dX10_row_107 rfl ?_
                  exact g_ireturn C dX10_row_108 (by rw [show aRow V x so n = (1, vSet V (hset (vSh V) x.toNat 1 so.toNat n.toNat (fun _ => 0) (sD (vSh V) x.toNat))) by unfold aRow; (first | rw [if_pos (by omega)] | rw [if_neg (by omega), if_pos (by omega)] | rw [if_neg (by omega), if_neg (by omega), if_pos (by omega)] | rw [if_neg (by omega), if_neg (by omega), if_neg (by omega), if_pos (by omega)] | rw [if_neg (by omega), if_neg (by omega), if_neg (by omega), if_neg (by omega)])]; exact ⟨rfl, hM.shelf hO (by omega) ⟨fun k h1 h2 => ⟨by rw [hq1]; exact (sI_ne (fun e => h2 (by unfold Ssh; omega))).trans (sI_ne (fun e => h2 (by unfold Ssh; omega))), by rw [hq2], hq3 k (fun e => h2 (by unfold Ssh; omega))⟩, fun j _ => by rw [hq1]; exact (rI_k (by decide)).trans (rI_k (by decide))⟩ (fun a r _ _ hr => by rw [hq1]; exact (rI_q hr).trans (rI_q hr)) hq5 (fun e => by omega) (fun _ => ⟨by rw [hq1, rI_k (by decide), rI_s]; omega, by rw [hq1, rI_s]; omega, fun r hr => hq4 r (by omega)⟩) (fun e => by omega)⟩)
                · refine g_aload_n C dX10_row_87 rfl ?_
                  refine gf_X10_116 C dX10_row_88 rfl ?_
                  refine g_sipush (z := 160) C dX10_row_91 rfl ?_
                  refine g_pc (pc' := 94) rfl ?_
                  refine g_iload_n C dX10_row_94 rfl ?_
                  refine g_imul C dX10_row_95 ?_
                  refine g_iload C dX10_row_96 rfl ?_
                  refine g_iadd C dX10_row_98 ?_
                  refine g_lconst0 C dX10_row_99 ?_
                  refine g_last (n := ((160 * x.toNat) + i)) (N := 1280) C dX10_row_100 rfl rfl (by omega) (by omega) (by decide) ?_
                  refine g_iinc (q := 5) (v := (x5 + 1)) (L' := [(5, .int (iZ (x5 + 1))), (0, .ref (κ.2.1 105)), (1, .int (iZ x)), (2, .int (iZ so)), (3, .int (iZ n)), (4, .int (iZ 0))]) C dX10_row_101 rfl rfl (by decide) rfl ?_
                  refine g_goto (tgt := 81) C dX10_row_104 (by decide) ?_
                  exact g_loc [1, 2, 3, 4, 5, 0] (by rfl) (ih81 (i + 1) (x5 + 1) (sL q 151 ((160 * x.toNat) + i) 0) (by omega) (by omega) (by omega) hq1 hq2 (fun k hk => (sL_ne hk).trans (hq3 k hk)) (fun r hr => by rcases Nat.lt_or_ge r i with k | k; (rw [rL_j (by omega)]; exact hq4 r k); (rw [show 160 * x.toNat + r = 160 * x.toNat + i by omega]; exact rL_s)) (fun r hr => by rw [rL_j (by omega)]; exact hq5 r hr) hxx)
            exact g_loc [2, 3, 4, 5, 1, 0] (by rfl) (lp81 _ 0 0 (sI (sI σ 146 x.toNat (100 + so)) 147 x.toNat n) (Nat.lt_succ_self _) rfl (by omega) rfl rfl (fun _ _ => rfl) (fun r hr => absurd hr (Nat.not_lt_zero _)) (fun _ _ => rfl) ⟨by omega, by omega, by omega⟩)
          · exfalso; omega
        · refine g_pc (pc' := 41) rfl ?_
          refine g_bipush (z := (-7)) C dX10_row_41 rfl ?_
          refine g_goto (tgt := 47) C dX10_row_43 (by decide) ?_
          refine g_istore (L' := [(4, .int (iZ (-7))), (0, .ref (κ.2.1 105)), (1, .int (iZ x)), (2, .int (iZ so)), (3, .int (iZ n))]) C dX10_row_47 (by decide) rfl ?_
          refine g_iload C dX10_row_49 rfl ?_
          refine g_if_eq (tgt := 61) C dX10_row_51 (by decide) (by unfold R32; omega) (fun h7 => ?_) (fun h7 => ?_)
          · exfalso; omega
          · refine g_aload_n C dX10_row_54 rfl ?_
            refine g_iload C dX10_row_55 rfl ?_
            refine gc_X10_274 C dX10_row_57 rfl (c_X10_no hI (Ml M) σ (y := 7) (v := (-7)) (by first | rfl | omega) (by decide)) (by decide) (Nat.le_of_ble_eq_true rfl) (fun z σ9 ⟨hz, hσ⟩ => ?_)
            subst z
            subst σ9
            refine g_pc (pc' := 60) rfl ?_
            exact g_ireturn C dX10_row_60 (by rw [show aRow V x so n = rfs 7 V by unfold aRow; (first | rw [if_pos (by omega)] | rw [if_neg (by omega), if_pos (by omega)] | rw [if_neg (by omega), if_neg (by omega), if_pos (by omega)] | rw [if_neg (by omega), if_neg (by omega), if_neg (by omega), if_pos (by omega)] | rw [if_neg (by omega), if_neg (by omega), if_neg (by omega), if_neg (by omega)])]; exact ⟨rfl, hM.ref (by omega), YC.ref⟩)
      · refine g_bipush (z := (-6)) C dX10_row_29 rfl ?_
        refine g_goto (tgt := 47) C dX10_row_31 (by decide) ?_
        refine g_istore (L' := [(4, .int (iZ (-6))), (0, .ref (κ.2.1 105)), (1, .int (iZ x)), (2, .int (iZ so)), (3, .int (iZ n))]) C dX10_row_47 (by decide) rfl ?_
        refine g_iload C dX10_row_49 rfl ?_
        refine g_if_eq (tgt := 61) C dX10_row_51 (by decide) (by unfold R32; omega) (fun h8 => ?_) (fun h8 => ?_)
        · exfalso; omega
        · refine g_aload_n C dX10_row_54 rfl ?_
          refine g_iload C dX10_row_55 rfl ?_
          refine g_pc (pc' := 57) rfl ?_
          refine gc_X10_274 C dX10_row_57 rfl (c_X10_no hI (Ml M) σ (y := 6) (v := (-6)) (by first | rfl | omega) (by decide)) (by decide) (Nat.le_of_ble_eq_true rfl) (fun z σ9 ⟨hz, hσ⟩ => ?_)
          subst z
          subst σ9
          exact g_ireturn C dX10_row_60 (by rw [show aRow V x so n = rfs 6 V by unfold aRow; (first | rw [if_pos (by omega)] | rw [if_neg (by omega), if_pos (by omega)] | rw [if_neg (by omega), if_neg (by omega), if_pos (by omega)] | rw [if_neg (by omega), if_neg (by omega), if_neg (by omega), if_pos (by omega)] | rw [if_neg (by omega), if_neg (by omega), if_neg (by omega), if_neg (by omega)])]; exact ⟨rfl, hM.ref (by omega), YC.ref⟩)
    · refine g_bipush (z := (-4)) C dX10_row_15 rfl ?_
      refine g_goto (tgt := 47) C dX10_row_17 (by decide) ?_
      refine g_istore (L' := [(4, .int (iZ (-4))), (0, .ref (κ.2.1 105)), (1, .int (iZ x)), (2, .int (iZ so)), (3, .int (iZ n))]) C dX10_row_47 (by decide) rfl ?_
      refine g_iload C dX10_row_49 rfl ?_
      refine g_if_eq (tgt := 61) C dX10_row_51 (by decide) (by unfold R32; omega) (fun h9 => ?_) (fun h9 => ?_)
      · exfalso; omega
      · refine g_aload_n C dX10_row_54 rfl ?_
        refine g_pc (pc' := 55) rfl ?_
        refine g_iload C dX10_row_55 rfl ?_
        refine gc_X10_274 C dX10_row_57 rfl (c_X10_no hI (Ml M) σ (y := 4) (v := (-4)) (by first | rfl | omega) (by decide)) (by decide) (Nat.le_of_ble_eq_true rfl) (fun z σ9 ⟨hz, hσ⟩ => ?_)
        subst z
        subst σ9
        exact g_ireturn C dX10_row_60 (by rw [show aRow V x so n = rfs 4 V by unfold aRow; (first | rw [if_pos (by omega)] | rw [if_neg (by omega), if_pos (by omega)] | rw [if_neg (by omega), if_neg (by omega), if_pos (by omega)] | rw [if_neg (by omega), if_neg (by omega), if_neg (by omega), if_pos (by omega)] | rw [if_neg (by omega), if_neg (by omega), if_neg (by omega), if_neg (by omega)])]; exact ⟨rfl, hM.ref (by omega), YC.ref⟩)
  · refine g_iconst (z := (-1)) C dX10_row_7 rfl ?_
    refine g_goto (tgt := 47) C dX10_row_8 (by decide) ?_
    refine g_istore (L' := [(4, .int (iZ (-1))), (0, .ref (κ.2.1 105)), (1, .int (iZ x)), (2, .int (iZ so)), (3, .int (iZ n))]) C dX10_row_47 (by decide) rfl ?_
    refine g_iload C dX10_row_49 rfl ?_
    refine g_if_eq (tgt := 61) C dX10_row_51 (by decide) (by unfold R32; omega) (fun h10 => ?_) (fun h10 => ?_)
    · exfalso; omega
    · refine g_pc (pc' := 54) rfl ?_
      refine g_aload_n C dX10_row_54 rfl ?_
      refine g_iload C dX10_row_55 rfl ?_
      refine gc_X10_274 C dX10_row_57 rfl (c_X10_no hI (Ml M) σ (y := 1) (v := (-1)) (by first | rfl | omega) (by decide)) (by decide) (Nat.le_of_ble_eq_true rfl) (fun z σ9 ⟨hz, hσ⟩ => ?_)
      subst z
      subst σ9
      exact g_ireturn C dX10_row_60 (by rw [show aRow V x so n = rfs 1 V by unfold aRow; (first | rw [if_pos (by omega)] | rw [if_neg (by omega), if_pos (by omega)] | rw [if_neg (by omega), if_neg (by omega), if_pos (by omega)] | rw [if_neg (by omega), if_neg (by omega), if_neg (by omega), if_pos (by omega)] | rw [if_neg (by omega), if_neg (by omega), if_neg (by omega), if_neg (by omega)])]; exact ⟨rfl, hM.ref (by omega), YC.ref⟩)
theorem MSh.row {σ : St} {h : Sh} (hm : MSh σ h) {s : Nat} (hs : s < 8) (hk : sK h s = 1) : σ.1 146 s = 100 + (sO h s : Int) ∧ σ.1 147 s = (sN h s : Int) ∧ ∀ i, i < sN h s → σ.2.2 151 (160 * s + i) = sE h s i := (hm s hs).2.1 hk
set_option maxHeartbeats 4000000 in
set_option maxRecDepth 100000 in
theorem c_X10_set {κ : Kp} (hI : Ij κ) (l : Launch) (σ : St) {V : Vw} (hM : MV σ V) (hO : OKV V) {x i : Int} {v : Int64} (hx : R32 x) (hi : R32 i) : CtI κ l 3 yX10_set cX10_set 6 .int [.ref (κ.2.1 105), .int (iZ x), .int (iZ i), .long v] σ (fun z σ' => z = (aSet V x i v).1 ∧ MV σ' (aSet V x i v).2 ∧ Fr YC σ σ') := by
  refine Ct.ofG (own := RX10) hI (by decide +kernel) rfl (Nat.le_of_ble_eq_true rfl) rfl ?_
  intro M C hMl
  refine g_aload_n C dX10_set_0 rfl ?_
  refine g_iload_n C dX10_set_1 rfl ?_
  refine gc_X10_318 C dX10_set_2 rfl (c_X10_notRow hI (Ml M) σ hM hO (by assumption)) (by decide) (Nat.le_of_ble_eq_true rfl) (fun z σ9 ⟨hz, hσ⟩ => ?_)
  subst z
  subst σ9
  have hwl := wnr_le V x
  refine g_istore (L' := [(5, .int (iZ (-(wnr V x : Int)))), (0, .ref (κ.2.1 105)), (1, .int (iZ x)), (2, .int (iZ i)), (3, .long v)]) C dX10_set_5 (by decide) rfl ?_
  refine g_iload C dX10_set_7 rfl ?_
  refine g_if_ne (tgt := 32) C dX10_set_9 (by decide) (by unfold R32; omega) (fun h1 => ?_) (fun h1 => ?_)
  · refine g_iload C dX10_set_32 rfl ?_
    refine g_pc (pc' := 34) rfl ?_
    refine g_if_eq (tgt := 44) C dX10_set_34 (by decide) (by unfold R32; omega) (fun h2 => ?_) (fun h2 => ?_)
    · have hw0 := wnr_0 hO (x := x) (by omega)
      have hhx := hM.hd hO (s := x.toNat) (by omega)
      have hrw := hM.2.2.1.row (s := x.toNat) (by omega) (by omega)
      refine g_aload_n C dX10_set_44 rfl ?_
      refine gf_X10_116 C dX10_set_45 rfl ?_
      refine g_sipush (z := 160) C dX10_set_48 rfl ?_
      refine g_iload_n C dX10_set_51 rfl ?_
      refine g_imul C dX10_set_52 ?_
      refine g_iload_n C dX10_set_53 rfl ?_
      refine g_iadd C dX10_set_54 ?_
      refine g_pc (pc' := 55) rfl ?_
      refine g_aload_n C dX10_set_55 rfl ?_
      refine gf_X10_101 C dX10_set_56 rfl ?_
      refine g_iload_n C dX10_set_59 rfl ?_
      refine g_iaz (n := x.toNat) (N := 8) (v := (σ.1 146 x.toNat)) C dX10_set_60 rfl rfl (by omega) (by omega) (by decide) rfl ?_
      refine g_bipush (z := 100) C dX10_set_61 rfl ?_
      refine g_isub C dX10_set_63 ?_
      refine g_lload_n C dX10_set_64 rfl ?_
      refine gc_X10_321 C dX10_set_65 (c_X10_lowest hI (Ml M) σ (so := ((σ.1 146 x.toNat) - 100)) (v := v) (by omega)) (by decide) (Nat.le_of_ble_eq_true rfl) (fun z σ9 ⟨hz, hσ⟩ => ?_)
      subst σ9
      have hz2 : z = lowb (sO (vSh V) x.toNat : Int) v := by rw [hz, show σ.1 146 x.toNat - 100 = (sO (vSh V) x.toNat : Int) by omega]
      subst hz2
      refine g_pc (pc' := 68) rfl ?_
      refine g_last (n := ((160 * x.toNat) + i.toNat)) (N := 1280) C dX10_set_68 rfl rfl (by omega) (by omega) (by decide) ?_
      refine g_iconst (z := 1) C dX10_set_69 rfl ?_
      exact g_ireturn C dX10_set_70 (by first | (exfalso; omega) | exact (by rw [show aSet V x i v = (1, vSet V (hset (vSh V) x.toNat 1 (sO (vSh V) x.toNat) (sN (vSh V) x.toNat) (fun q => if q = i.toNat then lowb (sO (vSh V) x.toNat : Int) v else sE (vSh V) x.toNat q) (sD (vSh V) x.toNat))) by unfold aSet; (first | rw [if_pos (by omega)] | rw [if_neg (by omega), if_pos (by omega)] | rw [if_neg (by omega), if_neg (by omega)])]; exact ⟨rfl, hM.shelf hO (by omega) (Fm.rf.l (Or.inl (by unfold Ssh; omega))) (fun _ _ _ _ _ => rfl) (fun q hq => rL_j (by omega)) (fun e => by omega) (fun _ => ⟨hrw.1, hrw.2.1, fun q hq => by by_cases hqi : q = i.toNat; (subst hqi; rw [rL_s]; exact (if_pos rfl).symm); (rw [rL_j (by omega), hrw.2.2 q hq]; exact (if_neg hqi).symm)⟩) (fun e => by omega)⟩))
    · refine g_aload_n C dX10_set_37 rfl ?_
      refine g_iload C dX10_set_38 rfl ?_
      refine gc_X10_274 C dX10_set_40 rfl (c_X10_no hI (Ml M) σ (y := wnr V x) (v := (-(wnr V x : Int))) rfl (by omega)) (by decide) (Nat.le_of_ble_eq_true rfl) (fun z σ9 ⟨hz, hσ⟩ => ?_)
      subst z
      subst σ9
      exact g_ireturn C dX10_set_43 (by first | (exfalso; omega) | exact (by rw [show aSet V x i v = rfs (wnr V x) V by unfold aSet; (first | rw [if_pos (by omega)] | rw [if_neg (by omega), if_pos (by omega)] | rw [if_neg (by omega), if_neg (by omega)])]; exact ⟨rfl, hM.ref (by omega), YC.ref⟩))
  · have hw0 := wnr_0 hO (x := x) (by omega)
    have hhx := hM.hd hO (s := x.toNat) (by omega)
    refine g_iload_n C dX10_set_12 rfl ?_
    refine g_pc (pc' := 13) rfl ?_
    refine g_iconst (z := 0) C dX10_set_13 rfl ?_
    refine g_aload_n C dX10_set_14 rfl ?_
    refine gf_X10_104 C dX10_set_15 rfl ?_
    refine g_iload_n C dX10_set_18 rfl ?_
    refine g_iaz (n := x.toNat) (N := 8) (v := (σ.1 147 x.toNat)) C dX10_set_19 rfl rfl (by omega) (by omega) (by decide) rfl ?_
    refine g_iconst (z := 1) C dX10_set_20 rfl ?_
    refine g_isub C dX10_set_21 ?_
    refine gc_X10_145 C dX10_set_22 (c_X10_isIn hI (Ml M) σ (v := i) (a := 0) (b := ((σ.1 147 x.toNat) - 1)) (by unfold R32; omega) (by unfold R32; omega) (by unfold R32; omega)) (by decide) (Nat.le_of_ble_eq_true rfl) (fun z σ9 ⟨hz, hσ⟩ => ?_)
    subst z
    subst σ9
    refine g_pc (pc' := 25) rfl ?_
    refine g_ifb_ne (tgt := 32) C dX10_set_25 (by decide) (fun h3 => ?_) (fun h3 => ?_)
    · refine g_iload C dX10_set_32 rfl ?_
      refine g_if_eq (tgt := 44) C dX10_set_34 (by decide) (by unfold R32; omega) (fun h4 => ?_) (fun h4 => ?_)
      · have hw0 := wnr_0 hO (x := x) (by omega)
        have hhx := hM.hd hO (s := x.toNat) (by omega)
        have hrw := hM.2.2.1.row (s := x.toNat) (by omega) (by omega)
        refine g_aload_n C dX10_set_44 rfl ?_
        refine gf_X10_116 C dX10_set_45 rfl ?_
        refine g_sipush (z := 160) C dX10_set_48 rfl ?_
        refine g_iload_n C dX10_set_51 rfl ?_
        refine g_imul C dX10_set_52 ?_
        refine g_pc (pc' := 53) rfl ?_
        refine g_iload_n C dX10_set_53 rfl ?_
        refine g_iadd C dX10_set_54 ?_
        refine g_aload_n C dX10_set_55 rfl ?_
        refine gf_X10_101 C dX10_set_56 rfl ?_
        refine g_iload_n C dX10_set_59 rfl ?_
        refine g_iaz (n := x.toNat) (N := 8) (v := (σ.1 146 x.toNat)) C dX10_set_60 rfl rfl (by omega) (by omega) (by decide) rfl ?_
        refine g_bipush (z := 100) C dX10_set_61 rfl ?_
        refine g_isub C dX10_set_63 ?_
        refine g_pc (pc' := 64) rfl ?_
        refine g_lload_n C dX10_set_64 rfl ?_
        refine gc_X10_321 C dX10_set_65 (c_X10_lowest hI (Ml M) σ (so := ((σ.1 146 x.toNat) - 100)) (v := v) (by omega)) (by decide) (Nat.le_of_ble_eq_true rfl) (fun z σ9 ⟨hz, hσ⟩ => ?_)
        subst σ9
        have hz2 : z = lowb (sO (vSh V) x.toNat : Int) v := by rw [hz, show σ.1 146 x.toNat - 100 = (sO (vSh V) x.toNat : Int) by omega]
        subst hz2
        refine g_last (n := ((160 * x.toNat) + i.toNat)) (N := 1280) C dX10_set_68 rfl rfl (by omega) (by omega) (by decide) ?_
        refine g_iconst (z := 1) C dX10_set_69 rfl ?_
        exact g_ireturn C dX10_set_70 (by first | (exfalso; omega) | exact (by rw [show aSet V x i v = (1, vSet V (hset (vSh V) x.toNat 1 (sO (vSh V) x.toNat) (sN (vSh V) x.toNat) (fun q => if q = i.toNat then lowb (sO (vSh V) x.toNat : Int) v else sE (vSh V) x.toNat q) (sD (vSh V) x.toNat))) by unfold aSet; (first | rw [if_pos (by omega)] | rw [if_neg (by omega), if_pos (by omega)] | rw [if_neg (by omega), if_neg (by omega)])]; exact ⟨rfl, hM.shelf hO (by omega) (Fm.rf.l (Or.inl (by unfold Ssh; omega))) (fun _ _ _ _ _ => rfl) (fun q hq => rL_j (by omega)) (fun e => by omega) (fun _ => ⟨hrw.1, hrw.2.1, fun q hq => by by_cases hqi : q = i.toNat; (subst hqi; rw [rL_s]; exact (if_pos rfl).symm); (rw [rL_j (by omega), hrw.2.2 q hq]; exact (if_neg hqi).symm)⟩) (fun e => by omega)⟩))
      · refine g_aload_n C dX10_set_37 rfl ?_
        refine g_iload C dX10_set_38 rfl ?_
        refine gc_X10_274 C dX10_set_40 rfl (c_X10_no hI (Ml M) σ (y := wnr V x) (v := (-(wnr V x : Int))) rfl (by omega)) (by decide) (Nat.le_of_ble_eq_true rfl) (fun z σ9 ⟨hz, hσ⟩ => ?_)
        subst z
        subst σ9
        refine g_pc (pc' := 43) rfl ?_
        exact g_ireturn C dX10_set_43 (by first | (exfalso; omega) | exact (by rw [show aSet V x i v = rfs (wnr V x) V by unfold aSet; (first | rw [if_pos (by omega)] | rw [if_neg (by omega), if_pos (by omega)] | rw [if_neg (by omega), if_neg (by omega)])]; exact ⟨rfl, hM.ref (by omega), YC.ref⟩))
    · refine g_bipush (z := (-5)) C dX10_set_28 rfl ?_
      refine g_istore (L' := [(5, .int (iZ (-5))), (0, .ref (κ.2.1 105)), (1, .int (iZ x)), (2, .int (iZ i)), (3, .long v)]) C dX10_set_30 (by decide) rfl ?_
      refine g_iload C dX10_set_32 rfl ?_
      refine g_if_eq (tgt := 44) C dX10_set_34 (by decide) (by unfold R32; omega) (fun h5 => ?_) (fun h5 => ?_)
      · have hw0 := wnr_0 hO (x := x) (by omega)
        have hhx := hM.hd hO (s := x.toNat) (by omega)
        have hrw := hM.2.2.1.row (s := x.toNat) (by omega) (by omega)
        refine g_aload_n C dX10_set_44 rfl ?_
        refine gf_X10_116 C dX10_set_45 rfl ?_
        refine g_sipush (z := 160) C dX10_set_48 rfl ?_
        refine g_pc (pc' := 51) rfl ?_
        refine g_iload_n C dX10_set_51 rfl ?_
        refine g_imul C dX10_set_52 ?_
        refine g_iload_n C dX10_set_53 rfl ?_
        refine g_iadd C dX10_set_54 ?_
        refine g_aload_n C dX10_set_55 rfl ?_
        refine gf_X10_101 C dX10_set_56 rfl ?_
        refine g_iload_n C dX10_set_59 rfl ?_
        refine g_iaz (n := x.toNat) (N := 8) (v := (σ.1 146 x.toNat)) C dX10_set_60 rfl rfl (by omega) (by omega) (by decide) rfl ?_
        refine g_pc (pc' := 61) rfl ?_
        refine g_bipush (z := 100) C dX10_set_61 rfl ?_
        refine g_isub C dX10_set_63 ?_
        refine g_lload_n C dX10_set_64 rfl ?_
        refine gc_X10_321 C dX10_set_65 (c_X10_lowest hI (Ml M) σ (so := ((σ.1 146 x.toNat) - 100)) (v := v) (by omega)) (by decide) (Nat.le_of_ble_eq_true rfl) (fun z σ9 ⟨hz, hσ⟩ => ?_)
        subst σ9
        have hz2 : z = lowb (sO (vSh V) x.toNat : Int) v := by rw [hz, show σ.1 146 x.toNat - 100 = (sO (vSh V) x.toNat : Int) by omega]
        subst hz2
        refine g_last (n := ((160 * x.toNat) + i.toNat)) (N := 1280) C dX10_set_68 rfl rfl (by omega) (by omega) (by decide) ?_
        refine g_iconst (z := 1) C dX10_set_69 rfl ?_
        exact g_ireturn C dX10_set_70 (by first | (exfalso; omega) | exact (by rw [show aSet V x i v = (1, vSet V (hset (vSh V) x.toNat 1 (sO (vSh V) x.toNat) (sN (vSh V) x.toNat) (fun q => if q = i.toNat then lowb (sO (vSh V) x.toNat : Int) v else sE (vSh V) x.toNat q) (sD (vSh V) x.toNat))) by unfold aSet; (first | rw [if_pos (by omega)] | rw [if_neg (by omega), if_pos (by omega)] | rw [if_neg (by omega), if_neg (by omega)])]; exact ⟨rfl, hM.shelf hO (by omega) (Fm.rf.l (Or.inl (by unfold Ssh; omega))) (fun _ _ _ _ _ => rfl) (fun q hq => rL_j (by omega)) (fun e => by omega) (fun _ => ⟨hrw.1, hrw.2.1, fun q hq => by by_cases hqi : q = i.toNat; (subst hqi; rw [rL_s]; exact (if_pos rfl).symm); (rw [rL_j (by omega), hrw.2.2 q hq]; exact (if_neg hqi).symm)⟩) (fun e => by omega)⟩))
      · refine g_aload_n C dX10_set_37 rfl ?_
        refine g_pc (pc' := 38) rfl ?_
        refine g_iload C dX10_set_38 rfl ?_
        refine gc_X10_274 C dX10_set_40 rfl (c_X10_no hI (Ml M) σ (y := 5) (v := (-5)) (by first | rfl | omega) (by decide)) (by decide) (Nat.le_of_ble_eq_true rfl) (fun z σ9 ⟨hz, hσ⟩ => ?_)
        subst z
        subst σ9
        exact g_ireturn C dX10_set_43 (by first | (exfalso; omega) | exact (by rw [show aSet V x i v = rfs 5 V by unfold aSet; (first | rw [if_pos (by omega)] | rw [if_neg (by omega), if_pos (by omega)] | rw [if_neg (by omega), if_neg (by omega)])]; exact ⟨rfl, hM.ref (by omega), YC.ref⟩))
set_option maxHeartbeats 4000000 in
set_option maxRecDepth 100000 in
theorem c_X10_element {κ : Kp} (hI : Ij κ) (l : Launch) (σ : St) {V : Vw} (hM : MV σ V) (hO : OKV V) {x i : Int} (hx : R32 x) (hi : R32 i) : CtJ κ l 3 yX10_element cX10_element 3 [.ref (κ.2.1 105), .int (iZ x), .int (iZ i)] σ (fun z σ' => z = aElement V x i ∧ MV σ' V ∧ Fr YC σ σ') := by
  refine Ct.ofG (own := RX10) hI (by decide +kernel) rfl (Nat.le_of_ble_eq_true rfl) rfl ?_
  intro M C hMl
  refine g_iload_n C dX10_element_0 rfl ?_
  refine gc_X10_315 C dX10_element_1 (c_X10_isShelf hI (Ml M) σ (v := x) (by unfold R32; omega)) (by decide) (Nat.le_of_ble_eq_true rfl) (fun z σ9 ⟨hz, hσ⟩ => ?_)
  subst z
  subst σ9
  refine g_ifb_eq (tgt := 46) C dX10_element_4 (by decide) (fun h1 => ?_) (fun h1 => ?_)
  · refine g_lconst0 C dX10_element_46 ?_
    exact g_lreturn C dX10_element_47 ⟨by unfold aElement; rw [if_neg (by omega)], hM, Fr.rf⟩
  · have hhx := hM.hd hO (s := x.toNat) (by omega)
    refine g_aload_n C dX10_element_7 rfl ?_
    refine g_iload_n C dX10_element_8 rfl ?_
    refine g_pc (pc' := 9) rfl ?_
    refine gc_X10_329 C dX10_element_9 rfl (c_X10_isRow hI (Ml M) σ (s := x.toNat) (by omega) (by omega) (by unfold R32; omega)) (by decide) (Nat.le_of_ble_eq_true rfl) (fun z σ9 ⟨hz, hσ⟩ => ?_)
    subst z
    subst σ9
    refine g_ifb_eq (tgt := 46) C dX10_element_12 (by decide) (fun h2 => ?_) (fun h2 => ?_)
    · refine g_lconst0 C dX10_element_46 ?_
      exact g_lreturn C dX10_element_47 ⟨by unfold aElement; rw [if_neg (by omega)], hM, Fr.rf⟩
    · refine g_iload_n C dX10_element_15 rfl ?_
      refine g_iconst (z := 0) C dX10_element_16 rfl ?_
      refine g_aload_n C dX10_element_17 rfl ?_
      refine gf_X10_104 C dX10_element_18 rfl ?_
      refine g_pc (pc' := 21) rfl ?_
      refine g_iload_n C dX10_element_21 rfl ?_
      refine g_iaz (n := x.toNat) (N := 8) (v := (σ.1 147 x.toNat)) C dX10_element_22 rfl rfl (by omega) (by omega) (by decide) rfl ?_
      refine g_iconst (z := 1) C dX10_element_23 rfl ?_
      refine g_isub C dX10_element_24 ?_
      refine gc_X10_145 C dX10_element_25 (c_X10_isIn hI (Ml M) σ (v := i) (a := 0) (b := ((σ.1 147 x.toNat) - 1)) (by unfold R32; omega) (by unfold R32; omega) (by unfold R32; omega)) (by decide) (Nat.le_of_ble_eq_true rfl) (fun z σ9 ⟨hz, hσ⟩ => ?_)
      subst z
      subst σ9
      refine g_ifb_eq (tgt := 46) C dX10_element_28 (by decide) (fun h3 => ?_) (fun h3 => ?_)
      · refine g_lconst0 C dX10_element_46 ?_
        exact g_lreturn C dX10_element_47 ⟨by unfold aElement; rw [if_neg (by omega)], hM, Fr.rf⟩
      · refine g_pc (pc' := 31) rfl ?_
        refine g_aload_n C dX10_element_31 rfl ?_
        refine gf_X10_116 C dX10_element_32 rfl ?_
        refine g_sipush (z := 160) C dX10_element_35 rfl ?_
        refine g_iload_n C dX10_element_38 rfl ?_
        refine g_imul C dX10_element_39 ?_
        refine g_iload_n C dX10_element_40 rfl ?_
        refine g_iadd C dX10_element_41 ?_
        refine g_laz (n := ((160 * x.toNat) + i.toNat)) (N := 1280) (v := (σ.2.2 151 ((160 * x.toNat) + i.toNat))) C dX10_element_42 rfl rfl (by omega) (by omega) (by decide) rfl ?_
        refine g_pc (pc' := 43) rfl ?_
        refine g_goto (tgt := 47) C dX10_element_43 (by decide) ?_
        exact g_lreturn C dX10_element_47 ⟨by unfold aElement; rw [if_pos (by omega)]; exact (hM.2.2.1.row (s := x.toNat) (by omega) (by omega)).2.2 i.toNat (by omega), hM, Fr.rf⟩
set_option maxHeartbeats 4000000 in
set_option maxRecDepth 100000 in
theorem c_X10_holds {κ : Kp} (hI : Ij κ) (l : Launch) (σ : St) {V : Vw} (hM : MV σ V) (hO : OKV V) {x : Int} (hx : R32 x) : CtI κ l 3 yX10_holds cX10_holds 2 .int [.ref (κ.2.1 105), .int (iZ x)] σ (fun z σ' => z = aHolds V x ∧ MV σ' V ∧ Fr YC σ σ') := by
  refine Ct.ofG (own := RX10) hI (by decide +kernel) rfl (Nat.le_of_ble_eq_true rfl) rfl ?_
  intro M C hMl
  refine g_iload_n C dX10_holds_0 rfl ?_
  refine gc_X10_315 C dX10_holds_1 (c_X10_isShelf hI (Ml M) σ (v := x) (by unfold R32; omega)) (by decide) (Nat.le_of_ble_eq_true rfl) (fun z σ9 ⟨hz, hσ⟩ => ?_)
  subst z
  subst σ9
  refine g_ifb_eq (tgt := 16) C dX10_holds_4 (by decide) (fun h1 => ?_) (fun h1 => ?_)
  · refine g_iconst (z := (-1)) C dX10_holds_16 rfl ?_
    refine g_goto (tgt := 26) C dX10_holds_17 (by decide) ?_
    exact g_ireturn C dX10_holds_26 ⟨by unfold aHolds; (first | rw [if_pos (by omega)] | rw [if_neg (by omega), if_pos (by omega)] | (rw [if_neg (by omega), if_neg (by omega)]; split <;> omega)), hM, Fr.rf⟩
  · have hhx := hM.hd hO (s := x.toNat) (by omega)
    refine g_aload_n C dX10_holds_7 rfl ?_
    refine g_pc (pc' := 8) rfl ?_
    refine gf_X10_101 C dX10_holds_8 rfl ?_
    refine g_iload_n C dX10_holds_11 rfl ?_
    refine g_iaz (n := x.toNat) (N := 8) (v := (σ.1 146 x.toNat)) C dX10_holds_12 rfl rfl (by omega) (by omega) (by decide) rfl ?_
    refine g_if_ne (tgt := 20) C dX10_holds_13 (by decide) (by unfold R32; omega) (fun h2 => ?_) (fun h2 => ?_)
    · refine g_aload_n C dX10_holds_20 rfl ?_
      refine gf_X10_101 C dX10_holds_21 rfl ?_
      refine g_iload_n C dX10_holds_24 rfl ?_
      refine g_iaz (n := x.toNat) (N := 8) (v := (σ.1 146 x.toNat)) C dX10_holds_25 rfl rfl (by omega) (by omega) (by decide) rfl ?_
      refine g_pc (pc' := 26) rfl ?_
      exact g_ireturn C dX10_holds_26 ⟨by unfold aHolds; (first | rw [if_pos (by omega)] | rw [if_neg (by omega), if_pos (by omega)] | (rw [if_neg (by omega), if_neg (by omega)]; split <;> omega)), hM, Fr.rf⟩
    · refine g_iconst (z := (-1)) C dX10_holds_16 rfl ?_
      refine g_goto (tgt := 26) C dX10_holds_17 (by decide) ?_
      exact g_ireturn C dX10_holds_26 ⟨by unfold aHolds; (first | rw [if_pos (by omega)] | rw [if_neg (by omega), if_pos (by omega)] | (rw [if_neg (by omega), if_neg (by omega)]; split <;> omega)), hM, Fr.rf⟩
set_option maxHeartbeats 4000000 in
set_option maxRecDepth 100000 in
theorem c_X10_show {κ : Kp} (hI : Ij κ) (l : Launch) (σ : St) {V : Vw} (hM : MV σ V) (hO : OKV V) {x nd : Int} (hx : R32 x) (hnd : R32 nd) : CtI κ l 2 yX10_show cX10_show 3 .int [.ref (κ.2.1 105), .int (iZ x), .int (iZ nd)] σ (fun z σ' => z = (aShow V x nd).1 ∧ MV σ' (aShow V x nd).2 ∧ Fr YC σ σ') := by
  refine Ct.ofG (own := RX10) hI (by decide +kernel) rfl (Nat.le_of_ble_eq_true rfl) rfl ?_
  intro M C hMl
  have hnp := np_le hO
  refine g_iload_n C dX10_show_0 rfl ?_
  refine gc_X10_315 C dX10_show_1 (c_X10_isShelf hI (Ml M) σ (v := x) (by unfold R32; omega)) (by decide) (Nat.le_of_ble_eq_true rfl) (fun z σ9 ⟨hz, hσ⟩ => ?_)
  subst z
  subst σ9
  refine g_ifb_eq (tgt := 26) C dX10_show_4 (by decide) (fun h1 => ?_) (fun h1 => ?_)
  · refine g_aload_n C dX10_show_26 rfl ?_
    refine g_iconst (z := (-1)) C dX10_show_27 rfl ?_
    refine gc_X10_274 C dX10_show_28 rfl (c_X10_no hI (Ml M) σ (y := 1) (v := (-1)) (by first | rfl | omega) (by decide)) (by decide) (Nat.le_of_ble_eq_true rfl) (fun z σ9 ⟨hz, hσ⟩ => ?_)
    subst z
    subst σ9
    exact g_ireturn C dX10_show_31 (by first | (exfalso; omega) | exact (by rw [show aShow V x nd = rfs 1 V by unfold aShow; (first | rw [if_pos (by omega)] | rw [if_neg (by omega), if_pos (by omega)] | rw [if_neg (by omega), if_neg (by omega)])]; exact ⟨rfl, hM.ref (by omega), YC.ref⟩))
  · refine g_pc (pc' := 7) rfl ?_
    refine g_iload_n C dX10_show_7 rfl ?_
    refine g_iconst (z := (-1)) C dX10_show_8 rfl ?_
    refine g_icmp_eq (tgt := 32) C dX10_show_9 (by decide) (by unfold R32; omega) (fun h2 => ?_) (fun h2 => ?_)
    · refine g_iload_n C dX10_show_32 rfl ?_
      refine g_iconst (z := (-1)) C dX10_show_33 rfl ?_
      refine g_icmp_ne (tgt := 46) C dX10_show_34 (by decide) (by unfold R32; omega) (fun h3 => ?_) (fun h3 => ?_)
      · have hmn := hM.2.2.2.1.2 nd.toNat (by have : vP V = V.2.2.2.1.1 := rfl; omega)
        refine g_aload_n C dX10_show_46 rfl ?_
        refine gf_X10_101 C dX10_show_47 rfl ?_
        refine g_pc (pc' := 50) rfl ?_
        refine g_iload_n C dX10_show_50 rfl ?_
        refine g_sipush (z := 200) C dX10_show_51 rfl ?_
        refine g_aload_n C dX10_show_54 rfl ?_
        refine gf_X10_71 C dX10_show_55 rfl ?_
        refine g_iload_n C dX10_show_58 rfl ?_
        refine g_iaz (n := nd.toNat) (N := 64) (v := (σ.1 132 nd.toNat)) C dX10_show_59 rfl rfl (by omega) (by omega) (by decide) rfl ?_
        refine g_iadd C dX10_show_60 ?_
        refine g_iast (n := x.toNat) (N := 8) C dX10_show_61 rfl rfl (by omega) (by omega) (by decide) ?_
        refine g_pc (pc' := 62) rfl ?_
        refine g_aload_n C dX10_show_62 rfl ?_
        refine gf_X10_107 C dX10_show_63 rfl ?_
        refine g_iload_n C dX10_show_66 rfl ?_
        refine g_aload_n C dX10_show_67 rfl ?_
        refine gf_X10_80 C dX10_show_68 rfl ?_
        refine g_iload_n C dX10_show_71 rfl ?_
        refine g_iaz (n := nd.toNat) (N := 64) (v := (σ.1 135 nd.toNat)) C dX10_show_72 rfl rfl (by omega) (by omega) (by decide) (rI_k (by decide)) ?_
        refine g_iast (n := x.toNat) (N := 8) C dX10_show_73 rfl rfl (by omega) (by omega) (by decide) ?_
        refine g_pc (pc' := 74) rfl ?_
        refine g_aload_n C dX10_show_74 rfl ?_
        refine gf_X10_110 C dX10_show_75 rfl ?_
        refine g_iload_n C dX10_show_78 rfl ?_
        refine g_aload_n C dX10_show_79 rfl ?_
        refine gf_X10_83 C dX10_show_80 rfl ?_
        refine g_iload_n C dX10_show_83 rfl ?_
        refine g_iaz (n := nd.toNat) (N := 64) (v := (σ.1 136 nd.toNat)) C dX10_show_84 rfl rfl (by omega) (by omega) (by decide) ((rI_k (by decide)).trans (rI_k (by decide))) ?_
        refine g_iast (n := x.toNat) (N := 8) C dX10_show_85 rfl rfl (by omega) (by omega) (by decide) ?_
        refine g_pc (pc' := 86) rfl ?_
        refine g_aload_n C dX10_show_86 rfl ?_
        refine gf_X10_113 C dX10_show_87 rfl ?_
        refine g_iload_n C dX10_show_90 rfl ?_
        refine g_aload_n C dX10_show_91 rfl ?_
        refine gf_X10_89 C dX10_show_92 rfl ?_
        refine g_iload_n C dX10_show_95 rfl ?_
        refine g_iaz (n := nd.toNat) (N := 64) (v := (σ.1 138 nd.toNat)) C dX10_show_96 rfl rfl (by omega) (by omega) (by decide) ((rI_k (by decide)).trans ((rI_k (by decide)).trans (rI_k (by decide)))) ?_
        refine g_iast (n := x.toNat) (N := 8) C dX10_show_97 rfl rfl (by omega) (by omega) (by decide) ?_
        refine g_pc (pc' := 98) rfl ?_
        refine g_iconst (z := 1) C dX10_show_98 rfl ?_
        exact g_ireturn C dX10_show_99 (by first | (exfalso; omega) | exact (by rw [show aShow V x nd = (1, vSet V (hset (vSh V) x.toNat 2 0 0 (fun _ => 0) (vD V nd.toNat))) by unfold aShow; (first | rw [if_pos (by omega)] | rw [if_neg (by omega), if_pos (by omega)] | rw [if_neg (by omega), if_neg (by omega)])]; exact ⟨rfl, hM.shelf hO (by omega) ((((Fm.rf.a (by decide) (by unfold Ssh; omega)).a (by decide) (by unfold Ssh; omega)).a (by decide) (by unfold Ssh; omega)).a (by decide) (by unfold Ssh; omega)) (fun _ _ _ _ hq => (rI_q hq).trans ((rI_q hq).trans ((rI_q hq).trans (rI_q hq)))) (fun _ _ => rfl) (fun e => by omega) (fun e => by omega) (fun _ => ⟨by rw [rI_k (by decide), rI_k (by decide), rI_k (by decide), rI_s, hmn.1]; rfl, by rw [rI_k (by decide), rI_k (by decide), rI_s]; exact hmn.2.2.2.1, by rw [rI_k (by decide), rI_s]; exact hmn.2.2.2.2.1, by rw [rI_s]; exact hmn.2.2.2.2.2.2⟩)⟩))
      · refine g_aload_n C dX10_show_37 rfl ?_
        refine gf_X10_101 C dX10_show_38 rfl ?_
        refine g_iload_n C dX10_show_41 rfl ?_
        refine g_iconst (z := 0) C dX10_show_42 rfl ?_
        refine g_iast (n := x.toNat) (N := 8) C dX10_show_43 rfl rfl (by omega) (by omega) (by decide) ?_
        refine g_iconst (z := 0) C dX10_show_44 rfl ?_
        refine g_pc (pc' := 45) rfl ?_
        exact g_ireturn C dX10_show_45 (by first | (exfalso; omega) | exact (by rw [show aShow V x nd = (0, vSet V (hset (vSh V) x.toNat 0 0 0 (fun _ => 0) (fun _ => 0))) by unfold aShow; (first | rw [if_pos (by omega)] | rw [if_neg (by omega), if_pos (by omega)] | rw [if_neg (by omega), if_neg (by omega)])]; exact ⟨rfl, hM.shelf hO (by omega) (Fm.rf.a (by decide) (by unfold Ssh; omega)) (fun _ _ _ _ hq => rI_q hq) (fun _ _ => rfl) (fun _ => rI_s) (fun e => by omega) (fun e => by omega)⟩))
    · refine g_iload_n C dX10_show_12 rfl ?_
      refine g_iconst (z := 0) C dX10_show_13 rfl ?_
      refine g_aload_n C dX10_show_14 rfl ?_
      refine gf_X10_255 (z := (vP V : Int)) C dX10_show_15 rfl hM.2.2.2.1.1 ?_
      refine g_iconst (z := 1) C dX10_show_18 rfl ?_
      refine g_isub C dX10_show_19 ?_
      refine gc_X10_145 C dX10_show_20 (c_X10_isIn hI (Ml M) σ (v := nd) (a := 0) (b := ((vP V : Int) - 1)) (by unfold R32; omega) (by unfold R32; omega) (by unfold R32; omega)) (by decide) (Nat.le_of_ble_eq_true rfl) (fun z σ9 ⟨hz, hσ⟩ => ?_)
      subst z
      subst σ9
      refine g_pc (pc' := 23) rfl ?_
      refine g_ifb_ne (tgt := 32) C dX10_show_23 (by decide) (fun h4 => ?_) (fun h4 => ?_)
      · refine g_iload_n C dX10_show_32 rfl ?_
        refine g_iconst (z := (-1)) C dX10_show_33 rfl ?_
        refine g_icmp_ne (tgt := 46) C dX10_show_34 (by decide) (by unfold R32; omega) (fun h5 => ?_) (fun h5 => ?_)
        · have hmn := hM.2.2.2.1.2 nd.toNat (by have : vP V = V.2.2.2.1.1 := rfl; omega)
          refine g_aload_n C dX10_show_46 rfl ?_
          refine gf_X10_101 C dX10_show_47 rfl ?_
          refine g_iload_n C dX10_show_50 rfl ?_
          refine g_sipush (z := 200) C dX10_show_51 rfl ?_
          refine g_pc (pc' := 54) rfl ?_
          refine g_aload_n C dX10_show_54 rfl ?_
          refine gf_X10_71 C dX10_show_55 rfl ?_
          refine g_iload_n C dX10_show_58 rfl ?_
          refine g_iaz (n := nd.toNat) (N := 64) (v := (σ.1 132 nd.toNat)) C dX10_show_59 rfl rfl (by omega) (by omega) (by decide) rfl ?_
          refine g_iadd C dX10_show_60 ?_
          refine g_iast (n := x.toNat) (N := 8) C dX10_show_61 rfl rfl (by omega) (by omega) (by decide) ?_
          refine g_aload_n C dX10_show_62 rfl ?_
          refine gf_X10_107 C dX10_show_63 rfl ?_
          refine g_pc (pc' := 66) rfl ?_
          refine g_iload_n C dX10_show_66 rfl ?_
          refine g_aload_n C dX10_show_67 rfl ?_
          refine gf_X10_80 C dX10_show_68 rfl ?_
          refine g_iload_n C dX10_show_71 rfl ?_
          refine g_iaz (n := nd.toNat) (N := 64) (v := (σ.1 135 nd.toNat)) C dX10_show_72 rfl rfl (by omega) (by omega) (by decide) (rI_k (by decide)) ?_
          refine g_iast (n := x.toNat) (N := 8) C dX10_show_73 rfl rfl (by omega) (by omega) (by decide) ?_
          refine g_aload_n C dX10_show_74 rfl ?_
          refine gf_X10_110 C dX10_show_75 rfl ?_
          refine g_pc (pc' := 78) rfl ?_
          refine g_iload_n C dX10_show_78 rfl ?_
          refine g_aload_n C dX10_show_79 rfl ?_
          refine gf_X10_83 C dX10_show_80 rfl ?_
          refine g_iload_n C dX10_show_83 rfl ?_
          refine g_iaz (n := nd.toNat) (N := 64) (v := (σ.1 136 nd.toNat)) C dX10_show_84 rfl rfl (by omega) (by omega) (by decide) ((rI_k (by decide)).trans (rI_k (by decide))) ?_
          refine g_iast (n := x.toNat) (N := 8) C dX10_show_85 rfl rfl (by omega) (by omega) (by decide) ?_
          refine g_aload_n C dX10_show_86 rfl ?_
          refine gf_X10_113 C dX10_show_87 rfl ?_
          refine g_pc (pc' := 90) rfl ?_
          refine g_iload_n C dX10_show_90 rfl ?_
          refine g_aload_n C dX10_show_91 rfl ?_
          refine gf_X10_89 C dX10_show_92 rfl ?_
          refine g_iload_n C dX10_show_95 rfl ?_
          refine g_iaz (n := nd.toNat) (N := 64) (v := (σ.1 138 nd.toNat)) C dX10_show_96 rfl rfl (by omega) (by omega) (by decide) ((rI_k (by decide)).trans ((rI_k (by decide)).trans (rI_k (by decide)))) ?_
          refine g_iast (n := x.toNat) (N := 8) C dX10_show_97 rfl rfl (by omega) (by omega) (by decide) ?_
          refine g_iconst (z := 1) C dX10_show_98 rfl ?_
          exact g_ireturn C dX10_show_99 (by first | (exfalso; omega) | exact (by rw [show aShow V x nd = (1, vSet V (hset (vSh V) x.toNat 2 0 0 (fun _ => 0) (vD V nd.toNat))) by unfold aShow; (first | rw [if_pos (by omega)] | rw [if_neg (by omega), if_pos (by omega)] | rw [if_neg (by omega), if_neg (by omega)])]; exact ⟨rfl, hM.shelf hO (by omega) ((((Fm.rf.a (by decide) (by unfold Ssh; omega)).a (by decide) (by unfold Ssh; omega)).a (by decide) (by unfold Ssh; omega)).a (by decide) (by unfold Ssh; omega)) (fun _ _ _ _ hq => (rI_q hq).trans ((rI_q hq).trans ((rI_q hq).trans (rI_q hq)))) (fun _ _ => rfl) (fun e => by omega) (fun e => by omega) (fun _ => ⟨by rw [rI_k (by decide), rI_k (by decide), rI_k (by decide), rI_s, hmn.1]; rfl, by rw [rI_k (by decide), rI_k (by decide), rI_s]; exact hmn.2.2.2.1, by rw [rI_k (by decide), rI_s]; exact hmn.2.2.2.2.1, by rw [rI_s]; exact hmn.2.2.2.2.2.2⟩)⟩))
        · refine g_pc (pc' := 37) rfl ?_
          refine g_aload_n C dX10_show_37 rfl ?_
          refine gf_X10_101 C dX10_show_38 rfl ?_
          refine g_iload_n C dX10_show_41 rfl ?_
          refine g_iconst (z := 0) C dX10_show_42 rfl ?_
          refine g_iast (n := x.toNat) (N := 8) C dX10_show_43 rfl rfl (by omega) (by omega) (by decide) ?_
          refine g_iconst (z := 0) C dX10_show_44 rfl ?_
          exact g_ireturn C dX10_show_45 (by first | (exfalso; omega) | exact (by rw [show aShow V x nd = (0, vSet V (hset (vSh V) x.toNat 0 0 0 (fun _ => 0) (fun _ => 0))) by unfold aShow; (first | rw [if_pos (by omega)] | rw [if_neg (by omega), if_pos (by omega)] | rw [if_neg (by omega), if_neg (by omega)])]; exact ⟨rfl, hM.shelf hO (by omega) (Fm.rf.a (by decide) (by unfold Ssh; omega)) (fun _ _ _ _ hq => rI_q hq) (fun _ _ => rfl) (fun _ => rI_s) (fun e => by omega) (fun e => by omega)⟩))
      · refine g_aload_n C dX10_show_26 rfl ?_
        refine g_pc (pc' := 27) rfl ?_
        refine g_iconst (z := (-1)) C dX10_show_27 rfl ?_
        refine gc_X10_274 C dX10_show_28 rfl (c_X10_no hI (Ml M) σ (y := 1) (v := (-1)) (by first | rfl | omega) (by decide)) (by decide) (Nat.le_of_ble_eq_true rfl) (fun z σ9 ⟨hz, hσ⟩ => ?_)
        subst z
        subst σ9
        exact g_ireturn C dX10_show_31 (by first | (exfalso; omega) | exact (by rw [show aShow V x nd = rfs 1 V by unfold aShow; (first | rw [if_pos (by omega)] | rw [if_neg (by omega), if_pos (by omega)] | rw [if_neg (by omega), if_neg (by omega)])]; exact ⟨rfl, hM.ref (by omega), YC.ref⟩))
set_option maxHeartbeats 4000000 in
set_option maxRecDepth 100000 in
theorem c_X10_isSuch {κ : Kp} (hI : Ij κ) (l : Launch) (σ : St) {y a : Int} (hy : R32 y) (ha : 0 ≤ a ∧ a ≤ 4) : CtI κ l 1 yX10_isSuch cX10_isSuch 2 .boolean [.int (iZ y), .int (iZ a)] σ (fun z σ' => z = bZ (a = 0 ∨ (a = 1 ∧ y = 0) ∨ (a = 2 ∧ 1 ≤ y ∧ y ≤ 3) ∨ (a = 3 ∧ y = 3) ∨ (a = 4 ∧ y = 4)) ∧ σ' = σ) := by
  refine Ct.ofG (own := RX10) hI (by decide +kernel) rfl (Nat.le_of_ble_eq_true rfl) rfl ?_
  intro M C hMl
  refine g_iload_n C dX10_isSuch_0 rfl ?_
  have hs1 : a < 1 ∨ 4 < a ∨ a = 1 ∨ a = 2 ∨ a = 3 ∨ a = 4 := by omega
  rcases hs1 with hs1 | hs1 | hs1 | hs1 | hs1 | hs1
  · refine g_tswd (tgt := 71) C dX10_isSuch_1 (by unfold R32; omega) (by omega) (by decide) ?_
    refine g_iconst (z := 1) C dX10_isSuch_71 rfl ?_
    exact g_zreturn C dX10_isSuch_72 (by omega) ⟨(bZ_t (by omega)).symm, rfl⟩
  · refine g_tswd (tgt := 71) C dX10_isSuch_1 (by unfold R32; omega) (by omega) (by decide) ?_
    refine g_iconst (z := 1) C dX10_isSuch_71 rfl ?_
    exact g_zreturn C dX10_isSuch_72 (by omega) ⟨(bZ_t (by omega)).symm, rfl⟩
  · refine g_int (z' := 1) hs1 ?_
    refine g_tsw (tgt := 32) C dX10_isSuch_1 (by decide) (by decide) rfl (by decide) ?_
    refine g_iload_n C dX10_isSuch_32 rfl ?_
    refine g_pc (pc' := 33) rfl ?_
    refine g_if_ne (tgt := 40) C dX10_isSuch_33 (by decide) (by unfold R32; omega) (fun h2 => ?_) (fun h2 => ?_)
    · refine g_iconst (z := 0) C dX10_isSuch_40 rfl ?_
      exact g_zreturn C dX10_isSuch_41 (by omega) ⟨(bZ_f (by omega)).symm, rfl⟩
    · refine g_iconst (z := 1) C dX10_isSuch_36 rfl ?_
      refine g_goto (tgt := 41) C dX10_isSuch_37 (by decide) ?_
      exact g_zreturn C dX10_isSuch_41 (by omega) ⟨(bZ_t (by omega)).symm, rfl⟩
  · refine g_int (z' := 2) hs1 ?_
    refine g_tsw (tgt := 42) C dX10_isSuch_1 (by decide) (by decide) rfl (by decide) ?_
    refine g_iload_n C dX10_isSuch_42 rfl ?_
    refine g_iconst (z := 1) C dX10_isSuch_43 rfl ?_
    refine g_pc (pc' := 44) rfl ?_
    refine g_iconst (z := 3) C dX10_isSuch_44 rfl ?_
    refine gc_X10_145 C dX10_isSuch_45 (c_X10_isIn hI (Ml M) σ (v := y) (a := 1) (b := 3) (by unfold R32; omega) (by unfold R32; omega) (by unfold R32; omega)) (by decide) (Nat.le_of_ble_eq_true rfl) (fun z σ9 ⟨hz, hσ⟩ => ?_)
    subst z
    subst σ9
    exact g_zreturn C dX10_isSuch_48 (bZ_01 _) ⟨by unfold bZ; split <;> split <;> first | rfl | omega, rfl⟩
  · refine g_int (z' := 3) hs1 ?_
    refine g_tsw (tgt := 49) C dX10_isSuch_1 (by decide) (by decide) rfl (by decide) ?_
    refine g_iload_n C dX10_isSuch_49 rfl ?_
    refine g_iconst (z := 3) C dX10_isSuch_50 rfl ?_
    refine g_icmp_ne (tgt := 58) C dX10_isSuch_51 (by decide) (by unfold R32; omega) (fun h3 => ?_) (fun h3 => ?_)
    · refine g_iconst (z := 0) C dX10_isSuch_58 rfl ?_
      exact g_zreturn C dX10_isSuch_59 (by omega) ⟨(bZ_f (by omega)).symm, rfl⟩
    · refine g_pc (pc' := 54) rfl ?_
      refine g_iconst (z := 1) C dX10_isSuch_54 rfl ?_
      refine g_goto (tgt := 59) C dX10_isSuch_55 (by decide) ?_
      exact g_zreturn C dX10_isSuch_59 (by omega) ⟨(bZ_t (by omega)).symm, rfl⟩
  · refine g_int (z' := 4) hs1 ?_
    refine g_tsw (tgt := 60) C dX10_isSuch_1 (by decide) (by decide) rfl (by decide) ?_
    refine g_iload_n C dX10_isSuch_60 rfl ?_
    refine g_iconst (z := 4) C dX10_isSuch_61 rfl ?_
    refine g_icmp_ne (tgt := 69) C dX10_isSuch_62 (by decide) (by unfold R32; omega) (fun h4 => ?_) (fun h4 => ?_)
    · refine g_iconst (z := 0) C dX10_isSuch_69 rfl ?_
      exact g_zreturn C dX10_isSuch_70 (by omega) ⟨(bZ_f (by omega)).symm, rfl⟩
    · refine g_pc (pc' := 65) rfl ?_
      refine g_iconst (z := 1) C dX10_isSuch_65 rfl ?_
      refine g_goto (tgt := 70) C dX10_isSuch_66 (by decide) ?_
      exact g_zreturn C dX10_isSuch_70 (by omega) ⟨(bZ_t (by omega)).symm, rfl⟩
set_option maxHeartbeats 4000000 in
set_option maxRecDepth 100000 in
theorem c_X10_says {κ : Kp} (hI : Ij κ) (l : Launch) (σ : St) {V : Vw} (hM : MV σ V) (hO : OKV V) {x a : Int} (hx : R32 x) (ha : R32 a) : CtI κ l 3 yX10_says cX10_says 4 .int [.ref (κ.2.1 105), .int (iZ x), .int (iZ a)] σ (fun z σ' => z = (aSays V x a).1 ∧ MV σ' (aSays V x a).2 ∧ Fr YC σ σ') := by
  refine Ct.ofG (own := RX10) hI (by decide +kernel) rfl (Nat.le_of_ble_eq_true rfl) rfl ?_
  intro M C hMl
  refine g_iload_n C dX10_says_0 rfl ?_
  refine gc_X10_315 C dX10_says_1 (c_X10_isShelf hI (Ml M) σ (v := x) (by unfold R32; omega)) (by decide) (Nat.le_of_ble_eq_true rfl) (fun z σ9 ⟨hz, hσ⟩ => ?_)
  subst z
  subst σ9
  refine g_ifb_eq (tgt := 16) C dX10_says_4 (by decide) (fun h1 => ?_) (fun h1 => ?_)
  · refine g_iconst (z := (-1)) C dX10_says_16 rfl ?_
    refine g_goto (tgt := 74) C dX10_says_17 (by decide) ?_
    refine g_istore_n (L' := [(3, .int (iZ (-1))), (0, .ref (κ.2.1 105)), (1, .int (iZ x)), (2, .int (iZ a))]) C dX10_says_74 rfl (by decide) rfl ?_
    refine g_iload_n C dX10_says_75 rfl ?_
    refine g_pc (pc' := 76) rfl ?_
    refine g_if_eq (tgt := 85) C dX10_says_76 (by decide) (by unfold R32; omega) (fun h2 => ?_) (fun h2 => ?_)
    · exfalso; omega
    · refine g_aload_n C dX10_says_79 rfl ?_
      refine g_iload_n C dX10_says_80 rfl ?_
      refine gc_X10_274 C dX10_says_81 rfl (c_X10_no hI (Ml M) σ (y := 1) (v := (-1)) (by first | rfl | omega) (by decide)) (by decide) (Nat.le_of_ble_eq_true rfl) (fun z σ9 ⟨hz, hσ⟩ => ?_)
      subst z
      subst σ9
      exact g_ireturn C dX10_says_84 (by first | (exfalso; omega) | exact (by rw [show aSays V x a = rfs 1 V by unfold aSays; (first | rw [if_pos (by omega)] | rw [if_neg (by omega), if_pos (by omega)] | rw [if_neg (by omega), if_neg (by omega), if_pos (by omega)] | rw [if_neg (by omega), if_neg (by omega), if_neg (by omega), if_pos (by omega)] | rw [if_neg (by omega), if_neg (by omega), if_neg (by omega), if_neg (by omega)])]; exact ⟨rfl, hM.ref (by omega), YC.ref⟩))
  · refine g_iload_n C dX10_says_7 rfl ?_
    refine g_iconst (z := 0) C dX10_says_8 rfl ?_
    refine g_iconst (z := 4) C dX10_says_9 rfl ?_
    refine g_pc (pc' := 10) rfl ?_
    refine gc_X10_145 C dX10_says_10 (c_X10_isIn hI (Ml M) σ (v := a) (a := 0) (b := 4) (by unfold R32; omega) (by unfold R32; omega) (by unfold R32; omega)) (by decide) (Nat.le_of_ble_eq_true rfl) (fun z σ9 ⟨hz, hσ⟩ => ?_)
    subst z
    subst σ9
    refine g_ifb_ne (tgt := 20) C dX10_says_13 (by decide) (fun h3 => ?_) (fun h3 => ?_)
    · have hhx := hM.hd hO (s := x.toNat) (by omega)
      refine g_aload_n C dX10_says_20 rfl ?_
      refine g_iload_n C dX10_says_21 rfl ?_
      refine gc_X10_329 C dX10_says_22 rfl (c_X10_isRow hI (Ml M) σ (s := x.toNat) (by omega) (by omega) (by unfold R32; omega)) (by decide) (Nat.le_of_ble_eq_true rfl) (fun z σ9 ⟨hz, hσ⟩ => ?_)
      subst z
      subst σ9
      refine g_ifb_ne (tgt := 54) C dX10_says_25 (by decide) (fun h4 => ?_) (fun h4 => ?_)
      · refine g_bipush (z := (-2)) C dX10_says_54 rfl ?_
        refine g_goto (tgt := 74) C dX10_says_56 (by decide) ?_
        refine g_pc (pc' := 74) rfl ?_
        refine g_istore_n (L' := [(3, .int (iZ (-2))), (0, .ref (κ.2.1 105)), (1, .int (iZ x)), (2, .int (iZ a))]) C dX10_says_74 rfl (by decide) rfl ?_
        refine g_iload_n C dX10_says_75 rfl ?_
        refine g_if_eq (tgt := 85) C dX10_says_76 (by decide) (by unfold R32; omega) (fun h5 => ?_) (fun h5 => ?_)
        · exfalso; omega
        · refine g_aload_n C dX10_says_79 rfl ?_
          refine g_iload_n C dX10_says_80 rfl ?_
          refine gc_X10_274 C dX10_says_81 rfl (c_X10_no hI (Ml M) σ (y := 2) (v := (-2)) (by first | rfl | omega) (by decide)) (by decide) (Nat.le_of_ble_eq_true rfl) (fun z σ9 ⟨hz, hσ⟩ => ?_)
          subst z
          subst σ9
          exact g_ireturn C dX10_says_84 (by first | (exfalso; omega) | exact (by rw [show aSays V x a = rfs 2 V by unfold aSays; (first | rw [if_pos (by omega)] | rw [if_neg (by omega), if_pos (by omega)] | rw [if_neg (by omega), if_neg (by omega), if_pos (by omega)] | rw [if_neg (by omega), if_neg (by omega), if_neg (by omega), if_pos (by omega)] | rw [if_neg (by omega), if_neg (by omega), if_neg (by omega), if_neg (by omega)])]; exact ⟨rfl, hM.ref (by omega), YC.ref⟩))
      · refine g_aload_n C dX10_says_28 rfl ?_
        refine g_pc (pc' := 29) rfl ?_
        refine gf_X10_101 C dX10_says_29 rfl ?_
        refine g_iload_n C dX10_says_32 rfl ?_
        refine g_iaz (n := x.toNat) (N := 8) (v := (σ.1 146 x.toNat)) C dX10_says_33 rfl rfl (by omega) (by omega) (by decide) rfl ?_
        refine g_if_eq (tgt := 59) C dX10_says_34 (by decide) (by unfold R32; omega) (fun h6 => ?_) (fun h6 => ?_)
        · refine g_aload_n C dX10_says_59 rfl ?_
          refine gf_X10_101 C dX10_says_60 rfl ?_
          refine g_iload_n C dX10_says_63 rfl ?_
          refine g_iaz (n := x.toNat) (N := 8) (v := (σ.1 146 x.toNat)) C dX10_says_64 rfl rfl (by omega) (by omega) (by decide) rfl ?_
          refine g_pc (pc' := 65) rfl ?_
          refine g_if_ne (tgt := 73) C dX10_says_65 (by decide) (by unfold R32; omega) (fun h7 => ?_) (fun h7 => ?_)
          · refine g_iconst (z := 0) C dX10_says_73 rfl ?_
            refine g_istore_n (L' := [(3, .int (iZ 0)), (0, .ref (κ.2.1 105)), (1, .int (iZ x)), (2, .int (iZ a))]) C dX10_says_74 rfl (by decide) rfl ?_
            refine g_iload_n C dX10_says_75 rfl ?_
            refine g_if_eq (tgt := 85) C dX10_says_76 (by decide) (by unfold R32; omega) (fun h8 => ?_) (fun h8 => ?_)
            · have h2m := (hM.2.2.1 x.toNat (by omega)).2.2 (by omega)
              refine g_iload_n C dX10_says_85 rfl ?_
              refine g_if_ne (tgt := 98) C dX10_says_86 (by decide) (by unfold R32; omega) (fun h9 => ?_) (fun h9 => ?_)
              · refine g_iload_n C dX10_says_98 rfl ?_
                refine g_pc (pc' := 99) rfl ?_
                refine g_iconst (z := 2) C dX10_says_99 rfl ?_
                refine g_icmp_ne (tgt := 112) C dX10_says_100 (by decide) (by unfold R32; omega) (fun h10 => ?_) (fun h10 => ?_)
                · refine g_aload_n C dX10_says_112 rfl ?_
                  refine gf_X10_113 C dX10_says_113 rfl ?_
                  refine g_iload_n C dX10_says_116 rfl ?_
                  refine g_iaz (n := x.toNat) (N := 8) (v := (σ.1 150 x.toNat)) C dX10_says_117 rfl rfl (by omega) (by omega) (by decide) rfl ?_
                  exact g_ireturn C dX10_says_118 (by first | (exfalso; omega) | exact (by rw [show aSays V x a = (if a = 0 then sD (vSh V) x.toNat 3 else if a = 1 then (leastT (sD (vSh V) x.toNat 1).toNat : Int) else if a = 2 then sD (vSh V) x.toNat 4 else if a = 3 then sD (vSh V) x.toNat 5 else sD (vSh V) x.toNat 2, V) by unfold aSays; rw [if_neg (by omega), if_neg (by omega), if_neg (by omega), if_neg (by omega)]]; exact ⟨by show _ = ite _ _ _; rw [h2m.2.2.2]; unfold abt; rcases (show a = 1 ∨ a = 3 ∨ a = 4 by omega) with e | e | e; (rw [if_pos (show sD (vSh V) x.toNat 0 = 0 by omega), if_neg (show ¬ a = 0 by omega), if_pos e]); (rw [if_neg (show ¬ sD (vSh V) x.toNat 0 = 0 by omega), if_neg (show ¬ sD (vSh V) x.toNat 0 = 4 by omega), if_pos (show sD (vSh V) x.toNat 0 = 3 by omega), if_neg (show ¬ a = 0 by omega), if_neg (show ¬ a = 1 by omega), if_neg (show ¬ a = 2 by omega), if_pos e]); (rw [if_neg (show ¬ sD (vSh V) x.toNat 0 = 0 by omega), if_pos (show sD (vSh V) x.toNat 0 = 4 by omega), if_neg (show ¬ a = 0 by omega), if_neg (show ¬ a = 1 by omega), if_neg (show ¬ a = 2 by omega), if_neg (show ¬ a = 3 by omega)]), hM, Fr.rf⟩))
                · refine g_aload_n C dX10_says_103 rfl ?_
                  refine g_pc (pc' := 104) rfl ?_
                  refine gf_X10_110 C dX10_says_104 rfl ?_
                  refine g_iload_n C dX10_says_107 rfl ?_
                  refine g_iaz (n := x.toNat) (N := 8) (v := (σ.1 149 x.toNat)) C dX10_says_108 rfl rfl (by omega) (by omega) (by decide) rfl ?_
                  refine g_goto (tgt := 118) C dX10_says_109 (by decide) ?_
                  exact g_ireturn C dX10_says_118 (by first | (exfalso; omega) | exact (by rw [show aSays V x a = (if a = 0 then sD (vSh V) x.toNat 3 else if a = 1 then (leastT (sD (vSh V) x.toNat 1).toNat : Int) else if a = 2 then sD (vSh V) x.toNat 4 else if a = 3 then sD (vSh V) x.toNat 5 else sD (vSh V) x.toNat 2, V) by unfold aSays; rw [if_neg (by omega), if_neg (by omega), if_neg (by omega), if_neg (by omega)]]; exact ⟨by show _ = ite _ _ _; rw [if_neg (by omega), if_neg (by omega), if_pos (by omega)]; exact h2m.2.2.1, hM, Fr.rf⟩))
              · refine g_aload_n C dX10_says_89 rfl ?_
                refine gf_X10_107 C dX10_says_90 rfl ?_
                refine g_iload_n C dX10_says_93 rfl ?_
                refine g_pc (pc' := 94) rfl ?_
                refine g_iaz (n := x.toNat) (N := 8) (v := (σ.1 148 x.toNat)) C dX10_says_94 rfl rfl (by omega) (by omega) (by decide) rfl ?_
                refine g_goto (tgt := 118) C dX10_says_95 (by decide) ?_
                exact g_ireturn C dX10_says_118 (by first | (exfalso; omega) | exact (by rw [show aSays V x a = (if a = 0 then sD (vSh V) x.toNat 3 else if a = 1 then (leastT (sD (vSh V) x.toNat 1).toNat : Int) else if a = 2 then sD (vSh V) x.toNat 4 else if a = 3 then sD (vSh V) x.toNat 5 else sD (vSh V) x.toNat 2, V) by unfold aSays; rw [if_neg (by omega), if_neg (by omega), if_neg (by omega), if_neg (by omega)]]; exact ⟨by show _ = ite _ _ _; rw [if_pos (by omega)]; exact h2m.2.1, hM, Fr.rf⟩))
            · exfalso; omega
          · refine g_bipush (z := (-3)) C dX10_says_68 rfl ?_
            refine g_goto (tgt := 74) C dX10_says_70 (by decide) ?_
            refine g_istore_n (L' := [(3, .int (iZ (-3))), (0, .ref (κ.2.1 105)), (1, .int (iZ x)), (2, .int (iZ a))]) C dX10_says_74 rfl (by decide) rfl ?_
            refine g_iload_n C dX10_says_75 rfl ?_
            refine g_if_eq (tgt := 85) C dX10_says_76 (by decide) (by unfold R32; omega) (fun h11 => ?_) (fun h11 => ?_)
            · exfalso; omega
            · refine g_pc (pc' := 79) rfl ?_
              refine g_aload_n C dX10_says_79 rfl ?_
              refine g_iload_n C dX10_says_80 rfl ?_
              refine gc_X10_274 C dX10_says_81 rfl (c_X10_no hI (Ml M) σ (y := 3) (v := (-3)) (by first | rfl | omega) (by decide)) (by decide) (Nat.le_of_ble_eq_true rfl) (fun z σ9 ⟨hz, hσ⟩ => ?_)
              subst z
              subst σ9
              exact g_ireturn C dX10_says_84 (by first | (exfalso; omega) | exact (by rw [show aSays V x a = rfs 3 V by unfold aSays; (first | rw [if_pos (by omega)] | rw [if_neg (by omega), if_pos (by omega)] | rw [if_neg (by omega), if_neg (by omega), if_pos (by omega)] | rw [if_neg (by omega), if_neg (by omega), if_neg (by omega), if_pos (by omega)] | rw [if_neg (by omega), if_neg (by omega), if_neg (by omega), if_neg (by omega)])]; exact ⟨rfl, hM.ref (by omega), YC.ref⟩))
        · refine g_aload_n C dX10_says_37 rfl ?_
          refine gf_X10_101 C dX10_says_38 rfl ?_
          refine g_iload_n C dX10_says_41 rfl ?_
          refine g_iaz (n := x.toNat) (N := 8) (v := (σ.1 146 x.toNat)) C dX10_says_42 rfl rfl (by omega) (by omega) (by decide) rfl ?_
          refine g_pc (pc' := 43) rfl ?_
          refine g_sipush (z := 200) C dX10_says_43 rfl ?_
          refine g_isub C dX10_says_46 ?_
          refine g_iload_n C dX10_says_47 rfl ?_
          refine gc_X10_332 C dX10_says_48 (c_X10_isSuch hI (Ml M) σ (y := ((σ.1 146 x.toNat) - 200)) (a := a) (by unfold R32; omega) (by omega)) (by decide) (Nat.le_of_ble_eq_true rfl) (fun z σ9 ⟨hz, hσ⟩ => ?_)
          subst z
          subst σ9
          refine g_ifb_ne (tgt := 59) C dX10_says_51 (by decide) (fun h12 => ?_) (fun h12 => ?_)
          · refine g_aload_n C dX10_says_59 rfl ?_
            refine gf_X10_101 C dX10_says_60 rfl ?_
            refine g_iload_n C dX10_says_63 rfl ?_
            refine g_pc (pc' := 64) rfl ?_
            refine g_iaz (n := x.toNat) (N := 8) (v := (σ.1 146 x.toNat)) C dX10_says_64 rfl rfl (by omega) (by omega) (by decide) rfl ?_
            refine g_if_ne (tgt := 73) C dX10_says_65 (by decide) (by unfold R32; omega) (fun h13 => ?_) (fun h13 => ?_)
            · refine g_iconst (z := 0) C dX10_says_73 rfl ?_
              refine g_istore_n (L' := [(3, .int (iZ 0)), (0, .ref (κ.2.1 105)), (1, .int (iZ x)), (2, .int (iZ a))]) C dX10_says_74 rfl (by decide) rfl ?_
              refine g_iload_n C dX10_says_75 rfl ?_
              refine g_if_eq (tgt := 85) C dX10_says_76 (by decide) (by unfold R32; omega) (fun h14 => ?_) (fun h14 => ?_)
              · have h2m := (hM.2.2.1 x.toNat (by omega)).2.2 (by omega)
                refine g_iload_n C dX10_says_85 rfl ?_
                refine g_if_ne (tgt := 98) C dX10_says_86 (by decide) (by unfold R32; omega) (fun h15 => ?_) (fun h15 => ?_)
                · refine g_pc (pc' := 98) rfl ?_
                  refine g_iload_n C dX10_says_98 rfl ?_
                  refine g_iconst (z := 2) C dX10_says_99 rfl ?_
                  refine g_icmp_ne (tgt := 112) C dX10_says_100 (by decide) (by unfold R32; omega) (fun h16 => ?_) (fun h16 => ?_)
                  · refine g_aload_n C dX10_says_112 rfl ?_
                    refine gf_X10_113 C dX10_says_113 rfl ?_
                    refine g_iload_n C dX10_says_116 rfl ?_
                    refine g_iaz (n := x.toNat) (N := 8) (v := (σ.1 150 x.toNat)) C dX10_says_117 rfl rfl (by omega) (by omega) (by decide) rfl ?_
                    exact g_ireturn C dX10_says_118 (by first | (exfalso; omega) | exact (by rw [show aSays V x a = (if a = 0 then sD (vSh V) x.toNat 3 else if a = 1 then (leastT (sD (vSh V) x.toNat 1).toNat : Int) else if a = 2 then sD (vSh V) x.toNat 4 else if a = 3 then sD (vSh V) x.toNat 5 else sD (vSh V) x.toNat 2, V) by unfold aSays; rw [if_neg (by omega), if_neg (by omega), if_neg (by omega), if_neg (by omega)]]; exact ⟨by show _ = ite _ _ _; rw [h2m.2.2.2]; unfold abt; rcases (show a = 1 ∨ a = 3 ∨ a = 4 by omega) with e | e | e; (rw [if_pos (show sD (vSh V) x.toNat 0 = 0 by omega), if_neg (show ¬ a = 0 by omega), if_pos e]); (rw [if_neg (show ¬ sD (vSh V) x.toNat 0 = 0 by omega), if_neg (show ¬ sD (vSh V) x.toNat 0 = 4 by omega), if_pos (show sD (vSh V) x.toNat 0 = 3 by omega), if_neg (show ¬ a = 0 by omega), if_neg (show ¬ a = 1 by omega), if_neg (show ¬ a = 2 by omega), if_pos e]); (rw [if_neg (show ¬ sD (vSh V) x.toNat 0 = 0 by omega), if_pos (show sD (vSh V) x.toNat 0 = 4 by omega), if_neg (show ¬ a = 0 by omega), if_neg (show ¬ a = 1 by omega), if_neg (show ¬ a = 2 by omega), if_neg (show ¬ a = 3 by omega)]), hM, Fr.rf⟩))
                  · refine g_pc (pc' := 103) rfl ?_
                    refine g_aload_n C dX10_says_103 rfl ?_
                    refine gf_X10_110 C dX10_says_104 rfl ?_
                    refine g_iload_n C dX10_says_107 rfl ?_
                    refine g_iaz (n := x.toNat) (N := 8) (v := (σ.1 149 x.toNat)) C dX10_says_108 rfl rfl (by omega) (by omega) (by decide) rfl ?_
                    refine g_goto (tgt := 118) C dX10_says_109 (by decide) ?_
                    exact g_ireturn C dX10_says_118 (by first | (exfalso; omega) | exact (by rw [show aSays V x a = (if a = 0 then sD (vSh V) x.toNat 3 else if a = 1 then (leastT (sD (vSh V) x.toNat 1).toNat : Int) else if a = 2 then sD (vSh V) x.toNat 4 else if a = 3 then sD (vSh V) x.toNat 5 else sD (vSh V) x.toNat 2, V) by unfold aSays; rw [if_neg (by omega), if_neg (by omega), if_neg (by omega), if_neg (by omega)]]; exact ⟨by show _ = ite _ _ _; rw [if_neg (by omega), if_neg (by omega), if_pos (by omega)]; exact h2m.2.2.1, hM, Fr.rf⟩))
                · refine g_aload_n C dX10_says_89 rfl ?_
                  refine gf_X10_107 C dX10_says_90 rfl ?_
                  refine g_pc (pc' := 93) rfl ?_
                  refine g_iload_n C dX10_says_93 rfl ?_
                  refine g_iaz (n := x.toNat) (N := 8) (v := (σ.1 148 x.toNat)) C dX10_says_94 rfl rfl (by omega) (by omega) (by decide) rfl ?_
                  refine g_goto (tgt := 118) C dX10_says_95 (by decide) ?_
                  exact g_ireturn C dX10_says_118 (by first | (exfalso; omega) | exact (by rw [show aSays V x a = (if a = 0 then sD (vSh V) x.toNat 3 else if a = 1 then (leastT (sD (vSh V) x.toNat 1).toNat : Int) else if a = 2 then sD (vSh V) x.toNat 4 else if a = 3 then sD (vSh V) x.toNat 5 else sD (vSh V) x.toNat 2, V) by unfold aSays; rw [if_neg (by omega), if_neg (by omega), if_neg (by omega), if_neg (by omega)]]; exact ⟨by show _ = ite _ _ _; rw [if_pos (by omega)]; exact h2m.2.1, hM, Fr.rf⟩))
              · exfalso; omega
            · refine g_bipush (z := (-3)) C dX10_says_68 rfl ?_
              refine g_goto (tgt := 74) C dX10_says_70 (by decide) ?_
              refine g_istore_n (L' := [(3, .int (iZ (-3))), (0, .ref (κ.2.1 105)), (1, .int (iZ x)), (2, .int (iZ a))]) C dX10_says_74 rfl (by decide) rfl ?_
              refine g_iload_n C dX10_says_75 rfl ?_
              refine g_pc (pc' := 76) rfl ?_
              refine g_if_eq (tgt := 85) C dX10_says_76 (by decide) (by unfold R32; omega) (fun h17 => ?_) (fun h17 => ?_)
              · exfalso; omega
              · refine g_aload_n C dX10_says_79 rfl ?_
                refine g_iload_n C dX10_says_80 rfl ?_
                refine gc_X10_274 C dX10_says_81 rfl (c_X10_no hI (Ml M) σ (y := 3) (v := (-3)) (by first | rfl | omega) (by decide)) (by decide) (Nat.le_of_ble_eq_true rfl) (fun z σ9 ⟨hz, hσ⟩ => ?_)
                subst z
                subst σ9
                exact g_ireturn C dX10_says_84 (by first | (exfalso; omega) | exact (by rw [show aSays V x a = rfs 3 V by unfold aSays; (first | rw [if_pos (by omega)] | rw [if_neg (by omega), if_pos (by omega)] | rw [if_neg (by omega), if_neg (by omega), if_pos (by omega)] | rw [if_neg (by omega), if_neg (by omega), if_neg (by omega), if_pos (by omega)] | rw [if_neg (by omega), if_neg (by omega), if_neg (by omega), if_neg (by omega)])]; exact ⟨rfl, hM.ref (by omega), YC.ref⟩))
          · refine g_bipush (z := (-2)) C dX10_says_54 rfl ?_
            refine g_goto (tgt := 74) C dX10_says_56 (by decide) ?_
            refine g_istore_n (L' := [(3, .int (iZ (-2))), (0, .ref (κ.2.1 105)), (1, .int (iZ x)), (2, .int (iZ a))]) C dX10_says_74 rfl (by decide) rfl ?_
            refine g_pc (pc' := 75) rfl ?_
            refine g_iload_n C dX10_says_75 rfl ?_
            refine g_if_eq (tgt := 85) C dX10_says_76 (by decide) (by unfold R32; omega) (fun h18 => ?_) (fun h18 => ?_)
            · exfalso; omega
            · refine g_aload_n C dX10_says_79 rfl ?_
              refine g_iload_n C dX10_says_80 rfl ?_
              refine gc_X10_274 C dX10_says_81 rfl (c_X10_no hI (Ml M) σ (y := 2) (v := (-2)) (by first | rfl | omega) (by decide)) (by decide) (Nat.le_of_ble_eq_true rfl) (fun z σ9 ⟨hz, hσ⟩ => ?_)
              subst z
              subst σ9
              exact g_ireturn C dX10_says_84 (by first | (exfalso; omega) | exact (by rw [show aSays V x a = rfs 2 V by unfold aSays; (first | rw [if_pos (by omega)] | rw [if_neg (by omega), if_pos (by omega)] | rw [if_neg (by omega), if_neg (by omega), if_pos (by omega)] | rw [if_neg (by omega), if_neg (by omega), if_neg (by omega), if_pos (by omega)] | rw [if_neg (by omega), if_neg (by omega), if_neg (by omega), if_neg (by omega)])]; exact ⟨rfl, hM.ref (by omega), YC.ref⟩))
    · refine g_iconst (z := (-1)) C dX10_says_16 rfl ?_
      refine g_goto (tgt := 74) C dX10_says_17 (by decide) ?_
      refine g_pc (pc' := 74) rfl ?_
      refine g_istore_n (L' := [(3, .int (iZ (-1))), (0, .ref (κ.2.1 105)), (1, .int (iZ x)), (2, .int (iZ a))]) C dX10_says_74 rfl (by decide) rfl ?_
      refine g_iload_n C dX10_says_75 rfl ?_
      refine g_if_eq (tgt := 85) C dX10_says_76 (by decide) (by unfold R32; omega) (fun h19 => ?_) (fun h19 => ?_)
      · exfalso; omega
      · refine g_aload_n C dX10_says_79 rfl ?_
        refine g_iload_n C dX10_says_80 rfl ?_
        refine gc_X10_274 C dX10_says_81 rfl (c_X10_no hI (Ml M) σ (y := 1) (v := (-1)) (by first | rfl | omega) (by decide)) (by decide) (Nat.le_of_ble_eq_true rfl) (fun z σ9 ⟨hz, hσ⟩ => ?_)
        subst z
        subst σ9
        exact g_ireturn C dX10_says_84 (by first | (exfalso; omega) | exact (by rw [show aSays V x a = rfs 1 V by unfold aSays; (first | rw [if_pos (by omega)] | rw [if_neg (by omega), if_pos (by omega)] | rw [if_neg (by omega), if_neg (by omega), if_pos (by omega)] | rw [if_neg (by omega), if_neg (by omega), if_neg (by omega), if_pos (by omega)] | rw [if_neg (by omega), if_neg (by omega), if_neg (by omega), if_neg (by omega)])]; exact ⟨rfl, hM.ref (by omega), YC.ref⟩))

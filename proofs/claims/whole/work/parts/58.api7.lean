/-! the calls cost and plan -/
def aBad (s o : Int) : Prop := ¬ (0 < s ∧ s < 32) ∨ ¬ (o = -1 ∨ (0 ≤ o ∧ o < 15))
def aCost (V : Vw) (s o : Int) : Int × Vw := if ¬ (0 < s ∧ s < 32) ∨ ¬ (o = -1 ∨ (0 ≤ o ∧ o < 15)) then rfT 6 V else if zW (TT (vW V) s.toNat (o + 1).toNat) = -1 then (-1, V) else (((zK (TT (vW V) s.toNat (o + 1).toNat)).toNat : Int), V)
def vPl (V : Vw) (p : Nat × (Nat → Nat → Int)) : Vw := (V.1, V.2.1, V.2.2.1, p, V.2.2.2.2)
def aPlan (V : Vw) (s o : Int) : Int × Vw := if ¬ (0 < s ∧ s < 32) ∨ ¬ (o = -1 ∨ (0 ≤ o ∧ o < 15)) then rfs 6 V else if zW (TT (vW V) s.toNat (o + 1).toNat) = -1 then rfs 5 V else ((zS (TT (vW V) s.toNat (o + 1).toNat) : Int), vPl V (zS (TT (vW V) s.toNat (o + 1).toNat), fun u j => nodD (vW V) (gL (PL (vW V) (16 * s.toNat + (o + 1).toNat)) u) j))
theorem ch_sub {w : Wv} (hW : OKW w) {k : Nat} (hv : tV w k) : (∀ l, kL w k = some l → l / 16 &&& k / 16 = l / 16) ∧ (∀ l, kR w k = some l → l / 16 &&& k / 16 = l / 16) := by
  obtain ⟨⟨h1, h2⟩, h3⟩ := hv
  rcases TT_CW hW (s := k / 16) (o := k % 16) (by omega) (by omega) (by omega) with e | e | e | e
  · exact absurd e h3
  · exact ⟨fun l hl => absurd e.2.1 (kL_some hl).1, fun l hl => absurd e.2.2.1 (kR_some hl).1⟩
  · refine ⟨fun l hl => ?_, fun l hl => absurd e.2.1.2.1 (kR_some hl).1⟩
    have e1 : zL (tC w k) = _ := e.2.1.1
    have h9 := (kL_some hl).2
    rw [e1] at h9
    rw [h9, show (((16 * (k / 16) + 0 : Nat) : Int)).toNat / 16 = k / 16 by omega, Nat.and_self]
  · obtain ⟨a, b, o1, o2, i, ⟨a1, a2, a3, a4⟩, ⟨b1, b2⟩, ⟨c1, c2⟩, -⟩ := e
    have d1 : zL (tC w k) = _ := c1
    have d2 : zR (tC w k) = _ := c2
    refine ⟨fun l hl => ?_, fun l hl => ?_⟩
    · have h9 := (kL_some hl).2
      rw [d1] at h9
      rw [h9, show (((16 * a + o1 : Nat) : Int)).toNat / 16 = a by omega]; exact a4
    · have h9 := (kR_some hl).2
      rw [d2] at h9
      have := sub_of (s := k / 16) (a := a) (by omega) a4
      rw [h9, show (((16 * b + o2 : Nat) : Int)).toNat / 16 = k / 16 - a by omega]; exact this
theorem and_tr {x l k : Nat} (h : x &&& l = x) (g : l &&& k = l) : x &&& k = x := by rw [← h, Nat.and_assoc, g]
theorem PL_sub {w : Wv} (hW : OKW w) {k : Nat} (hv : tV w k) : ∀ x, x ∈ PL w k → x / 16 &&& k / 16 = x / 16 :=
  t_all hW (C := fun k => ∀ x, x ∈ PL w k → x / 16 &&& k / 16 = x / 16) (fun k _ _ _ _ hp x hx => by rw [hp, List.mem_singleton] at hx; rw [hx]; exact Nat.and_self _) (fun k l hv e1 _ _ _ hp ih x hx => by
    rw [hp] at hx
    rcases List.mem_cons.mp hx with e | e
    · rw [e]; exact Nat.and_self _
    · exact and_tr (ih x e) ((ch_sub hW hv).1 l e1)) (fun k l r hv e1 e2 _ _ _ hp i1 i2 x hx => by
    rw [hp] at hx
    rcases List.mem_cons.mp hx with e | e
    · rw [e]; exact Nat.and_self _
    · rcases List.mem_append.mp e with e | e
      · exact and_tr (i1 x e) ((ch_sub hW hv).1 l e1)
      · exact and_tr (i2 x e) ((ch_sub hW hv).2 r e2)) hv
theorem PL_PK {w : Wv} (hW : OKW w) {σ : St} {s o : Nat} (hs : s ≤ 31) (ho : o < 16) (hv : tV w (16 * s + o)) (h : ∀ a, 1 ≤ a → a ≤ s → a &&& s = a → PRw σ a (TT w a)) : ∀ x, x ∈ PL w (16 * s + o) → PK σ x (tC w x) := fun x hx => by
  have h1 := PL_sub hW hv x hx
  have h2 := (PL_mem hW hv x hx).1
  rw [show (16 * s + o) / 16 = s by omega] at h1
  have h3 : x / 16 ≤ s := by rw [← h1]; exact Nat.and_le_right
  have h4 := h (x / 16) (by omega) h3 h1 (x % 16) (by omega)
  rw [show 16 * (x / 16) + x % 16 = x by omega] at h4
  exact h4
theorem PLD_XC {k : Nat} (h : PLD k) : XC k := by unfold PLD at h; unfold XC; omega
theorem LO_XC {k : Nat} (h : LO k) : XC k := by unfold LO at h; unfold XC; omega
theorem XV.frPL {σ σ' : St} {V : Vw} (hX : XV σ V) (hO : OKV V) (hF : Fr PLD σ σ') : XV σ' V := hX.scratch hO hF (fun k hk e => by unfold PLD at e; omega)
theorem XV.plan {σ σ' : St} {V : Vw} (hX : XV σ V) (hF : Fr LO σ σ') {n : Nat} {z : Int} (hz : z = (n : Int)) {D : Nat → Nat → Int} (hn : n ≤ 18) (hD : ∀ u, u < n → ∀ j, j < 7 → σ'.1 (58 + u) j = D u j) : XV (sI σ' 76 9 z) (vPl V (n, D)) := by
  have hF2 : Fr (fun k => LO k ∨ k = 76) σ (sI σ' 76 9 z) := (hF.mono (fun k => Or.inl)).sI (Or.inr rfl)
  refine ⟨hX.1.fr hF2 (fun k _ hk e => by unfold LO at e; omega), ⟨?_, fun h1 => (hX.2.1.2 h1).fr hF2 (fun k h1 h2 e => by unfold LO at e; omega)⟩, hX.2.2.1.fr hF2 (fun k h1 h2 e => by unfold LO at e; omega), ⟨?_, fun u hu j hj => ?_⟩, ⟨?_, fun y hy => ?_⟩⟩
  · rw [rI_j (by decide), hF.1 76 (by unfold LO; omega)]; exact hX.2.1.1
  · rw [rI_s]; exact hz
  · have hu' : u < n := hu
    rw [rI_k (by omega)]; exact hD u hu' j hj
  · rw [rI_j (by decide), hF.1 76 (by unfold LO; omega)]; exact hX.2.2.2.2.1
  · rw [rI_k (by decide), hF.1 79 (by unfold LO; omega)]; exact hX.2.2.2.2.2 y hy
set_option maxHeartbeats 4000000 in
set_option maxRecDepth 100000 in
theorem c_X9_cost {κ : Kp} (hI : Ij κ) (l : Launch) (σ : St) {V : Vw} (hX : XV σ V) (hO : OKV V) {s o : Int} (hs : R32 s) (ho : R32 o) : CtI κ l 6 yX9_cost cX9_cost 4 .int [.ref (κ.2.1 76), .int (iZ s), .int (iZ o)] σ (fun z σ' => z = (aCost V s o).1 ∧ XV σ' (aCost V s o).2 ∧ Fr XC σ σ') := by
  refine Ct.ofG (own := RX9) hI (by decide +kernel) rfl (Nat.le_of_ble_eq_true rfl) rfl ?_
  intro M C hMl
  refine g_iload_n C dX9_cost_0 rfl ?_
  refine gc_X9_250 C dX9_cost_1 (c_X9_isSet hI (Ml M) σ (x := s) (by assumption)) (by decide) (Nat.le_of_ble_eq_true rfl) (fun z σ1 ⟨hz, hσ⟩ => ?_)
  subst z
  subst σ1
  refine g_ifb_eq (tgt := 14) C dX9_cost_4 (by decide) (fun h1 => ?_) (fun h1 => ?_)
  · refine g_aload_n C dX9_cost_14 rfl ?_
    refine g_bipush (z := 6) C dX9_cost_15 rfl ?_
    refine gc_X9_168 C dX9_cost_17 rfl (c_X9_refuseTenLower hI (Ml M) σ (y := 6) rfl (by omega)) (by decide) (Nat.le_of_ble_eq_true rfl) (fun z σ1 ⟨hz, hσ⟩ => ?_)
    subst z
    subst σ1
    exact g_ireturn C dX9_cost_20 (by rw [show aCost V s o = rfT 6 V by unfold aCost; (first | rw [if_pos (by omega)] | rw [if_neg (by omega), if_pos (by omega)] | rw [if_neg (by omega), if_neg (by omega)])]; exact ⟨rfl, hX.ref hO (by omega), XC.ref⟩)
  · refine g_pc (pc' := 7) rfl ?_
    refine g_iload_n C dX9_cost_7 rfl ?_
    refine gc_X9_263 C dX9_cost_8 (c_X9_isOrder hI (Ml M) σ (x := o) (by assumption)) (by decide) (Nat.le_of_ble_eq_true rfl) (fun z σ1 ⟨hz, hσ⟩ => ?_)
    subst z
    subst σ1
    refine g_ifb_ne (tgt := 21) C dX9_cost_11 (by decide) (fun h2 => ?_) (fun h2 => ?_)
    · refine g_aload_n C dX9_cost_21 rfl ?_
      refine gf_X9_28 C dX9_cost_22 rfl ?_
      refine gc_X9_253 C dX9_cost_25 rfl (c_X7_think hI (Ml M) σ hX.1 hO.1) (by decide) (Nat.le_of_ble_eq_true rfl) (fun s0 ⟨hF0, hT⟩ => ?_)
      have hX0 := hX.frT hO hF0
      refine g_aload_n C dX9_cost_28 rfl ?_
      refine gf_X9_37 C dX9_cost_29 rfl ?_
      refine g_pc (pc' := 32) rfl ?_
      refine g_iload_n C dX9_cost_32 rfl ?_
      refine gc_X9_266 C dX9_cost_33 rfl (c_X3_search hI (Ml M) s0 hX0.1 hO.1 hT (s := s.toNat) (by omega) (by omega)) (by decide) (Nat.le_of_ble_eq_true rfl) (fun s1 ⟨hQ, hF9⟩ => ?_)
      have hX1 := hX0.frPL hO hF9
      have hF1 : Fr XC σ s1 := (hF0.mono (fun k => TC_XC')).tr (hF9.mono (fun k => PLD_XC))
      have hrow := hQ s.toNat (by omega) (Nat.le_refl _) (Nat.and_self _)
      have hcell := hrow (o + 1).toNat (by omega)
      have hTP := (TT_PO hO.1 s.toNat s.toNat (Nat.le_refl _) (by omega) (by omega)).1 (o + 1).toNat (by omega)
      have hcW : R32 (zW (TT (vW V) s.toNat (o + 1).toNat)) := by rcases hTP with h | h <;> (unfold R32; omega)
      refine g_iload_n C dX9_cost_36 rfl ?_
      refine g_iload_n C dX9_cost_37 rfl ?_
      refine gc_X9_270 C dX9_cost_38 (c_X9_cellOf hI (Ml M) s1 (a := s) (b := o)) (by decide) (Nat.le_of_ble_eq_true rfl) (fun zc σ9 ⟨hzc, hσ⟩ => ?_)
      subst σ9
      replace hzc : zc = (((16 * s.toNat + (o + 1).toNat) : Nat) : Int) := by omega
      refine g_istore_n (L' := [(3, .int (iZ zc)), (0, .ref (κ.2.1 76)), (1, .int (iZ s)), (2, .int (iZ o))]) C dX9_cost_41 rfl (by decide) rfl ?_
      refine g_aload_n C dX9_cost_42 rfl ?_
      refine gf_X9_37 C dX9_cost_43 rfl ?_
      refine g_pc (pc' := 46) rfl ?_
      refine gf_X9_273 C dX9_cost_46 rfl ?_
      refine g_iload_n C dX9_cost_49 rfl ?_
      refine g_iaz (n := (16 * s.toNat + (o + 1).toNat)) (N := 512) (v := (zW (TT (vW V) s.toNat (o + 1).toNat))) C dX9_cost_50 rfl rfl (by omega) (by omega) (by decide) hcell.1 ?_
      refine g_iconst (z := (-1)) C dX9_cost_51 rfl ?_
      refine g_icmp_ne (tgt := 59) C dX9_cost_52 (by decide) ⟨hcW, by unfold R32; omega⟩ (fun h3 => ?_) (fun h3 => ?_)
      · refine g_aload_n C dX9_cost_59 rfl ?_
        refine gf_X9_37 C dX9_cost_60 rfl ?_
        refine gf_X9_276 C dX9_cost_63 rfl ?_
        refine g_pc (pc' := 66) rfl ?_
        refine g_iload_n C dX9_cost_66 rfl ?_
        refine g_faz (n := (16 * s.toNat + (o + 1).toNat)) (N := 512) (v := (zK (TT (vW V) s.toNat (o + 1).toNat))) C dX9_cost_67 rfl rfl (by omega) (by omega) (by decide) ((hcell.2 (by assumption)).1) ?_
        refine gc_X9_207 C dX9_cost_68 (c_X9_bitsOf hI (Ml M) s1 (FN.of (PO.fb hTP (by assumption)))) (by decide) (Nat.le_of_ble_eq_true rfl) (fun z2 σ9 ⟨hz2, hσ⟩ => ?_)
        subst σ9
        exact g_ireturn C dX9_cost_71 (by rw [show aCost V s o = (((zK (TT (vW V) s.toNat (o + 1).toNat)).toNat : Int), V) by unfold aCost; (first | rw [if_pos (by omega)] | rw [if_neg (by omega), if_pos (by omega)] | rw [if_neg (by omega), if_neg (by omega)])]; exact ⟨hz2, hX1, hF1⟩)
      · refine g_iconst (z := (-1)) C dX9_cost_55 rfl ?_
        refine g_goto (tgt := 71) C dX9_cost_56 (by decide) ?_
        exact g_ireturn C dX9_cost_71 (by rw [show aCost V s o = (-1, V) by unfold aCost; (first | rw [if_pos (by omega)] | rw [if_neg (by omega), if_pos (by omega)] | rw [if_neg (by omega), if_neg (by omega)])]; exact ⟨rfl, hX1, hF1⟩)
    · refine g_aload_n C dX9_cost_14 rfl ?_
      refine g_pc (pc' := 15) rfl ?_
      refine g_bipush (z := 6) C dX9_cost_15 rfl ?_
      refine gc_X9_168 C dX9_cost_17 rfl (c_X9_refuseTenLower hI (Ml M) σ (y := 6) rfl (by omega)) (by decide) (Nat.le_of_ble_eq_true rfl) (fun z σ1 ⟨hz, hσ⟩ => ?_)
      subst z
      subst σ1
      exact g_ireturn C dX9_cost_20 (by rw [show aCost V s o = rfT 6 V by unfold aCost; (first | rw [if_pos (by omega)] | rw [if_neg (by omega), if_pos (by omega)] | rw [if_neg (by omega), if_neg (by omega)])]; exact ⟨rfl, hX.ref hO (by omega), XC.ref⟩)
set_option maxHeartbeats 4000000 in
set_option maxRecDepth 100000 in
theorem c_X9_plan {κ : Kp} (hI : Ij κ) (l : Launch) (σ : St) {V : Vw} (hX : XV σ V) (hO : OKV V) {s o : Int} (hs : R32 s) (ho : R32 o) : CtI κ l 6 yX9_plan cX9_plan 4 .int [.ref (κ.2.1 76), .int (iZ s), .int (iZ o)] σ (fun z σ' => z = (aPlan V s o).1 ∧ XV σ' (aPlan V s o).2 ∧ Fr XC σ σ') := by
  refine Ct.ofG (own := RX9) hI (by decide +kernel) rfl (Nat.le_of_ble_eq_true rfl) rfl ?_
  intro M C hMl
  refine g_iload_n C dX9_plan_0 rfl ?_
  refine gc_X9_250 C dX9_plan_1 (c_X9_isSet hI (Ml M) σ (x := s) (by assumption)) (by decide) (Nat.le_of_ble_eq_true rfl) (fun z σ1 ⟨hz, hσ⟩ => ?_)
  subst z
  subst σ1
  refine g_ifb_eq (tgt := 14) C dX9_plan_4 (by decide) (fun h1 => ?_) (fun h1 => ?_)
  · refine g_aload_n C dX9_plan_14 rfl ?_
    refine g_bipush (z := 6) C dX9_plan_15 rfl ?_
    refine gc_X9_84 C dX9_plan_17 rfl (c_X9_refuse hI (Ml M) σ (y := 6) rfl (by omega)) (by decide) (Nat.le_of_ble_eq_true rfl) (fun z σ1 ⟨hz, hσ⟩ => ?_)
    subst z
    subst σ1
    exact g_ireturn C dX9_plan_20 (by rw [show aPlan V s o = rfs 6 V by unfold aPlan; (first | rw [if_pos (by omega)] | rw [if_neg (by omega), if_pos (by omega)] | rw [if_neg (by omega), if_neg (by omega)])]; exact ⟨rfl, hX.ref hO (by omega), XC.ref⟩)
  · refine g_pc (pc' := 7) rfl ?_
    refine g_iload_n C dX9_plan_7 rfl ?_
    refine gc_X9_263 C dX9_plan_8 (c_X9_isOrder hI (Ml M) σ (x := o) (by assumption)) (by decide) (Nat.le_of_ble_eq_true rfl) (fun z σ1 ⟨hz, hσ⟩ => ?_)
    subst z
    subst σ1
    refine g_ifb_ne (tgt := 21) C dX9_plan_11 (by decide) (fun h2 => ?_) (fun h2 => ?_)
    · refine g_aload_n C dX9_plan_21 rfl ?_
      refine gf_X9_28 C dX9_plan_22 rfl ?_
      refine gc_X9_253 C dX9_plan_25 rfl (c_X7_think hI (Ml M) σ hX.1 hO.1) (by decide) (Nat.le_of_ble_eq_true rfl) (fun s0 ⟨hF0, hT⟩ => ?_)
      have hX0 := hX.frT hO hF0
      refine g_aload_n C dX9_plan_28 rfl ?_
      refine gf_X9_37 C dX9_plan_29 rfl ?_
      refine g_pc (pc' := 32) rfl ?_
      refine g_iload_n C dX9_plan_32 rfl ?_
      refine gc_X9_266 C dX9_plan_33 rfl (c_X3_search hI (Ml M) s0 hX0.1 hO.1 hT (s := s.toNat) (by omega) (by omega)) (by decide) (Nat.le_of_ble_eq_true rfl) (fun s1 ⟨hQ, hF9⟩ => ?_)
      have hX1 := hX0.frPL hO hF9
      have hF1 : Fr XC σ s1 := (hF0.mono (fun k => TC_XC')).tr (hF9.mono (fun k => PLD_XC))
      have hrow := hQ s.toNat (by omega) (Nat.le_refl _) (Nat.and_self _)
      have hcell := hrow (o + 1).toNat (by omega)
      have hTP := (TT_PO hO.1 s.toNat s.toNat (Nat.le_refl _) (by omega) (by omega)).1 (o + 1).toNat (by omega)
      have hcW : R32 (zW (TT (vW V) s.toNat (o + 1).toNat)) := by rcases hTP with h | h <;> (unfold R32; omega)
      refine g_iload_n C dX9_plan_36 rfl ?_
      refine g_iload_n C dX9_plan_37 rfl ?_
      refine gc_X9_270 C dX9_plan_38 (c_X9_cellOf hI (Ml M) s1 (a := s) (b := o)) (by decide) (Nat.le_of_ble_eq_true rfl) (fun zc σ9 ⟨hzc, hσ⟩ => ?_)
      subst σ9
      replace hzc : zc = (((16 * s.toNat + (o + 1).toNat) : Nat) : Int) := by omega
      refine g_istore_n (L' := [(3, .int (iZ zc)), (0, .ref (κ.2.1 76)), (1, .int (iZ s)), (2, .int (iZ o))]) C dX9_plan_41 rfl (by decide) rfl ?_
      refine g_aload_n C dX9_plan_42 rfl ?_
      refine gf_X9_37 C dX9_plan_43 rfl ?_
      refine g_pc (pc' := 46) rfl ?_
      refine gf_X9_273 C dX9_plan_46 rfl ?_
      refine g_iload_n C dX9_plan_49 rfl ?_
      refine g_iaz (n := (16 * s.toNat + (o + 1).toNat)) (N := 512) (v := (zW (TT (vW V) s.toNat (o + 1).toNat))) C dX9_plan_50 rfl rfl (by omega) (by omega) (by decide) hcell.1 ?_
      refine g_iconst (z := (-1)) C dX9_plan_51 rfl ?_
      refine g_icmp_ne (tgt := 61) C dX9_plan_52 (by decide) ⟨hcW, by unfold R32; omega⟩ (fun h3 => ?_) (fun h3 => ?_)
      · refine g_aload_n C dX9_plan_61 rfl ?_
        refine g_aload_n C dX9_plan_62 rfl ?_
        refine gf_X9_37 C dX9_plan_63 rfl ?_
        refine g_pc (pc' := 66) rfl ?_
        refine g_iload_n C dX9_plan_66 rfl ?_
        refine g_aload_n C dX9_plan_67 rfl ?_
        refine gf_X9_63 C dX9_plan_68 rfl ?_
        have hv : tV (vW V) (16 * s.toNat + (o + 1).toNat) := ⟨⟨by omega, by omega⟩, by rw [tC_c (by omega)]; assumption⟩
        have hti := t_info hO.1 hv
        rw [tC_c (by omega)] at hti
        refine gc_X9_280 C dX9_plan_71 rfl (c_X3_layOut hI (Ml M) s1 hX1.1 hO.1 (k := (16 * s.toNat + (o + 1).toNat)) hzc hv rfl (PL_PK hO.1 (by omega) (by omega) hv hQ)) (by decide) (Nat.le_of_ble_eq_true rfl) (fun zn s2 ⟨hzn, hND, hF2⟩ => ?_)
        rw [tC_c (by omega)] at hzn hND
        have hX2 := hX1.plan hF2 hzn hti.2.2.2.2.1.2 hND
        refine gp_X9_67 C dX9_plan_74 rfl ?_
        refine g_aload_n C dX9_plan_77 rfl ?_
        refine gf_X9_67 (z := zn) C dX9_plan_78 rfl rI_s ?_
        exact g_ireturn C dX9_plan_81 (by rw [show aPlan V s o = ((zS (TT (vW V) s.toNat (o + 1).toNat) : Int), vPl V (zS (TT (vW V) s.toNat (o + 1).toNat), fun u j => nodD (vW V) (gL (PL (vW V) (16 * s.toNat + (o + 1).toNat)) u) j)) by unfold aPlan; (first | rw [if_pos (by omega)] | rw [if_neg (by omega), if_pos (by omega)] | rw [if_neg (by omega), if_neg (by omega)])]; exact ⟨hzn, hX2, (hF1.tr (hF2.mono (fun k => LO_XC))).sI (by unfold XC; omega)⟩)
      · refine g_pc (pc' := 55) rfl ?_
        refine g_aload_n C dX9_plan_55 rfl ?_
        refine g_iconst (z := 5) C dX9_plan_56 rfl ?_
        refine gc_X9_84 C dX9_plan_57 rfl (c_X9_refuse hI (Ml M) s1 (y := 5) rfl (by omega)) (by decide) (Nat.le_of_ble_eq_true rfl) (fun z σ1 ⟨hz, hσ⟩ => ?_)
        subst z
        subst σ1
        exact g_ireturn C dX9_plan_60 (by rw [show aPlan V s o = rfs 5 V by unfold aPlan; (first | rw [if_pos (by omega)] | rw [if_neg (by omega), if_pos (by omega)] | rw [if_neg (by omega), if_neg (by omega)])]; exact ⟨rfl, hX1.ref hO (by omega), hF1.tr XC.ref⟩)
    · refine g_aload_n C dX9_plan_14 rfl ?_
      refine g_bipush (z := 6) C dX9_plan_15 rfl ?_
      refine gc_X9_84 C dX9_plan_17 rfl (c_X9_refuse hI (Ml M) σ (y := 6) rfl (by omega)) (by decide) (Nat.le_of_ble_eq_true rfl) (fun z σ1 ⟨hz, hσ⟩ => ?_)
      subst z
      subst σ1
      exact g_ireturn C dX9_plan_20 (by rw [show aPlan V s o = rfs 6 V by unfold aPlan; (first | rw [if_pos (by omega)] | rw [if_neg (by omega), if_pos (by omega)] | rw [if_neg (by omega), if_neg (by omega)])]; exact ⟨rfl, hX.ref hO (by omega), XC.ref⟩)

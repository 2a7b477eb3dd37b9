/-! THE PLANNER: reads and sorts -/
def inS (s q : Nat) : Prop := q / 16 = s
theorem KK.row {σ σ' : St} {s o : Nat} (ho : o < 16) (h : KK (fun q => q = 16 * s + o) σ σ') : KK (inS s) σ σ' := h.mono (fun q e => by unfold inS; omega)
theorem addP_N {n : Cel} : addP pcN n = n := addP_y (Or.inl rfl)
/-- on the way through the orders by sort -/
def soM (w : Wv) (s : Nat) (R : Nat → Cel) (m o : Nat) : Cel := if (1 ≤ o ∧ o ≤ m) ∧ bitv s ((o - 1) / 3) = 1 then addP (R o) (soC w s R) else R o
theorem soM_0 {w : Wv} {s : Nat} {R : Nat → Cel} (o : Nat) : soM w s R 0 o = R o := if_neg (by omega)
theorem soM_o {w : Wv} {s m : Nat} {R : Nat → Cel} : soM w s R m 0 = R 0 := if_neg (by omega)
theorem soM_s {w : Wv} {s m : Nat} {R : Nat → Cel} (h : bitv s (m / 3) ≠ 1) (o : Nat) : soM w s R m o = soM w s R (m + 1) o := by
  unfold soM
  by_cases e : o = m + 1
  · subst e; rw [if_neg (by omega), if_neg (by rw [Nat.add_sub_cancel]; exact fun q => h q.2)]
  · by_cases h1 : (1 ≤ o ∧ o ≤ m) ∧ bitv s ((o - 1) / 3) = 1
    · rw [if_pos h1, if_pos ⟨⟨h1.1.1, by omega⟩, h1.2⟩]
    · rw [if_neg h1, if_neg (fun q => h1 ⟨⟨q.1.1, by omega⟩, q.2⟩)]
theorem soM_u {w : Wv} {s m : Nat} {R : Nat → Cel} (h : bitv s (m / 3) = 1) (o : Nat) : upR (soM w s R m) (m + 1) (addP (soM w s R m (m + 1)) (soC w s R)) o = soM w s R (m + 1) o := by
  unfold upR
  by_cases e : o = m + 1
  · subst e
    rw [if_pos rfl]
    unfold soM
    rw [if_neg (show ¬ ((1 ≤ m + 1 ∧ m + 1 ≤ m) ∧ _) from fun q => by omega), if_pos ⟨by omega, by rw [Nat.add_sub_cancel]; exact h⟩]
  · rw [if_neg e]
    unfold soM
    by_cases h1 : (1 ≤ o ∧ o ≤ m) ∧ bitv s ((o - 1) / 3) = 1
    · rw [if_pos h1, if_pos ⟨⟨h1.1.1, by omega⟩, h1.2⟩]
    · rw [if_neg h1, if_neg (fun q => h1 ⟨⟨q.1.1, by omega⟩, q.2⟩)]
theorem soM_f {w : Wv} {s : Nat} {R : Nat → Cel} (h : zW (R 0) ≠ -1) (o : Nat) (ho : o < 16) : soM w s R 15 o = soR w s R o := by
  unfold soM soR
  by_cases h1 : (1 ≤ o ∧ o ≤ 15) ∧ bitv s ((o - 1) / 3) = 1
  · rw [if_pos h1, if_pos ⟨h, h1.1.1, h1.2⟩]
  · rw [if_neg h1, if_neg (fun q => h1 ⟨⟨q.2.1, by omega⟩, q.2.2⟩)]
theorem soM_PO {w : Wv} (hW : OKW w) {s : Nat} {R : Nat → Cel} (hs : s ≤ 31) (h1 : 1 ≤ s) (hR : RPO R (kT s)) (h0 : zW (R 0) ≠ -1) (m o : Nat) (ho : o < 16) : PO (soM w s R m o) (25 * kT s + 1) (4 * kT s - 3 + 1) := by
  unfold soM; split
  · exact PO_add ((hR o ho).mono (by omega) (by omega)) (soC_PO hW hs h1 hR h0)
  · exact (hR o ho).mono (by omega) (by omega)
theorem szR_cell {σ : St} {k : Nat} {c : Cel} (h : PK σ k c) (hw : zW c ≠ -1) (hk : k < 512) {z : Int} (hz : z = (k : Int)) : szR σ z (zS c) := Or.inr ⟨by omega, by omega, by rw [show z.toNat = k by omega]; exact (h.2 hw).2.2.2.2⟩
theorem szR_no {σ : St} : szR σ (-1) 0 := Or.inl ⟨rfl, rfl⟩
set_option maxHeartbeats 4000000 in
set_option maxRecDepth 100000 in
theorem c_X3_offerRead {κ : Kp} (hI : Ij κ) (l : Launch) (σ : St) {w : Wv} (hX : XW 0 σ w) (hW : OKW w) {s : Nat} {zs : Int} (hs : zs = (s : Int)) (hs31 : s ≤ 31) (hs1 : 1 ≤ s) (hN : PRw σ s (fun _ => pcN)) : CtV κ l 2 yX3_offerRead cX3_offerRead 5 [.ref (κ.2.1 89), .int (iZ zs)] σ (fun σ' => PRw σ' s (rdR w s) ∧ KK (inS s) σ σ') := by
  refine Ct.ofG (own := RX3) hI (by decide +kernel) rfl (Nat.le_of_ble_eq_true rfl) rfl ?_
  intro M C hMl
  have hlt := leastT_1 ⟨s, by omega⟩ hs1
  dsimp only at hlt
  have hto := hW.1 (leastT s) hlt.1
  have hfx : fB (FP.i2f (iZ (wl w (leastT s) : Int))) (wl w (leastT s) * fu) := fB_i2f (by omega)
  refine g_iload_n C dX3_offerRead_0 rfl ?_
  refine gc_X3_68 C dX3_offerRead_1 (c_X9_leastOf hI (Ml M) σ (s := s) hs (by omega)) (by decide) (Nat.le_of_ble_eq_true rfl) (fun z σ1 ⟨hz, hσ⟩ => ?_)
  subst z
  subst σ1
  refine g_istore_n (L' := [(2, .int (iZ (leastT s : Int))), (0, .ref (κ.2.1 89)), (1, .int (iZ zs))]) C dX3_offerRead_4 rfl (by decide) rfl ?_
  refine g_aload_n C dX3_offerRead_5 rfl ?_
  refine gf_X3_37 C dX3_offerRead_6 rfl ?_
  refine gf_X3_72 C dX3_offerRead_9 rfl ?_
  refine g_iload_n C dX3_offerRead_12 rfl ?_
  refine g_pc (pc' := 13) rfl ?_
  have hkz1 : kd (2 + 2 * (leastT s)) = 5 := kd_tab (leastT s) (by omega)
  refine g_aald (n := (leastT s)) (N := 5) (c := 23) (r := (2 + 2 * (leastT s))) C dX3_offerRead_13 rfl (by decide) rfl (by decide) rfl (by omega) (by omega) (by decide) (rf_23 _ _ rfl) ?_
  refine g_astore_n (L' := [(3, .ref (κ.2.1 (2 + 2 * (leastT s)))), (2, .int (iZ (leastT s : Int))), (0, .ref (κ.2.1 89)), (1, .int (iZ zs))]) C dX3_offerRead_14 rfl (by decide) rfl ?_
  refine g_aload_n C dX3_offerRead_15 rfl ?_
  refine gf_X3_78 (z := (wl w (leastT s) : Int)) C dX3_offerRead_16 hkz1 ((hX.1 (leastT s) hlt.1).1) ?_
  refine g_i2f C dX3_offerRead_19 ?_
  refine g_fstore (L' := [(4, .float (FP.i2f (iZ (wl w (leastT s) : Int)))), (3, .ref (κ.2.1 (2 + 2 * (leastT s)))), (2, .int (iZ (leastT s : Int))), (0, .ref (κ.2.1 89)), (1, .int (iZ zs))]) C dX3_offerRead_20 (by decide) rfl ?_
  refine g_aload_n C dX3_offerRead_22 rfl ?_
  refine g_iload_n C dX3_offerRead_23 rfl ?_
  refine g_pc (pc' := 24) rfl ?_
  refine g_iconst (z := (-1)) C dX3_offerRead_24 rfl ?_
  refine gc_X3_55 C dX3_offerRead_25 (c_X9_cellOf hI (Ml M) σ (a := zs) (b := (-1))) (by decide) (Nat.le_of_ble_eq_true rfl) (fun zc1 σ9 ⟨hzc1, hσ⟩ => ?_)
  subst σ9
  replace hzc1 : zc1 = ((16 * s + 0 : Nat) : Int) := by omega
  refine g_iconst (z := 0) C dX3_offerRead_28 rfl ?_
  refine g_fload C dX3_offerRead_29 rfl ?_
  refine g_iconst (z := (-1)) C dX3_offerRead_31 rfl ?_
  refine g_iconst (z := (-1)) C dX3_offerRead_32 rfl ?_
  refine g_iconst (z := (-1)) C dX3_offerRead_33 rfl ?_
  refine gc_X3_84 C dX3_offerRead_34 rfl (c_X3_offer hI (Ml M) σ (k := 16 * s + 0) hzc1 (by omega) (hN 0 (by omega)) (PO_N (K := 0) (S := 0)) hfx szR_no szR_no (j := -1)) (by decide) (Nat.le_of_ble_eq_true rfl) (fun σ1 ⟨hP1, hK1⟩ => ?_)
  have hX1 := hX.frK hK1
  have hN1 := hN.set hP1 hK1
  refine g_pc (pc' := 37) rfl ?_
  refine g_aload_n C dX3_offerRead_37 rfl ?_
  refine gf_X3_88 (z := ((wst w (leastT s) : Int) - 1)) C dX3_offerRead_38 hkz1 ((hX1.1 (leastT s) hlt.1).2.2.1) ?_
  refine g_iconst (z := (-1)) C dX3_offerRead_41 rfl ?_
  refine g_icmp_eq (tgt := 67) C dX3_offerRead_42 (by decide) (by unfold R32; omega) (fun h2 => ?_) (fun h2 => ?_)
  · exact g_return C dX3_offerRead_67 ⟨(hN1.cong (fun o ho => by unfold upR rdR; rw [addP_N]; by_cases e : o = 0; (rw [if_pos e, if_pos (Or.inl e)]; rfl); (rw [if_neg e, if_neg (by omega)]))), hK1.row (by omega)⟩
  · refine g_aload_n C dX3_offerRead_45 rfl ?_
    refine g_iload_n C dX3_offerRead_46 rfl ?_
    refine g_iload_n C dX3_offerRead_47 rfl ?_
    refine g_pc (pc' := 48) rfl ?_
    refine g_iconst (z := 3) C dX3_offerRead_48 rfl ?_
    refine g_imul C dX3_offerRead_49 ?_
    refine g_aload_n C dX3_offerRead_50 rfl ?_
    refine gf_X3_88 (z := ((wst w (leastT s) : Int) - 1)) C dX3_offerRead_51 hkz1 ((hX1.1 (leastT s) hlt.1).2.2.1) ?_
    refine g_iadd C dX3_offerRead_54 ?_
    refine gc_X3_55 C dX3_offerRead_55 (c_X9_cellOf hI (Ml M) σ1 (a := zs) (b := (((leastT s : Int) * 3) + ((wst w (leastT s) : Int) - 1)))) (by decide) (Nat.le_of_ble_eq_true rfl) (fun zc2 σ9 ⟨hzc2, hσ⟩ => ?_)
    subst σ9
    replace hzc2 : zc2 = ((16 * s + (3 * leastT s + wst w (leastT s)) : Nat) : Int) := by omega
    refine g_iconst (z := 0) C dX3_offerRead_58 rfl ?_
    refine g_fload C dX3_offerRead_59 rfl ?_
    refine g_pc (pc' := 61) rfl ?_
    refine g_iconst (z := (-1)) C dX3_offerRead_61 rfl ?_
    refine g_iconst (z := (-1)) C dX3_offerRead_62 rfl ?_
    refine g_iconst (z := (-1)) C dX3_offerRead_63 rfl ?_
    refine gc_X3_84 C dX3_offerRead_64 rfl (c_X3_offer hI (Ml M) σ1 (k := 16 * s + (3 * leastT s + wst w (leastT s))) hzc2 (by omega) (hN1 (3 * leastT s + wst w (leastT s)) (by omega)) (by unfold upR; rw [if_neg (by omega)]; exact PO_N (K := 0) (S := 0)) hfx szR_no szR_no (j := -1)) (by decide) (Nat.le_of_ble_eq_true rfl) (fun σ2 ⟨hP2, hK2⟩ => ?_)
    have hN2 := hN1.set hP2 hK2
    exact g_return C dX3_offerRead_67 ⟨(hN2.cong (fun o ho => by unfold upR rdR; rw [if_neg (show ¬ (3 * leastT s + wst w (leastT s) = 0) by omega), addP_N]; by_cases e : o = 3 * leastT s + wst w (leastT s); (rw [if_pos e, if_pos (Or.inr ⟨by omega, e⟩)]; rfl); (rw [if_neg e]; by_cases e2 : o = 0; (rw [if_pos e2, if_pos (Or.inl e2)]; rfl); (rw [if_neg e2, if_neg (by omega)])))), (hK1.row (by omega)).tr (hK2.row (by omega))⟩
set_option maxHeartbeats 4000000 in
set_option maxRecDepth 100000 in
theorem c_X3_offerSorts {κ : Kp} (hI : Ij κ) (l : Launch) (σ : St) {w : Wv} (hW : OKW w) {s : Nat} {zs : Int} (hs : zs = (s : Int)) (hs31 : s ≤ 31) (hs1 : 1 ≤ s) {R : Nat → Cel} (hR : PRw σ s R) (hRO : RPO R (kT s)) (ht : σ.2.1 90 s = tho w s) : CtV κ l 2 yX3_offerSorts cX3_offerSorts 5 [.ref (κ.2.1 89), .int (iZ zs)] σ (fun σ' => PRw σ' s (soR w s R) ∧ KK (inS s) σ σ') := by
  refine Ct.ofG (own := RX3) hI (by decide +kernel) rfl (Nat.le_of_ble_eq_true rfl) rfl ?_
  intro M C hMl
  have hk5 := kT_5 ⟨s, by omega⟩
  dsimp only at hk5
  have hk1 := hk5.2 hs1
  have hr0 := hR 0 (by omega)
  have hp0 := hRO 0 (by omega)
  have hcW : R32 (zW (R 0)) := by rcases hp0 with h | h <;> (unfold R32; omega)
  refine g_iload_n C dX3_offerSorts_0 rfl ?_
  refine g_iconst (z := (-1)) C dX3_offerSorts_1 rfl ?_
  refine gc_X3_55 C dX3_offerSorts_2 (c_X9_cellOf hI (Ml M) σ (a := zs) (b := (-1))) (by decide) (Nat.le_of_ble_eq_true rfl) (fun zc1 σ9 ⟨hzc1, hσ⟩ => ?_)
  subst σ9
  replace hzc1 : zc1 = ((16 * s + 0 : Nat) : Int) := by omega
  refine g_istore_n (L' := [(2, .int (iZ zc1)), (0, .ref (κ.2.1 89)), (1, .int (iZ zs))]) C dX3_offerSorts_5 rfl (by decide) rfl ?_
  refine g_aload_n C dX3_offerSorts_6 rfl ?_
  refine gf_X3_15 C dX3_offerSorts_7 rfl ?_
  refine g_iload_n C dX3_offerSorts_10 rfl ?_
  refine g_pc (pc' := 11) rfl ?_
  refine g_iaz (n := (16 * s + 0)) (N := 512) (v := (zW (R 0))) C dX3_offerSorts_11 rfl rfl (by omega) (by omega) (by decide) hr0.1 ?_
  refine g_iconst (z := (-1)) C dX3_offerSorts_12 rfl ?_
  refine g_icmp_ne (tgt := 17) C dX3_offerSorts_13 (by decide) ⟨hcW, by unfold R32; omega⟩ (fun h1 => ?_) (fun h1 => ?_)
  · have hpb := hp0.resolve_left (by assumption)
    have hcs := fB_up (cso_B (tho_B hW s) (by decide)) (show 20 + 5 ≤ 25 * kT s by omega)
    have hfx := fB_add2 hpb.2.1 hcs (by omega)
    refine g_aload_n C dX3_offerSorts_17 rfl ?_
    refine gf_X3_19 C dX3_offerSorts_18 rfl ?_
    refine g_iload_n C dX3_offerSorts_21 rfl ?_
    refine g_faz (n := (16 * s + 0)) (N := 512) (v := (zK (R 0))) C dX3_offerSorts_22 rfl rfl (by omega) (by omega) (by decide) ((hr0.2 (by assumption)).1) ?_
    refine g_aload_n C dX3_offerSorts_23 rfl ?_
    refine g_pc (pc' := 24) rfl ?_
    refine gf_X3_9 C dX3_offerSorts_24 rfl ?_
    refine g_iload_n C dX3_offerSorts_27 rfl ?_
    refine g_faz (n := s) (N := 32) (v := (tho w s)) C dX3_offerSorts_28 rfl rfl (by omega) (by omega) (by decide) ht ?_
    refine gc_X3_114 C dX3_offerSorts_29 (c_X9_costOfSorting hI (Ml M) σ (a := 20) (tho_B hW s) (by decide)) (by decide) (Nat.le_of_ble_eq_true rfl) (fun z σ9 ⟨hz, hσ⟩ => ?_)
    subst z
    subst σ9
    refine g_fadd C dX3_offerSorts_32 hfx.vf ?_
    refine g_fstore_n (L' := [(3, .float (FP.fadd (zK (R 0)) (cso (tho w s)))), (2, .int (iZ zc1)), (0, .ref (κ.2.1 89)), (1, .int (iZ zs))]) C dX3_offerSorts_33 rfl (by decide) rfl ?_
    refine g_iconst (z := 0) C dX3_offerSorts_34 rfl ?_
    refine g_istore (L' := [(4, .int (iZ 0)), (3, .float (FP.fadd (zK (R 0)) (cso (tho w s)))), (2, .int (iZ zc1)), (0, .ref (κ.2.1 89)), (1, .int (iZ zs))]) C dX3_offerSorts_35 (by decide) rfl ?_
    have lp37 : ∀ (fz9 : Nat) (m : Nat) (x4 : Int) (q : St), (15 - m < fz9) → (x4 = (m : Int)) → (m ≤ 15) → (PRw q s (soM w s R m)) → (KK (inS s) σ q) → G M κ 5 (En M κ (qV κ (fun σ' => PRw σ' s (soR w s R) ∧ KK (inS s) σ σ'))) 37 [(0, .ref (κ.2.1 89)), (1, .int (iZ zs)), (2, .int (iZ zc1)), (3, .float (FP.fadd (zK (R 0)) (cso (tho w s)))), (4, .int (iZ x4))] [] q := by
      intro fz9
      induction fz9 with
      | zero => intro m x4 q hm0; exact absurd hm0 (Nat.not_lt_zero _)
      | succ fz9 ih37 =>
        intro m x4 q hm37 hx4 hm hQ hKq
        refine g_pc (pc' := 37) rfl ?_
        refine g_iload C dX3_offerSorts_37 rfl ?_
        refine g_bipush (z := 15) C dX3_offerSorts_39 rfl ?_
        refine g_icmp_ge (tgt := 74) C dX3_offerSorts_41 (by decide) (by unfold R32; omega) (fun h2 => ?_) (fun h2 => ?_)
        · exact g_return C dX3_offerSorts_74 ⟨(hQ.cong (fun o ho => by rw [show m = 15 by omega]; exact soM_f (by assumption) o ho)), hKq⟩
        · refine g_iload_n C dX3_offerSorts_44 rfl ?_
          refine g_iload C dX3_offerSorts_45 rfl ?_
          refine gc_X3_107 C dX3_offerSorts_47 (c_X9_isWithin hI (Ml M) q (s := s) (p := m) hs hx4 (by omega) (by omega)) (by decide) (Nat.le_of_ble_eq_true rfl) (fun z σ9 ⟨hz, hσ⟩ => ?_)
          subst z
          subst σ9
          refine g_ifb_eq (tgt := 68) C dX3_offerSorts_50 (by decide) (fun h3 => ?_) (fun h3 => ?_)
          · refine g_pc (pc' := 68) rfl ?_
            refine g_iinc (q := 4) (v := (x4 + 1)) (L' := [(4, .int (iZ (x4 + 1))), (0, .ref (κ.2.1 89)), (1, .int (iZ zs)), (2, .int (iZ zc1)), (3, .float (FP.fadd (zK (R 0)) (cso (tho w s))))]) C dX3_offerSorts_68 rfl rfl (by decide) rfl ?_
            refine g_goto (tgt := 37) C dX3_offerSorts_71 (by decide) ?_
            exact g_loc [1, 2, 3, 4, 0] (by rfl) (ih37 (m + 1) (x4 + 1) q (by omega) (by omega) (by omega) (hQ.cong (fun o _ => soM_s (by assumption) o)) hKq)
          · refine g_aload_n C dX3_offerSorts_53 rfl ?_
            refine g_iload_n C dX3_offerSorts_54 rfl ?_
            refine g_iload C dX3_offerSorts_55 rfl ?_
            refine gc_X3_55 C dX3_offerSorts_57 (c_X9_cellOf hI (Ml M) q (a := zs) (b := x4)) (by decide) (Nat.le_of_ble_eq_true rfl) (fun zc2 σ9 ⟨hzc2, hσ⟩ => ?_)
            subst σ9
            replace hzc2 : zc2 = ((16 * s + (m + 1) : Nat) : Int) := by omega
            refine g_iconst (z := 4) C dX3_offerSorts_60 rfl ?_
            refine g_fload_n C dX3_offerSorts_61 rfl ?_
            refine g_pc (pc' := 62) rfl ?_
            refine g_iload_n C dX3_offerSorts_62 rfl ?_
            refine g_iconst (z := (-1)) C dX3_offerSorts_63 rfl ?_
            refine g_iconst (z := (-1)) C dX3_offerSorts_64 rfl ?_
            have hq0 : PK q (16 * s + 0) (R 0) := by have h8 := hQ 0 (by omega); rwa [soM_o] at h8
            refine gc_X3_84 C dX3_offerSorts_65 rfl (c_X3_offer hI (Ml M) q (k := 16 * s + (m + 1)) hzc2 (by omega) (hQ (m + 1) (by omega)) (soM_PO hW hs31 hs1 hRO (by assumption) m (m + 1) (by omega)) hfx (szR_cell hq0 (by assumption) (by omega) hzc1) szR_no (j := -1)) (by decide) (Nat.le_of_ble_eq_true rfl) (fun q2 ⟨hP2, hK2⟩ => ?_)
            rw [hzc1] at hP2
            refine g_iinc (q := 4) (v := (x4 + 1)) (L' := [(4, .int (iZ (x4 + 1))), (0, .ref (κ.2.1 89)), (1, .int (iZ zs)), (2, .int (iZ zc1)), (3, .float (FP.fadd (zK (R 0)) (cso (tho w s))))]) C dX3_offerSorts_68 rfl rfl (by decide) rfl ?_
            refine g_goto (tgt := 37) C dX3_offerSorts_71 (by decide) ?_
            exact g_loc [1, 2, 3, 4, 0] (by rfl) (ih37 (m + 1) (x4 + 1) q2 (by omega) (by omega) (by omega) ((hQ.set hP2 hK2).cong (fun o _ => soM_u (by assumption) o)) (hKq.tr (hK2.row (by omega))))
    exact g_loc [3, 4, 2, 1, 0] (by rfl) (lp37 _ 0 0 σ (Nat.lt_succ_self _) rfl (by omega) (hR.cong (fun o _ => (soM_0 o).symm)) KK.rf)
  · exact g_return C dX3_offerSorts_16 ⟨(hR.cong (fun o _ => (if_neg (fun e => e.1 (by assumption))).symm)), KK.rf⟩

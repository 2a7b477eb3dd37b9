/-! the calls that tell what really comes -/
def rfJ (y : Nat) (V : Vw) : Int64 × Vw := ((iZ (-(y : Int))).toInt64, vRef V y)
def aReally (V : Vw) (s : Int) : Int × Vw := if ¬ (0 < s ∧ s < 32) then rfs 6 V else if 100000 < rN (vW V) s.toNat then rfs 5 V else ((rN (vW V) s.toNat : Int), V)
def aSum (V : Vw) (s p : Int) : Int64 × Vw := if ¬ (0 ≤ p ∧ p < 15) then rfJ 1 V else if ¬ (0 < s ∧ s < 32) then rfJ 6 V else if 100000 < rN (vW V) s.toNat then rfJ 5 V else if bitv s.toNat (p.toNat / 3) = 1 then (Int64.ofInt (rV (vW V) s.toNat p.toNat : Int), V) else rfJ 6 V
def aWrongBy (V : Vw) (s : Int) : Int × Vw := if ¬ (0 < s ∧ s < 32) then rfs 6 V else if 100000 < rN (vW V) s.toNat then rfs 5 V else (((erF (tho (vW V) s.toNat) (FP.i2f (iZ (rN (vW V) s.toNat : Int)))).toNat : Int), V)
theorem MX_XC {k : Nat} (h : MX k) : XC k := by unfold MX at h; unfold XC; omega
theorem TC_XC' {k : Nat} (h : TC k) : XC k := by unfold TC HC at h; unfold XC; omega
theorem XV.frM {σ σ' : St} {V : Vw} (hX : XV σ V) (hO : OKV V) (hF : Fr MX σ σ') : XV σ' V := hX.scratch hO hF (fun k hk e => by unfold MX at e; omega)
set_option maxHeartbeats 4000000 in
set_option maxRecDepth 100000 in
theorem c_X9_really {κ : Kp} (hI : Ij κ) (l : Launch) (σ : St) {V : Vw} (hX : XV σ V) (hO : OKV V) {s : Int} (hs : R32 s) : CtI κ l 9 yX9_really cX9_really 3 .int [.ref (κ.2.1 76), .int (iZ s)] σ (fun z σ' => z = (aReally V s).1 ∧ XV σ' (aReally V s).2 ∧ Fr XC σ σ') := by
  refine Ct.ofG (own := RX9) hI (by decide +kernel) rfl (Nat.le_of_ble_eq_true rfl) rfl ?_
  intro M C hMl
  refine g_iload_n C dX9_really_0 rfl ?_
  refine gc_X9_250 C dX9_really_1 (c_X9_isSet hI (Ml M) σ (x := s) (by assumption)) (by decide) (Nat.le_of_ble_eq_true rfl) (fun z σ1 ⟨hz, hσ⟩ => ?_)
  subst z
  subst σ1
  refine g_ifb_ne (tgt := 14) C dX9_really_4 (by decide) (fun h1 => ?_) (fun h1 => ?_)
  · refine g_aload_n C dX9_really_14 rfl ?_
    refine gf_X9_44 C dX9_really_15 rfl ?_
    refine g_iload_n C dX9_really_18 rfl ?_
    refine g_iload_n C dX9_really_19 rfl ?_
    refine g_pc (pc' := 20) rfl ?_
    refine gc_X9_299 C dX9_really_20 (c_X9_leastOf hI (Ml M) σ (s := s.toNat) (zs := s) (by omega) (by omega)) (by decide) (Nat.le_of_ble_eq_true rfl) (fun z σ1 ⟨hz, hσ⟩ => ?_)
    subst z
    subst σ1
    have hlt := leastT_b ⟨s.toNat, by omega⟩ (by show 0 < s.toNat; omega)
    dsimp only at hlt
    refine gc_X9_302 C dX9_really_23 rfl (c_X1_rowsOf hI (Ml M) σ hX.1 hO.1 (s := s.toNat) (f := leastT s.toNat) (by omega) rfl (by omega) hlt.1) (by decide) (Nat.le_of_ble_eq_true rfl) (fun zr s1 ⟨hRa, hRb, hz0, hz1, hF0⟩ => ?_)
    rw [rN_eq hO.1 (by omega) hlt.1 hlt.2] at hRa hRb
    have hA : rN (vW V) s.toNat ≤ 100000 → zr = (rN (vW V) s.toNat : Int) := fun h => (hRa h).1
    have hX1 := hX.frM hO hF0
    have hF1 : Fr XC σ s1 := hF0.mono (fun k => MX_XC)
    refine g_istore_n (L' := [(2, .int (iZ zr)), (0, .ref (κ.2.1 76)), (1, .int (iZ s))]) C dX9_really_26 rfl (by decide) rfl ?_
    refine g_iload_n C dX9_really_27 rfl ?_
    refine g_ldcw (z := 100000) C dX9_really_28 wq_186 ?_
    refine g_icmp_le (tgt := 42) C dX9_really_31 (by decide) (by unfold R32; omega) (fun h2 => ?_) (fun h2 => ?_)
    · refine g_iload_n C dX9_really_42 rfl ?_
      exact g_ireturn C dX9_really_43 (by rw [show aReally V s = ((rN (vW V) s.toNat : Int), V) by unfold aReally; (first | rw [if_pos (by omega)] | rw [if_neg (by omega), if_pos (by omega)] | rw [if_neg (by omega), if_neg (by omega)])]; exact ⟨hA (by omega), hX1, hF1⟩)
    · refine g_pc (pc' := 34) rfl ?_
      refine g_aload_n C dX9_really_34 rfl ?_
      refine g_iconst (z := 5) C dX9_really_35 rfl ?_
      refine gc_X9_84 C dX9_really_36 rfl (c_X9_refuse hI (Ml M) s1 (y := 5) rfl (by omega)) (by decide) (Nat.le_of_ble_eq_true rfl) (fun z σ1 ⟨hz, hσ⟩ => ?_)
      subst z
      subst σ1
      refine g_goto (tgt := 43) C dX9_really_39 (by decide) ?_
      exact g_ireturn C dX9_really_43 (by rw [show aReally V s = rfs 5 V by unfold aReally; (first | rw [if_pos (by omega)] | rw [if_neg (by omega), if_pos (by omega)] | rw [if_neg (by omega), if_neg (by omega)])]; exact ⟨rfl, hX1.ref hO (by omega), hF1.tr XC.ref⟩)
  · refine g_aload_n C dX9_really_7 rfl ?_
    refine g_bipush (z := 6) C dX9_really_8 rfl ?_
    refine gc_X9_84 C dX9_really_10 rfl (c_X9_refuse hI (Ml M) σ (y := 6) rfl (by omega)) (by decide) (Nat.le_of_ble_eq_true rfl) (fun z σ1 ⟨hz, hσ⟩ => ?_)
    subst z
    subst σ1
    refine g_pc (pc' := 13) rfl ?_
    exact g_ireturn C dX9_really_13 (by rw [show aReally V s = rfs 6 V by unfold aReally; (first | rw [if_pos (by omega)] | rw [if_neg (by omega), if_pos (by omega)] | rw [if_neg (by omega), if_neg (by omega)])]; exact ⟨rfl, hX.ref hO (by omega), XC.ref⟩)
set_option maxHeartbeats 4000000 in
set_option maxRecDepth 100000 in
theorem c_X9_wrongBy {κ : Kp} (hI : Ij κ) (l : Launch) (σ : St) {V : Vw} (hX : XV σ V) (hO : OKV V) {s : Int} (hs : R32 s) : CtI κ l 9 yX9_wrongBy cX9_wrongBy 3 .int [.ref (κ.2.1 76), .int (iZ s)] σ (fun z σ' => z = (aWrongBy V s).1 ∧ XV σ' (aWrongBy V s).2 ∧ Fr XC σ σ') := by
  refine Ct.ofG (own := RX9) hI (by decide +kernel) rfl (Nat.le_of_ble_eq_true rfl) rfl ?_
  intro M C hMl
  refine g_iload_n C dX9_wrongBy_0 rfl ?_
  refine gc_X9_250 C dX9_wrongBy_1 (c_X9_isSet hI (Ml M) σ (x := s) (by assumption)) (by decide) (Nat.le_of_ble_eq_true rfl) (fun z σ1 ⟨hz, hσ⟩ => ?_)
  subst z
  subst σ1
  refine g_ifb_ne (tgt := 14) C dX9_wrongBy_4 (by decide) (fun h1 => ?_) (fun h1 => ?_)
  · refine g_aload_n C dX9_wrongBy_14 rfl ?_
    refine gf_X9_44 C dX9_wrongBy_15 rfl ?_
    refine g_iload_n C dX9_wrongBy_18 rfl ?_
    refine g_iload_n C dX9_wrongBy_19 rfl ?_
    refine g_pc (pc' := 20) rfl ?_
    refine gc_X9_299 C dX9_wrongBy_20 (c_X9_leastOf hI (Ml M) σ (s := s.toNat) (zs := s) (by omega) (by omega)) (by decide) (Nat.le_of_ble_eq_true rfl) (fun z σ1 ⟨hz, hσ⟩ => ?_)
    subst z
    subst σ1
    have hlt := leastT_b ⟨s.toNat, by omega⟩ (by show 0 < s.toNat; omega)
    dsimp only at hlt
    refine gc_X9_302 C dX9_wrongBy_23 rfl (c_X1_rowsOf hI (Ml M) σ hX.1 hO.1 (s := s.toNat) (f := leastT s.toNat) (by omega) rfl (by omega) hlt.1) (by decide) (Nat.le_of_ble_eq_true rfl) (fun zr s1 ⟨hRa, hRb, hz0, hz1, hF0⟩ => ?_)
    rw [rN_eq hO.1 (by omega) hlt.1 hlt.2] at hRa hRb
    have hA : rN (vW V) s.toNat ≤ 100000 → zr = (rN (vW V) s.toNat : Int) := fun h => (hRa h).1
    have hX1 := hX.frM hO hF0
    have hF1 : Fr XC σ s1 := hF0.mono (fun k => MX_XC)
    refine g_istore_n (L' := [(2, .int (iZ zr)), (0, .ref (κ.2.1 76)), (1, .int (iZ s))]) C dX9_wrongBy_26 rfl (by decide) rfl ?_
    refine g_iload_n C dX9_wrongBy_27 rfl ?_
    refine g_ldcw (z := 100000) C dX9_wrongBy_28 wq_186 ?_
    refine g_icmp_le (tgt := 40) C dX9_wrongBy_31 (by decide) (by unfold R32; omega) (fun h2 => ?_) (fun h2 => ?_)
    · refine g_aload_n C dX9_wrongBy_40 rfl ?_
      refine gf_X9_28 C dX9_wrongBy_41 rfl ?_
      refine g_pc (pc' := 44) rfl ?_
      have hzN : zr = ((rN (vW V) s.toNat : Nat) : Int) := hA (by omega)
      refine gc_X9_253 C dX9_wrongBy_44 rfl (c_X7_think hI (Ml M) s1 hX1.1 hO.1) (by decide) (Nat.le_of_ble_eq_true rfl) (fun s2 ⟨hF2, hT⟩ => ?_)
      have hX2 := hX1.frT hO hF2
      refine g_aload_n C dX9_wrongBy_47 rfl ?_
      refine gf_X9_28 C dX9_wrongBy_48 rfl ?_
      refine g_iload_n C dX9_wrongBy_51 rfl ?_
      refine gc_X9_256 C dX9_wrongBy_52 rfl (c_X7_thoughtOf hI (Ml M) s2 hX2.1 hO.1 hT (s := s.toNat) (by omega) (by omega)) (by decide) (Nat.le_of_ble_eq_true rfl) (fun z σ9 ⟨hz, hσ⟩ => ?_)
      subst z
      subst σ9
      refine g_iload_n C dX9_wrongBy_55 rfl ?_
      refine g_i2f C dX9_wrongBy_56 ?_
      have hfb : fB (FP.i2f (iZ zr)) ((rN (vW V) s.toNat) * fu) := by rw [hzN]; exact fB_i2f (by omega)
      refine gc_X9_313 C dX9_wrongBy_57 (c_X9_errorOf hI (Ml M) s2 (tho_B hO.1 s.toNat) hfb) (by decide) (Nat.le_of_ble_eq_true rfl) (fun z σ9 ⟨hz, hσ⟩ => ?_)
      subst z
      subst σ9
      refine g_pc (pc' := 60) rfl ?_
      refine gc_X9_207 C dX9_wrongBy_60 (c_X9_bitsOf hI (Ml M) s2 (erF_N (tho_B hO.1 s.toNat) hfb)) (by decide) (Nat.le_of_ble_eq_true rfl) (fun z2 σ9 ⟨hz2, hσ⟩ => ?_)
      subst σ9
      exact g_ireturn C dX9_wrongBy_63 (by rw [show aWrongBy V s = (((erF (tho (vW V) s.toNat) (FP.i2f (iZ (rN (vW V) s.toNat : Int)))).toNat : Int), V) by unfold aWrongBy; (first | rw [if_pos (by omega)] | rw [if_neg (by omega), if_pos (by omega)] | rw [if_neg (by omega), if_neg (by omega)])]; exact ⟨hzN ▸ hz2, hX2, hF1.tr (hF2.mono (fun k => TC_XC'))⟩)
    · refine g_aload_n C dX9_wrongBy_34 rfl ?_
      refine g_iconst (z := 5) C dX9_wrongBy_35 rfl ?_
      refine gc_X9_84 C dX9_wrongBy_36 rfl (c_X9_refuse hI (Ml M) s1 (y := 5) rfl (by omega)) (by decide) (Nat.le_of_ble_eq_true rfl) (fun z σ1 ⟨hz, hσ⟩ => ?_)
      subst z
      subst σ1
      exact g_ireturn C dX9_wrongBy_39 (by rw [show aWrongBy V s = rfs 5 V by unfold aWrongBy; (first | rw [if_pos (by omega)] | rw [if_neg (by omega), if_pos (by omega)] | rw [if_neg (by omega), if_neg (by omega)])]; exact ⟨rfl, hX1.ref hO (by omega), hF1.tr XC.ref⟩)
  · refine g_aload_n C dX9_wrongBy_7 rfl ?_
    refine g_bipush (z := 6) C dX9_wrongBy_8 rfl ?_
    refine g_pc (pc' := 10) rfl ?_
    refine gc_X9_84 C dX9_wrongBy_10 rfl (c_X9_refuse hI (Ml M) σ (y := 6) rfl (by omega)) (by decide) (Nat.le_of_ble_eq_true rfl) (fun z σ1 ⟨hz, hσ⟩ => ?_)
    subst z
    subst σ1
    exact g_ireturn C dX9_wrongBy_13 (by rw [show aWrongBy V s = rfs 6 V by unfold aWrongBy; (first | rw [if_pos (by omega)] | rw [if_neg (by omega), if_pos (by omega)] | rw [if_neg (by omega), if_neg (by omega)])]; exact ⟨rfl, hX.ref hO (by omega), XC.ref⟩)
set_option maxHeartbeats 4000000 in
set_option maxRecDepth 100000 in
theorem c_X9_sum {κ : Kp} (hI : Ij κ) (l : Launch) (σ : St) {V : Vw} (hX : XV σ V) (hO : OKV V) {s p : Int} (hs : R32 s) (hp : R32 p) : CtJ κ l 9 yX9_sum cX9_sum 4 [.ref (κ.2.1 76), .int (iZ s), .int (iZ p)] σ (fun z σ' => z = (aSum V s p).1 ∧ XV σ' (aSum V s p).2 ∧ Fr XC σ σ') := by
  refine Ct.ofG (own := RX9) hI (by decide +kernel) rfl (Nat.le_of_ble_eq_true rfl) rfl ?_
  intro M C hMl
  refine g_iload_n C dX9_sum_0 rfl ?_
  refine g_bipush (z := 15) C dX9_sum_1 rfl ?_
  refine gc_X9_80 C dX9_sum_3 (c_X9_isBelow hI (Ml M) σ (x := p) (e := 15) (by unfold R32; omega) (by unfold R32; omega)) (by decide) (Nat.le_of_ble_eq_true rfl) (fun z σ1 ⟨hz, hσ⟩ => ?_)
  subst z
  subst σ1
  refine g_ifb_ne (tgt := 16) C dX9_sum_6 (by decide) (fun h1 => ?_) (fun h1 => ?_)
  · refine g_iload_n C dX9_sum_16 rfl ?_
    refine gc_X9_250 C dX9_sum_17 (c_X9_isSet hI (Ml M) σ (x := s) (by assumption)) (by decide) (Nat.le_of_ble_eq_true rfl) (fun z σ1 ⟨hz, hσ⟩ => ?_)
    subst z
    subst σ1
    refine g_ifb_ne (tgt := 31) C dX9_sum_20 (by decide) (fun h2 => ?_) (fun h2 => ?_)
    · refine g_pc (pc' := 31) rfl ?_
      refine g_iload_n C dX9_sum_31 rfl ?_
      refine g_iload_n C dX9_sum_32 rfl ?_
      refine gc_X9_306 C dX9_sum_33 (c_X9_isWithin hI (Ml M) σ (s := s.toNat) (p := p.toNat) (by omega) (by omega) (by omega) (by omega)) (by decide) (Nat.le_of_ble_eq_true rfl) (fun z σ1 ⟨hz, hσ⟩ => ?_)
      subst z
      subst σ1
      refine g_istore_n (L' := [(3, .int (iZ (bZ (bitv s.toNat (p.toNat / 3) = 1)))), (0, .ref (κ.2.1 76)), (1, .int (iZ s)), (2, .int (iZ p))]) C dX9_sum_36 rfl (by decide) rfl ?_
      refine g_aload_n C dX9_sum_37 rfl ?_
      refine gf_X9_44 C dX9_sum_38 rfl ?_
      refine g_iload_n C dX9_sum_41 rfl ?_
      refine g_iload_n C dX9_sum_42 rfl ?_
      refine g_pc (pc' := 43) rfl ?_
      refine g_ifb_eq (tgt := 52) C dX9_sum_43 (by decide) (fun h3 => ?_) (fun h3 => ?_)
      · refine g_iload_n C dX9_sum_52 rfl ?_
        refine gc_X9_299 C dX9_sum_53 (c_X9_leastOf hI (Ml M) σ (s := s.toNat) (zs := s) (by omega) (by omega)) (by decide) (Nat.le_of_ble_eq_true rfl) (fun z σ1 ⟨hz, hσ⟩ => ?_)
        subst z
        subst σ1
        have hlt := leastT_b ⟨s.toNat, by omega⟩ (by show 0 < s.toNat; omega)
        dsimp only at hlt
        refine gc_X9_302 C dX9_sum_56 rfl (c_X1_rowsOf hI (Ml M) σ hX.1 hO.1 (s := s.toNat) (f := leastT s.toNat) (by omega) rfl (by omega) hlt.1) (by decide) (Nat.le_of_ble_eq_true rfl) (fun zr s1 ⟨hRa, hRb, hz0, hz1, hF0⟩ => ?_)
        rw [rN_eq hO.1 (by omega) hlt.1 hlt.2] at hRa hRb
        have hA : rN (vW V) s.toNat ≤ 100000 → zr = (rN (vW V) s.toNat : Int) := fun h => (hRa h).1
        have hX1 := hX.frM hO hF0
        have hF1 : Fr XC σ s1 := hF0.mono (fun k => MX_XC)
        refine g_ldcw (z := 100000) C dX9_sum_59 wq_186 ?_
        refine g_icmp_le (tgt := 72) C dX9_sum_62 (by decide) (by unfold R32; omega) (fun h4 => ?_) (fun h4 => ?_)
        · refine g_iload_n C dX9_sum_72 rfl ?_
          refine g_ifb_eq (tgt := 87) C dX9_sum_73 (by decide) (fun h5 => ?_) (fun h5 => ?_)
          · refine g_pc (pc' := 87) rfl ?_
            refine g_aload_n C dX9_sum_87 rfl ?_
            refine g_bipush (z := 6) C dX9_sum_88 rfl ?_
            refine gc_X9_84 C dX9_sum_90 rfl (c_X9_refuse hI (Ml M) s1 (y := 6) rfl (by omega)) (by decide) (Nat.le_of_ble_eq_true rfl) (fun z σ1 ⟨hz, hσ⟩ => ?_)
            subst z
            subst σ1
            refine g_i2l C dX9_sum_93 ?_
            exact g_lreturn C dX9_sum_94 (by rw [show aSum V s p = rfJ 6 V by unfold aSum; (first | rw [if_pos (by omega)] | rw [if_neg (by omega), if_pos (by omega)] | rw [if_neg (by omega), if_neg (by omega), if_pos (by omega)] | rw [if_neg (by omega), if_neg (by omega), if_neg (by omega), if_pos (by omega)] | rw [if_neg (by omega), if_neg (by omega), if_neg (by omega), if_neg (by omega)])]; exact ⟨rfl, hX1.ref hO (by omega), hF1.tr XC.ref⟩)
          · exfalso; omega
        · refine g_aload_n C dX9_sum_65 rfl ?_
          refine g_iconst (z := 5) C dX9_sum_66 rfl ?_
          refine gc_X9_84 C dX9_sum_67 rfl (c_X9_refuse hI (Ml M) s1 (y := 5) rfl (by omega)) (by decide) (Nat.le_of_ble_eq_true rfl) (fun z σ1 ⟨hz, hσ⟩ => ?_)
          subst z
          subst σ1
          refine g_pc (pc' := 70) rfl ?_
          refine g_i2l C dX9_sum_70 ?_
          exact g_lreturn C dX9_sum_71 (by rw [show aSum V s p = rfJ 5 V by unfold aSum; (first | rw [if_pos (by omega)] | rw [if_neg (by omega), if_pos (by omega)] | rw [if_neg (by omega), if_neg (by omega), if_pos (by omega)] | rw [if_neg (by omega), if_neg (by omega), if_neg (by omega), if_pos (by omega)] | rw [if_neg (by omega), if_neg (by omega), if_neg (by omega), if_neg (by omega)])]; exact ⟨rfl, hX1.ref hO (by omega), hF1.tr XC.ref⟩)
      · refine g_iload_n C dX9_sum_46 rfl ?_
        refine g_iconst (z := 3) C dX9_sum_47 rfl ?_
        refine g_idiv C dX9_sum_48 (by omega) ?_
        refine g_goto (tgt := 56) C dX9_sum_49 (by decide) ?_
        refine gc_X9_302 C dX9_sum_56 rfl (c_X1_rowsOf hI (Ml M) σ hX.1 hO.1 (s := s.toNat) (f := (p.toNat / 3)) (by omega) (by omega) (by omega) (by omega)) (by decide) (Nat.le_of_ble_eq_true rfl) (fun zr s1 ⟨hRa, hRb, hz0, hz1, hF0⟩ => ?_)
        rw [rN_eq hO.1 (by omega) (by omega) (by assumption)] at hRa hRb
        have hA : rN (vW V) s.toNat ≤ 100000 → zr = (rN (vW V) s.toNat : Int) := fun h => (hRa h).1
        have hX1 := hX.frM hO hF0
        have hF1 : Fr XC σ s1 := hF0.mono (fun k => MX_XC)
        refine g_ldcw (z := 100000) C dX9_sum_59 wq_186 ?_
        refine g_pc (pc' := 62) rfl ?_
        refine g_icmp_le (tgt := 72) C dX9_sum_62 (by decide) (by unfold R32; omega) (fun h6 => ?_) (fun h6 => ?_)
        · refine g_iload_n C dX9_sum_72 rfl ?_
          refine g_ifb_eq (tgt := 87) C dX9_sum_73 (by decide) (fun h7 => ?_) (fun h7 => ?_)
          · exfalso; omega
          · refine g_aload_n C dX9_sum_76 rfl ?_
            refine gf_X9_44 C dX9_sum_77 rfl ?_
            refine g_iload_n C dX9_sum_80 rfl ?_
            have hto := hO.1.1 (p.toNat / 3) (by omega)
            refine gc_X9_309 C dX9_sum_81 rfl (c_X1_sumOf hI (Ml M) s1 hX1.1 hO.1 (p := p.toNat) (by omega) (by omega) (g := rB (vW V) s.toNat (p.toNat / 3)) (hRa (by omega)).2 (fun j _ => Nat.le_trans (rB_le (by omega) j) (by decide))) (by decide) (Nat.le_of_ble_eq_true rfl) (fun z σ9 ⟨hz, hσ⟩ => ?_)
            subst σ9
            rw [rV_eq hO.1 (by omega) (by omega) (by assumption) hto.1] at hz
            refine g_goto (tgt := 94) C dX9_sum_84 (by decide) ?_
            refine g_pc (pc' := 94) rfl ?_
            exact g_lreturn C dX9_sum_94 (by rw [show aSum V s p = (Int64.ofInt (rV (vW V) s.toNat p.toNat : Int), V) by unfold aSum; (first | rw [if_pos (by omega)] | rw [if_neg (by omega), if_pos (by omega)] | rw [if_neg (by omega), if_neg (by omega), if_pos (by omega)] | rw [if_neg (by omega), if_neg (by omega), if_neg (by omega), if_pos (by omega)] | rw [if_neg (by omega), if_neg (by omega), if_neg (by omega), if_neg (by omega)])]; exact ⟨hz, hX1, hF1⟩)
        · refine g_aload_n C dX9_sum_65 rfl ?_
          refine g_iconst (z := 5) C dX9_sum_66 rfl ?_
          refine gc_X9_84 C dX9_sum_67 rfl (c_X9_refuse hI (Ml M) s1 (y := 5) rfl (by omega)) (by decide) (Nat.le_of_ble_eq_true rfl) (fun z σ1 ⟨hz, hσ⟩ => ?_)
          subst z
          subst σ1
          refine g_i2l C dX9_sum_70 ?_
          exact g_lreturn C dX9_sum_71 (by rw [show aSum V s p = rfJ 5 V by unfold aSum; (first | rw [if_pos (by omega)] | rw [if_neg (by omega), if_pos (by omega)] | rw [if_neg (by omega), if_neg (by omega), if_pos (by omega)] | rw [if_neg (by omega), if_neg (by omega), if_neg (by omega), if_pos (by omega)] | rw [if_neg (by omega), if_neg (by omega), if_neg (by omega), if_neg (by omega)])]; exact ⟨rfl, hX1.ref hO (by omega), hF1.tr XC.ref⟩)
    · refine g_aload_n C dX9_sum_23 rfl ?_
      refine g_bipush (z := 6) C dX9_sum_24 rfl ?_
      refine g_pc (pc' := 26) rfl ?_
      refine gc_X9_84 C dX9_sum_26 rfl (c_X9_refuse hI (Ml M) σ (y := 6) rfl (by omega)) (by decide) (Nat.le_of_ble_eq_true rfl) (fun z σ1 ⟨hz, hσ⟩ => ?_)
      subst z
      subst σ1
      refine g_i2l C dX9_sum_29 ?_
      exact g_lreturn C dX9_sum_30 (by rw [show aSum V s p = rfJ 6 V by unfold aSum; (first | rw [if_pos (by omega)] | rw [if_neg (by omega), if_pos (by omega)] | rw [if_neg (by omega), if_neg (by omega), if_pos (by omega)] | rw [if_neg (by omega), if_neg (by omega), if_neg (by omega), if_pos (by omega)] | rw [if_neg (by omega), if_neg (by omega), if_neg (by omega), if_neg (by omega)])]; exact ⟨rfl, hX.ref hO (by omega), XC.ref⟩)
  · refine g_aload_n C dX9_sum_9 rfl ?_
    refine g_iconst (z := 1) C dX9_sum_10 rfl ?_
    refine gc_X9_84 C dX9_sum_11 rfl (c_X9_refuse hI (Ml M) σ (y := 1) rfl (by omega)) (by decide) (Nat.le_of_ble_eq_true rfl) (fun z σ1 ⟨hz, hσ⟩ => ?_)
    subst z
    subst σ1
    refine g_i2l C dX9_sum_14 ?_
    exact g_lreturn C dX9_sum_15 (by rw [show aSum V s p = rfJ 1 V by unfold aSum; (first | rw [if_pos (by omega)] | rw [if_neg (by omega), if_pos (by omega)] | rw [if_neg (by omega), if_neg (by omega), if_pos (by omega)] | rw [if_neg (by omega), if_neg (by omega), if_neg (by omega), if_pos (by omega)] | rw [if_neg (by omega), if_neg (by omega), if_neg (by omega), if_neg (by omega)])]; exact ⟨rfl, hX.ref hO (by omega), XC.ref⟩)

theorem XW.frH {σ σ' : St} {w : Wv} (h : XW 0 σ w) (hF : Fr HC σ σ') : XW 0 σ' w := h.fr hF (fun k _ hk => by unfold HC; omega)
theorem HS_dif {σ : St} {w : Wv} {p : Nat} (h : HS σ (wcol w p) (wl w (p / 3)) (wb w (p / 3))) : dif (σ.1 82) 0 (wl w (p / 3)) = wdif w p := dif_cong (fun j hj => h.2.1 j hj)
theorem HS_rng {σ : St} {w : Wv} (hW : OKW w) {p : Nat} (hp : p ≤ 14) (h : HS σ (wcol w p) (wl w (p / 3)) (wb w (p / 3))) : ∀ j, j < wl w (p / 3) → R32 (σ.1 82 j) := fun j hj => by
  rw [h.2.1 j hj]
  have := wsrt_r hW hp j hj
  unfold wsrt at this
  unfold R32
  omega
def TC (k : Nat) : Prop := HC k ∨ k = 87 ∨ k = 88
def TH (σ : St) (w : Wv) : Prop := (∀ t, t < 5 → σ.2.1 87 t = tht w t) ∧ ∀ j, j < wnj w → σ.2.1 88 j = wjs w j
set_option maxHeartbeats 4000000 in
set_option maxRecDepth 100000 in
theorem c_X7_histogramOf {κ : Kp} (hI : Ij κ) (l : Launch) (σ : St) {w : Wv} (hX : XW 0 σ w) (hW : OKW w) {p : Nat} {zp : Int} (hp : zp = (p : Int)) (hp14 : p ≤ 14) : CtR κ l 3 yX7_histogramOf cX7_histogramOf 2 (.object RX0) [.ref (κ.2.1 80), .int (iZ zp)] σ (fun k σ' => k = 81 ∧ Fr HC σ σ' ∧ HS σ' (wcol w p) (wl w (p / 3)) (wb w (p / 3))) := by
  refine Ct.ofG (own := RX7) hI (by decide +kernel) rfl (Nat.le_of_ble_eq_true rfl) rfl ?_
  intro M C hMl
  have ht := hX.1 (p / 3) (by omega)
  have hto := hW.1 (p / 3) (by omega)
  refine g_aload_n C dX7_histogramOf_0 rfl ?_
  refine gf_X7_12 C dX7_histogramOf_1 rfl ?_
  refine g_aload_n C dX7_histogramOf_4 rfl ?_
  refine gf_X7_25 C dX7_histogramOf_5 rfl ?_
  refine gf_X7_29 C dX7_histogramOf_8 rfl ?_
  refine g_iload_n C dX7_histogramOf_11 rfl ?_
  refine g_iconst (z := 3) C dX7_histogramOf_12 rfl ?_
  refine g_pc (pc' := 13) rfl ?_
  refine g_idiv C dX7_histogramOf_13 (by omega) ?_
  have hk1 : kd (2 + 2 * (p / 3)) = 5 := kd_tab (p / 3) (by omega)
  refine g_aald (n := (p / 3)) (N := 5) (c := 23) (r := (2 + 2 * (p / 3))) C dX7_histogramOf_14 rfl (by decide) rfl (by decide) rfl (by omega) (by omega) (by decide) (rf_23 _ _ rfl) ?_
  refine g_iload_n C dX7_histogramOf_15 rfl ?_
  refine g_iconst (z := 3) C dX7_histogramOf_16 rfl ?_
  refine g_irem C dX7_histogramOf_17 (by omega) ?_
  refine gc_X7_35 C dX7_histogramOf_18 rfl (c_X0_fill hI (Ml M) σ (k := 2 + 2 * (p / 3)) (n := wl w (p / 3)) (m := wb w (p / 3)) (col := p % 3) (c := wcol w p) hk1 (by omega) (by omega) ht.1 hto.1 ht.2.1 hto.2.1 (fun i hi => by have := ht.2.2.2 i hi (p % 3) (by omega); rw [show 2 + 2 * (p / 3) + 1 = 0 + 3 + 2 * (p / 3) by omega]; exact this) (wcol_r hW hp14)) (by decide) (Nat.le_of_ble_eq_true rfl) (fun σ1 hp2 => ?_)
  refine g_aload_n C dX7_histogramOf_21 rfl ?_
  refine gf_X7_12 C dX7_histogramOf_22 rfl ?_
  refine g_pc (pc' := 25) rfl ?_
  exact g_areturn C dX7_histogramOf_25 ⟨rfl, hp2⟩
set_option maxHeartbeats 4000000 in
set_option maxRecDepth 100000 in
theorem c_X7_shareOfJoin {κ : Kp} (hI : Ij κ) (l : Launch) (σ : St) {w : Wv} (hX : XW 0 σ w) (hW : OKW w) {j : Nat} {zj : Int} (hj : zj = (j : Int)) (hjn : j < wnj w) : CtF κ l 4 yX7_shareOfJoin cX7_shareOfJoin 5 [.ref (κ.2.1 80), .int (iZ zj)] σ (fun z σ' => z = wjs w j ∧ Fr HC σ σ') := by
  refine Ct.ofG (own := RX7) hI (by decide +kernel) rfl (Nat.le_of_ble_eq_true rfl) rfl ?_
  intro M C hMl
  have hjo := hW.2.2.2 j hjn
  have hj8 := hW.2.2.1
  have hd1 := wdif_le hW hjo.1
  have hd2 := wdif_le hW hjo.2.1
  refine g_aload_n C dX7_shareOfJoin_0 rfl ?_
  refine g_aload_n C dX7_shareOfJoin_1 rfl ?_
  refine gf_X7_25 C dX7_shareOfJoin_2 rfl ?_
  refine gf_X7_39 C dX7_shareOfJoin_5 rfl ?_
  refine g_iload_n C dX7_shareOfJoin_8 rfl ?_
  refine g_iaz (n := j) (N := 8) (v := (wja w j : Int)) C dX7_shareOfJoin_9 rfl rfl (by omega) (by omega) (by decide) ((hX.2.2.1.2 j (by omega)).1) ?_
  refine gc_X7_43 C dX7_shareOfJoin_10 rfl (c_X7_histogramOf hI (Ml M) σ hX hW (p := wja w j) rfl (by omega)) (by decide) (Nat.le_of_ble_eq_true rfl) (fun k9 σ1 ⟨hk9, hF, hFs⟩ => ?_)
  subst k9
  have hXσ1 := XW.frH hX hF
  refine g_pc (pc' := 13) rfl ?_
  refine gc_X7_47 C dX7_shareOfJoin_13 rfl (c_X0_differentValues hI (Ml M) σ1 hFs.1 (hW.1 (wja w j / 3) (by omega)).1 (HS_rng hW (by omega) hFs)) (by decide) (Nat.le_of_ble_eq_true rfl) (fun z σ9 ⟨hz, hσ⟩ => ?_)
  subst z
  subst σ9
  refine g_int (z' := (wdif w (wja w j) : Int)) (by rw [HS_dif hFs]) ?_
  refine g_istore_n (L' := [(2, .int (iZ (wdif w (wja w j) : Int))), (0, .ref (κ.2.1 80)), (1, .int (iZ zj))]) C dX7_shareOfJoin_16 rfl (by decide) rfl ?_
  refine g_aload_n C dX7_shareOfJoin_17 rfl ?_
  refine g_aload_n C dX7_shareOfJoin_18 rfl ?_
  refine gf_X7_25 C dX7_shareOfJoin_19 rfl ?_
  refine gf_X7_51 C dX7_shareOfJoin_22 rfl ?_
  refine g_iload_n C dX7_shareOfJoin_25 rfl ?_
  refine g_iaz (n := j) (N := 8) (v := (wjb w j : Int)) C dX7_shareOfJoin_26 rfl rfl (by omega) (by omega) (by decide) ((hXσ1.2.2.1.2 j (by omega)).2) ?_
  refine g_pc (pc' := 27) rfl ?_
  refine gc_X7_43 C dX7_shareOfJoin_27 rfl (c_X7_histogramOf hI (Ml M) σ1 hXσ1 hW (p := wjb w j) rfl (by omega)) (by decide) (Nat.le_of_ble_eq_true rfl) (fun k9 σ2 ⟨hk9, hG, hGs⟩ => ?_)
  subst k9
  have hXσ1σ2 := XW.frH hXσ1 hG
  refine gc_X7_47 C dX7_shareOfJoin_30 rfl (c_X0_differentValues hI (Ml M) σ2 hGs.1 (hW.1 (wjb w j / 3) (by omega)).1 (HS_rng hW (by omega) hGs)) (by decide) (Nat.le_of_ble_eq_true rfl) (fun z σ9 ⟨hz, hσ⟩ => ?_)
  subst z
  subst σ9
  refine g_int (z' := (wdif w (wjb w j) : Int)) (by rw [HS_dif hGs]) ?_
  refine g_istore_n (L' := [(3, .int (iZ (wdif w (wjb w j) : Int))), (2, .int (iZ (wdif w (wja w j) : Int))), (0, .ref (κ.2.1 80)), (1, .int (iZ zj))]) C dX7_shareOfJoin_33 rfl (by decide) rfl ?_
  refine g_iload_n C dX7_shareOfJoin_34 rfl ?_
  refine g_iload_n C dX7_shareOfJoin_35 rfl ?_
  refine gm_X7_54 C dX7_shareOfJoin_36 (by unfold R32; omega) (by decide) (Nat.le_of_ble_eq_true rfl) ?_
  refine g_int (z' := ((max (wdif w (wja w j)) (wdif w (wjb w j)) : Nat) : Int)) (by omega) ?_
  refine g_istore (L' := [(4, .int (iZ ((max (wdif w (wja w j)) (wdif w (wjb w j)) : Nat) : Int))), (3, .int (iZ (wdif w (wjb w j) : Int))), (2, .int (iZ (wdif w (wja w j) : Int))), (0, .ref (κ.2.1 80)), (1, .int (iZ zj))]) C dX7_shareOfJoin_39 (by decide) rfl ?_
  refine g_iload C dX7_shareOfJoin_41 rfl ?_
  refine g_pc (pc' := 43) rfl ?_
  refine g_if_ne (tgt := 50) C dX7_shareOfJoin_43 (by decide) (by unfold R32; omega) (fun h1 => ?_) (fun h1 => ?_)
  · refine g_fconst1 C dX7_shareOfJoin_50 ?_
    refine g_iload C dX7_shareOfJoin_51 rfl ?_
    refine g_i2f C dX7_shareOfJoin_53 ?_
    refine g_fdiv C dX7_shareOfJoin_54 (fB_quot (a := 1) (by rw [Nat.one_mul]; exact fB_1) (by omega) (by omega) (by omega)).vf ?_
    exact g_freturn C dX7_shareOfJoin_55 ⟨by unfold wjs; rw [if_neg (by omega)], hF.tr hG⟩
  · refine g_fconst0 C dX7_shareOfJoin_46 ?_
    refine g_goto (tgt := 55) C dX7_shareOfJoin_47 (by decide) ?_
    refine g_pc (pc' := 55) rfl ?_
    exact g_freturn C dX7_shareOfJoin_55 ⟨by unfold wjs; rw [if_pos (by omega)], hF.tr hG⟩
set_option maxHeartbeats 4000000 in
set_option maxRecDepth 100000 in
theorem c_X7_thoughtOfTable {κ : Kp} (hI : Ij κ) (l : Launch) (σ : St) {w : Wv} (hX : XW 0 σ w) (hW : OKW w) {t : Nat} {zt : Int} (ht : zt = (t : Int)) (ht5 : t < 5) : CtF κ l 4 yX7_thoughtOfTable cX7_thoughtOfTable 5 [.ref (κ.2.1 80), .int (iZ zt)] σ (fun z σ' => z = tht w t ∧ Fr HC σ σ') := by
  refine Ct.ofG (own := RX7) hI (by decide +kernel) rfl (Nat.le_of_ble_eq_true rfl) rfl ?_
  intro M C hMl
  have hto := hW.1 t ht5
  have hfo := hW.2.1
  refine g_aload_n C dX7_thoughtOfTable_0 rfl ?_
  refine gf_X7_25 C dX7_thoughtOfTable_1 rfl ?_
  refine gf_X7_29 C dX7_thoughtOfTable_4 rfl ?_
  refine g_iload_n C dX7_thoughtOfTable_7 rfl ?_
  have hk1 : kd (2 + 2 * t) = 5 := kd_tab t (by omega)
  refine g_aald (n := t) (N := 5) (c := 23) (r := (2 + 2 * t)) C dX7_thoughtOfTable_8 rfl (by decide) rfl (by decide) rfl (by omega) (by omega) (by decide) (rf_23 _ _ rfl) ?_
  refine gf_X7_71 (z := (wl w t : Int)) C dX7_thoughtOfTable_9 hk1 ((hX.1 t (by omega)).1) ?_
  refine g_i2f C dX7_thoughtOfTable_12 ?_
  refine g_pc (pc' := 13) rfl ?_
  refine g_fstore_n (L' := [(2, .float (FP.i2f (iZ (wl w t : Int)))), (0, .ref (κ.2.1 80)), (1, .int (iZ zt))]) C dX7_thoughtOfTable_13 rfl (by decide) rfl ?_
  refine g_iconst (z := 0) C dX7_thoughtOfTable_14 rfl ?_
  refine g_istore_n (L' := [(3, .int (iZ 0)), (2, .float (FP.i2f (iZ (wl w t : Int)))), (0, .ref (κ.2.1 80)), (1, .int (iZ zt))]) C dX7_thoughtOfTable_15 rfl (by decide) rfl ?_
  have lp16 : ∀ (fz9 : Nat) (f : Nat) (x2 : UInt32) (x3 : Int) (s : St), (wnf w - f < fz9) → (x3 = (f : Int)) → (f ≤ wnf w) → (x2 = thF w t f) → (Fr HC σ s) → G M κ 5 (En M κ (qF κ (fun z σ' => z = tht w t ∧ Fr HC σ σ'))) 16 [(0, .ref (κ.2.1 80)), (1, .int (iZ zt)), (2, .float x2), (3, .int (iZ x3))] [] s := by
    intro fz9
    induction fz9 with
    | zero => intro f x2 x3 s hm0; exact absurd hm0 (Nat.not_lt_zero _)
    | succ fz9 ih =>
      intro f x2 x3 s hm16 hx3 hf hx2 hF
      subst x2
      have hXs := XW.frH hX hF
      refine g_iload_n C dX7_thoughtOfTable_16 rfl ?_
      refine g_aload_n C dX7_thoughtOfTable_17 rfl ?_
      refine gf_X7_25 C dX7_thoughtOfTable_18 rfl ?_
      refine gf_X7_76 (z := (wnf w : Int)) C dX7_thoughtOfTable_21 rfl hXs.2.1.1 ?_
      refine g_icmp_ge (tgt := 82) C dX7_thoughtOfTable_24 (by decide) (by unfold R32; omega) (fun h2 => ?_) (fun h2 => ?_)
      · refine g_pc (pc' := 82) rfl ?_
        refine g_fload_n C dX7_thoughtOfTable_82 rfl ?_
        exact g_freturn C dX7_thoughtOfTable_83 ⟨by rw [tht, show wnf w = f by omega], hF⟩
      · have hfo2 := hfo.2 f (by omega)
        refine g_aload_n C dX7_thoughtOfTable_27 rfl ?_
        refine gf_X7_25 C dX7_thoughtOfTable_28 rfl ?_
        refine gf_X7_79 C dX7_thoughtOfTable_31 rfl ?_
        refine g_iload_n C dX7_thoughtOfTable_34 rfl ?_
        refine g_iaz (n := f) (N := 8) (v := (wfp w f : Int)) C dX7_thoughtOfTable_35 rfl rfl (by omega) (by omega) (by decide) ((hXs.2.1.2 f (by omega)).1) ?_
        refine g_istore (L' := [(4, .int (iZ (wfp w f : Int))), (0, .ref (κ.2.1 80)), (1, .int (iZ zt)), (2, .float (thF w t f)), (3, .int (iZ x3))]) C dX7_thoughtOfTable_36 (by decide) rfl ?_
        refine g_pc (pc' := 38) rfl ?_
        refine g_iload C dX7_thoughtOfTable_38 rfl ?_
        refine g_iconst (z := 3) C dX7_thoughtOfTable_40 rfl ?_
        refine g_idiv C dX7_thoughtOfTable_41 (by omega) ?_
        refine g_iload_n C dX7_thoughtOfTable_42 rfl ?_
        refine g_icmp_ne (tgt := 76) C dX7_thoughtOfTable_43 (by decide) (by unfold R32; omega) (fun h3 => ?_) (fun h3 => ?_)
        · refine g_iinc (q := 4) (v := (x3 + 1)) (L' := [(3, .int (iZ (x3 + 1))), (4, .int (iZ (wfp w f : Int))), (0, .ref (κ.2.1 80)), (1, .int (iZ zt)), (2, .float (thF w t f))]) C dX7_thoughtOfTable_76 rfl rfl (by decide) rfl ?_
          refine g_goto (tgt := 16) C dX7_thoughtOfTable_79 (by decide) ?_
          exact g_loc [2, 3, 4, 0] (by rfl) (ih (f + 1) (thF w t f) (x3 + 1) s (by omega) (by omega) (by omega) (by rw [thF]; first | rw [if_pos (by omega)] | rw [if_neg (by omega)]) hF)
        · refine g_fload_n C dX7_thoughtOfTable_46 rfl ?_
          refine g_pc (pc' := 47) rfl ?_
          refine g_aload_n C dX7_thoughtOfTable_47 rfl ?_
          refine g_iload C dX7_thoughtOfTable_48 rfl ?_
          refine gc_X7_43 C dX7_thoughtOfTable_50 rfl (c_X7_histogramOf hI (Ml M) s hXs hW (p := wfp w f) rfl (by omega)) (by decide) (Nat.le_of_ble_eq_true rfl) (fun k9 s1 ⟨hk9, hF1, hF1s⟩ => ?_)
          subst k9
          have hXss1 := XW.frH hXs hF1
          refine g_aload_n C dX7_thoughtOfTable_53 rfl ?_
          refine gf_X7_25 C dX7_thoughtOfTable_54 rfl ?_
          refine gf_X7_82 C dX7_thoughtOfTable_57 rfl ?_
          refine g_iload_n C dX7_thoughtOfTable_60 rfl ?_
          refine g_iaz (n := f) (N := 8) (v := (wfs w f : Int)) C dX7_thoughtOfTable_61 rfl rfl (by omega) (by omega) (by decide) ((hXss1.2.1.2 f (by omega)).2.1) ?_
          refine g_pc (pc' := 62) rfl ?_
          refine g_aload_n C dX7_thoughtOfTable_62 rfl ?_
          refine gf_X7_25 C dX7_thoughtOfTable_63 rfl ?_
          refine gf_X7_85 C dX7_thoughtOfTable_66 rfl ?_
          refine g_iload_n C dX7_thoughtOfTable_69 rfl ?_
          refine g_iaz (n := f) (N := 8) (v := (wfv w f : Int)) C dX7_thoughtOfTable_70 rfl rfl (by omega) (by omega) (by decide) ((hXss1.2.1.2 f (by omega)).2.2) ?_
          have hto2 := hW.1 (wfp w f / 3) (by omega)
          refine gc_X7_88 C dX7_thoughtOfTable_71 rfl (c_X0_shareOf hI (Ml M) s1 hF1s hto2.1 hto2.2.1 (wcol_r hW (by omega)) (by omega) (by omega)) (by decide) (Nat.le_of_ble_eq_true rfl) (fun z σ9 ⟨hz, hσ⟩ => ?_)
          subst σ9
          have hz2 : z = wshr w (wfp w f) (wfs w f) (wfv w f) := hz
          subst hz2
          refine g_fmul C dX7_thoughtOfTable_74 (by have h9 := (thF_B hW ht5 (f + 1) (by omega)).vf; rwa [thF, if_pos (by omega)] at h9) ?_
          refine g_fstore_n (L' := [(2, .float (FP.fmul (thF w t f) (wshr w (wfp w f) (wfs w f) (wfv w f)))), (4, .int (iZ (wfp w f : Int))), (0, .ref (κ.2.1 80)), (1, .int (iZ zt)), (3, .int (iZ x3))]) C dX7_thoughtOfTable_75 rfl (by decide) rfl ?_
          refine g_pc (pc' := 76) rfl ?_
          refine g_iinc (q := 4) (v := (x3 + 1)) (L' := [(3, .int (iZ (x3 + 1))), (2, .float (FP.fmul (thF w t f) (wshr w (wfp w f) (wfs w f) (wfv w f)))), (4, .int (iZ (wfp w f : Int))), (0, .ref (κ.2.1 80)), (1, .int (iZ zt))]) C dX7_thoughtOfTable_76 rfl rfl (by decide) rfl ?_
          refine g_goto (tgt := 16) C dX7_thoughtOfTable_79 (by decide) ?_
          exact g_loc [3, 4, 1, 0] (by rfl) (ih (f + 1) (FP.fmul (thF w t f) (wshr w (wfp w f) (wfs w f) (wfv w f))) (x3 + 1) s1 (by omega) (by omega) (by omega) (by rw [thF]; first | rw [if_pos (by omega)] | rw [if_neg (by omega)]) (hF.tr hF1))
  exact g_loc [2, 3, 1, 0] (by rfl) (lp16 _ 0 (FP.i2f (iZ (wl w t : Int))) 0 σ (Nat.lt_succ_self _) rfl (Nat.zero_le _) rfl Fr.rf)
theorem HC_TC {k : Nat} (h : HC k) : TC k := Or.inl h
theorem XW.frT {σ σ' : St} {w : Wv} (h : XW 0 σ w) (hF : Fr TC σ σ') : XW 0 σ' w := h.fr hF (fun k _ hk => by unfold TC HC; omega)
set_option maxHeartbeats 4000000 in
set_option maxRecDepth 100000 in
theorem c_X7_think {κ : Kp} (hI : Ij κ) (l : Launch) (σ : St) {w : Wv} (hX : XW 0 σ w) (hW : OKW w) : CtV κ l 5 yX7_think cX7_think 2 [.ref (κ.2.1 80)] σ (fun σ' => Fr TC σ σ' ∧ TH σ' w) := by
  refine Ct.ofG (own := RX7) hI (by decide +kernel) rfl (Nat.le_of_ble_eq_true rfl) rfl ?_
  intro M C hMl
  refine g_iconst (z := 0) C dX7_think_0 rfl ?_
  refine g_istore_n (L' := [(1, .int (iZ 0)), (0, .ref (κ.2.1 80))]) C dX7_think_1 rfl (by decide) rfl ?_
  have lp2 : ∀ (fz9 : Nat) (t : Nat) (x1 : Int) (s : St), (5 - t < fz9) → (x1 = (t : Int)) → (t ≤ 5) → (Fr TC σ s) → (∀ u, u < t → s.2.1 87 u = tht w u) → G M κ 2 (En M κ (qV κ (fun σ' => Fr TC σ σ' ∧ TH σ' w))) 2 [(0, .ref (κ.2.1 80)), (1, .int (iZ x1))] [] s := by
    intro fz9
    induction fz9 with
    | zero => intro t x1 s hm0; exact absurd hm0 (Nat.not_lt_zero _)
    | succ fz9 ih =>
      intro t x1 s hm2 hx1 ht hF hT
      have hXs := XW.frT hX hF
      refine g_iload_n C dX7_think_2 rfl ?_
      refine g_iconst (z := 5) C dX7_think_3 rfl ?_
      refine g_icmp_ge (tgt := 24) C dX7_think_4 (by decide) (by unfold R32; omega) (fun h1 => ?_) (fun h1 => ?_)
      · refine g_iconst (z := 0) C dX7_think_24 rfl ?_
        refine g_istore_n (L' := [(1, .int (iZ 0)), (0, .ref (κ.2.1 80))]) C dX7_think_25 rfl (by decide) rfl ?_
        have lp26 : ∀ (fz9 : Nat) (j : Nat) (x1 : Int) (s2 : St), (wnj w - j < fz9) → (x1 = (j : Int)) → (j ≤ wnj w) → (Fr TC σ s2) → (∀ u, u < 5 → s2.2.1 87 u = tht w u) → (∀ u, u < j → s2.2.1 88 u = wjs w u) → G M κ 2 (En M κ (qV κ (fun σ' => Fr TC σ σ' ∧ TH σ' w))) 26 [(0, .ref (κ.2.1 80)), (1, .int (iZ x1))] [] s2 := by
          intro fz9
          induction fz9 with
          | zero => intro j x1 s2 hm0; exact absurd hm0 (Nat.not_lt_zero _)
          | succ fz9 ih =>
            intro j x1 s2 hm26 hx1b hj hF2 hT2 hJ
            have hXs2 := XW.frT hX hF2
            have hj8 := hW.2.2.1
            refine g_pc (pc' := 26) rfl ?_
            refine g_iload_n C dX7_think_26 rfl ?_
            refine g_aload_n C dX7_think_27 rfl ?_
            refine gf_X7_25 C dX7_think_28 rfl ?_
            refine gf_X7_64 (z := (wnj w : Int)) C dX7_think_31 rfl hXs2.2.2.1.1 ?_
            refine g_icmp_ge (tgt := 54) C dX7_think_34 (by decide) (by unfold R32; omega) (fun h2 => ?_) (fun h2 => ?_)
            · exact g_return C dX7_think_54 ⟨hF2, hT2, fun u hu => hJ u (by omega)⟩
            · refine g_aload_n C dX7_think_37 rfl ?_
              refine gf_X7_22 C dX7_think_38 rfl ?_
              refine g_pc (pc' := 41) rfl ?_
              refine g_iload_n C dX7_think_41 rfl ?_
              refine g_aload_n C dX7_think_42 rfl ?_
              refine g_iload_n C dX7_think_43 rfl ?_
              refine gc_X7_68 C dX7_think_44 rfl (c_X7_shareOfJoin hI (Ml M) s2 hXs2 hW (j := j) hx1b (by omega)) (by decide) (Nat.le_of_ble_eq_true rfl) (fun z s3 ⟨hz, hG2⟩ => ?_)
              subst z
              refine g_fast (n := j) (N := 8) C dX7_think_47 rfl rfl (by omega) (by omega) (by decide) ?_
              refine g_iinc (q := 1) (v := (x1 + 1)) (L' := [(1, .int (iZ (x1 + 1))), (0, .ref (κ.2.1 80))]) C dX7_think_48 rfl rfl (by decide) rfl ?_
              refine g_goto (tgt := 26) C dX7_think_51 (by decide) ?_
              exact g_loc [1, 0] (by rfl) (ih (j + 1) (x1 + 1) (sF s3 88 j (wjs w j)) (by omega) (by omega) (by omega) ((hF2.tr (hG2.mono (fun _ => HC_TC))).sF (by unfold TC; omega)) (fun u hu => by rw [rF_k (by omega), hG2.2.1 87 (by unfold HC; omega)]; exact hT2 u hu) (fun u hu => by rcases Nat.lt_or_ge u j with q | q; (rw [rF_j (by omega), hG2.2.1 88 (by unfold HC; omega)]; exact hJ u q); (rw [show u = j by omega]; exact rF_s)))
        exact g_loc [1, 0] (by rfl) (lp26 _ 0 0 s (Nat.lt_succ_self _) rfl (Nat.zero_le _) hF (fun u hu => hT u (by omega)) (fun u hu => absurd hu (Nat.not_lt_zero u)))
      · refine g_aload_n C dX7_think_7 rfl ?_
        refine g_pc (pc' := 8) rfl ?_
        refine gf_X7_18 C dX7_think_8 rfl ?_
        refine g_iload_n C dX7_think_11 rfl ?_
        refine g_aload_n C dX7_think_12 rfl ?_
        refine g_iload_n C dX7_think_13 rfl ?_
        refine gc_X7_60 C dX7_think_14 rfl (c_X7_thoughtOfTable hI (Ml M) s hXs hW (t := t) hx1 (by omega)) (by decide) (Nat.le_of_ble_eq_true rfl) (fun z s1 ⟨hz, hG⟩ => ?_)
        subst z
        refine g_fast (n := t) (N := 5) C dX7_think_17 rfl rfl (by omega) (by omega) (by decide) ?_
        refine g_iinc (q := 1) (v := (x1 + 1)) (L' := [(1, .int (iZ (x1 + 1))), (0, .ref (κ.2.1 80))]) C dX7_think_18 rfl rfl (by decide) rfl ?_
        refine g_goto (tgt := 2) C dX7_think_21 (by decide) ?_
        exact g_loc [1, 0] (by rfl) (ih (t + 1) (x1 + 1) (sF s1 87 t (tht w t)) (by omega) (by omega) (by omega) ((hF.tr (hG.mono (fun _ => HC_TC))).sF (by unfold TC; omega)) (fun u hu => by rcases Nat.lt_or_ge u t with q | q; (rw [rF_j (by omega), hG.2.1 87 (by unfold HC; omega)]; exact hT u q); (rw [show u = t by omega]; exact rF_s)))
  exact g_loc [1, 0] (by rfl) (lp2 _ 0 0 σ (Nat.lt_succ_self _) rfl (by omega) Fr.rf (fun u hu => absurd hu (Nat.not_lt_zero u)))
set_option maxHeartbeats 4000000 in
set_option maxRecDepth 100000 in
theorem c_X7_thoughtOf {κ : Kp} (hI : Ij κ) (l : Launch) (σ : St) {w : Wv} (hX : XW 0 σ w) (hW : OKW w) (hT : TH σ w) {s : Nat} {zs : Int} (hs : zs = (s : Int)) (hs32 : s < 32) : CtF κ l 2 yX7_thoughtOf cX7_thoughtOf 4 [.ref (κ.2.1 80), .int (iZ zs)] σ (fun z σ' => z = tho w s ∧ σ' = σ) := by
  refine Ct.ofG (own := RX7) hI (by decide +kernel) rfl (Nat.le_of_ble_eq_true rfl) rfl ?_
  intro M C hMl
  refine g_fconst1 C dX7_thoughtOf_0 ?_
  refine g_fstore_n (L' := [(2, .float FP.fconst1), (0, .ref (κ.2.1 80)), (1, .int (iZ zs))]) C dX7_thoughtOf_1 rfl (by decide) rfl ?_
  refine g_iconst (z := 0) C dX7_thoughtOf_2 rfl ?_
  refine g_istore_n (L' := [(3, .int (iZ 0)), (2, .float FP.fconst1), (0, .ref (κ.2.1 80)), (1, .int (iZ zs))]) C dX7_thoughtOf_3 rfl (by decide) rfl ?_
  have lp4 : ∀ (fz9 : Nat) (t : Nat) (x2 : UInt32) (x3 : Int), (5 - t < fz9) → (x3 = (t : Int)) → (t ≤ 5) → (x2 = toT w s t) → G M κ 4 (En M κ (qF κ (fun z σ' => z = tho w s ∧ σ' = σ))) 4 [(0, .ref (κ.2.1 80)), (1, .int (iZ zs)), (2, .float x2), (3, .int (iZ x3))] [] σ := by
    intro fz9
    induction fz9 with
    | zero => intro t x2 x3 hm0; exact absurd hm0 (Nat.not_lt_zero _)
    | succ fz9 ih =>
      intro t x2 x3 hm4 hx3 ht hx2
      subst x2
      refine g_iload_n C dX7_thoughtOf_4 rfl ?_
      refine g_iconst (z := 5) C dX7_thoughtOf_5 rfl ?_
      refine g_icmp_ge (tgt := 33) C dX7_thoughtOf_6 (by decide) (by unfold R32; omega) (fun h1 => ?_) (fun h1 => ?_)
      · refine g_pc (pc' := 33) rfl ?_
        refine g_iconst (z := 0) C dX7_thoughtOf_33 rfl ?_
        refine g_istore_n (L' := [(3, .int (iZ 0)), (0, .ref (κ.2.1 80)), (1, .int (iZ zs)), (2, .float (toT w s t))]) C dX7_thoughtOf_34 rfl (by decide) rfl ?_
        have lp35 : ∀ (fz9 : Nat) (j : Nat) (x2 : UInt32) (x3 : Int), (wnj w - j < fz9) → (x3 = (j : Int)) → (j ≤ wnj w) → (x2 = toJ w s j) → G M κ 4 (En M κ (qF κ (fun z σ' => z = tho w s ∧ σ' = σ))) 35 [(0, .ref (κ.2.1 80)), (1, .int (iZ zs)), (2, .float x2), (3, .int (iZ x3))] [] σ := by
          intro fz9
          induction fz9 with
          | zero => intro j x2 x3 hm0; exact absurd hm0 (Nat.not_lt_zero _)
          | succ fz9 ih =>
            intro j x2 x3 hm35 hx3b hj hx2b
            subst x2
            have hj8 := hW.2.2.1
            refine g_iload_n C dX7_thoughtOf_35 rfl ?_
            refine g_aload_n C dX7_thoughtOf_36 rfl ?_
            refine gf_X7_25 C dX7_thoughtOf_37 rfl ?_
            refine gf_X7_64 (z := (wnj w : Int)) C dX7_thoughtOf_40 rfl hX.2.2.1.1 ?_
            refine g_icmp_ge (tgt := 73) C dX7_thoughtOf_43 (by decide) (by unfold R32; omega) (fun h2 => ?_) (fun h2 => ?_)
            · refine g_fload_n C dX7_thoughtOf_73 rfl ?_
              refine g_pc (pc' := 74) rfl ?_
              exact g_freturn C dX7_thoughtOf_74 ⟨by rw [tho, show wnj w = j by omega], rfl⟩
            · refine g_aload_n C dX7_thoughtOf_46 rfl ?_
              refine gf_X7_25 C dX7_thoughtOf_47 rfl ?_
              refine g_iload_n C dX7_thoughtOf_50 rfl ?_
              refine g_iload_n C dX7_thoughtOf_51 rfl ?_
              refine gc_X7_92 C dX7_thoughtOf_52 rfl (c_X8_hasWithin hI (Ml M) σ hX hW (s := s) (j := j) hs hx3b hs32 (by omega)) (by decide) (Nat.le_of_ble_eq_true rfl) (fun z σ9 ⟨hz, hσ⟩ => ?_)
              subst z
              subst σ9
              refine g_ifb_eq (tgt := 67) C dX7_thoughtOf_55 (by decide) (fun h3 => ?_) (fun h3 => ?_)
              · refine g_iinc (q := 3) (v := (x3 + 1)) (L' := [(3, .int (iZ (x3 + 1))), (0, .ref (κ.2.1 80)), (1, .int (iZ zs)), (2, .float (toJ w s j))]) C dX7_thoughtOf_67 rfl rfl (by decide) rfl ?_
                refine g_pc (pc' := 70) rfl ?_
                refine g_goto (tgt := 35) C dX7_thoughtOf_70 (by decide) ?_
                exact g_loc [1, 2, 3, 0] (by rfl) (ih (j + 1) (toJ w s j) (x3 + 1) (by omega) (by omega) (by omega) (by rw [toJ]; first | rw [if_pos (by assumption)] | rw [if_neg (by assumption)]))
              · refine g_fload_n C dX7_thoughtOf_58 rfl ?_
                refine g_aload_n C dX7_thoughtOf_59 rfl ?_
                refine gf_X7_22 C dX7_thoughtOf_60 rfl ?_
                refine g_iload_n C dX7_thoughtOf_63 rfl ?_
                refine g_faz (n := j) (N := 8) (v := (wjs w j)) C dX7_thoughtOf_64 rfl rfl (by omega) (by omega) (by decide) (hT.2 j (by omega)) ?_
                refine g_fmul C dX7_thoughtOf_65 (by have h9 := (toJ_B (s := s) hW (j + 1) (by omega)).vf; rwa [toJ, if_pos (by assumption)] at h9) ?_
                refine g_fstore_n (L' := [(2, .float (FP.fmul (toJ w s j) (wjs w j))), (0, .ref (κ.2.1 80)), (1, .int (iZ zs)), (3, .int (iZ x3))]) C dX7_thoughtOf_66 rfl (by decide) rfl ?_
                refine g_pc (pc' := 67) rfl ?_
                refine g_iinc (q := 3) (v := (x3 + 1)) (L' := [(3, .int (iZ (x3 + 1))), (2, .float (FP.fmul (toJ w s j) (wjs w j))), (0, .ref (κ.2.1 80)), (1, .int (iZ zs))]) C dX7_thoughtOf_67 rfl rfl (by decide) rfl ?_
                refine g_goto (tgt := 35) C dX7_thoughtOf_70 (by decide) ?_
                exact g_loc [2, 3, 1, 0] (by rfl) (ih (j + 1) (FP.fmul (toJ w s j) (wjs w j)) (x3 + 1) (by omega) (by omega) (by omega) (by rw [toJ]; first | rw [if_pos (by assumption)] | rw [if_neg (by assumption)]))
        exact g_loc [1, 2, 3, 0] (by rfl) (lp35 _ 0 (toT w s t) 0 (Nat.lt_succ_self _) rfl (Nat.zero_le _) (by rw [show t = 5 by omega]; rfl))
      · refine g_iload_n C dX7_thoughtOf_9 rfl ?_
        refine g_iload_n C dX7_thoughtOf_10 rfl ?_
        refine g_ishr C dX7_thoughtOf_11 ?_
        refine g_iconst (z := 1) C dX7_thoughtOf_12 rfl ?_
        refine g_iand C dX7_thoughtOf_13 ?_
        refine g_raw (bit_raw hs hx3 (by omega) (by omega)) ?_
        have hb01 := bitv_01 s t
        refine g_iconst (z := 1) C dX7_thoughtOf_14 rfl ?_
        refine g_pc (pc' := 15) rfl ?_
        refine g_icmp_ne (tgt := 27) C dX7_thoughtOf_15 (by decide) (by unfold R32; omega) (fun h4 => ?_) (fun h4 => ?_)
        · refine g_iinc (q := 3) (v := (x3 + 1)) (L' := [(3, .int (iZ (x3 + 1))), (0, .ref (κ.2.1 80)), (1, .int (iZ zs)), (2, .float (toT w s t))]) C dX7_thoughtOf_27 rfl rfl (by decide) rfl ?_
          refine g_goto (tgt := 4) C dX7_thoughtOf_30 (by decide) ?_
          exact g_loc [1, 2, 3, 0] (by rfl) (ih (t + 1) (toT w s t) (x3 + 1) (by omega) (by omega) (by omega) (by rw [toT]; first | rw [if_pos (by omega)] | rw [if_neg (by omega)]))
        · refine g_fload_n C dX7_thoughtOf_18 rfl ?_
          refine g_aload_n C dX7_thoughtOf_19 rfl ?_
          refine gf_X7_18 C dX7_thoughtOf_20 rfl ?_
          refine g_iload_n C dX7_thoughtOf_23 rfl ?_
          refine g_faz (n := t) (N := 5) (v := (tht w t)) C dX7_thoughtOf_24 rfl rfl (by omega) (by omega) (by decide) (hT.1 t (by omega)) ?_
          refine g_pc (pc' := 25) rfl ?_
          refine g_fmul C dX7_thoughtOf_25 (by have h9 := (toT_B (s := s) hW (t + 1) (by omega)).vf; rwa [toT, if_pos (by omega)] at h9) ?_
          refine g_fstore_n (L' := [(2, .float (FP.fmul (toT w s t) (tht w t))), (0, .ref (κ.2.1 80)), (1, .int (iZ zs)), (3, .int (iZ x3))]) C dX7_thoughtOf_26 rfl (by decide) rfl ?_
          refine g_iinc (q := 3) (v := (x3 + 1)) (L' := [(3, .int (iZ (x3 + 1))), (2, .float (FP.fmul (toT w s t) (tht w t))), (0, .ref (κ.2.1 80)), (1, .int (iZ zs))]) C dX7_thoughtOf_27 rfl rfl (by decide) rfl ?_
          refine g_goto (tgt := 4) C dX7_thoughtOf_30 (by decide) ?_
          exact g_loc [2, 3, 1, 0] (by rfl) (ih (t + 1) (FP.fmul (toT w s t) (tht w t)) (x3 + 1) (by omega) (by omega) (by omega) (by rw [toT]; first | rw [if_pos (by omega)] | rw [if_neg (by omega)]))
  exact g_loc [2, 3, 1, 0] (by rfl) (lp4 _ 0 FP.fconst1 0 (Nat.lt_succ_self _) rfl (by omega) rfl)

/-! the calls that answer a float's bits -/
def aShare (V : Vw) (p s v : Int) : Int × Vw := if ¬ (0 ≤ p ∧ p < 15) then rfT 1 V else if ¬ (0 ≤ s ∧ s < 3) ∨ ¬ (0 ≤ v ∧ v < 100) then rfT 6 V else (((wshr (vW V) p.toNat s v).toNat : Int), V)
def aJoinShare (V : Vw) (j : Int) : Int × Vw := if ¬ (0 ≤ j ∧ j < (wnj (vW V) : Int)) then rfs 1 V else (((wjs (vW V) j.toNat).toNat : Int), V)
def aThought (V : Vw) (s : Int) : Int × Vw := if ¬ (0 < s ∧ s < 32) then rfs 6 V else (((tho (vW V) s.toNat).toNat : Int), V)
def aSorting (V : Vw) (s : Int) : Int × Vw := if ¬ (0 < s ∧ s < 32) then rfs 6 V else (((cso (tho (vW V) s.toNat)).toNat : Int), V)
theorem TC_XC {k : Nat} (h : TC k) : XC k := by unfold TC HC at h; unfold XC; omega
theorem XV.frT {σ σ' : St} {V : Vw} (hX : XV σ V) (hO : OKV V) (hF : Fr TC σ σ') : XV σ' V := hX.scratch hO hF (fun k hk e => by unfold TC HC at e; omega)
set_option maxHeartbeats 4000000 in
set_option maxRecDepth 100000 in
theorem c_X9_share {κ : Kp} (hI : Ij κ) (l : Launch) (σ : St) {V : Vw} (hX : XV σ V) (hO : OKV V) {p s v : Int} (hp : R32 p) (hs : R32 s) (hv : R32 v) : CtI κ l 4 yX9_share cX9_share 4 .int [.ref (κ.2.1 76), .int (iZ p), .int (iZ s), .int (iZ v)] σ (fun z σ' => z = (aShare V p s v).1 ∧ XV σ' (aShare V p s v).2 ∧ Fr XC σ σ') := by
  refine Ct.ofG (own := RX9) hI (by decide +kernel) rfl (Nat.le_of_ble_eq_true rfl) rfl ?_
  intro M C hMl
  refine g_iload_n C dX9_share_0 rfl ?_
  refine g_bipush (z := 15) C dX9_share_1 rfl ?_
  refine gc_X9_80 C dX9_share_3 (c_X9_isBelow hI (Ml M) σ (x := p) (e := 15) (by unfold R32; omega) (by unfold R32; omega)) (by decide) (Nat.le_of_ble_eq_true rfl) (fun z σ1 ⟨hz, hσ⟩ => ?_)
  subst z
  subst σ1
  refine g_ifb_ne (tgt := 15) C dX9_share_6 (by decide) (fun h1 => ?_) (fun h1 => ?_)
  · refine g_iload_n C dX9_share_15 rfl ?_
    refine g_iconst (z := 3) C dX9_share_16 rfl ?_
    refine gc_X9_80 C dX9_share_17 (c_X9_isBelow hI (Ml M) σ (x := s) (e := 3) (by unfold R32; omega) (by unfold R32; omega)) (by decide) (Nat.le_of_ble_eq_true rfl) (fun z σ1 ⟨hz, hσ⟩ => ?_)
    subst z
    subst σ1
    refine g_pc (pc' := 20) rfl ?_
    refine g_ifb_eq (tgt := 32) C dX9_share_20 (by decide) (fun h2 => ?_) (fun h2 => ?_)
    · refine g_aload_n C dX9_share_32 rfl ?_
      refine g_bipush (z := 6) C dX9_share_33 rfl ?_
      refine gc_X9_168 C dX9_share_35 rfl (c_X9_refuseTenLower hI (Ml M) σ (y := 6) rfl (by omega)) (by decide) (Nat.le_of_ble_eq_true rfl) (fun z σ1 ⟨hz, hσ⟩ => ?_)
      subst z
      subst σ1
      exact g_ireturn C dX9_share_38 (by rw [show aShare V p s v = rfT 6 V by unfold aShare; (first | rw [if_pos (by omega)] | rw [if_neg (by omega), if_pos (by omega)] | rw [if_neg (by omega), if_neg (by omega)])]; exact ⟨rfl, hX.ref hO (by omega), XC.ref⟩)
    · refine g_iload_n C dX9_share_23 rfl ?_
      refine g_bipush (z := 100) C dX9_share_24 rfl ?_
      refine gc_X9_80 C dX9_share_26 (c_X9_isBelow hI (Ml M) σ (x := v) (e := 100) (by unfold R32; omega) (by unfold R32; omega)) (by decide) (Nat.le_of_ble_eq_true rfl) (fun z σ1 ⟨hz, hσ⟩ => ?_)
      subst z
      subst σ1
      refine g_pc (pc' := 29) rfl ?_
      refine g_ifb_ne (tgt := 39) C dX9_share_29 (by decide) (fun h3 => ?_) (fun h3 => ?_)
      · refine g_aload_n C dX9_share_39 rfl ?_
        refine gf_X9_28 C dX9_share_40 rfl ?_
        refine g_iload_n C dX9_share_43 rfl ?_
        refine gc_X9_181 C dX9_share_44 rfl (c_X7_histogramOf hI (Ml M) σ hX.1 hO.1 (p := p.toNat) (by omega) (by omega)) (by decide) (Nat.le_of_ble_eq_true rfl) (fun k9 s1 ⟨hk9, hF, hFs⟩ => ?_)
        subst k9
        have hX1 := hX.frH hO hF
        refine g_iload_n C dX9_share_47 rfl ?_
        refine g_iload_n C dX9_share_48 rfl ?_
        have hto2 := hO.1.1 (p.toNat / 3) (by omega)
        refine gc_X9_203 C dX9_share_49 rfl (c_X0_shareOf hI (Ml M) s1 hFs hto2.1 hto2.2.1 (wcol_r hO.1 (by omega)) (sg := s) (v := v) (by omega) (by omega)) (by decide) (Nat.le_of_ble_eq_true rfl) (fun z σ9 ⟨hz, hσ⟩ => ?_)
        subst σ9
        have hz3 : z = wshr (vW V) p.toNat s v := hz
        subst hz3
        refine g_pc (pc' := 52) rfl ?_
        refine gc_X9_207 C dX9_share_52 (c_X9_bitsOf hI (Ml M) s1 (FN.of (wshr_B hO.1 (by omega)))) (by decide) (Nat.le_of_ble_eq_true rfl) (fun z2 σ9 ⟨hz2, hσ⟩ => ?_)
        subst σ9
        exact g_ireturn C dX9_share_55 (by rw [show aShare V p s v = (((wshr (vW V) p.toNat s v).toNat : Int), V) by unfold aShare; (first | rw [if_pos (by omega)] | rw [if_neg (by omega), if_pos (by omega)] | rw [if_neg (by omega), if_neg (by omega)])]; exact ⟨hz2, hX1, hF.mono (fun k => HC_XC)⟩)
      · refine g_aload_n C dX9_share_32 rfl ?_
        refine g_bipush (z := 6) C dX9_share_33 rfl ?_
        refine gc_X9_168 C dX9_share_35 rfl (c_X9_refuseTenLower hI (Ml M) σ (y := 6) rfl (by omega)) (by decide) (Nat.le_of_ble_eq_true rfl) (fun z σ1 ⟨hz, hσ⟩ => ?_)
        subst z
        subst σ1
        exact g_ireturn C dX9_share_38 (by rw [show aShare V p s v = rfT 6 V by unfold aShare; (first | rw [if_pos (by omega)] | rw [if_neg (by omega), if_pos (by omega)] | rw [if_neg (by omega), if_neg (by omega)])]; exact ⟨rfl, hX.ref hO (by omega), XC.ref⟩)
  · refine g_aload_n C dX9_share_9 rfl ?_
    refine g_iconst (z := 1) C dX9_share_10 rfl ?_
    refine g_pc (pc' := 11) rfl ?_
    refine gc_X9_168 C dX9_share_11 rfl (c_X9_refuseTenLower hI (Ml M) σ (y := 1) rfl (by omega)) (by decide) (Nat.le_of_ble_eq_true rfl) (fun z σ1 ⟨hz, hσ⟩ => ?_)
    subst z
    subst σ1
    exact g_ireturn C dX9_share_14 (by rw [show aShare V p s v = rfT 1 V by unfold aShare; (first | rw [if_pos (by omega)] | rw [if_neg (by omega), if_pos (by omega)] | rw [if_neg (by omega), if_neg (by omega)])]; exact ⟨rfl, hX.ref hO (by omega), XC.ref⟩)
set_option maxHeartbeats 4000000 in
set_option maxRecDepth 100000 in
theorem c_X9_joinShare {κ : Kp} (hI : Ij κ) (l : Launch) (σ : St) {V : Vw} (hX : XV σ V) (hO : OKV V) {j : Int} (hj : R32 j) : CtI κ l 5 yX9_joinShare cX9_joinShare 2 .int [.ref (κ.2.1 76), .int (iZ j)] σ (fun z σ' => z = (aJoinShare V j).1 ∧ XV σ' (aJoinShare V j).2 ∧ Fr XC σ σ') := by
  refine Ct.ofG (own := RX9) hI (by decide +kernel) rfl (Nat.le_of_ble_eq_true rfl) rfl ?_
  intro M C hMl
  have hnj8 := hO.1.2.2.1
  refine g_iload_n C dX9_joinShare_0 rfl ?_
  refine g_aload_n C dX9_joinShare_1 rfl ?_
  refine gf_X9_12 C dX9_joinShare_2 rfl ?_
  refine gf_X9_217 (z := (wnj (vW V) : Int)) C dX9_joinShare_5 rfl hX.1.2.2.1.1 ?_
  refine gc_X9_80 C dX9_joinShare_8 (c_X9_isBelow hI (Ml M) σ (x := j) (e := (wnj (vW V) : Int)) (by unfold R32; omega) (by unfold R32; omega)) (by decide) (Nat.le_of_ble_eq_true rfl) (fun z σ1 ⟨hz, hσ⟩ => ?_)
  subst z
  subst σ1
  refine g_ifb_ne (tgt := 20) C dX9_joinShare_11 (by decide) (fun h1 => ?_) (fun h1 => ?_)
  · refine g_aload_n C dX9_joinShare_20 rfl ?_
    refine g_pc (pc' := 21) rfl ?_
    refine gf_X9_28 C dX9_joinShare_21 rfl ?_
    refine g_iload_n C dX9_joinShare_24 rfl ?_
    refine gc_X9_246 C dX9_joinShare_25 rfl (c_X7_shareOfJoin hI (Ml M) σ hX.1 hO.1 (j := j.toNat) (by omega) (by omega)) (by decide) (Nat.le_of_ble_eq_true rfl) (fun z s1 ⟨hz, hF⟩ => ?_)
    subst z
    have hX1 := hX.frH hO hF
    refine gc_X9_207 C dX9_joinShare_28 (c_X9_bitsOf hI (Ml M) s1 (FN.of (wjs_B hO.1 (j := j.toNat) (by omega)))) (by decide) (Nat.le_of_ble_eq_true rfl) (fun z2 σ9 ⟨hz2, hσ⟩ => ?_)
    subst σ9
    exact g_ireturn C dX9_joinShare_31 (by rw [show aJoinShare V j = (((wjs (vW V) j.toNat).toNat : Int), V) by unfold aJoinShare; (first | rw [if_pos (by omega)] | rw [if_neg (by omega)])]; exact ⟨hz2, hX1, hF.mono (fun k => HC_XC)⟩)
  · refine g_aload_n C dX9_joinShare_14 rfl ?_
    refine g_iconst (z := 1) C dX9_joinShare_15 rfl ?_
    refine gc_X9_84 C dX9_joinShare_16 rfl (c_X9_refuse hI (Ml M) σ (y := 1) rfl (by omega)) (by decide) (Nat.le_of_ble_eq_true rfl) (fun z σ1 ⟨hz, hσ⟩ => ?_)
    subst z
    subst σ1
    refine g_pc (pc' := 19) rfl ?_
    exact g_ireturn C dX9_joinShare_19 (by rw [show aJoinShare V j = rfs 1 V by unfold aJoinShare; (first | rw [if_pos (by omega)] | rw [if_neg (by omega)])]; exact ⟨rfl, hX.ref hO (by omega), XC.ref⟩)
set_option maxHeartbeats 4000000 in
set_option maxRecDepth 100000 in
theorem c_X9_thought {κ : Kp} (hI : Ij κ) (l : Launch) (σ : St) {V : Vw} (hX : XV σ V) (hO : OKV V) {s : Int} (hs : R32 s) : CtI κ l 6 yX9_thought cX9_thought 2 .int [.ref (κ.2.1 76), .int (iZ s)] σ (fun z σ' => z = (aThought V s).1 ∧ XV σ' (aThought V s).2 ∧ Fr XC σ σ') := by
  refine Ct.ofG (own := RX9) hI (by decide +kernel) rfl (Nat.le_of_ble_eq_true rfl) rfl ?_
  intro M C hMl
  refine g_iload_n C dX9_thought_0 rfl ?_
  refine gc_X9_250 C dX9_thought_1 (c_X9_isSet hI (Ml M) σ (x := s) (by assumption)) (by decide) (Nat.le_of_ble_eq_true rfl) (fun z σ1 ⟨hz, hσ⟩ => ?_)
  subst z
  subst σ1
  refine g_ifb_ne (tgt := 14) C dX9_thought_4 (by decide) (fun h1 => ?_) (fun h1 => ?_)
  · refine g_aload_n C dX9_thought_14 rfl ?_
    refine gf_X9_28 C dX9_thought_15 rfl ?_
    refine gc_X9_253 C dX9_thought_18 rfl (c_X7_think hI (Ml M) σ hX.1 hO.1) (by decide) (Nat.le_of_ble_eq_true rfl) (fun s1 ⟨hF, hT⟩ => ?_)
    have hX1 := hX.frT hO hF
    refine g_aload_n C dX9_thought_21 rfl ?_
    refine g_pc (pc' := 22) rfl ?_
    refine gf_X9_28 C dX9_thought_22 rfl ?_
    refine g_iload_n C dX9_thought_25 rfl ?_
    refine gc_X9_256 C dX9_thought_26 rfl (c_X7_thoughtOf hI (Ml M) s1 hX1.1 hO.1 hT (s := s.toNat) (by omega) (by omega)) (by decide) (Nat.le_of_ble_eq_true rfl) (fun z σ9 ⟨hz, hσ⟩ => ?_)
    subst z
    subst σ9
    refine gc_X9_207 C dX9_thought_29 (c_X9_bitsOf hI (Ml M) s1 (FN.of (tho_B hO.1 _))) (by decide) (Nat.le_of_ble_eq_true rfl) (fun z2 σ9 ⟨hz2, hσ⟩ => ?_)
    subst σ9
    exact g_ireturn C dX9_thought_32 (by rw [show aThought V s = (((tho (vW V) s.toNat).toNat : Int), V) by unfold aThought; (first | rw [if_pos (by omega)] | rw [if_neg (by omega)])]; exact ⟨hz2, hX1, hF.mono (fun k => TC_XC)⟩)
  · refine g_aload_n C dX9_thought_7 rfl ?_
    refine g_bipush (z := 6) C dX9_thought_8 rfl ?_
    refine gc_X9_84 C dX9_thought_10 rfl (c_X9_refuse hI (Ml M) σ (y := 6) rfl (by omega)) (by decide) (Nat.le_of_ble_eq_true rfl) (fun z σ1 ⟨hz, hσ⟩ => ?_)
    subst z
    subst σ1
    refine g_pc (pc' := 13) rfl ?_
    exact g_ireturn C dX9_thought_13 (by rw [show aThought V s = rfs 6 V by unfold aThought; (first | rw [if_pos (by omega)] | rw [if_neg (by omega)])]; exact ⟨rfl, hX.ref hO (by omega), XC.ref⟩)
set_option maxHeartbeats 4000000 in
set_option maxRecDepth 100000 in
theorem c_X9_sorting {κ : Kp} (hI : Ij κ) (l : Launch) (σ : St) {V : Vw} (hX : XV σ V) (hO : OKV V) {s : Int} (hs : R32 s) : CtI κ l 6 yX9_sorting cX9_sorting 2 .int [.ref (κ.2.1 76), .int (iZ s)] σ (fun z σ' => z = (aSorting V s).1 ∧ XV σ' (aSorting V s).2 ∧ Fr XC σ σ') := by
  refine Ct.ofG (own := RX9) hI (by decide +kernel) rfl (Nat.le_of_ble_eq_true rfl) rfl ?_
  intro M C hMl
  refine g_iload_n C dX9_sorting_0 rfl ?_
  refine gc_X9_250 C dX9_sorting_1 (c_X9_isSet hI (Ml M) σ (x := s) (by assumption)) (by decide) (Nat.le_of_ble_eq_true rfl) (fun z σ1 ⟨hz, hσ⟩ => ?_)
  subst z
  subst σ1
  refine g_ifb_ne (tgt := 14) C dX9_sorting_4 (by decide) (fun h1 => ?_) (fun h1 => ?_)
  · refine g_aload_n C dX9_sorting_14 rfl ?_
    refine gf_X9_28 C dX9_sorting_15 rfl ?_
    refine gc_X9_253 C dX9_sorting_18 rfl (c_X7_think hI (Ml M) σ hX.1 hO.1) (by decide) (Nat.le_of_ble_eq_true rfl) (fun s1 ⟨hF, hT⟩ => ?_)
    have hX1 := hX.frT hO hF
    refine g_aload_n C dX9_sorting_21 rfl ?_
    refine g_pc (pc' := 22) rfl ?_
    refine gf_X9_28 C dX9_sorting_22 rfl ?_
    refine g_iload_n C dX9_sorting_25 rfl ?_
    refine gc_X9_256 C dX9_sorting_26 rfl (c_X7_thoughtOf hI (Ml M) s1 hX1.1 hO.1 hT (s := s.toNat) (by omega) (by omega)) (by decide) (Nat.le_of_ble_eq_true rfl) (fun z σ9 ⟨hz, hσ⟩ => ?_)
    subst z
    subst σ9
    refine gc_X9_259 C dX9_sorting_29 (c_X9_costOfSorting hI (Ml M) s1 (a := 20) (tho_B hO.1 _) (by decide)) (by decide) (Nat.le_of_ble_eq_true rfl) (fun z σ9 ⟨hz, hσ⟩ => ?_)
    subst z
    subst σ9
    refine gc_X9_207 C dX9_sorting_32 (c_X9_bitsOf hI (Ml M) s1 (FN.of (cso_B (a := 20) (tho_B hO.1 _) (by decide)))) (by decide) (Nat.le_of_ble_eq_true rfl) (fun z2 σ9 ⟨hz2, hσ⟩ => ?_)
    subst σ9
    exact g_ireturn C dX9_sorting_35 (by rw [show aSorting V s = (((cso (tho (vW V) s.toNat)).toNat : Int), V) by unfold aSorting; (first | rw [if_pos (by omega)] | rw [if_neg (by omega)])]; exact ⟨hz2, hX1, hF.mono (fun k => TC_XC)⟩)
  · refine g_aload_n C dX9_sorting_7 rfl ?_
    refine g_bipush (z := 6) C dX9_sorting_8 rfl ?_
    refine g_pc (pc' := 10) rfl ?_
    refine gc_X9_84 C dX9_sorting_10 rfl (c_X9_refuse hI (Ml M) σ (y := 6) rfl (by omega)) (by decide) (Nat.le_of_ble_eq_true rfl) (fun z σ1 ⟨hz, hσ⟩ => ?_)
    subst z
    subst σ1
    exact g_ireturn C dX9_sorting_13 (by rw [show aSorting V s = rfs 6 V by unfold aSorting; (first | rw [if_pos (by omega)] | rw [if_neg (by omega)])]; exact ⟨rfl, hX.ref hO (by omega), XC.ref⟩)

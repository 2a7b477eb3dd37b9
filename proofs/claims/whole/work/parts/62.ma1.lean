/-! THE MODEL: calls on the world -/
theorem OKV.l {V : Vw} (hO : OKV V) : ∀ t, t < 5 → wl (vW V) t ≤ 16 := fun t ht => (hO.1.1 t ht).1
theorem MV.flt {σ : St} {V : Vw} (h : MV σ V) (z : Int) : MV (sI σ 105 52 z) (vFlt V z) := by
  have g : Fm (fun _ => False) (fun j => j = 52) σ (sI σ 105 52 z) := Fm.rf.t rfl
  exact ⟨h.1.fm g (fun _ _ _ e => e) (fun j _ _ e => by omega), h.2.1.fm g (fun e => e) (by decide), h.2.2.1.fm g (fun _ _ _ e => e), h.2.2.2.1.fm g (fun _ _ _ e => e) (by decide), ⟨rI_s, fun y hy => (rI_k (by decide)).trans (h.2.2.2.2.2 y hy)⟩⟩
theorem SLi_SW {k : Nat} (h : SLi k) : SW k := by unfold SLi at h; unfold SW; omega
theorem NoT_f {j : Nat} (h : NoT j) : SWt j := h.elim
set_option maxHeartbeats 4000000 in
set_option maxRecDepth 100000 in
theorem c_X10_tableOf {κ : Kp} (hI : Ij κ) (l : Launch) (σ : St) {V : Vw} (hM : MV σ V) (hO : OKV V) {t a : Int} (ht : R32 t) (ha : R32 a) : CtI κ l 2 yX10_tableOf cX10_tableOf 4 .int [.ref (κ.2.1 105), .int (iZ t), .int (iZ a)] σ (fun z σ' => z = (aTableOf V t a).1 ∧ MV σ' (aTableOf V t a).2 ∧ Fr YC σ σ') := by
  refine Ct.ofG (own := RX10) hI (by decide +kernel) rfl (Nat.le_of_ble_eq_true rfl) rfl ?_
  intro M C hMl
  refine g_iload_n C dX10_tableOf_0 rfl ?_
  refine gc_X10_371 C dX10_tableOf_1 (c_X10_isTable hI (Ml M) σ (v := t) (by unfold R32; omega)) (by decide) (Nat.le_of_ble_eq_true rfl) (fun z σ9 ⟨hz, hσ⟩ => ?_)
  subst z
  subst σ9
  refine g_ifb_ne (tgt := 11) C dX10_tableOf_4 (by decide) (fun h1 => ?_) (fun h1 => ?_)
  · refine g_iload_n C dX10_tableOf_11 rfl ?_
    refine g_iconst (z := 0) C dX10_tableOf_12 rfl ?_
    refine g_iconst (z := 2) C dX10_tableOf_13 rfl ?_
    refine gc_X10_145 C dX10_tableOf_14 (c_X10_isIn hI (Ml M) σ (v := a) (a := 0) (b := 2) (by unfold R32; omega) (by unfold R32; omega) (by unfold R32; omega)) (by decide) (Nat.le_of_ble_eq_true rfl) (fun z σ9 ⟨hz, hσ⟩ => ?_)
    subst z
    subst σ9
    refine g_pc (pc' := 17) rfl ?_
    refine g_ifb_ne (tgt := 25) C dX10_tableOf_17 (by decide) (fun h2 => ?_) (fun h2 => ?_)
    · refine g_iconst (z := 0) C dX10_tableOf_25 rfl ?_
      refine g_istore_n (L' := [(3, .int (iZ 0)), (0, .ref (κ.2.1 105)), (1, .int (iZ t)), (2, .int (iZ a))]) C dX10_tableOf_26 rfl (by decide) rfl ?_
      refine g_iload_n C dX10_tableOf_27 rfl ?_
      refine g_if_eq (tgt := 37) C dX10_tableOf_28 (by decide) (by unfold R32; omega) (fun h3 => ?_) (fun h3 => ?_)
      · refine g_iload_n C dX10_tableOf_37 rfl ?_
        refine g_if_ne (tgt := 50) C dX10_tableOf_38 (by decide) (by unfold R32; omega) (fun h4 => ?_) (fun h4 => ?_)
        · refine g_iload_n C dX10_tableOf_50 rfl ?_
          refine g_pc (pc' := 51) rfl ?_
          refine g_iconst (z := 1) C dX10_tableOf_51 rfl ?_
          refine g_icmp_ne (tgt := 64) C dX10_tableOf_52 (by decide) (by unfold R32; omega) (fun h5 => ?_) (fun h5 => ?_)
          · refine g_aload_n C dX10_tableOf_64 rfl ?_
            refine gf_X10_22 C dX10_tableOf_65 rfl ?_
            refine g_iload_n C dX10_tableOf_68 rfl ?_
            refine g_iaz (n := t.toNat) (N := 5) (v := ((wst (vW V) t.toNat : Int) - 1)) C dX10_tableOf_69 rfl rfl (by omega) (by omega) (by decide) ((hM.1.1 t.toNat (by omega)).2.2.1) ?_
            refine g_iconst (z := 1) C dX10_tableOf_70 rfl ?_
            refine g_iadd C dX10_tableOf_71 ?_
            refine g_pc (pc' := 72) rfl ?_
            exact g_ireturn C dX10_tableOf_72 (by rw [show aTableOf V t a = ((wst (vW V) t.toNat : Int), V) by unfold aTableOf; (first | rw [if_pos (by omega)] | rw [if_neg (by omega), if_pos (by omega)] | rw [if_neg (by omega), if_neg (by omega), if_pos (by omega)] | rw [if_neg (by omega), if_neg (by omega), if_neg (by omega), if_pos (by omega)] | rw [if_neg (by omega), if_neg (by omega), if_neg (by omega), if_neg (by omega)])]; exact ⟨by omega, hM, Fr.rf⟩)
          · refine g_aload_n C dX10_tableOf_55 rfl ?_
            refine gf_X10_19 C dX10_tableOf_56 rfl ?_
            refine g_iload_n C dX10_tableOf_59 rfl ?_
            refine g_iaz (n := t.toNat) (N := 5) (v := (wb (vW V) t.toNat : Int)) C dX10_tableOf_60 rfl rfl (by omega) (by omega) (by decide) ((hM.1.1 t.toNat (by omega)).2.1) ?_
            refine g_goto (tgt := 72) C dX10_tableOf_61 (by decide) ?_
            exact g_ireturn C dX10_tableOf_72 (by rw [show aTableOf V t a = ((wb (vW V) t.toNat : Int), V) by unfold aTableOf; (first | rw [if_pos (by omega)] | rw [if_neg (by omega), if_pos (by omega)] | rw [if_neg (by omega), if_neg (by omega), if_pos (by omega)] | rw [if_neg (by omega), if_neg (by omega), if_neg (by omega), if_pos (by omega)] | rw [if_neg (by omega), if_neg (by omega), if_neg (by omega), if_neg (by omega)])]; exact ⟨rfl, hM, Fr.rf⟩)
        · refine g_aload_n C dX10_tableOf_41 rfl ?_
          refine g_pc (pc' := 42) rfl ?_
          refine gf_X10_13 C dX10_tableOf_42 rfl ?_
          refine g_iload_n C dX10_tableOf_45 rfl ?_
          refine g_iaz (n := t.toNat) (N := 5) (v := (wl (vW V) t.toNat : Int)) C dX10_tableOf_46 rfl rfl (by omega) (by omega) (by decide) ((hM.1.1 t.toNat (by omega)).1) ?_
          refine g_goto (tgt := 72) C dX10_tableOf_47 (by decide) ?_
          exact g_ireturn C dX10_tableOf_72 (by rw [show aTableOf V t a = ((wl (vW V) t.toNat : Int), V) by unfold aTableOf; (first | rw [if_pos (by omega)] | rw [if_neg (by omega), if_pos (by omega)] | rw [if_neg (by omega), if_neg (by omega), if_pos (by omega)] | rw [if_neg (by omega), if_neg (by omega), if_neg (by omega), if_pos (by omega)] | rw [if_neg (by omega), if_neg (by omega), if_neg (by omega), if_neg (by omega)])]; exact ⟨rfl, hM, Fr.rf⟩)
      · exfalso; omega
    · refine g_bipush (z := (-5)) C dX10_tableOf_20 rfl ?_
      refine g_goto (tgt := 26) C dX10_tableOf_22 (by decide) ?_
      refine g_istore_n (L' := [(3, .int (iZ (-5))), (0, .ref (κ.2.1 105)), (1, .int (iZ t)), (2, .int (iZ a))]) C dX10_tableOf_26 rfl (by decide) rfl ?_
      refine g_pc (pc' := 27) rfl ?_
      refine g_iload_n C dX10_tableOf_27 rfl ?_
      refine g_if_eq (tgt := 37) C dX10_tableOf_28 (by decide) (by unfold R32; omega) (fun h6 => ?_) (fun h6 => ?_)
      · exfalso; omega
      · refine g_aload_n C dX10_tableOf_31 rfl ?_
        refine g_iload_n C dX10_tableOf_32 rfl ?_
        refine gc_X10_274 C dX10_tableOf_33 rfl (c_X10_no hI (Ml M) σ (y := 5) (v := (-5)) (by first | rfl | omega) (by decide)) (by decide) (Nat.le_of_ble_eq_true rfl) (fun z σ9 ⟨hz, hσ⟩ => ?_)
        subst z
        subst σ9
        exact g_ireturn C dX10_tableOf_36 (by rw [show aTableOf V t a = rfs 5 V by unfold aTableOf; (first | rw [if_pos (by omega)] | rw [if_neg (by omega), if_pos (by omega)] | rw [if_neg (by omega), if_neg (by omega), if_pos (by omega)] | rw [if_neg (by omega), if_neg (by omega), if_neg (by omega), if_pos (by omega)] | rw [if_neg (by omega), if_neg (by omega), if_neg (by omega), if_neg (by omega)])]; exact ⟨rfl, hM.ref (by omega), YC.ref⟩)
  · refine g_iconst (z := (-1)) C dX10_tableOf_7 rfl ?_
    refine g_goto (tgt := 26) C dX10_tableOf_8 (by decide) ?_
    refine g_pc (pc' := 26) rfl ?_
    refine g_istore_n (L' := [(3, .int (iZ (-1))), (0, .ref (κ.2.1 105)), (1, .int (iZ t)), (2, .int (iZ a))]) C dX10_tableOf_26 rfl (by decide) rfl ?_
    refine g_iload_n C dX10_tableOf_27 rfl ?_
    refine g_if_eq (tgt := 37) C dX10_tableOf_28 (by decide) (by unfold R32; omega) (fun h7 => ?_) (fun h7 => ?_)
    · exfalso; omega
    · refine g_aload_n C dX10_tableOf_31 rfl ?_
      refine g_iload_n C dX10_tableOf_32 rfl ?_
      refine gc_X10_274 C dX10_tableOf_33 rfl (c_X10_no hI (Ml M) σ (y := 1) (v := (-1)) (by first | rfl | omega) (by decide)) (by decide) (Nat.le_of_ble_eq_true rfl) (fun z σ9 ⟨hz, hσ⟩ => ?_)
      subst z
      subst σ9
      exact g_ireturn C dX10_tableOf_36 (by rw [show aTableOf V t a = rfs 1 V by unfold aTableOf; (first | rw [if_pos (by omega)] | rw [if_neg (by omega), if_pos (by omega)] | rw [if_neg (by omega), if_neg (by omega), if_pos (by omega)] | rw [if_neg (by omega), if_neg (by omega), if_neg (by omega), if_pos (by omega)] | rw [if_neg (by omega), if_neg (by omega), if_neg (by omega), if_neg (by omega)])]; exact ⟨rfl, hM.ref (by omega), YC.ref⟩)
set_option maxHeartbeats 4000000 in
set_option maxRecDepth 100000 in
theorem c_X10_lineOf {κ : Kp} (hI : Ij κ) (l : Launch) (σ : St) {V : Vw} (hM : MV σ V) (hO : OKV V) {t i c : Int} (ht : R32 t) (hi : R32 i) (hc : R32 c) : CtI κ l 2 yX10_lineOf cX10_lineOf 5 .int [.ref (κ.2.1 105), .int (iZ t), .int (iZ i), .int (iZ c)] σ (fun z σ' => z = (aLineOf V t i c).1 ∧ MV σ' (aLineOf V t i c).2 ∧ Fr YC σ σ') := by
  refine Ct.ofG (own := RX10) hI (by decide +kernel) rfl (Nat.le_of_ble_eq_true rfl) rfl ?_
  intro M C hMl
  refine g_iload_n C dX10_lineOf_0 rfl ?_
  refine gc_X10_371 C dX10_lineOf_1 (c_X10_isTable hI (Ml M) σ (v := t) (by unfold R32; omega)) (by decide) (Nat.le_of_ble_eq_true rfl) (fun z σ9 ⟨hz, hσ⟩ => ?_)
  subst z
  subst σ9
  refine g_ifb_ne (tgt := 11) C dX10_lineOf_4 (by decide) (fun h1 => ?_) (fun h1 => ?_)
  · have hwt := hO.1.1 t.toNat (by omega)
    refine g_iload_n C dX10_lineOf_11 rfl ?_
    refine g_iconst (z := 0) C dX10_lineOf_12 rfl ?_
    refine g_aload_n C dX10_lineOf_13 rfl ?_
    refine gf_X10_13 C dX10_lineOf_14 rfl ?_
    refine g_pc (pc' := 17) rfl ?_
    refine g_iload_n C dX10_lineOf_17 rfl ?_
    refine g_iaz (n := t.toNat) (N := 5) (v := (wl (vW V) t.toNat : Int)) C dX10_lineOf_18 rfl rfl (by omega) (by omega) (by decide) ((hM.1.1 t.toNat (by omega)).1) ?_
    refine g_iconst (z := 1) C dX10_lineOf_19 rfl ?_
    refine g_isub C dX10_lineOf_20 ?_
    refine gc_X10_145 C dX10_lineOf_21 (c_X10_isIn hI (Ml M) σ (v := i) (a := 0) (b := ((wl (vW V) t.toNat : Int) - 1)) (by unfold R32; omega) (by unfold R32; omega) (by unfold R32; omega)) (by decide) (Nat.le_of_ble_eq_true rfl) (fun z σ9 ⟨hz, hσ⟩ => ?_)
    subst z
    subst σ9
    refine g_ifb_eq (tgt := 36) C dX10_lineOf_24 (by decide) (fun h2 => ?_) (fun h2 => ?_)
    · refine g_bipush (z := (-5)) C dX10_lineOf_36 rfl ?_
      refine g_goto (tgt := 42) C dX10_lineOf_38 (by decide) ?_
      refine g_pc (pc' := 42) rfl ?_
      refine g_istore (L' := [(4, .int (iZ (-5))), (0, .ref (κ.2.1 105)), (1, .int (iZ t)), (2, .int (iZ i)), (3, .int (iZ c))]) C dX10_lineOf_42 (by decide) rfl ?_
      refine g_iload C dX10_lineOf_44 rfl ?_
      refine g_if_eq (tgt := 58) C dX10_lineOf_46 (by decide) (by unfold R32; omega) (fun h3 => ?_) (fun h3 => ?_)
      · exfalso; omega
      · refine g_aload_n C dX10_lineOf_49 rfl ?_
        refine g_iload C dX10_lineOf_50 rfl ?_
        refine gc_X10_274 C dX10_lineOf_52 rfl (c_X10_no hI (Ml M) σ (y := 5) (v := (-5)) (by first | rfl | omega) (by decide)) (by decide) (Nat.le_of_ble_eq_true rfl) (fun z σ9 ⟨hz, hσ⟩ => ?_)
        subst z
        subst σ9
        refine g_goto (tgt := 68) C dX10_lineOf_55 (by decide) ?_
        exact g_ireturn C dX10_lineOf_68 (by rw [show aLineOf V t i c = rfs 5 V by unfold aLineOf; (first | rw [if_pos (by omega)] | rw [if_neg (by omega), if_pos (by omega)] | rw [if_neg (by omega), if_neg (by omega)])]; exact ⟨rfl, hM.ref (by omega), YC.ref⟩)
    · refine g_pc (pc' := 27) rfl ?_
      refine g_iload_n C dX10_lineOf_27 rfl ?_
      refine g_iconst (z := 0) C dX10_lineOf_28 rfl ?_
      refine g_iconst (z := 2) C dX10_lineOf_29 rfl ?_
      refine gc_X10_145 C dX10_lineOf_30 (c_X10_isIn hI (Ml M) σ (v := c) (a := 0) (b := 2) (by unfold R32; omega) (by unfold R32; omega) (by unfold R32; omega)) (by decide) (Nat.le_of_ble_eq_true rfl) (fun z σ9 ⟨hz, hσ⟩ => ?_)
      subst z
      subst σ9
      refine g_ifb_ne (tgt := 41) C dX10_lineOf_33 (by decide) (fun h4 => ?_) (fun h4 => ?_)
      · refine g_iconst (z := 0) C dX10_lineOf_41 rfl ?_
        refine g_istore (L' := [(4, .int (iZ 0)), (0, .ref (κ.2.1 105)), (1, .int (iZ t)), (2, .int (iZ i)), (3, .int (iZ c))]) C dX10_lineOf_42 (by decide) rfl ?_
        refine g_iload C dX10_lineOf_44 rfl ?_
        refine g_pc (pc' := 46) rfl ?_
        refine g_if_eq (tgt := 58) C dX10_lineOf_46 (by decide) (by unfold R32; omega) (fun h5 => ?_) (fun h5 => ?_)
        · refine g_aload_n C dX10_lineOf_58 rfl ?_
          refine g_iconst (z := 3) C dX10_lineOf_59 rfl ?_
          refine g_iload_n C dX10_lineOf_60 rfl ?_
          refine g_imul C dX10_lineOf_61 ?_
          refine g_iload_n C dX10_lineOf_62 rfl ?_
          refine g_iadd C dX10_lineOf_63 ?_
          refine g_iload_n C dX10_lineOf_64 rfl ?_
          refine g_pc (pc' := 65) rfl ?_
          refine gc_X10_149 C dX10_lineOf_65 rfl (c_X10_valueAt hI (Ml M) σ (p := 3 * t.toNat + c.toNat) (i := i.toNat) (by omega) (by omega) (by omega) (by omega)) (by decide) (Nat.le_of_ble_eq_true rfl) (fun z σ9 ⟨hz, hσ⟩ => ?_)
          subst σ9
          have hvv := (hM.1.1 t.toNat (by omega)).2.2.2 i.toNat (by omega) c.toNat (by omega)
          rw [show (3 * t.toNat + c.toNat) / 3 = t.toNat by omega, show (3 * t.toNat + c.toNat) % 3 = c.toNat by omega, hvv] at hz
          exact g_ireturn C dX10_lineOf_68 (by rw [show aLineOf V t i c = ((wv (vW V) t.toNat i.toNat c.toNat : Int), V) by unfold aLineOf; (first | rw [if_pos (by omega)] | rw [if_neg (by omega), if_pos (by omega)] | rw [if_neg (by omega), if_neg (by omega)])]; exact ⟨hz, hM, Fr.rf⟩)
        · exfalso; omega
      · refine g_bipush (z := (-5)) C dX10_lineOf_36 rfl ?_
        refine g_goto (tgt := 42) C dX10_lineOf_38 (by decide) ?_
        refine g_istore (L' := [(4, .int (iZ (-5))), (0, .ref (κ.2.1 105)), (1, .int (iZ t)), (2, .int (iZ i)), (3, .int (iZ c))]) C dX10_lineOf_42 (by decide) rfl ?_
        refine g_iload C dX10_lineOf_44 rfl ?_
        refine g_if_eq (tgt := 58) C dX10_lineOf_46 (by decide) (by unfold R32; omega) (fun h6 => ?_) (fun h6 => ?_)
        · exfalso; omega
        · refine g_aload_n C dX10_lineOf_49 rfl ?_
          refine g_pc (pc' := 50) rfl ?_
          refine g_iload C dX10_lineOf_50 rfl ?_
          refine gc_X10_274 C dX10_lineOf_52 rfl (c_X10_no hI (Ml M) σ (y := 5) (v := (-5)) (by first | rfl | omega) (by decide)) (by decide) (Nat.le_of_ble_eq_true rfl) (fun z σ9 ⟨hz, hσ⟩ => ?_)
          subst z
          subst σ9
          refine g_goto (tgt := 68) C dX10_lineOf_55 (by decide) ?_
          exact g_ireturn C dX10_lineOf_68 (by rw [show aLineOf V t i c = rfs 5 V by unfold aLineOf; (first | rw [if_pos (by omega)] | rw [if_neg (by omega), if_pos (by omega)] | rw [if_neg (by omega), if_neg (by omega)])]; exact ⟨rfl, hM.ref (by omega), YC.ref⟩)
  · refine g_iconst (z := (-1)) C dX10_lineOf_7 rfl ?_
    refine g_goto (tgt := 42) C dX10_lineOf_8 (by decide) ?_
    refine g_istore (L' := [(4, .int (iZ (-1))), (0, .ref (κ.2.1 105)), (1, .int (iZ t)), (2, .int (iZ i)), (3, .int (iZ c))]) C dX10_lineOf_42 (by decide) rfl ?_
    refine g_iload C dX10_lineOf_44 rfl ?_
    refine g_pc (pc' := 46) rfl ?_
    refine g_if_eq (tgt := 58) C dX10_lineOf_46 (by decide) (by unfold R32; omega) (fun h7 => ?_) (fun h7 => ?_)
    · exfalso; omega
    · refine g_aload_n C dX10_lineOf_49 rfl ?_
      refine g_iload C dX10_lineOf_50 rfl ?_
      refine gc_X10_274 C dX10_lineOf_52 rfl (c_X10_no hI (Ml M) σ (y := 1) (v := (-1)) (by first | rfl | omega) (by decide)) (by decide) (Nat.le_of_ble_eq_true rfl) (fun z σ9 ⟨hz, hσ⟩ => ?_)
      subst z
      subst σ9
      refine g_goto (tgt := 68) C dX10_lineOf_55 (by decide) ?_
      exact g_ireturn C dX10_lineOf_68 (by rw [show aLineOf V t i c = rfs 1 V by unfold aLineOf; (first | rw [if_pos (by omega)] | rw [if_neg (by omega), if_pos (by omega)] | rw [if_neg (by omega), if_neg (by omega)])]; exact ⟨rfl, hM.ref (by omega), YC.ref⟩)
set_option maxHeartbeats 4000000 in
set_option maxRecDepth 100000 in
theorem c_X10_empty {κ : Kp} (hI : Ij κ) (l : Launch) (σ : St) {V : Vw} (hM : MV σ V) (hO : OKV V) {t : Int} (ht : R32 t) : CtI κ l 2 yX10_empty cX10_empty 3 .int [.ref (κ.2.1 105), .int (iZ t)] σ (fun z σ' => z = (aEmpty V t).1 ∧ MV σ' (aEmpty V t).2 ∧ Fr YC σ σ') := by
  refine Ct.ofG (own := RX10) hI (by decide +kernel) rfl (Nat.le_of_ble_eq_true rfl) rfl ?_
  intro M C hMl
  refine g_iload_n C dX10_empty_0 rfl ?_
  refine gc_X10_371 C dX10_empty_1 (c_X10_isTable hI (Ml M) σ (v := t) (by unfold R32; omega)) (by decide) (Nat.le_of_ble_eq_true rfl) (fun z σ9 ⟨hz, hσ⟩ => ?_)
  subst z
  subst σ9
  refine g_ifb_ne (tgt := 13) C dX10_empty_4 (by decide) (fun h1 => ?_) (fun h1 => ?_)
  · refine g_aload_n C dX10_empty_13 rfl ?_
    refine gf_X10_13 C dX10_empty_14 rfl ?_
    refine g_iload_n C dX10_empty_17 rfl ?_
    refine g_iaz (n := t.toNat) (N := 5) (v := (wl (vW V) t.toNat : Int)) C dX10_empty_18 rfl rfl (by omega) (by omega) (by decide) ((hM.1.1 t.toNat (by omega)).1) ?_
    refine g_pc (pc' := 19) rfl ?_
    refine g_istore_n (L' := [(2, .int (iZ (wl (vW V) t.toNat : Int))), (0, .ref (κ.2.1 105)), (1, .int (iZ t))]) C dX10_empty_19 rfl (by decide) rfl ?_
    refine g_aload_n C dX10_empty_20 rfl ?_
    refine gf_X10_13 C dX10_empty_21 rfl ?_
    refine g_iload_n C dX10_empty_24 rfl ?_
    refine g_iconst (z := 0) C dX10_empty_25 rfl ?_
    refine g_iast (n := t.toNat) (N := 5) C dX10_empty_26 rfl rfl (by omega) (by omega) (by decide) ?_
    refine g_iload_n C dX10_empty_27 rfl ?_
    exact g_ireturn C dX10_empty_28 (by rw [show aEmpty V t = ((wl (vW V) t.toNat : Int), (wset (vW V) 0 t.toNat 0 0, V.2)) by unfold aEmpty; (first | rw [if_pos (by omega)] | rw [if_neg (by omega)])]; exact ⟨rfl, hM.wor (Fm.rf.a (by decide) (by unfold SW; omega)) (hM.1.emp hO.l (by omega)), Fr.rf.sI (by unfold YC; omega)⟩)
  · refine g_pc (pc' := 7) rfl ?_
    refine g_aload_n C dX10_empty_7 rfl ?_
    refine g_iconst (z := (-1)) C dX10_empty_8 rfl ?_
    refine gc_X10_274 C dX10_empty_9 rfl (c_X10_no hI (Ml M) σ (y := 1) (v := (-1)) (by first | rfl | omega) (by decide)) (by decide) (Nat.le_of_ble_eq_true rfl) (fun z σ9 ⟨hz, hσ⟩ => ?_)
    subst z
    subst σ9
    exact g_ireturn C dX10_empty_12 (by rw [show aEmpty V t = rfs 1 V by unfold aEmpty; (first | rw [if_pos (by omega)] | rw [if_neg (by omega)])]; exact ⟨rfl, hM.ref (by omega), YC.ref⟩)
set_option maxHeartbeats 4000000 in
set_option maxRecDepth 100000 in
theorem c_X10_line {κ : Kp} (hI : Ij κ) (l : Launch) (σ : St) {V : Vw} (hM : MV σ V) (hO : OKV V) {t a b c : Int} (ht : R32 t) (ha : R32 a) (hb : R32 b) (hc : R32 c) : CtI κ l 2 yX10_line cX10_line 7 .int [.ref (κ.2.1 105), .int (iZ t), .int (iZ a), .int (iZ b), .int (iZ c)] σ (fun z σ' => z = (aLine V t a b c).1 ∧ MV σ' (aLine V t a b c).2 ∧ Fr YC σ σ') := by
  refine Ct.ofG (own := RX10) hI (by decide +kernel) rfl (Nat.le_of_ble_eq_true rfl) rfl ?_
  intro M C hMl
  refine g_iload_n C dX10_line_0 rfl ?_
  refine g_iconst (z := 0) C dX10_line_1 rfl ?_
  refine g_bipush (z := 99) C dX10_line_2 rfl ?_
  refine gc_X10_145 C dX10_line_4 (c_X10_isIn hI (Ml M) σ (v := a) (a := 0) (b := 99) (by unfold R32; omega) (by unfold R32; omega) (by unfold R32; omega)) (by decide) (Nat.le_of_ble_eq_true rfl) (fun z σ9 ⟨hz, hσ⟩ => ?_)
  subst z
  subst σ9
  refine g_ifb_eq (tgt := 35) C dX10_line_7 (by decide) (fun h1 => ?_) (fun h1 => ?_)
  · refine g_iconst (z := 0) C dX10_line_35 rfl ?_
    refine g_istore (L' := [(5, .int (iZ 0)), (0, .ref (κ.2.1 105)), (1, .int (iZ t)), (2, .int (iZ a)), (3, .int (iZ b)), (4, .int (iZ c))]) C dX10_line_36 (by decide) rfl ?_
    refine g_pc (pc' := 38) rfl ?_
    refine g_iload_n C dX10_line_38 rfl ?_
    refine gc_X10_371 C dX10_line_39 (c_X10_isTable hI (Ml M) σ (v := t) (by unfold R32; omega)) (by decide) (Nat.le_of_ble_eq_true rfl) (fun z σ9 ⟨hz, hσ⟩ => ?_)
    subst z
    subst σ9
    refine g_ifb_ne (tgt := 49) C dX10_line_42 (by decide) (fun h2 => ?_) (fun h2 => ?_)
    · refine g_iload C dX10_line_49 rfl ?_
      refine g_if_ne (tgt := 59) C dX10_line_51 (by decide) (by unfold R32; omega) (fun h3 => ?_) (fun h3 => ?_)
      · exfalso; omega
      · refine g_bipush (z := (-6)) C dX10_line_54 rfl ?_
        refine g_goto (tgt := 76) C dX10_line_56 (by decide) ?_
        refine g_istore (L' := [(6, .int (iZ (-6))), (5, .int (iZ 0)), (0, .ref (κ.2.1 105)), (1, .int (iZ t)), (2, .int (iZ a)), (3, .int (iZ b)), (4, .int (iZ c))]) C dX10_line_76 (by decide) rfl ?_
        refine g_pc (pc' := 78) rfl ?_
        refine g_iload C dX10_line_78 rfl ?_
        refine g_if_eq (tgt := 90) C dX10_line_80 (by decide) (by unfold R32; omega) (fun h4 => ?_) (fun h4 => ?_)
        · exfalso; omega
        · refine g_aload_n C dX10_line_83 rfl ?_
          refine g_iload C dX10_line_84 rfl ?_
          refine gc_X10_274 C dX10_line_86 rfl (c_X10_no hI (Ml M) σ (y := 6) (v := (-6)) (by first | rfl | omega) (by decide)) (by decide) (Nat.le_of_ble_eq_true rfl) (fun z σ9 ⟨hz, hσ⟩ => ?_)
          subst z
          subst σ9
          exact g_ireturn C dX10_line_89 (by rw [show aLine V t a b c = rfs 6 V by unfold aLine; (first | rw [if_pos (by omega)] | rw [if_neg (by omega), if_pos (by omega)] | rw [if_neg (by omega), if_neg (by omega), if_pos (by omega)] | rw [if_neg (by omega), if_neg (by omega), if_neg (by omega)])]; exact ⟨rfl, hM.ref (by omega), YC.ref⟩)
    · refine g_iconst (z := (-1)) C dX10_line_45 rfl ?_
      refine g_goto (tgt := 76) C dX10_line_46 (by decide) ?_
      refine g_pc (pc' := 76) rfl ?_
      refine g_istore (L' := [(6, .int (iZ (-1))), (5, .int (iZ 0)), (0, .ref (κ.2.1 105)), (1, .int (iZ t)), (2, .int (iZ a)), (3, .int (iZ b)), (4, .int (iZ c))]) C dX10_line_76 (by decide) rfl ?_
      refine g_iload C dX10_line_78 rfl ?_
      refine g_if_eq (tgt := 90) C dX10_line_80 (by decide) (by unfold R32; omega) (fun h5 => ?_) (fun h5 => ?_)
      · exfalso; omega
      · refine g_aload_n C dX10_line_83 rfl ?_
        refine g_iload C dX10_line_84 rfl ?_
        refine gc_X10_274 C dX10_line_86 rfl (c_X10_no hI (Ml M) σ (y := 1) (v := (-1)) (by first | rfl | omega) (by decide)) (by decide) (Nat.le_of_ble_eq_true rfl) (fun z σ9 ⟨hz, hσ⟩ => ?_)
        subst z
        subst σ9
        exact g_ireturn C dX10_line_89 (by rw [show aLine V t a b c = rfs 1 V by unfold aLine; (first | rw [if_pos (by omega)] | rw [if_neg (by omega), if_pos (by omega)] | rw [if_neg (by omega), if_neg (by omega), if_pos (by omega)] | rw [if_neg (by omega), if_neg (by omega), if_neg (by omega)])]; exact ⟨rfl, hM.ref (by omega), YC.ref⟩)
  · refine g_iload_n C dX10_line_10 rfl ?_
    refine g_pc (pc' := 11) rfl ?_
    refine g_iconst (z := 0) C dX10_line_11 rfl ?_
    refine g_bipush (z := 99) C dX10_line_12 rfl ?_
    refine gc_X10_145 C dX10_line_14 (c_X10_isIn hI (Ml M) σ (v := b) (a := 0) (b := 99) (by unfold R32; omega) (by unfold R32; omega) (by unfold R32; omega)) (by decide) (Nat.le_of_ble_eq_true rfl) (fun z σ9 ⟨hz, hσ⟩ => ?_)
    subst z
    subst σ9
    refine g_ifb_eq (tgt := 35) C dX10_line_17 (by decide) (fun h6 => ?_) (fun h6 => ?_)
    · refine g_iconst (z := 0) C dX10_line_35 rfl ?_
      refine g_istore (L' := [(5, .int (iZ 0)), (0, .ref (κ.2.1 105)), (1, .int (iZ t)), (2, .int (iZ a)), (3, .int (iZ b)), (4, .int (iZ c))]) C dX10_line_36 (by decide) rfl ?_
      refine g_iload_n C dX10_line_38 rfl ?_
      refine gc_X10_371 C dX10_line_39 (c_X10_isTable hI (Ml M) σ (v := t) (by unfold R32; omega)) (by decide) (Nat.le_of_ble_eq_true rfl) (fun z σ9 ⟨hz, hσ⟩ => ?_)
      subst z
      subst σ9
      refine g_pc (pc' := 42) rfl ?_
      refine g_ifb_ne (tgt := 49) C dX10_line_42 (by decide) (fun h7 => ?_) (fun h7 => ?_)
      · refine g_iload C dX10_line_49 rfl ?_
        refine g_if_ne (tgt := 59) C dX10_line_51 (by decide) (by unfold R32; omega) (fun h8 => ?_) (fun h8 => ?_)
        · exfalso; omega
        · refine g_bipush (z := (-6)) C dX10_line_54 rfl ?_
          refine g_goto (tgt := 76) C dX10_line_56 (by decide) ?_
          refine g_istore (L' := [(6, .int (iZ (-6))), (5, .int (iZ 0)), (0, .ref (κ.2.1 105)), (1, .int (iZ t)), (2, .int (iZ a)), (3, .int (iZ b)), (4, .int (iZ c))]) C dX10_line_76 (by decide) rfl ?_
          refine g_iload C dX10_line_78 rfl ?_
          refine g_if_eq (tgt := 90) C dX10_line_80 (by decide) (by unfold R32; omega) (fun h9 => ?_) (fun h9 => ?_)
          · exfalso; omega
          · refine g_pc (pc' := 83) rfl ?_
            refine g_aload_n C dX10_line_83 rfl ?_
            refine g_iload C dX10_line_84 rfl ?_
            refine gc_X10_274 C dX10_line_86 rfl (c_X10_no hI (Ml M) σ (y := 6) (v := (-6)) (by first | rfl | omega) (by decide)) (by decide) (Nat.le_of_ble_eq_true rfl) (fun z σ9 ⟨hz, hσ⟩ => ?_)
            subst z
            subst σ9
            exact g_ireturn C dX10_line_89 (by rw [show aLine V t a b c = rfs 6 V by unfold aLine; (first | rw [if_pos (by omega)] | rw [if_neg (by omega), if_pos (by omega)] | rw [if_neg (by omega), if_neg (by omega), if_pos (by omega)] | rw [if_neg (by omega), if_neg (by omega), if_neg (by omega)])]; exact ⟨rfl, hM.ref (by omega), YC.ref⟩)
      · refine g_iconst (z := (-1)) C dX10_line_45 rfl ?_
        refine g_goto (tgt := 76) C dX10_line_46 (by decide) ?_
        refine g_istore (L' := [(6, .int (iZ (-1))), (5, .int (iZ 0)), (0, .ref (κ.2.1 105)), (1, .int (iZ t)), (2, .int (iZ a)), (3, .int (iZ b)), (4, .int (iZ c))]) C dX10_line_76 (by decide) rfl ?_
        refine g_iload C dX10_line_78 rfl ?_
        refine g_pc (pc' := 80) rfl ?_
        refine g_if_eq (tgt := 90) C dX10_line_80 (by decide) (by unfold R32; omega) (fun h10 => ?_) (fun h10 => ?_)
        · exfalso; omega
        · refine g_aload_n C dX10_line_83 rfl ?_
          refine g_iload C dX10_line_84 rfl ?_
          refine gc_X10_274 C dX10_line_86 rfl (c_X10_no hI (Ml M) σ (y := 1) (v := (-1)) (by first | rfl | omega) (by decide)) (by decide) (Nat.le_of_ble_eq_true rfl) (fun z σ9 ⟨hz, hσ⟩ => ?_)
          subst z
          subst σ9
          exact g_ireturn C dX10_line_89 (by rw [show aLine V t a b c = rfs 1 V by unfold aLine; (first | rw [if_pos (by omega)] | rw [if_neg (by omega), if_pos (by omega)] | rw [if_neg (by omega), if_neg (by omega), if_pos (by omega)] | rw [if_neg (by omega), if_neg (by omega), if_neg (by omega)])]; exact ⟨rfl, hM.ref (by omega), YC.ref⟩)
    · refine g_iload C dX10_line_20 rfl ?_
      refine g_iconst (z := 0) C dX10_line_22 rfl ?_
      refine g_bipush (z := 99) C dX10_line_23 rfl ?_
      refine g_pc (pc' := 25) rfl ?_
      refine gc_X10_145 C dX10_line_25 (c_X10_isIn hI (Ml M) σ (v := c) (a := 0) (b := 99) (by unfold R32; omega) (by unfold R32; omega) (by unfold R32; omega)) (by decide) (Nat.le_of_ble_eq_true rfl) (fun z σ9 ⟨hz, hσ⟩ => ?_)
      subst z
      subst σ9
      refine g_ifb_eq (tgt := 35) C dX10_line_28 (by decide) (fun h11 => ?_) (fun h11 => ?_)
      · refine g_iconst (z := 0) C dX10_line_35 rfl ?_
        refine g_istore (L' := [(5, .int (iZ 0)), (0, .ref (κ.2.1 105)), (1, .int (iZ t)), (2, .int (iZ a)), (3, .int (iZ b)), (4, .int (iZ c))]) C dX10_line_36 (by decide) rfl ?_
        refine g_iload_n C dX10_line_38 rfl ?_
        refine gc_X10_371 C dX10_line_39 (c_X10_isTable hI (Ml M) σ (v := t) (by unfold R32; omega)) (by decide) (Nat.le_of_ble_eq_true rfl) (fun z σ9 ⟨hz, hσ⟩ => ?_)
        subst z
        subst σ9
        refine g_ifb_ne (tgt := 49) C dX10_line_42 (by decide) (fun h12 => ?_) (fun h12 => ?_)
        · refine g_iload C dX10_line_49 rfl ?_
          refine g_pc (pc' := 51) rfl ?_
          refine g_if_ne (tgt := 59) C dX10_line_51 (by decide) (by unfold R32; omega) (fun h13 => ?_) (fun h13 => ?_)
          · exfalso; omega
          · refine g_bipush (z := (-6)) C dX10_line_54 rfl ?_
            refine g_goto (tgt := 76) C dX10_line_56 (by decide) ?_
            refine g_istore (L' := [(6, .int (iZ (-6))), (5, .int (iZ 0)), (0, .ref (κ.2.1 105)), (1, .int (iZ t)), (2, .int (iZ a)), (3, .int (iZ b)), (4, .int (iZ c))]) C dX10_line_76 (by decide) rfl ?_
            refine g_iload C dX10_line_78 rfl ?_
            refine g_if_eq (tgt := 90) C dX10_line_80 (by decide) (by unfold R32; omega) (fun h14 => ?_) (fun h14 => ?_)
            · exfalso; omega
            · refine g_aload_n C dX10_line_83 rfl ?_
              refine g_iload C dX10_line_84 rfl ?_
              refine g_pc (pc' := 86) rfl ?_
              refine gc_X10_274 C dX10_line_86 rfl (c_X10_no hI (Ml M) σ (y := 6) (v := (-6)) (by first | rfl | omega) (by decide)) (by decide) (Nat.le_of_ble_eq_true rfl) (fun z σ9 ⟨hz, hσ⟩ => ?_)
              subst z
              subst σ9
              exact g_ireturn C dX10_line_89 (by rw [show aLine V t a b c = rfs 6 V by unfold aLine; (first | rw [if_pos (by omega)] | rw [if_neg (by omega), if_pos (by omega)] | rw [if_neg (by omega), if_neg (by omega), if_pos (by omega)] | rw [if_neg (by omega), if_neg (by omega), if_neg (by omega)])]; exact ⟨rfl, hM.ref (by omega), YC.ref⟩)
        · refine g_iconst (z := (-1)) C dX10_line_45 rfl ?_
          refine g_goto (tgt := 76) C dX10_line_46 (by decide) ?_
          refine g_istore (L' := [(6, .int (iZ (-1))), (5, .int (iZ 0)), (0, .ref (κ.2.1 105)), (1, .int (iZ t)), (2, .int (iZ a)), (3, .int (iZ b)), (4, .int (iZ c))]) C dX10_line_76 (by decide) rfl ?_
          refine g_iload C dX10_line_78 rfl ?_
          refine g_if_eq (tgt := 90) C dX10_line_80 (by decide) (by unfold R32; omega) (fun h15 => ?_) (fun h15 => ?_)
          · exfalso; omega
          · refine g_aload_n C dX10_line_83 rfl ?_
            refine g_pc (pc' := 84) rfl ?_
            refine g_iload C dX10_line_84 rfl ?_
            refine gc_X10_274 C dX10_line_86 rfl (c_X10_no hI (Ml M) σ (y := 1) (v := (-1)) (by first | rfl | omega) (by decide)) (by decide) (Nat.le_of_ble_eq_true rfl) (fun z σ9 ⟨hz, hσ⟩ => ?_)
            subst z
            subst σ9
            exact g_ireturn C dX10_line_89 (by rw [show aLine V t a b c = rfs 1 V by unfold aLine; (first | rw [if_pos (by omega)] | rw [if_neg (by omega), if_pos (by omega)] | rw [if_neg (by omega), if_neg (by omega), if_pos (by omega)] | rw [if_neg (by omega), if_neg (by omega), if_neg (by omega)])]; exact ⟨rfl, hM.ref (by omega), YC.ref⟩)
      · refine g_iconst (z := 1) C dX10_line_31 rfl ?_
        refine g_goto (tgt := 36) C dX10_line_32 (by decide) ?_
        refine g_istore (L' := [(5, .int (iZ 1)), (0, .ref (κ.2.1 105)), (1, .int (iZ t)), (2, .int (iZ a)), (3, .int (iZ b)), (4, .int (iZ c))]) C dX10_line_36 (by decide) rfl ?_
        refine g_iload_n C dX10_line_38 rfl ?_
        refine gc_X10_371 C dX10_line_39 (c_X10_isTable hI (Ml M) σ (v := t) (by unfold R32; omega)) (by decide) (Nat.le_of_ble_eq_true rfl) (fun z σ9 ⟨hz, hσ⟩ => ?_)
        subst z
        subst σ9
        refine g_pc (pc' := 42) rfl ?_
        refine g_ifb_ne (tgt := 49) C dX10_line_42 (by decide) (fun h16 => ?_) (fun h16 => ?_)
        · refine g_iload C dX10_line_49 rfl ?_
          refine g_if_ne (tgt := 59) C dX10_line_51 (by decide) (by unfold R32; omega) (fun h17 => ?_) (fun h17 => ?_)
          · have hwt := hO.1.1 t.toNat (by omega)
            refine g_aload_n C dX10_line_59 rfl ?_
            refine gf_X10_13 C dX10_line_60 rfl ?_
            refine g_iload_n C dX10_line_63 rfl ?_
            refine g_iaz (n := t.toNat) (N := 5) (v := (wl (vW V) t.toNat : Int)) C dX10_line_64 rfl rfl (by omega) (by omega) (by decide) ((hM.1.1 t.toNat (by omega)).1) ?_
            refine g_bipush (z := 16) C dX10_line_65 rfl ?_
            refine g_pc (pc' := 67) rfl ?_
            refine g_icmp_ne (tgt := 75) C dX10_line_67 (by decide) (by unfold R32; omega) (fun h18 => ?_) (fun h18 => ?_)
            · refine g_iconst (z := 0) C dX10_line_75 rfl ?_
              refine g_istore (L' := [(6, .int (iZ 0)), (5, .int (iZ 1)), (0, .ref (κ.2.1 105)), (1, .int (iZ t)), (2, .int (iZ a)), (3, .int (iZ b)), (4, .int (iZ c))]) C dX10_line_76 (by decide) rfl ?_
              refine g_iload C dX10_line_78 rfl ?_
              refine g_if_eq (tgt := 90) C dX10_line_80 (by decide) (by unfold R32; omega) (fun h19 => ?_) (fun h19 => ?_)
              · refine g_aload_n C dX10_line_90 rfl ?_
                refine g_iload_n C dX10_line_91 rfl ?_
                refine g_iload_n C dX10_line_92 rfl ?_
                refine g_pc (pc' := 93) rfl ?_
                refine g_iload_n C dX10_line_93 rfl ?_
                refine g_iload C dX10_line_94 rfl ?_
                have hwt := hO.1.1 t.toNat (by omega)
                refine gc_X10_367 C dX10_line_96 rfl (c_X10_putsLine hI (Ml M) σ hM.1 hO.l (t := t.toNat) (a := a.toNat) (b := b.toNat) (c := c.toNat) (by omega) (by omega) (by omega) (by omega) (by omega) (by omega)) (by decide) (Nat.le_of_ble_eq_true rfl) (fun σ1 ⟨hM1, hF1⟩ => ?_)
                have h7 := (hM1.1 t.toNat (by omega)).1
                rw [wAdd_l, if_pos ⟨rfl, by omega⟩] at h7
                refine g_aload_n C dX10_line_99 rfl ?_
                refine gf_X10_13 C dX10_line_100 rfl ?_
                refine g_iload_n C dX10_line_103 rfl ?_
                refine g_iaz (n := t.toNat) (N := 5) (v := ((wl (vW V) t.toNat + 1 : Nat) : Int)) C dX10_line_104 rfl rfl (by omega) (by omega) (by decide) h7 ?_
                refine g_iconst (z := 1) C dX10_line_105 rfl ?_
                refine g_pc (pc' := 106) rfl ?_
                refine g_isub C dX10_line_106 ?_
                exact g_ireturn C dX10_line_107 (by rw [show aLine V t a b c = ((wl (vW V) t.toNat : Int), (wAdd (vW V) t.toNat a.toNat b.toNat c.toNat, V.2)) by unfold aLine; (first | rw [if_pos (by omega)] | rw [if_neg (by omega), if_pos (by omega)] | rw [if_neg (by omega), if_neg (by omega), if_pos (by omega)] | rw [if_neg (by omega), if_neg (by omega), if_neg (by omega)])]; exact ⟨by omega, hM.wor (hF1.mono (fun k => SLi_SW) (fun j => NoT_f)) hM1, hF1.toY (fun k e => by unfold SLi at e; omega)⟩)
              · exfalso; omega
            · refine g_bipush (z := (-7)) C dX10_line_70 rfl ?_
              refine g_goto (tgt := 76) C dX10_line_72 (by decide) ?_
              refine g_istore (L' := [(6, .int (iZ (-7))), (5, .int (iZ 1)), (0, .ref (κ.2.1 105)), (1, .int (iZ t)), (2, .int (iZ a)), (3, .int (iZ b)), (4, .int (iZ c))]) C dX10_line_76 (by decide) rfl ?_
              refine g_iload C dX10_line_78 rfl ?_
              refine g_if_eq (tgt := 90) C dX10_line_80 (by decide) (by unfold R32; omega) (fun h20 => ?_) (fun h20 => ?_)
              · exfalso; omega
              · refine g_aload_n C dX10_line_83 rfl ?_
                refine g_pc (pc' := 84) rfl ?_
                refine g_iload C dX10_line_84 rfl ?_
                refine gc_X10_274 C dX10_line_86 rfl (c_X10_no hI (Ml M) σ (y := 7) (v := (-7)) (by first | rfl | omega) (by decide)) (by decide) (Nat.le_of_ble_eq_true rfl) (fun z σ9 ⟨hz, hσ⟩ => ?_)
                subst z
                subst σ9
                exact g_ireturn C dX10_line_89 (by rw [show aLine V t a b c = rfs 7 V by unfold aLine; (first | rw [if_pos (by omega)] | rw [if_neg (by omega), if_pos (by omega)] | rw [if_neg (by omega), if_neg (by omega), if_pos (by omega)] | rw [if_neg (by omega), if_neg (by omega), if_neg (by omega)])]; exact ⟨rfl, hM.ref (by omega), YC.ref⟩)
          · exfalso; omega
        · refine g_iconst (z := (-1)) C dX10_line_45 rfl ?_
          refine g_goto (tgt := 76) C dX10_line_46 (by decide) ?_
          refine g_istore (L' := [(6, .int (iZ (-1))), (5, .int (iZ 1)), (0, .ref (κ.2.1 105)), (1, .int (iZ t)), (2, .int (iZ a)), (3, .int (iZ b)), (4, .int (iZ c))]) C dX10_line_76 (by decide) rfl ?_
          refine g_iload C dX10_line_78 rfl ?_
          refine g_if_eq (tgt := 90) C dX10_line_80 (by decide) (by unfold R32; omega) (fun h21 => ?_) (fun h21 => ?_)
          · exfalso; omega
          · refine g_pc (pc' := 83) rfl ?_
            refine g_aload_n C dX10_line_83 rfl ?_
            refine g_iload C dX10_line_84 rfl ?_
            refine gc_X10_274 C dX10_line_86 rfl (c_X10_no hI (Ml M) σ (y := 1) (v := (-1)) (by first | rfl | omega) (by decide)) (by decide) (Nat.le_of_ble_eq_true rfl) (fun z σ9 ⟨hz, hσ⟩ => ?_)
            subst z
            subst σ9
            exact g_ireturn C dX10_line_89 (by rw [show aLine V t a b c = rfs 1 V by unfold aLine; (first | rw [if_pos (by omega)] | rw [if_neg (by omega), if_pos (by omega)] | rw [if_neg (by omega), if_neg (by omega), if_pos (by omega)] | rw [if_neg (by omega), if_neg (by omega), if_neg (by omega)])]; exact ⟨rfl, hM.ref (by omega), YC.ref⟩)
set_option maxHeartbeats 4000000 in
set_option maxRecDepth 100000 in
theorem c_X10_isAsked {κ : Kp} (hI : Ij κ) (l : Launch) (σ : St) {s v : Int} (hs : R32 s) (hv : R32 v) : CtI κ l 1 yX10_isAsked cX10_isAsked 2 .boolean [.int (iZ s), .int (iZ v)] σ (fun z σ' => z = bZ ((0 ≤ s ∧ s ≤ 2) ∧ (0 ≤ v ∧ v ≤ 99)) ∧ σ' = σ) := by
  refine Ct.ofG (own := RX10) hI (by decide +kernel) rfl (Nat.le_of_ble_eq_true rfl) rfl ?_
  intro M C hMl
  refine g_iload_n C dX10_isAsked_0 rfl ?_
  refine g_iconst (z := 0) C dX10_isAsked_1 rfl ?_
  refine g_iconst (z := 2) C dX10_isAsked_2 rfl ?_
  refine gc_X10_145 C dX10_isAsked_3 (c_X10_isIn hI (Ml M) σ (v := s) (a := 0) (b := 2) (by unfold R32; omega) (by unfold R32; omega) (by unfold R32; omega)) (by decide) (Nat.le_of_ble_eq_true rfl) (fun z σ9 ⟨hz, hσ⟩ => ?_)
  subst z
  subst σ9
  refine g_ifb_eq (tgt := 23) C dX10_isAsked_6 (by decide) (fun h1 => ?_) (fun h1 => ?_)
  · refine g_iconst (z := 0) C dX10_isAsked_23 rfl ?_
    exact g_zreturn C dX10_isAsked_24 (by omega) ⟨(bZ_f (by omega)).symm, rfl⟩
  · refine g_pc (pc' := 9) rfl ?_
    refine g_iload_n C dX10_isAsked_9 rfl ?_
    refine g_iconst (z := 0) C dX10_isAsked_10 rfl ?_
    refine g_bipush (z := 99) C dX10_isAsked_11 rfl ?_
    refine gc_X10_145 C dX10_isAsked_13 (c_X10_isIn hI (Ml M) σ (v := v) (a := 0) (b := 99) (by unfold R32; omega) (by unfold R32; omega) (by unfold R32; omega)) (by decide) (Nat.le_of_ble_eq_true rfl) (fun z σ9 ⟨hz, hσ⟩ => ?_)
    subst z
    subst σ9
    refine g_ifb_eq (tgt := 23) C dX10_isAsked_16 (by decide) (fun h2 => ?_) (fun h2 => ?_)
    · refine g_iconst (z := 0) C dX10_isAsked_23 rfl ?_
      exact g_zreturn C dX10_isAsked_24 (by omega) ⟨(bZ_f (by omega)).symm, rfl⟩
    · refine g_iconst (z := 1) C dX10_isAsked_19 rfl ?_
      refine g_pc (pc' := 20) rfl ?_
      refine g_goto (tgt := 24) C dX10_isAsked_20 (by decide) ?_
      exact g_zreturn C dX10_isAsked_24 (by omega) ⟨(bZ_t (by omega)).symm, rfl⟩
set_option maxHeartbeats 4000000 in
set_option maxRecDepth 100000 in
theorem c_X10_filter {κ : Kp} (hI : Ij κ) (l : Launch) (σ : St) {V : Vw} (hM : MV σ V) (hO : OKV V) {p s v : Int} (hp : R32 p) (hs : R32 s) (hv : R32 v) : CtI κ l 2 yX10_filter cX10_filter 5 .int [.ref (κ.2.1 105), .int (iZ p), .int (iZ s), .int (iZ v)] σ (fun z σ' => z = (aFilter V p s v).1 ∧ MV σ' (aFilter V p s v).2 ∧ Fr YC σ σ') := by
  refine Ct.ofG (own := RX10) hI (by decide +kernel) rfl (Nat.le_of_ble_eq_true rfl) rfl ?_
  intro M C hMl
  have hnf8 := hO.1.2.1.1
  refine g_iload_n C dX10_filter_0 rfl ?_
  refine gc_X10_312 C dX10_filter_1 (c_X10_isPlace hI (Ml M) σ (v := p) (by unfold R32; omega)) (by decide) (Nat.le_of_ble_eq_true rfl) (fun z σ9 ⟨hz, hσ⟩ => ?_)
  subst z
  subst σ9
  refine g_ifb_ne (tgt := 11) C dX10_filter_4 (by decide) (fun h1 => ?_) (fun h1 => ?_)
  · refine g_iload_n C dX10_filter_11 rfl ?_
    refine g_iload_n C dX10_filter_12 rfl ?_
    refine gc_X10_374 C dX10_filter_13 (c_X10_isAsked hI (Ml M) σ (s := s) (v := v) (by assumption) (by assumption)) (by decide) (Nat.le_of_ble_eq_true rfl) (fun z σ9 ⟨hz, hσ⟩ => ?_)
    subst z
    subst σ9
    refine g_ifb_ne (tgt := 24) C dX10_filter_16 (by decide) (fun h2 => ?_) (fun h2 => ?_)
    · refine g_pc (pc' := 24) rfl ?_
      refine g_aload_n C dX10_filter_24 rfl ?_
      refine gf_X10_174 (z := (wnf (vW V) : Int)) C dX10_filter_25 rfl hM.1.2.1.1 ?_
      refine g_bipush (z := 8) C dX10_filter_28 rfl ?_
      refine g_icmp_ne (tgt := 38) C dX10_filter_30 (by decide) (by unfold R32; omega) (fun h3 => ?_) (fun h3 => ?_)
      · refine g_iconst (z := 0) C dX10_filter_38 rfl ?_
        refine g_istore (L' := [(4, .int (iZ 0)), (0, .ref (κ.2.1 105)), (1, .int (iZ p)), (2, .int (iZ s)), (3, .int (iZ v))]) C dX10_filter_39 (by decide) rfl ?_
        refine g_iload C dX10_filter_41 rfl ?_
        refine g_if_eq (tgt := 53) C dX10_filter_43 (by decide) (by unfold R32; omega) (fun h4 => ?_) (fun h4 => ?_)
        · refine g_pc (pc' := 53) rfl ?_
          refine g_aload_n C dX10_filter_53 rfl ?_
          refine gf_X10_25 C dX10_filter_54 rfl ?_
          refine g_aload_n C dX10_filter_57 rfl ?_
          refine gf_X10_174 (z := (wnf (vW V) : Int)) C dX10_filter_58 rfl hM.1.2.1.1 ?_
          refine g_iload_n C dX10_filter_61 rfl ?_
          refine g_iast (n := (wnf (vW V))) (N := 8) C dX10_filter_62 rfl rfl (by omega) (by omega) (by decide) ?_
          refine g_aload_n C dX10_filter_63 rfl ?_
          refine gf_X10_28 C dX10_filter_64 rfl ?_
          refine g_pc (pc' := 67) rfl ?_
          refine g_aload_n C dX10_filter_67 rfl ?_
          refine gf_X10_174 (z := (wnf (vW V) : Int)) C dX10_filter_68 rfl ((rI_k (by decide)).trans hM.1.2.1.1) ?_
          refine g_iload_n C dX10_filter_71 rfl ?_
          refine g_iast (n := (wnf (vW V))) (N := 8) C dX10_filter_72 rfl rfl (by omega) (by omega) (by decide) ?_
          refine g_aload_n C dX10_filter_73 rfl ?_
          refine gf_X10_31 C dX10_filter_74 rfl ?_
          refine g_aload_n C dX10_filter_77 rfl ?_
          refine gf_X10_174 (z := (wnf (vW V) : Int)) C dX10_filter_78 rfl ((rI_k (by decide)).trans ((rI_k (by decide)).trans hM.1.2.1.1)) ?_
          refine g_pc (pc' := 81) rfl ?_
          refine g_iload_n C dX10_filter_81 rfl ?_
          refine g_iast (n := (wnf (vW V))) (N := 8) C dX10_filter_82 rfl rfl (by omega) (by omega) (by decide) ?_
          refine g_aload_n C dX10_filter_83 rfl ?_
          refine g_dup C dX10_filter_84 rfl ?_
          refine gf_X10_174 (z := (wnf (vW V) : Int)) C dX10_filter_85 rfl ((rI_k (by decide)).trans ((rI_k (by decide)).trans ((rI_k (by decide)).trans hM.1.2.1.1))) ?_
          refine g_iconst (z := 1) C dX10_filter_88 rfl ?_
          refine g_iadd C dX10_filter_89 ?_
          refine gp_X10_174 C dX10_filter_90 rfl ?_
          refine g_pc (pc' := 93) rfl ?_
          refine g_aload_n C dX10_filter_93 rfl ?_
          refine gf_X10_174 (z := ((wnf (vW V) : Int) + 1)) C dX10_filter_94 rfl rI_s ?_
          refine g_iconst (z := 1) C dX10_filter_97 rfl ?_
          refine g_isub C dX10_filter_98 ?_
          exact g_ireturn C dX10_filter_99 (by rw [show aFilter V p s v = ((wnf (vW V) : Int), (wAddF (vW V) p.toNat s.toNat v.toNat, V.2)) by unfold aFilter; (first | rw [if_pos (by omega)] | rw [if_neg (by omega), if_pos (by omega)] | rw [if_neg (by omega), if_neg (by omega), if_pos (by omega)] | rw [if_neg (by omega), if_neg (by omega), if_neg (by omega)])]; exact ⟨by omega, hM.wor ((((Fm.rf.a (by decide) (by unfold SW; omega)).a (by decide) (by unfold SW; omega)).a (by decide) (by unfold SW; omega)).t (by unfold SWt; omega)) (hM.1.fil hO.l (by omega) (by omega) (by omega) rfl), (((Fr.rf.sI (by unfold YC; omega)).sI (by unfold YC; omega)).sI (by unfold YC; omega)).sI (by unfold YC; omega)⟩)
        · exfalso; omega
      · refine g_bipush (z := (-7)) C dX10_filter_33 rfl ?_
        refine g_goto (tgt := 39) C dX10_filter_35 (by decide) ?_
        refine g_istore (L' := [(4, .int (iZ (-7))), (0, .ref (κ.2.1 105)), (1, .int (iZ p)), (2, .int (iZ s)), (3, .int (iZ v))]) C dX10_filter_39 (by decide) rfl ?_
        refine g_pc (pc' := 41) rfl ?_
        refine g_iload C dX10_filter_41 rfl ?_
        refine g_if_eq (tgt := 53) C dX10_filter_43 (by decide) (by unfold R32; omega) (fun h5 => ?_) (fun h5 => ?_)
        · exfalso; omega
        · refine g_aload_n C dX10_filter_46 rfl ?_
          refine g_iload C dX10_filter_47 rfl ?_
          refine gc_X10_274 C dX10_filter_49 rfl (c_X10_no hI (Ml M) σ (y := 7) (v := (-7)) (by first | rfl | omega) (by decide)) (by decide) (Nat.le_of_ble_eq_true rfl) (fun z σ9 ⟨hz, hσ⟩ => ?_)
          subst z
          subst σ9
          exact g_ireturn C dX10_filter_52 (by rw [show aFilter V p s v = rfs 7 V by unfold aFilter; (first | rw [if_pos (by omega)] | rw [if_neg (by omega), if_pos (by omega)] | rw [if_neg (by omega), if_neg (by omega), if_pos (by omega)] | rw [if_neg (by omega), if_neg (by omega), if_neg (by omega)])]; exact ⟨rfl, hM.ref (by omega), YC.ref⟩)
    · refine g_bipush (z := (-6)) C dX10_filter_19 rfl ?_
      refine g_goto (tgt := 39) C dX10_filter_21 (by decide) ?_
      refine g_pc (pc' := 39) rfl ?_
      refine g_istore (L' := [(4, .int (iZ (-6))), (0, .ref (κ.2.1 105)), (1, .int (iZ p)), (2, .int (iZ s)), (3, .int (iZ v))]) C dX10_filter_39 (by decide) rfl ?_
      refine g_iload C dX10_filter_41 rfl ?_
      refine g_if_eq (tgt := 53) C dX10_filter_43 (by decide) (by unfold R32; omega) (fun h6 => ?_) (fun h6 => ?_)
      · exfalso; omega
      · refine g_aload_n C dX10_filter_46 rfl ?_
        refine g_iload C dX10_filter_47 rfl ?_
        refine gc_X10_274 C dX10_filter_49 rfl (c_X10_no hI (Ml M) σ (y := 6) (v := (-6)) (by first | rfl | omega) (by decide)) (by decide) (Nat.le_of_ble_eq_true rfl) (fun z σ9 ⟨hz, hσ⟩ => ?_)
        subst z
        subst σ9
        exact g_ireturn C dX10_filter_52 (by rw [show aFilter V p s v = rfs 6 V by unfold aFilter; (first | rw [if_pos (by omega)] | rw [if_neg (by omega), if_pos (by omega)] | rw [if_neg (by omega), if_neg (by omega), if_pos (by omega)] | rw [if_neg (by omega), if_neg (by omega), if_neg (by omega)])]; exact ⟨rfl, hM.ref (by omega), YC.ref⟩)
  · refine g_iconst (z := (-1)) C dX10_filter_7 rfl ?_
    refine g_pc (pc' := 8) rfl ?_
    refine g_goto (tgt := 39) C dX10_filter_8 (by decide) ?_
    refine g_istore (L' := [(4, .int (iZ (-1))), (0, .ref (κ.2.1 105)), (1, .int (iZ p)), (2, .int (iZ s)), (3, .int (iZ v))]) C dX10_filter_39 (by decide) rfl ?_
    refine g_iload C dX10_filter_41 rfl ?_
    refine g_if_eq (tgt := 53) C dX10_filter_43 (by decide) (by unfold R32; omega) (fun h7 => ?_) (fun h7 => ?_)
    · exfalso; omega
    · refine g_aload_n C dX10_filter_46 rfl ?_
      refine g_iload C dX10_filter_47 rfl ?_
      refine gc_X10_274 C dX10_filter_49 rfl (c_X10_no hI (Ml M) σ (y := 1) (v := (-1)) (by first | rfl | omega) (by decide)) (by decide) (Nat.le_of_ble_eq_true rfl) (fun z σ9 ⟨hz, hσ⟩ => ?_)
      subst z
      subst σ9
      exact g_ireturn C dX10_filter_52 (by rw [show aFilter V p s v = rfs 1 V by unfold aFilter; (first | rw [if_pos (by omega)] | rw [if_neg (by omega), if_pos (by omega)] | rw [if_neg (by omega), if_neg (by omega), if_pos (by omega)] | rw [if_neg (by omega), if_neg (by omega), if_neg (by omega)])]; exact ⟨rfl, hM.ref (by omega), YC.ref⟩)
set_option maxHeartbeats 4000000 in
set_option maxRecDepth 100000 in
theorem c_X10_join {κ : Kp} (hI : Ij κ) (l : Launch) (σ : St) {V : Vw} (hM : MV σ V) (hO : OKV V) {p q : Int} (hp : R32 p) (hq : R32 q) : CtI κ l 2 yX10_join cX10_join 4 .int [.ref (κ.2.1 105), .int (iZ p), .int (iZ q)] σ (fun z σ' => z = (aJoin V p q).1 ∧ MV σ' (aJoin V p q).2 ∧ Fr YC σ σ') := by
  refine Ct.ofG (own := RX10) hI (by decide +kernel) rfl (Nat.le_of_ble_eq_true rfl) rfl ?_
  intro M C hMl
  have hnj8 := hO.1.2.2.1
  refine g_iload_n C dX10_join_0 rfl ?_
  refine gc_X10_312 C dX10_join_1 (c_X10_isPlace hI (Ml M) σ (v := p) (by unfold R32; omega)) (by decide) (Nat.le_of_ble_eq_true rfl) (fun z σ9 ⟨hz, hσ⟩ => ?_)
  subst z
  subst σ9
  refine g_ifb_eq (tgt := 14) C dX10_join_4 (by decide) (fun h1 => ?_) (fun h1 => ?_)
  · refine g_iconst (z := (-1)) C dX10_join_14 rfl ?_
    refine g_goto (tgt := 47) C dX10_join_15 (by decide) ?_
    refine g_istore_n (L' := [(3, .int (iZ (-1))), (0, .ref (κ.2.1 105)), (1, .int (iZ p)), (2, .int (iZ q))]) C dX10_join_47 rfl (by decide) rfl ?_
    refine g_iload_n C dX10_join_48 rfl ?_
    refine g_pc (pc' := 49) rfl ?_
    refine g_if_eq (tgt := 58) C dX10_join_49 (by decide) (by unfold R32; omega) (fun h2 => ?_) (fun h2 => ?_)
    · exfalso; omega
    · refine g_aload_n C dX10_join_52 rfl ?_
      refine g_iload_n C dX10_join_53 rfl ?_
      refine gc_X10_274 C dX10_join_54 rfl (c_X10_no hI (Ml M) σ (y := 1) (v := (-1)) (by first | rfl | omega) (by decide)) (by decide) (Nat.le_of_ble_eq_true rfl) (fun z σ9 ⟨hz, hσ⟩ => ?_)
      subst z
      subst σ9
      exact g_ireturn C dX10_join_57 (by first | (exfalso; omega) | exact (by rw [show aJoin V p q = rfs 1 V by unfold aJoin; (first | rw [if_pos (by omega)] | rw [if_neg (by omega), if_pos (by omega)] | rw [if_neg (by omega), if_neg (by omega), if_pos (by omega)] | rw [if_neg (by omega), if_neg (by omega), if_neg (by omega)])]; exact ⟨rfl, hM.ref (by omega), YC.ref⟩))
  · refine g_iload_n C dX10_join_7 rfl ?_
    refine gc_X10_312 C dX10_join_8 (c_X10_isPlace hI (Ml M) σ (v := q) (by unfold R32; omega)) (by decide) (Nat.le_of_ble_eq_true rfl) (fun z σ9 ⟨hz, hσ⟩ => ?_)
    subst z
    subst σ9
    refine g_ifb_ne (tgt := 18) C dX10_join_11 (by decide) (fun h3 => ?_) (fun h3 => ?_)
    · refine g_pc (pc' := 18) rfl ?_
      refine g_iload_n C dX10_join_18 rfl ?_
      refine g_iconst (z := 3) C dX10_join_19 rfl ?_
      refine g_idiv C dX10_join_20 (by omega) ?_
      refine g_iload_n C dX10_join_21 rfl ?_
      refine g_iconst (z := 3) C dX10_join_22 rfl ?_
      refine g_idiv C dX10_join_23 (by omega) ?_
      refine g_icmp_ne (tgt := 32) C dX10_join_24 (by decide) (by unfold R32; omega) (fun h4 => ?_) (fun h4 => ?_)
      · refine g_aload_n C dX10_join_32 rfl ?_
        refine g_pc (pc' := 33) rfl ?_
        refine gf_X10_192 (z := (wnj (vW V) : Int)) C dX10_join_33 rfl hM.1.2.2.1.1 ?_
        refine g_bipush (z := 8) C dX10_join_36 rfl ?_
        refine g_icmp_ne (tgt := 46) C dX10_join_38 (by decide) (by unfold R32; omega) (fun h5 => ?_) (fun h5 => ?_)
        · refine g_iconst (z := 0) C dX10_join_46 rfl ?_
          refine g_istore_n (L' := [(3, .int (iZ 0)), (0, .ref (κ.2.1 105)), (1, .int (iZ p)), (2, .int (iZ q))]) C dX10_join_47 rfl (by decide) rfl ?_
          refine g_iload_n C dX10_join_48 rfl ?_
          refine g_if_eq (tgt := 58) C dX10_join_49 (by decide) (by unfold R32; omega) (fun h6 => ?_) (fun h6 => ?_)
          · refine g_aload_n C dX10_join_58 rfl ?_
            refine g_pc (pc' := 59) rfl ?_
            refine gf_X10_34 C dX10_join_59 rfl ?_
            refine g_aload_n C dX10_join_62 rfl ?_
            refine gf_X10_192 (z := (wnj (vW V) : Int)) C dX10_join_63 rfl hM.1.2.2.1.1 ?_
            refine g_iload_n C dX10_join_66 rfl ?_
            refine g_iload_n C dX10_join_67 rfl ?_
            refine g_icmp_ge (tgt := 75) C dX10_join_68 (by decide) (by unfold R32; omega) (fun h7 => ?_) (fun h7 => ?_)
            · refine g_iload_n C dX10_join_75 rfl ?_
              refine g_iast (n := (wnj (vW V))) (N := 8) C dX10_join_76 rfl rfl (by omega) (by omega) (by decide) ?_
              refine g_pc (pc' := 77) rfl ?_
              refine g_aload_n C dX10_join_77 rfl ?_
              refine gf_X10_37 C dX10_join_78 rfl ?_
              refine g_aload_n C dX10_join_81 rfl ?_
              refine gf_X10_192 (z := (wnj (vW V) : Int)) C dX10_join_82 rfl ((rI_k (by decide)).trans hM.1.2.2.1.1) ?_
              refine g_iload_n C dX10_join_85 rfl ?_
              refine g_iload_n C dX10_join_86 rfl ?_
              refine g_icmp_ge (tgt := 94) C dX10_join_87 (by decide) (by unfold R32; omega) (fun h8 => ?_) (fun h8 => ?_)
              · refine g_iload_n C dX10_join_94 rfl ?_
                refine g_pc (pc' := 95) rfl ?_
                refine g_iast (n := (wnj (vW V))) (N := 8) C dX10_join_95 rfl rfl (by omega) (by omega) (by decide) ?_
                refine g_aload_n C dX10_join_96 rfl ?_
                refine g_dup C dX10_join_97 rfl ?_
                refine gf_X10_192 (z := (wnj (vW V) : Int)) C dX10_join_98 rfl ((rI_k (by decide)).trans ((rI_k (by decide)).trans hM.1.2.2.1.1)) ?_
                refine g_iconst (z := 1) C dX10_join_101 rfl ?_
                refine g_iadd C dX10_join_102 ?_
                refine gp_X10_192 C dX10_join_103 rfl ?_
                refine g_aload_n C dX10_join_106 rfl ?_
                refine g_pc (pc' := 107) rfl ?_
                refine gf_X10_192 (z := ((wnj (vW V) : Int) + 1)) C dX10_join_107 rfl rI_s ?_
                refine g_iconst (z := 1) C dX10_join_110 rfl ?_
                refine g_isub C dX10_join_111 ?_
                exact g_ireturn C dX10_join_112 (by first | (exfalso; omega) | exact (by rw [show aJoin V p q = ((wnj (vW V) : Int), (wAddJ (vW V) (min p q).toNat (max p q).toNat, V.2)) by unfold aJoin; (first | rw [if_pos (by omega)] | rw [if_neg (by omega), if_pos (by omega)] | rw [if_neg (by omega), if_neg (by omega), if_pos (by omega)] | rw [if_neg (by omega), if_neg (by omega), if_neg (by omega)])]; exact ⟨by omega, hM.wor (((Fm.rf.a (by decide) (by unfold SW; omega)).a (by decide) (by unfold SW; omega)).t (by unfold SWt; omega)) (hM.1.joi hO.l (by omega) (by omega) rfl), ((Fr.rf.sI (by unfold YC; omega)).sI (by unfold YC; omega)).sI (by unfold YC; omega)⟩))
              · refine g_iload_n C dX10_join_90 rfl ?_
                refine g_goto (tgt := 95) C dX10_join_91 (by decide) ?_
                refine g_iast (n := (wnj (vW V))) (N := 8) C dX10_join_95 rfl rfl (by omega) (by omega) (by decide) ?_
                refine g_aload_n C dX10_join_96 rfl ?_
                refine g_pc (pc' := 97) rfl ?_
                refine g_dup C dX10_join_97 rfl ?_
                refine gf_X10_192 (z := (wnj (vW V) : Int)) C dX10_join_98 rfl ((rI_k (by decide)).trans ((rI_k (by decide)).trans hM.1.2.2.1.1)) ?_
                refine g_iconst (z := 1) C dX10_join_101 rfl ?_
                refine g_iadd C dX10_join_102 ?_
                refine gp_X10_192 C dX10_join_103 rfl ?_
                refine g_aload_n C dX10_join_106 rfl ?_
                refine gf_X10_192 (z := ((wnj (vW V) : Int) + 1)) C dX10_join_107 rfl rI_s ?_
                refine g_iconst (z := 1) C dX10_join_110 rfl ?_
                refine g_pc (pc' := 111) rfl ?_
                refine g_isub C dX10_join_111 ?_
                exact g_ireturn C dX10_join_112 (by first | (exfalso; omega) | exact (by rw [show aJoin V p q = ((wnj (vW V) : Int), (wAddJ (vW V) (min p q).toNat (max p q).toNat, V.2)) by unfold aJoin; (first | rw [if_pos (by omega)] | rw [if_neg (by omega), if_pos (by omega)] | rw [if_neg (by omega), if_neg (by omega), if_pos (by omega)] | rw [if_neg (by omega), if_neg (by omega), if_neg (by omega)])]; exact ⟨by omega, hM.wor (((Fm.rf.a (by decide) (by unfold SW; omega)).a (by decide) (by unfold SW; omega)).t (by unfold SWt; omega)) (hM.1.joi hO.l (by omega) (by omega) rfl), ((Fr.rf.sI (by unfold YC; omega)).sI (by unfold YC; omega)).sI (by unfold YC; omega)⟩))
            · refine g_iload_n C dX10_join_71 rfl ?_
              refine g_goto (tgt := 76) C dX10_join_72 (by decide) ?_
              refine g_iast (n := (wnj (vW V))) (N := 8) C dX10_join_76 rfl rfl (by omega) (by omega) (by decide) ?_
              refine g_aload_n C dX10_join_77 rfl ?_
              refine gf_X10_37 C dX10_join_78 rfl ?_
              refine g_aload_n C dX10_join_81 rfl ?_
              refine g_pc (pc' := 82) rfl ?_
              refine gf_X10_192 (z := (wnj (vW V) : Int)) C dX10_join_82 rfl ((rI_k (by decide)).trans hM.1.2.2.1.1) ?_
              refine g_iload_n C dX10_join_85 rfl ?_
              refine g_iload_n C dX10_join_86 rfl ?_
              refine g_icmp_ge (tgt := 94) C dX10_join_87 (by decide) (by unfold R32; omega) (fun h9 => ?_) (fun h9 => ?_)
              · refine g_iload_n C dX10_join_94 rfl ?_
                refine g_iast (n := (wnj (vW V))) (N := 8) C dX10_join_95 rfl rfl (by omega) (by omega) (by decide) ?_
                refine g_aload_n C dX10_join_96 rfl ?_
                refine g_dup C dX10_join_97 rfl ?_
                refine g_pc (pc' := 98) rfl ?_
                refine gf_X10_192 (z := (wnj (vW V) : Int)) C dX10_join_98 rfl ((rI_k (by decide)).trans ((rI_k (by decide)).trans hM.1.2.2.1.1)) ?_
                refine g_iconst (z := 1) C dX10_join_101 rfl ?_
                refine g_iadd C dX10_join_102 ?_
                refine gp_X10_192 C dX10_join_103 rfl ?_
                refine g_aload_n C dX10_join_106 rfl ?_
                refine gf_X10_192 (z := ((wnj (vW V) : Int) + 1)) C dX10_join_107 rfl rI_s ?_
                refine g_iconst (z := 1) C dX10_join_110 rfl ?_
                refine g_isub C dX10_join_111 ?_
                refine g_pc (pc' := 112) rfl ?_
                exact g_ireturn C dX10_join_112 (by first | (exfalso; omega) | exact (by rw [show aJoin V p q = ((wnj (vW V) : Int), (wAddJ (vW V) (min p q).toNat (max p q).toNat, V.2)) by unfold aJoin; (first | rw [if_pos (by omega)] | rw [if_neg (by omega), if_pos (by omega)] | rw [if_neg (by omega), if_neg (by omega), if_pos (by omega)] | rw [if_neg (by omega), if_neg (by omega), if_neg (by omega)])]; exact ⟨by omega, hM.wor (((Fm.rf.a (by decide) (by unfold SW; omega)).a (by decide) (by unfold SW; omega)).t (by unfold SWt; omega)) (hM.1.joi hO.l (by omega) (by omega) rfl), ((Fr.rf.sI (by unfold YC; omega)).sI (by unfold YC; omega)).sI (by unfold YC; omega)⟩))
              · refine g_iload_n C dX10_join_90 rfl ?_
                refine g_goto (tgt := 95) C dX10_join_91 (by decide) ?_
                refine g_iast (n := (wnj (vW V))) (N := 8) C dX10_join_95 rfl rfl (by omega) (by omega) (by decide) ?_
                refine g_aload_n C dX10_join_96 rfl ?_
                refine g_dup C dX10_join_97 rfl ?_
                refine gf_X10_192 (z := (wnj (vW V) : Int)) C dX10_join_98 rfl ((rI_k (by decide)).trans ((rI_k (by decide)).trans hM.1.2.2.1.1)) ?_
                refine g_iconst (z := 1) C dX10_join_101 rfl ?_
                refine g_pc (pc' := 102) rfl ?_
                refine g_iadd C dX10_join_102 ?_
                refine gp_X10_192 C dX10_join_103 rfl ?_
                refine g_aload_n C dX10_join_106 rfl ?_
                refine gf_X10_192 (z := ((wnj (vW V) : Int) + 1)) C dX10_join_107 rfl rI_s ?_
                refine g_iconst (z := 1) C dX10_join_110 rfl ?_
                refine g_isub C dX10_join_111 ?_
                exact g_ireturn C dX10_join_112 (by first | (exfalso; omega) | exact (by rw [show aJoin V p q = ((wnj (vW V) : Int), (wAddJ (vW V) (min p q).toNat (max p q).toNat, V.2)) by unfold aJoin; (first | rw [if_pos (by omega)] | rw [if_neg (by omega), if_pos (by omega)] | rw [if_neg (by omega), if_neg (by omega), if_pos (by omega)] | rw [if_neg (by omega), if_neg (by omega), if_neg (by omega)])]; exact ⟨by omega, hM.wor (((Fm.rf.a (by decide) (by unfold SW; omega)).a (by decide) (by unfold SW; omega)).t (by unfold SWt; omega)) (hM.1.joi hO.l (by omega) (by omega) rfl), ((Fr.rf.sI (by unfold YC; omega)).sI (by unfold YC; omega)).sI (by unfold YC; omega)⟩))
          · exfalso; omega
        · refine g_bipush (z := (-7)) C dX10_join_41 rfl ?_
          refine g_pc (pc' := 43) rfl ?_
          refine g_goto (tgt := 47) C dX10_join_43 (by decide) ?_
          refine g_istore_n (L' := [(3, .int (iZ (-7))), (0, .ref (κ.2.1 105)), (1, .int (iZ p)), (2, .int (iZ q))]) C dX10_join_47 rfl (by decide) rfl ?_
          refine g_iload_n C dX10_join_48 rfl ?_
          refine g_if_eq (tgt := 58) C dX10_join_49 (by decide) (by unfold R32; omega) (fun h10 => ?_) (fun h10 => ?_)
          · exfalso; omega
          · refine g_aload_n C dX10_join_52 rfl ?_
            refine g_iload_n C dX10_join_53 rfl ?_
            refine gc_X10_274 C dX10_join_54 rfl (c_X10_no hI (Ml M) σ (y := 7) (v := (-7)) (by first | rfl | omega) (by decide)) (by decide) (Nat.le_of_ble_eq_true rfl) (fun z σ9 ⟨hz, hσ⟩ => ?_)
            subst z
            subst σ9
            exact g_ireturn C dX10_join_57 (by first | (exfalso; omega) | exact (by rw [show aJoin V p q = rfs 7 V by unfold aJoin; (first | rw [if_pos (by omega)] | rw [if_neg (by omega), if_pos (by omega)] | rw [if_neg (by omega), if_neg (by omega), if_pos (by omega)] | rw [if_neg (by omega), if_neg (by omega), if_neg (by omega)])]; exact ⟨rfl, hM.ref (by omega), YC.ref⟩))
      · refine g_pc (pc' := 27) rfl ?_
        refine g_bipush (z := (-6)) C dX10_join_27 rfl ?_
        refine g_goto (tgt := 47) C dX10_join_29 (by decide) ?_
        refine g_istore_n (L' := [(3, .int (iZ (-6))), (0, .ref (κ.2.1 105)), (1, .int (iZ p)), (2, .int (iZ q))]) C dX10_join_47 rfl (by decide) rfl ?_
        refine g_iload_n C dX10_join_48 rfl ?_
        refine g_if_eq (tgt := 58) C dX10_join_49 (by decide) (by unfold R32; omega) (fun h11 => ?_) (fun h11 => ?_)
        · exfalso; omega
        · refine g_aload_n C dX10_join_52 rfl ?_
          refine g_iload_n C dX10_join_53 rfl ?_
          refine gc_X10_274 C dX10_join_54 rfl (c_X10_no hI (Ml M) σ (y := 6) (v := (-6)) (by first | rfl | omega) (by decide)) (by decide) (Nat.le_of_ble_eq_true rfl) (fun z σ9 ⟨hz, hσ⟩ => ?_)
          subst z
          subst σ9
          refine g_pc (pc' := 57) rfl ?_
          exact g_ireturn C dX10_join_57 (by first | (exfalso; omega) | exact (by rw [show aJoin V p q = rfs 6 V by unfold aJoin; (first | rw [if_pos (by omega)] | rw [if_neg (by omega), if_pos (by omega)] | rw [if_neg (by omega), if_neg (by omega), if_pos (by omega)] | rw [if_neg (by omega), if_neg (by omega), if_neg (by omega)])]; exact ⟨rfl, hM.ref (by omega), YC.ref⟩))
    · refine g_iconst (z := (-1)) C dX10_join_14 rfl ?_
      refine g_goto (tgt := 47) C dX10_join_15 (by decide) ?_
      refine g_istore_n (L' := [(3, .int (iZ (-1))), (0, .ref (κ.2.1 105)), (1, .int (iZ p)), (2, .int (iZ q))]) C dX10_join_47 rfl (by decide) rfl ?_
      refine g_iload_n C dX10_join_48 rfl ?_
      refine g_if_eq (tgt := 58) C dX10_join_49 (by decide) (by unfold R32; omega) (fun h12 => ?_) (fun h12 => ?_)
      · exfalso; omega
      · refine g_aload_n C dX10_join_52 rfl ?_
        refine g_iload_n C dX10_join_53 rfl ?_
        refine g_pc (pc' := 54) rfl ?_
        refine gc_X10_274 C dX10_join_54 rfl (c_X10_no hI (Ml M) σ (y := 1) (v := (-1)) (by first | rfl | omega) (by decide)) (by decide) (Nat.le_of_ble_eq_true rfl) (fun z σ9 ⟨hz, hσ⟩ => ?_)
        subst z
        subst σ9
        exact g_ireturn C dX10_join_57 (by first | (exfalso; omega) | exact (by rw [show aJoin V p q = rfs 1 V by unfold aJoin; (first | rw [if_pos (by omega)] | rw [if_neg (by omega), if_pos (by omega)] | rw [if_neg (by omega), if_neg (by omega), if_pos (by omega)] | rw [if_neg (by omega), if_neg (by omega), if_neg (by omega)])]; exact ⟨rfl, hM.ref (by omega), YC.ref⟩))
set_option maxHeartbeats 4000000 in
set_option maxRecDepth 100000 in
theorem c_X10_filterOf {κ : Kp} (hI : Ij κ) (l : Launch) (σ : St) {V : Vw} (hM : MV σ V) (hO : OKV V) {f a : Int} (hf : R32 f) (ha : R32 a) : CtI κ l 2 yX10_filterOf cX10_filterOf 3 .int [.ref (κ.2.1 105), .int (iZ f), .int (iZ a)] σ (fun z σ' => z = (aFilterOf V f a).1 ∧ MV σ' (aFilterOf V f a).2 ∧ Fr YC σ σ') := by
  refine Ct.ofG (own := RX10) hI (by decide +kernel) rfl (Nat.le_of_ble_eq_true rfl) rfl ?_
  intro M C hMl
  have hnf8 := hO.1.2.1.1
  refine g_iload_n C dX10_filterOf_0 rfl ?_
  refine g_iconst (z := 0) C dX10_filterOf_1 rfl ?_
  refine g_aload_n C dX10_filterOf_2 rfl ?_
  refine gf_X10_174 (z := (wnf (vW V) : Int)) C dX10_filterOf_3 rfl hM.1.2.1.1 ?_
  refine g_iconst (z := 1) C dX10_filterOf_6 rfl ?_
  refine g_isub C dX10_filterOf_7 ?_
  refine gc_X10_145 C dX10_filterOf_8 (c_X10_isIn hI (Ml M) σ (v := f) (a := 0) (b := ((wnf (vW V) : Int) - 1)) (by unfold R32; omega) (by unfold R32; omega) (by unfold R32; omega)) (by decide) (Nat.le_of_ble_eq_true rfl) (fun z σ9 ⟨hz, hσ⟩ => ?_)
  subst z
  subst σ9
  refine g_pc (pc' := 11) rfl ?_
  refine g_ifb_eq (tgt := 23) C dX10_filterOf_11 (by decide) (fun h1 => ?_) (fun h1 => ?_)
  · refine g_aload_n C dX10_filterOf_23 rfl ?_
    refine g_bipush (z := (-5)) C dX10_filterOf_24 rfl ?_
    refine gc_X10_274 C dX10_filterOf_26 rfl (c_X10_no hI (Ml M) σ (y := 5) (v := (-5)) (by first | rfl | omega) (by decide)) (by decide) (Nat.le_of_ble_eq_true rfl) (fun z σ9 ⟨hz, hσ⟩ => ?_)
    subst z
    subst σ9
    exact g_ireturn C dX10_filterOf_29 (by rw [show aFilterOf V f a = rfs 5 V by unfold aFilterOf; (first | rw [if_pos (by omega)] | rw [if_neg (by omega), if_pos (by omega)] | rw [if_neg (by omega), if_neg (by omega), if_pos (by omega)] | rw [if_neg (by omega), if_neg (by omega), if_neg (by omega), if_pos (by omega)] | rw [if_neg (by omega), if_neg (by omega), if_neg (by omega), if_neg (by omega)])]; exact ⟨rfl, hM.ref (by omega), YC.ref⟩)
  · refine g_iload_n C dX10_filterOf_14 rfl ?_
    refine g_iconst (z := 0) C dX10_filterOf_15 rfl ?_
    refine g_iconst (z := 2) C dX10_filterOf_16 rfl ?_
    refine g_pc (pc' := 17) rfl ?_
    refine gc_X10_145 C dX10_filterOf_17 (c_X10_isIn hI (Ml M) σ (v := a) (a := 0) (b := 2) (by unfold R32; omega) (by unfold R32; omega) (by unfold R32; omega)) (by decide) (Nat.le_of_ble_eq_true rfl) (fun z σ9 ⟨hz, hσ⟩ => ?_)
    subst z
    subst σ9
    refine g_ifb_ne (tgt := 30) C dX10_filterOf_20 (by decide) (fun h2 => ?_) (fun h2 => ?_)
    · refine g_iload_n C dX10_filterOf_30 rfl ?_
      refine g_if_ne (tgt := 43) C dX10_filterOf_31 (by decide) (by unfold R32; omega) (fun h3 => ?_) (fun h3 => ?_)
      · refine g_iload_n C dX10_filterOf_43 rfl ?_
        refine g_iconst (z := 1) C dX10_filterOf_44 rfl ?_
        refine g_icmp_ne (tgt := 57) C dX10_filterOf_45 (by decide) (by unfold R32; omega) (fun h4 => ?_) (fun h4 => ?_)
        · refine g_aload_n C dX10_filterOf_57 rfl ?_
          refine g_pc (pc' := 58) rfl ?_
          refine gf_X10_31 C dX10_filterOf_58 rfl ?_
          refine g_iload_n C dX10_filterOf_61 rfl ?_
          refine g_iaz (n := f.toNat) (N := 8) (v := (wfv (vW V) f.toNat : Int)) C dX10_filterOf_62 rfl rfl (by omega) (by omega) (by decide) ((hM.1.2.1.2 f.toNat (by omega)).2.2) ?_
          exact g_ireturn C dX10_filterOf_63 (by rw [show aFilterOf V f a = ((wfv (vW V) f.toNat : Int), V) by unfold aFilterOf; (first | rw [if_pos (by omega)] | rw [if_neg (by omega), if_pos (by omega)] | rw [if_neg (by omega), if_neg (by omega), if_pos (by omega)] | rw [if_neg (by omega), if_neg (by omega), if_neg (by omega), if_pos (by omega)] | rw [if_neg (by omega), if_neg (by omega), if_neg (by omega), if_neg (by omega)])]; exact ⟨rfl, hM, Fr.rf⟩)
        · refine g_aload_n C dX10_filterOf_48 rfl ?_
          refine gf_X10_28 C dX10_filterOf_49 rfl ?_
          refine g_iload_n C dX10_filterOf_52 rfl ?_
          refine g_iaz (n := f.toNat) (N := 8) (v := (wfs (vW V) f.toNat : Int)) C dX10_filterOf_53 rfl rfl (by omega) (by omega) (by decide) ((hM.1.2.1.2 f.toNat (by omega)).2.1) ?_
          refine g_pc (pc' := 54) rfl ?_
          refine g_goto (tgt := 63) C dX10_filterOf_54 (by decide) ?_
          exact g_ireturn C dX10_filterOf_63 (by rw [show aFilterOf V f a = ((wfs (vW V) f.toNat : Int), V) by unfold aFilterOf; (first | rw [if_pos (by omega)] | rw [if_neg (by omega), if_pos (by omega)] | rw [if_neg (by omega), if_neg (by omega), if_pos (by omega)] | rw [if_neg (by omega), if_neg (by omega), if_neg (by omega), if_pos (by omega)] | rw [if_neg (by omega), if_neg (by omega), if_neg (by omega), if_neg (by omega)])]; exact ⟨rfl, hM, Fr.rf⟩)
      · refine g_aload_n C dX10_filterOf_34 rfl ?_
        refine gf_X10_25 C dX10_filterOf_35 rfl ?_
        refine g_iload_n C dX10_filterOf_38 rfl ?_
        refine g_iaz (n := f.toNat) (N := 8) (v := (wfp (vW V) f.toNat : Int)) C dX10_filterOf_39 rfl rfl (by omega) (by omega) (by decide) ((hM.1.2.1.2 f.toNat (by omega)).1) ?_
        refine g_goto (tgt := 63) C dX10_filterOf_40 (by decide) ?_
        exact g_ireturn C dX10_filterOf_63 (by rw [show aFilterOf V f a = ((wfp (vW V) f.toNat : Int), V) by unfold aFilterOf; (first | rw [if_pos (by omega)] | rw [if_neg (by omega), if_pos (by omega)] | rw [if_neg (by omega), if_neg (by omega), if_pos (by omega)] | rw [if_neg (by omega), if_neg (by omega), if_neg (by omega), if_pos (by omega)] | rw [if_neg (by omega), if_neg (by omega), if_neg (by omega), if_neg (by omega)])]; exact ⟨rfl, hM, Fr.rf⟩)
    · refine g_pc (pc' := 23) rfl ?_
      refine g_aload_n C dX10_filterOf_23 rfl ?_
      refine g_bipush (z := (-5)) C dX10_filterOf_24 rfl ?_
      refine gc_X10_274 C dX10_filterOf_26 rfl (c_X10_no hI (Ml M) σ (y := 5) (v := (-5)) (by first | rfl | omega) (by decide)) (by decide) (Nat.le_of_ble_eq_true rfl) (fun z σ9 ⟨hz, hσ⟩ => ?_)
      subst z
      subst σ9
      exact g_ireturn C dX10_filterOf_29 (by rw [show aFilterOf V f a = rfs 5 V by unfold aFilterOf; (first | rw [if_pos (by omega)] | rw [if_neg (by omega), if_pos (by omega)] | rw [if_neg (by omega), if_neg (by omega), if_pos (by omega)] | rw [if_neg (by omega), if_neg (by omega), if_neg (by omega), if_pos (by omega)] | rw [if_neg (by omega), if_neg (by omega), if_neg (by omega), if_neg (by omega)])]; exact ⟨rfl, hM.ref (by omega), YC.ref⟩)
set_option maxHeartbeats 4000000 in
set_option maxRecDepth 100000 in
theorem c_X10_joinOf {κ : Kp} (hI : Ij κ) (l : Launch) (σ : St) {V : Vw} (hM : MV σ V) (hO : OKV V) {j a : Int} (hj : R32 j) (ha : R32 a) : CtI κ l 2 yX10_joinOf cX10_joinOf 3 .int [.ref (κ.2.1 105), .int (iZ j), .int (iZ a)] σ (fun z σ' => z = (aJoinOf V j a).1 ∧ MV σ' (aJoinOf V j a).2 ∧ Fr YC σ σ') := by
  refine Ct.ofG (own := RX10) hI (by decide +kernel) rfl (Nat.le_of_ble_eq_true rfl) rfl ?_
  intro M C hMl
  have hnj8 := hO.1.2.2.1
  refine g_iload_n C dX10_joinOf_0 rfl ?_
  refine g_iconst (z := 0) C dX10_joinOf_1 rfl ?_
  refine g_aload_n C dX10_joinOf_2 rfl ?_
  refine gf_X10_192 (z := (wnj (vW V) : Int)) C dX10_joinOf_3 rfl hM.1.2.2.1.1 ?_
  refine g_iconst (z := 1) C dX10_joinOf_6 rfl ?_
  refine g_isub C dX10_joinOf_7 ?_
  refine gc_X10_145 C dX10_joinOf_8 (c_X10_isIn hI (Ml M) σ (v := j) (a := 0) (b := ((wnj (vW V) : Int) - 1)) (by unfold R32; omega) (by unfold R32; omega) (by unfold R32; omega)) (by decide) (Nat.le_of_ble_eq_true rfl) (fun z σ9 ⟨hz, hσ⟩ => ?_)
  subst z
  subst σ9
  refine g_pc (pc' := 11) rfl ?_
  refine g_ifb_eq (tgt := 23) C dX10_joinOf_11 (by decide) (fun h1 => ?_) (fun h1 => ?_)
  · refine g_aload_n C dX10_joinOf_23 rfl ?_
    refine g_bipush (z := (-5)) C dX10_joinOf_24 rfl ?_
    refine gc_X10_274 C dX10_joinOf_26 rfl (c_X10_no hI (Ml M) σ (y := 5) (v := (-5)) (by first | rfl | omega) (by decide)) (by decide) (Nat.le_of_ble_eq_true rfl) (fun z σ9 ⟨hz, hσ⟩ => ?_)
    subst z
    subst σ9
    exact g_ireturn C dX10_joinOf_29 (by rw [show aJoinOf V j a = rfs 5 V by unfold aJoinOf; (first | rw [if_pos (by omega)] | rw [if_neg (by omega), if_pos (by omega)] | rw [if_neg (by omega), if_neg (by omega)])]; exact ⟨rfl, hM.ref (by omega), YC.ref⟩)
  · refine g_iload_n C dX10_joinOf_14 rfl ?_
    refine g_iconst (z := 0) C dX10_joinOf_15 rfl ?_
    refine g_iconst (z := 1) C dX10_joinOf_16 rfl ?_
    refine g_pc (pc' := 17) rfl ?_
    refine gc_X10_145 C dX10_joinOf_17 (c_X10_isIn hI (Ml M) σ (v := a) (a := 0) (b := 1) (by unfold R32; omega) (by unfold R32; omega) (by unfold R32; omega)) (by decide) (Nat.le_of_ble_eq_true rfl) (fun z σ9 ⟨hz, hσ⟩ => ?_)
    subst z
    subst σ9
    refine g_ifb_ne (tgt := 30) C dX10_joinOf_20 (by decide) (fun h2 => ?_) (fun h2 => ?_)
    · refine g_iload_n C dX10_joinOf_30 rfl ?_
      refine g_if_ne (tgt := 43) C dX10_joinOf_31 (by decide) (by unfold R32; omega) (fun h3 => ?_) (fun h3 => ?_)
      · refine g_aload_n C dX10_joinOf_43 rfl ?_
        refine gf_X10_37 C dX10_joinOf_44 rfl ?_
        refine g_iload_n C dX10_joinOf_47 rfl ?_
        refine g_iaz (n := j.toNat) (N := 8) (v := (wjb (vW V) j.toNat : Int)) C dX10_joinOf_48 rfl rfl (by omega) (by omega) (by decide) ((hM.1.2.2.1.2 j.toNat (by omega)).2) ?_
        refine g_pc (pc' := 49) rfl ?_
        exact g_ireturn C dX10_joinOf_49 (by rw [show aJoinOf V j a = ((wjb (vW V) j.toNat : Int), V) by unfold aJoinOf; (first | rw [if_pos (by omega)] | rw [if_neg (by omega), if_pos (by omega)] | rw [if_neg (by omega), if_neg (by omega)])]; exact ⟨rfl, hM, Fr.rf⟩)
      · refine g_aload_n C dX10_joinOf_34 rfl ?_
        refine gf_X10_34 C dX10_joinOf_35 rfl ?_
        refine g_iload_n C dX10_joinOf_38 rfl ?_
        refine g_iaz (n := j.toNat) (N := 8) (v := (wja (vW V) j.toNat : Int)) C dX10_joinOf_39 rfl rfl (by omega) (by omega) (by decide) ((hM.1.2.2.1.2 j.toNat (by omega)).1) ?_
        refine g_goto (tgt := 49) C dX10_joinOf_40 (by decide) ?_
        exact g_ireturn C dX10_joinOf_49 (by rw [show aJoinOf V j a = ((wja (vW V) j.toNat : Int), V) by unfold aJoinOf; (first | rw [if_pos (by omega)] | rw [if_neg (by omega), if_pos (by omega)] | rw [if_neg (by omega), if_neg (by omega)])]; exact ⟨rfl, hM, Fr.rf⟩)
    · refine g_aload_n C dX10_joinOf_23 rfl ?_
      refine g_pc (pc' := 24) rfl ?_
      refine g_bipush (z := (-5)) C dX10_joinOf_24 rfl ?_
      refine gc_X10_274 C dX10_joinOf_26 rfl (c_X10_no hI (Ml M) σ (y := 5) (v := (-5)) (by first | rfl | omega) (by decide)) (by decide) (Nat.le_of_ble_eq_true rfl) (fun z σ9 ⟨hz, hσ⟩ => ?_)
      subst z
      subst σ9
      exact g_ireturn C dX10_joinOf_29 (by rw [show aJoinOf V j a = rfs 5 V by unfold aJoinOf; (first | rw [if_pos (by omega)] | rw [if_neg (by omega), if_pos (by omega)] | rw [if_neg (by omega), if_neg (by omega)])]; exact ⟨rfl, hM.ref (by omega), YC.ref⟩)
set_option maxHeartbeats 4000000 in
set_option maxRecDepth 100000 in
theorem c_X10_clear {κ : Kp} (hI : Ij κ) (l : Launch) (σ : St) {V : Vw} (hM : MV σ V) (hO : OKV V) : CtI κ l 2 yX10_clear cX10_clear 2 .int [.ref (κ.2.1 105)] σ (fun z σ' => z = (aClear V).1 ∧ MV σ' (aClear V).2 ∧ Fr YC σ σ') := by
  refine Ct.ofG (own := RX10) hI (by decide +kernel) rfl (Nat.le_of_ble_eq_true rfl) rfl ?_
  intro M C hMl
  have hnf8 := hO.1.2.1.1
  have hnj8 := hO.1.2.2.1
  refine g_aload_n C dX10_clear_0 rfl ?_
  refine gf_X10_174 (z := (wnf (vW V) : Int)) C dX10_clear_1 rfl hM.1.2.1.1 ?_
  refine g_aload_n C dX10_clear_4 rfl ?_
  refine gf_X10_192 (z := (wnj (vW V) : Int)) C dX10_clear_5 rfl hM.1.2.2.1.1 ?_
  refine g_iadd C dX10_clear_8 ?_
  refine g_istore_n (L' := [(1, .int (iZ ((wnf (vW V) : Int) + (wnj (vW V) : Int)))), (0, .ref (κ.2.1 105))]) C dX10_clear_9 rfl (by decide) rfl ?_
  refine g_aload_n C dX10_clear_10 rfl ?_
  refine g_pc (pc' := 11) rfl ?_
  refine g_iconst (z := 0) C dX10_clear_11 rfl ?_
  refine gp_X10_174 C dX10_clear_12 rfl ?_
  refine g_aload_n C dX10_clear_15 rfl ?_
  refine g_iconst (z := 0) C dX10_clear_16 rfl ?_
  refine gp_X10_192 C dX10_clear_17 rfl ?_
  refine g_iload_n C dX10_clear_20 rfl ?_
  exact g_ireturn C dX10_clear_21 ⟨rfl, hM.wor ((Fm.rf.t (by unfold SWt; omega)).t (by unfold SWt; omega)) (hM.1.clr hO.l), (Fr.rf.sI (by unfold YC; omega)).sI (by unfold YC; omega)⟩
set_option maxHeartbeats 4000000 in
set_option maxRecDepth 100000 in
theorem c_X10_seed {κ : Kp} (hI : Ij κ) (l : Launch) (σ : St) {V : Vw} (hM : MV σ V) (hO : OKV V) {v : Int} : CtI κ l 2 yX10_seed cX10_seed 3 .int [.ref (κ.2.1 105), .int (iZ v)] σ (fun z σ' => z = (aSeed V v).1 ∧ MV σ' (aSeed V v).2 ∧ Fr YC σ σ') := by
  refine Ct.ofG (own := RX10) hI (by decide +kernel) rfl (Nat.le_of_ble_eq_true rfl) rfl ?_
  intro M C hMl
  refine g_aload_n C dX10_seed_0 rfl ?_
  refine gf_X10_142 (z := (wsd (vW V))) C dX10_seed_1 rfl hM.1.2.2.2 ?_
  refine g_istore_n (L' := [(2, .int (iZ (wsd (vW V)))), (0, .ref (κ.2.1 105)), (1, .int (iZ v))]) C dX10_seed_4 rfl (by decide) rfl ?_
  refine g_aload_n C dX10_seed_5 rfl ?_
  refine g_iload_n C dX10_seed_6 rfl ?_
  refine gp_X10_142 C dX10_seed_7 rfl ?_
  refine g_iload_n C dX10_seed_10 rfl ?_
  refine g_pc (pc' := 11) rfl ?_
  exact g_ireturn C dX10_seed_11 ⟨rfl, hM.wor (Fm.rf.t (by unfold SWt; omega)) (hM.1.sed hO.l v), Fr.rf.sI (by unfold YC; omega)⟩
set_option maxHeartbeats 4000000 in
set_option maxRecDepth 100000 in
theorem c_X10_fault {κ : Kp} (hI : Ij κ) (l : Launch) (σ : St) {V : Vw} (hM : MV σ V) (hO : OKV V) : CtI κ l 2 yX10_fault cX10_fault 1 .int [.ref (κ.2.1 105)] σ (fun z σ' => z = vF V ∧ MV σ' V ∧ Fr YC σ σ') := by
  refine Ct.ofG (own := RX10) hI (by decide +kernel) rfl (Nat.le_of_ble_eq_true rfl) rfl ?_
  intro M C hMl
  refine g_aload_n C dX10_fault_0 rfl ?_
  refine gf_X10_135 (z := (vF V)) C dX10_fault_1 rfl hM.2.2.2.2.1 ?_
  exact g_ireturn C dX10_fault_4 ⟨rfl, hM, Fr.rf⟩
set_option maxHeartbeats 4000000 in
set_option maxRecDepth 100000 in
theorem c_X10_put {κ : Kp} (hI : Ij κ) (l : Launch) (σ : St) {V : Vw} (hM : MV σ V) (hO : OKV V) {t a v : Int} (ht : R32 t) (ha : R32 a) (hv : R32 v) : CtI κ l 2 yX10_put cX10_put 7 .int [.ref (κ.2.1 105), .int (iZ t), .int (iZ a), .int (iZ v)] σ (fun z σ' => z = (aPut V t a v).1 ∧ MV σ' (aPut V t a v).2 ∧ Fr YC σ σ') := by
  refine Ct.ofG (own := RX10) hI (by decide +kernel) rfl (Nat.le_of_ble_eq_true rfl) rfl ?_
  intro M C hMl
  refine g_iload_n C dX10_put_0 rfl ?_
  refine g_if_ne (tgt := 14) C dX10_put_1 (by decide) (by unfold R32; omega) (fun h1 => ?_) (fun h1 => ?_)
  · refine g_iload_n C dX10_put_14 rfl ?_
    refine g_iconst (z := (-1)) C dX10_put_15 rfl ?_
    refine g_iconst (z := 2) C dX10_put_16 rfl ?_
    refine gc_X10_145 C dX10_put_17 (c_X10_isIn hI (Ml M) σ (v := v) (a := (-1)) (b := 2) (by unfold R32; omega) (by unfold R32; omega) (by unfold R32; omega)) (by decide) (Nat.le_of_ble_eq_true rfl) (fun z σ9 ⟨hz, hσ⟩ => ?_)
    subst z
    subst σ9
    refine g_istore (L' := [(4, .int (iZ (bZ ((-1) ≤ v ∧ v ≤ 2)))), (0, .ref (κ.2.1 105)), (1, .int (iZ t)), (2, .int (iZ a)), (3, .int (iZ v))]) C dX10_put_20 (by decide) rfl ?_
    refine g_pc (pc' := 22) rfl ?_
    refine g_iload_n C dX10_put_22 rfl ?_
    refine gc_X10_371 C dX10_put_23 (c_X10_isTable hI (Ml M) σ (v := t) (by unfold R32; omega)) (by decide) (Nat.le_of_ble_eq_true rfl) (fun z σ9 ⟨hz, hσ⟩ => ?_)
    subst z
    subst σ9
    refine g_ifb_ne (tgt := 33) C dX10_put_26 (by decide) (fun h2 => ?_) (fun h2 => ?_)
    · refine g_iload_n C dX10_put_33 rfl ?_
      refine g_iconst (z := 0) C dX10_put_34 rfl ?_
      refine g_iconst (z := 1) C dX10_put_35 rfl ?_
      refine gc_X10_145 C dX10_put_36 (c_X10_isIn hI (Ml M) σ (v := a) (a := 0) (b := 1) (by unfold R32; omega) (by unfold R32; omega) (by unfold R32; omega)) (by decide) (Nat.le_of_ble_eq_true rfl) (fun z σ9 ⟨hz, hσ⟩ => ?_)
      subst z
      subst σ9
      refine g_ifb_ne (tgt := 47) C dX10_put_39 (by decide) (fun h3 => ?_) (fun h3 => ?_)
      · refine g_pc (pc' := 47) rfl ?_
        refine g_iload C dX10_put_47 rfl ?_
        refine g_ifb_ne (tgt := 57) C dX10_put_49 (by decide) (fun h4 => ?_) (fun h4 => ?_)
        · refine g_iconst (z := 0) C dX10_put_57 rfl ?_
          refine g_istore (L' := [(5, .int (iZ 0)), (4, .int (iZ (bZ ((-1) ≤ v ∧ v ≤ 2)))), (0, .ref (κ.2.1 105)), (1, .int (iZ t)), (2, .int (iZ a)), (3, .int (iZ v))]) C dX10_put_58 (by decide) rfl ?_
          refine g_iload C dX10_put_60 rfl ?_
          refine g_if_eq (tgt := 75) C dX10_put_62 (by decide) (by unfold R32; omega) (fun h5 => ?_) (fun h5 => ?_)
          · refine g_iload_n C dX10_put_75 rfl ?_
            refine g_if_ne (tgt := 88) C dX10_put_76 (by decide) (by unfold R32; omega) (fun h6 => ?_) (fun h6 => ?_)
            · refine g_pc (pc' := 88) rfl ?_
              refine g_aload_n C dX10_put_88 rfl ?_
              refine gf_X10_22 C dX10_put_89 rfl ?_
              refine g_iload_n C dX10_put_92 rfl ?_
              refine g_iaz (n := t.toNat) (N := 5) (v := ((wst (vW V) t.toNat : Int) - 1)) C dX10_put_93 rfl rfl (by omega) (by omega) (by decide) ((hM.1.1 t.toNat (by omega)).2.2.1) ?_
              refine g_istore (L' := [(6, .int (iZ ((wst (vW V) t.toNat : Int) - 1))), (5, .int (iZ 0)), (4, .int (iZ (bZ ((-1) ≤ v ∧ v ≤ 2)))), (0, .ref (κ.2.1 105)), (1, .int (iZ t)), (2, .int (iZ a)), (3, .int (iZ v))]) C dX10_put_94 (by decide) rfl ?_
              refine g_iload_n C dX10_put_96 rfl ?_
              refine g_if_ne (tgt := 110) C dX10_put_97 (by decide) (by unfold R32; omega) (fun h7 => ?_) (fun h7 => ?_)
              · refine g_aload_n C dX10_put_110 rfl ?_
                refine g_pc (pc' := 111) rfl ?_
                refine gf_X10_22 C dX10_put_111 rfl ?_
                refine g_iload_n C dX10_put_114 rfl ?_
                refine g_iload_n C dX10_put_115 rfl ?_
                refine g_iast (n := t.toNat) (N := 5) C dX10_put_116 rfl rfl (by omega) (by omega) (by decide) ?_
                refine g_iload C dX10_put_117 rfl ?_
                exact g_ireturn C dX10_put_119 (by first | (exfalso; omega) | (rw [show aPut V t a v = ((wst (vW V) t.toNat : Int) - 1, (wset (vW V) 3 t.toNat 0 (v + 1).toNat, V.2)) by unfold aPut; rw [if_neg (by omega), if_neg (by omega), if_neg (by omega), if_pos (by omega)]]; exact ⟨rfl, hM.wor (Fm.rf.a (by decide) (by unfold SW; omega)) (hM.1.pus hO.l (by omega) (by omega)), Fr.rf.sI (by unfold YC; omega)⟩))
              · refine g_aload_n C dX10_put_100 rfl ?_
                refine gf_X10_19 C dX10_put_101 rfl ?_
                refine g_pc (pc' := 104) rfl ?_
                refine g_iload_n C dX10_put_104 rfl ?_
                refine g_iload_n C dX10_put_105 rfl ?_
                refine g_iast (n := t.toNat) (N := 5) C dX10_put_106 rfl rfl (by omega) (by omega) (by decide) ?_
                refine g_goto (tgt := 117) C dX10_put_107 (by decide) ?_
                refine g_iload C dX10_put_117 rfl ?_
                exact g_ireturn C dX10_put_119 (by first | (exfalso; omega) | (rw [show aPut V t a v = ((wst (vW V) t.toNat : Int) - 1, (wset (vW V) 3 t.toNat 0 (v + 1).toNat, V.2)) by unfold aPut; rw [if_neg (by omega), if_neg (by omega), if_neg (by omega), if_pos (by omega)]]; exact ⟨rfl, hM.wor (Fm.rf.a (by decide) (by unfold SW; omega)) (hM.1.pus hO.l (by omega) (by omega)), Fr.rf.sI (by unfold YC; omega)⟩))
            · refine g_aload_n C dX10_put_79 rfl ?_
              refine gf_X10_19 C dX10_put_80 rfl ?_
              refine g_pc (pc' := 83) rfl ?_
              refine g_iload_n C dX10_put_83 rfl ?_
              refine g_iaz (n := t.toNat) (N := 5) (v := (wb (vW V) t.toNat : Int)) C dX10_put_84 rfl rfl (by omega) (by omega) (by decide) ((hM.1.1 t.toNat (by omega)).2.1) ?_
              refine g_goto (tgt := 94) C dX10_put_85 (by decide) ?_
              refine g_istore (L' := [(6, .int (iZ (wb (vW V) t.toNat : Int))), (5, .int (iZ 0)), (4, .int (iZ (bZ ((-1) ≤ v ∧ v ≤ 2)))), (0, .ref (κ.2.1 105)), (1, .int (iZ t)), (2, .int (iZ a)), (3, .int (iZ v))]) C dX10_put_94 (by decide) rfl ?_
              refine g_iload_n C dX10_put_96 rfl ?_
              refine g_if_ne (tgt := 110) C dX10_put_97 (by decide) (by unfold R32; omega) (fun h8 => ?_) (fun h8 => ?_)
              · refine g_aload_n C dX10_put_110 rfl ?_
                refine gf_X10_22 C dX10_put_111 rfl ?_
                refine g_pc (pc' := 114) rfl ?_
                refine g_iload_n C dX10_put_114 rfl ?_
                refine g_iload_n C dX10_put_115 rfl ?_
                refine g_iast (n := t.toNat) (N := 5) C dX10_put_116 rfl rfl (by omega) (by omega) (by decide) ?_
                refine g_iload C dX10_put_117 rfl ?_
                exact g_ireturn C dX10_put_119 (by first | (exfalso; omega) | (rw [show aPut V t a v = ((wb (vW V) t.toNat : Int), (wset (vW V) 2 t.toNat 0 v.toNat, V.2)) by unfold aPut; rw [if_neg (by omega), if_neg (by omega), if_pos (by omega), if_pos (by omega)]]; exact ⟨rfl, hM.wor (Fm.rf.a (by decide) (by unfold SW; omega)) (hM.1.pub hO.l (by omega) (by omega)), Fr.rf.sI (by unfold YC; omega)⟩))
              · refine g_aload_n C dX10_put_100 rfl ?_
                refine gf_X10_19 C dX10_put_101 rfl ?_
                refine g_iload_n C dX10_put_104 rfl ?_
                refine g_pc (pc' := 105) rfl ?_
                refine g_iload_n C dX10_put_105 rfl ?_
                refine g_iast (n := t.toNat) (N := 5) C dX10_put_106 rfl rfl (by omega) (by omega) (by decide) ?_
                refine g_goto (tgt := 117) C dX10_put_107 (by decide) ?_
                refine g_iload C dX10_put_117 rfl ?_
                exact g_ireturn C dX10_put_119 (by first | (exfalso; omega) | (rw [show aPut V t a v = ((wb (vW V) t.toNat : Int), (wset (vW V) 2 t.toNat 0 v.toNat, V.2)) by unfold aPut; rw [if_neg (by omega), if_neg (by omega), if_pos (by omega), if_pos (by omega)]]; exact ⟨rfl, hM.wor (Fm.rf.a (by decide) (by unfold SW; omega)) (hM.1.pub hO.l (by omega) (by omega)), Fr.rf.sI (by unfold YC; omega)⟩))
          · exfalso; omega
        · refine g_bipush (z := (-6)) C dX10_put_52 rfl ?_
          refine g_goto (tgt := 58) C dX10_put_54 (by decide) ?_
          refine g_istore (L' := [(5, .int (iZ (-6))), (4, .int (iZ (bZ ((-1) ≤ v ∧ v ≤ 2)))), (0, .ref (κ.2.1 105)), (1, .int (iZ t)), (2, .int (iZ a)), (3, .int (iZ v))]) C dX10_put_58 (by decide) rfl ?_
          refine g_pc (pc' := 60) rfl ?_
          refine g_iload C dX10_put_60 rfl ?_
          refine g_if_eq (tgt := 75) C dX10_put_62 (by decide) (by unfold R32; omega) (fun h9 => ?_) (fun h9 => ?_)
          · exfalso; omega
          · refine g_aload_n C dX10_put_65 rfl ?_
            refine g_iload C dX10_put_66 rfl ?_
            refine gc_X10_274 C dX10_put_68 rfl (c_X10_no hI (Ml M) σ (y := 6) (v := (-6)) (by first | rfl | omega) (by decide)) (by decide) (Nat.le_of_ble_eq_true rfl) (fun z σ9 ⟨hz, hσ⟩ => ?_)
            subst z
            subst σ9
            refine g_bipush (z := 10) C dX10_put_71 rfl ?_
            refine g_isub C dX10_put_73 ?_
            exact g_ireturn C dX10_put_74 (by first | (exfalso; omega) | (rw [show aPut V t a v = rfT 6 V by unfold aPut; first | rw [if_pos (by omega)] | rw [if_neg (by omega), if_pos (by omega)] | rw [if_neg (by omega), if_neg (by omega), if_pos (by omega), if_neg (by omega)] | rw [if_neg (by omega), if_neg (by omega), if_neg (by omega), if_neg (by omega)]]; exact ⟨rfl, hM.ref (by omega), YC.ref⟩))
      · refine g_pc (pc' := 42) rfl ?_
        refine g_bipush (z := (-5)) C dX10_put_42 rfl ?_
        refine g_goto (tgt := 58) C dX10_put_44 (by decide) ?_
        refine g_istore (L' := [(5, .int (iZ (-5))), (4, .int (iZ (bZ ((-1) ≤ v ∧ v ≤ 2)))), (0, .ref (κ.2.1 105)), (1, .int (iZ t)), (2, .int (iZ a)), (3, .int (iZ v))]) C dX10_put_58 (by decide) rfl ?_
        refine g_iload C dX10_put_60 rfl ?_
        refine g_if_eq (tgt := 75) C dX10_put_62 (by decide) (by unfold R32; omega) (fun h10 => ?_) (fun h10 => ?_)
        · exfalso; omega
        · refine g_aload_n C dX10_put_65 rfl ?_
          refine g_iload C dX10_put_66 rfl ?_
          refine gc_X10_274 C dX10_put_68 rfl (c_X10_no hI (Ml M) σ (y := 5) (v := (-5)) (by first | rfl | omega) (by decide)) (by decide) (Nat.le_of_ble_eq_true rfl) (fun z σ9 ⟨hz, hσ⟩ => ?_)
          subst z
          subst σ9
          refine g_pc (pc' := 71) rfl ?_
          refine g_bipush (z := 10) C dX10_put_71 rfl ?_
          refine g_isub C dX10_put_73 ?_
          exact g_ireturn C dX10_put_74 (by first | (exfalso; omega) | (rw [show aPut V t a v = rfT 5 V by unfold aPut; first | rw [if_pos (by omega)] | rw [if_neg (by omega), if_pos (by omega)] | rw [if_neg (by omega), if_neg (by omega), if_pos (by omega), if_neg (by omega)] | rw [if_neg (by omega), if_neg (by omega), if_neg (by omega), if_neg (by omega)]]; exact ⟨rfl, hM.ref (by omega), YC.ref⟩))
    · refine g_iconst (z := (-1)) C dX10_put_29 rfl ?_
      refine g_goto (tgt := 58) C dX10_put_30 (by decide) ?_
      refine g_istore (L' := [(5, .int (iZ (-1))), (4, .int (iZ (bZ ((-1) ≤ v ∧ v ≤ 2)))), (0, .ref (κ.2.1 105)), (1, .int (iZ t)), (2, .int (iZ a)), (3, .int (iZ v))]) C dX10_put_58 (by decide) rfl ?_
      refine g_iload C dX10_put_60 rfl ?_
      refine g_if_eq (tgt := 75) C dX10_put_62 (by decide) (by unfold R32; omega) (fun h11 => ?_) (fun h11 => ?_)
      · exfalso; omega
      · refine g_pc (pc' := 65) rfl ?_
        refine g_aload_n C dX10_put_65 rfl ?_
        refine g_iload C dX10_put_66 rfl ?_
        refine gc_X10_274 C dX10_put_68 rfl (c_X10_no hI (Ml M) σ (y := 1) (v := (-1)) (by first | rfl | omega) (by decide)) (by decide) (Nat.le_of_ble_eq_true rfl) (fun z σ9 ⟨hz, hσ⟩ => ?_)
        subst z
        subst σ9
        refine g_bipush (z := 10) C dX10_put_71 rfl ?_
        refine g_isub C dX10_put_73 ?_
        exact g_ireturn C dX10_put_74 (by first | (exfalso; omega) | (rw [show aPut V t a v = rfT 1 V by unfold aPut; first | rw [if_pos (by omega)] | rw [if_neg (by omega), if_pos (by omega)] | rw [if_neg (by omega), if_neg (by omega), if_pos (by omega), if_neg (by omega)] | rw [if_neg (by omega), if_neg (by omega), if_neg (by omega), if_neg (by omega)]]; exact ⟨rfl, hM.ref (by omega), YC.ref⟩))
  · refine g_iload_n C dX10_put_4 rfl ?_
    refine g_iconst (z := 1) C dX10_put_5 rfl ?_
    refine g_pc (pc' := 6) rfl ?_
    refine g_bipush (z := 8) C dX10_put_6 rfl ?_
    refine gc_X10_145 C dX10_put_8 (c_X10_isIn hI (Ml M) σ (v := v) (a := 1) (b := 8) (by unfold R32; omega) (by unfold R32; omega) (by unfold R32; omega)) (by decide) (Nat.le_of_ble_eq_true rfl) (fun z σ9 ⟨hz, hσ⟩ => ?_)
    subst z
    subst σ9
    refine g_goto (tgt := 20) C dX10_put_11 (by decide) ?_
    refine g_istore (L' := [(4, .int (iZ (bZ (1 ≤ v ∧ v ≤ 8)))), (0, .ref (κ.2.1 105)), (1, .int (iZ t)), (2, .int (iZ a)), (3, .int (iZ v))]) C dX10_put_20 (by decide) rfl ?_
    refine g_iload_n C dX10_put_22 rfl ?_
    refine gc_X10_371 C dX10_put_23 (c_X10_isTable hI (Ml M) σ (v := t) (by unfold R32; omega)) (by decide) (Nat.le_of_ble_eq_true rfl) (fun z σ9 ⟨hz, hσ⟩ => ?_)
    subst z
    subst σ9
    refine g_ifb_ne (tgt := 33) C dX10_put_26 (by decide) (fun h12 => ?_) (fun h12 => ?_)
    · refine g_iload_n C dX10_put_33 rfl ?_
      refine g_pc (pc' := 34) rfl ?_
      refine g_iconst (z := 0) C dX10_put_34 rfl ?_
      refine g_iconst (z := 1) C dX10_put_35 rfl ?_
      refine gc_X10_145 C dX10_put_36 (c_X10_isIn hI (Ml M) σ (v := a) (a := 0) (b := 1) (by unfold R32; omega) (by unfold R32; omega) (by unfold R32; omega)) (by decide) (Nat.le_of_ble_eq_true rfl) (fun z σ9 ⟨hz, hσ⟩ => ?_)
      subst z
      subst σ9
      refine g_ifb_ne (tgt := 47) C dX10_put_39 (by decide) (fun h13 => ?_) (fun h13 => ?_)
      · refine g_iload C dX10_put_47 rfl ?_
        refine g_ifb_ne (tgt := 57) C dX10_put_49 (by decide) (fun h14 => ?_) (fun h14 => ?_)
        · refine g_iconst (z := 0) C dX10_put_57 rfl ?_
          refine g_istore (L' := [(5, .int (iZ 0)), (4, .int (iZ (bZ (1 ≤ v ∧ v ≤ 8)))), (0, .ref (κ.2.1 105)), (1, .int (iZ t)), (2, .int (iZ a)), (3, .int (iZ v))]) C dX10_put_58 (by decide) rfl ?_
          refine g_pc (pc' := 60) rfl ?_
          refine g_iload C dX10_put_60 rfl ?_
          refine g_if_eq (tgt := 75) C dX10_put_62 (by decide) (by unfold R32; omega) (fun h15 => ?_) (fun h15 => ?_)
          · refine g_iload_n C dX10_put_75 rfl ?_
            refine g_if_ne (tgt := 88) C dX10_put_76 (by decide) (by unfold R32; omega) (fun h16 => ?_) (fun h16 => ?_)
            · refine g_aload_n C dX10_put_88 rfl ?_
              refine gf_X10_22 C dX10_put_89 rfl ?_
              refine g_iload_n C dX10_put_92 rfl ?_
              refine g_iaz (n := t.toNat) (N := 5) (v := ((wst (vW V) t.toNat : Int) - 1)) C dX10_put_93 rfl rfl (by omega) (by omega) (by decide) ((hM.1.1 t.toNat (by omega)).2.2.1) ?_
              refine g_pc (pc' := 94) rfl ?_
              refine g_istore (L' := [(6, .int (iZ ((wst (vW V) t.toNat : Int) - 1))), (5, .int (iZ 0)), (4, .int (iZ (bZ (1 ≤ v ∧ v ≤ 8)))), (0, .ref (κ.2.1 105)), (1, .int (iZ t)), (2, .int (iZ a)), (3, .int (iZ v))]) C dX10_put_94 (by decide) rfl ?_
              refine g_iload_n C dX10_put_96 rfl ?_
              refine g_if_ne (tgt := 110) C dX10_put_97 (by decide) (by unfold R32; omega) (fun h17 => ?_) (fun h17 => ?_)
              · refine g_aload_n C dX10_put_110 rfl ?_
                refine gf_X10_22 C dX10_put_111 rfl ?_
                refine g_iload_n C dX10_put_114 rfl ?_
                refine g_iload_n C dX10_put_115 rfl ?_
                refine g_iast (n := t.toNat) (N := 5) C dX10_put_116 rfl rfl (by omega) (by omega) (by decide) ?_
                refine g_pc (pc' := 117) rfl ?_
                refine g_iload C dX10_put_117 rfl ?_
                exact g_ireturn C dX10_put_119 (by first | (exfalso; omega) | (rw [show aPut V t a v = ((wst (vW V) t.toNat : Int) - 1, (wset (vW V) 3 t.toNat 0 (v + 1).toNat, V.2)) by unfold aPut; rw [if_neg (by omega), if_neg (by omega), if_neg (by omega), if_pos (by omega)]]; exact ⟨rfl, hM.wor (Fm.rf.a (by decide) (by unfold SW; omega)) (hM.1.pus hO.l (by omega) (by omega)), Fr.rf.sI (by unfold YC; omega)⟩))
              · refine g_aload_n C dX10_put_100 rfl ?_
                refine gf_X10_19 C dX10_put_101 rfl ?_
                refine g_iload_n C dX10_put_104 rfl ?_
                refine g_iload_n C dX10_put_105 rfl ?_
                refine g_iast (n := t.toNat) (N := 5) C dX10_put_106 rfl rfl (by omega) (by omega) (by decide) ?_
                refine g_goto (tgt := 117) C dX10_put_107 (by decide) ?_
                refine g_pc (pc' := 117) rfl ?_
                refine g_iload C dX10_put_117 rfl ?_
                exact g_ireturn C dX10_put_119 (by first | (exfalso; omega) | (rw [show aPut V t a v = ((wst (vW V) t.toNat : Int) - 1, (wset (vW V) 3 t.toNat 0 (v + 1).toNat, V.2)) by unfold aPut; rw [if_neg (by omega), if_neg (by omega), if_neg (by omega), if_pos (by omega)]]; exact ⟨rfl, hM.wor (Fm.rf.a (by decide) (by unfold SW; omega)) (hM.1.pus hO.l (by omega) (by omega)), Fr.rf.sI (by unfold YC; omega)⟩))
            · refine g_aload_n C dX10_put_79 rfl ?_
              refine gf_X10_19 C dX10_put_80 rfl ?_
              refine g_iload_n C dX10_put_83 rfl ?_
              refine g_iaz (n := t.toNat) (N := 5) (v := (wb (vW V) t.toNat : Int)) C dX10_put_84 rfl rfl (by omega) (by omega) (by decide) ((hM.1.1 t.toNat (by omega)).2.1) ?_
              refine g_goto (tgt := 94) C dX10_put_85 (by decide) ?_
              refine g_istore (L' := [(6, .int (iZ (wb (vW V) t.toNat : Int))), (5, .int (iZ 0)), (4, .int (iZ (bZ (1 ≤ v ∧ v ≤ 8)))), (0, .ref (κ.2.1 105)), (1, .int (iZ t)), (2, .int (iZ a)), (3, .int (iZ v))]) C dX10_put_94 (by decide) rfl ?_
              refine g_pc (pc' := 96) rfl ?_
              refine g_iload_n C dX10_put_96 rfl ?_
              refine g_if_ne (tgt := 110) C dX10_put_97 (by decide) (by unfold R32; omega) (fun h18 => ?_) (fun h18 => ?_)
              · refine g_aload_n C dX10_put_110 rfl ?_
                refine gf_X10_22 C dX10_put_111 rfl ?_
                refine g_iload_n C dX10_put_114 rfl ?_
                refine g_iload_n C dX10_put_115 rfl ?_
                refine g_iast (n := t.toNat) (N := 5) C dX10_put_116 rfl rfl (by omega) (by omega) (by decide) ?_
                refine g_iload C dX10_put_117 rfl ?_
                refine g_pc (pc' := 119) rfl ?_
                exact g_ireturn C dX10_put_119 (by first | (exfalso; omega) | (rw [show aPut V t a v = ((wb (vW V) t.toNat : Int), (wset (vW V) 2 t.toNat 0 v.toNat, V.2)) by unfold aPut; rw [if_neg (by omega), if_neg (by omega), if_pos (by omega), if_pos (by omega)]]; exact ⟨rfl, hM.wor (Fm.rf.a (by decide) (by unfold SW; omega)) (hM.1.pub hO.l (by omega) (by omega)), Fr.rf.sI (by unfold YC; omega)⟩))
              · refine g_aload_n C dX10_put_100 rfl ?_
                refine gf_X10_19 C dX10_put_101 rfl ?_
                refine g_iload_n C dX10_put_104 rfl ?_
                refine g_iload_n C dX10_put_105 rfl ?_
                refine g_iast (n := t.toNat) (N := 5) C dX10_put_106 rfl rfl (by omega) (by omega) (by decide) ?_
                refine g_goto (tgt := 117) C dX10_put_107 (by decide) ?_
                refine g_iload C dX10_put_117 rfl ?_
                refine g_pc (pc' := 119) rfl ?_
                exact g_ireturn C dX10_put_119 (by first | (exfalso; omega) | (rw [show aPut V t a v = ((wb (vW V) t.toNat : Int), (wset (vW V) 2 t.toNat 0 v.toNat, V.2)) by unfold aPut; rw [if_neg (by omega), if_neg (by omega), if_pos (by omega), if_pos (by omega)]]; exact ⟨rfl, hM.wor (Fm.rf.a (by decide) (by unfold SW; omega)) (hM.1.pub hO.l (by omega) (by omega)), Fr.rf.sI (by unfold YC; omega)⟩))
          · exfalso; omega
        · refine g_bipush (z := (-6)) C dX10_put_52 rfl ?_
          refine g_goto (tgt := 58) C dX10_put_54 (by decide) ?_
          refine g_istore (L' := [(5, .int (iZ (-6))), (4, .int (iZ (bZ (1 ≤ v ∧ v ≤ 8)))), (0, .ref (κ.2.1 105)), (1, .int (iZ t)), (2, .int (iZ a)), (3, .int (iZ v))]) C dX10_put_58 (by decide) rfl ?_
          refine g_iload C dX10_put_60 rfl ?_
          refine g_if_eq (tgt := 75) C dX10_put_62 (by decide) (by unfold R32; omega) (fun h19 => ?_) (fun h19 => ?_)
          · exfalso; omega
          · refine g_aload_n C dX10_put_65 rfl ?_
            refine g_iload C dX10_put_66 rfl ?_
            refine g_pc (pc' := 68) rfl ?_
            refine gc_X10_274 C dX10_put_68 rfl (c_X10_no hI (Ml M) σ (y := 6) (v := (-6)) (by first | rfl | omega) (by decide)) (by decide) (Nat.le_of_ble_eq_true rfl) (fun z σ9 ⟨hz, hσ⟩ => ?_)
            subst z
            subst σ9
            refine g_bipush (z := 10) C dX10_put_71 rfl ?_
            refine g_isub C dX10_put_73 ?_
            exact g_ireturn C dX10_put_74 (by first | (exfalso; omega) | (rw [show aPut V t a v = rfT 6 V by unfold aPut; first | rw [if_pos (by omega)] | rw [if_neg (by omega), if_pos (by omega)] | rw [if_neg (by omega), if_neg (by omega), if_pos (by omega), if_neg (by omega)] | rw [if_neg (by omega), if_neg (by omega), if_neg (by omega), if_neg (by omega)]]; exact ⟨rfl, hM.ref (by omega), YC.ref⟩))
      · refine g_bipush (z := (-5)) C dX10_put_42 rfl ?_
        refine g_goto (tgt := 58) C dX10_put_44 (by decide) ?_
        refine g_istore (L' := [(5, .int (iZ (-5))), (4, .int (iZ (bZ (1 ≤ v ∧ v ≤ 8)))), (0, .ref (κ.2.1 105)), (1, .int (iZ t)), (2, .int (iZ a)), (3, .int (iZ v))]) C dX10_put_58 (by decide) rfl ?_
        refine g_iload C dX10_put_60 rfl ?_
        refine g_pc (pc' := 62) rfl ?_
        refine g_if_eq (tgt := 75) C dX10_put_62 (by decide) (by unfold R32; omega) (fun h20 => ?_) (fun h20 => ?_)
        · exfalso; omega
        · refine g_aload_n C dX10_put_65 rfl ?_
          refine g_iload C dX10_put_66 rfl ?_
          refine gc_X10_274 C dX10_put_68 rfl (c_X10_no hI (Ml M) σ (y := 5) (v := (-5)) (by first | rfl | omega) (by decide)) (by decide) (Nat.le_of_ble_eq_true rfl) (fun z σ9 ⟨hz, hσ⟩ => ?_)
          subst z
          subst σ9
          refine g_bipush (z := 10) C dX10_put_71 rfl ?_
          refine g_isub C dX10_put_73 ?_
          exact g_ireturn C dX10_put_74 (by first | (exfalso; omega) | (rw [show aPut V t a v = rfT 5 V by unfold aPut; first | rw [if_pos (by omega)] | rw [if_neg (by omega), if_pos (by omega)] | rw [if_neg (by omega), if_neg (by omega), if_pos (by omega), if_neg (by omega)] | rw [if_neg (by omega), if_neg (by omega), if_neg (by omega), if_neg (by omega)]]; exact ⟨rfl, hM.ref (by omega), YC.ref⟩))
    · refine g_iconst (z := (-1)) C dX10_put_29 rfl ?_
      refine g_pc (pc' := 30) rfl ?_
      refine g_goto (tgt := 58) C dX10_put_30 (by decide) ?_
      refine g_istore (L' := [(5, .int (iZ (-1))), (4, .int (iZ (bZ (1 ≤ v ∧ v ≤ 8)))), (0, .ref (κ.2.1 105)), (1, .int (iZ t)), (2, .int (iZ a)), (3, .int (iZ v))]) C dX10_put_58 (by decide) rfl ?_
      refine g_iload C dX10_put_60 rfl ?_
      refine g_if_eq (tgt := 75) C dX10_put_62 (by decide) (by unfold R32; omega) (fun h21 => ?_) (fun h21 => ?_)
      · exfalso; omega
      · refine g_aload_n C dX10_put_65 rfl ?_
        refine g_iload C dX10_put_66 rfl ?_
        refine gc_X10_274 C dX10_put_68 rfl (c_X10_no hI (Ml M) σ (y := 1) (v := (-1)) (by first | rfl | omega) (by decide)) (by decide) (Nat.le_of_ble_eq_true rfl) (fun z σ9 ⟨hz, hσ⟩ => ?_)
        subst z
        subst σ9
        refine g_bipush (z := 10) C dX10_put_71 rfl ?_
        refine g_pc (pc' := 73) rfl ?_
        refine g_isub C dX10_put_73 ?_
        exact g_ireturn C dX10_put_74 (by first | (exfalso; omega) | (rw [show aPut V t a v = rfT 1 V by unfold aPut; first | rw [if_pos (by omega)] | rw [if_neg (by omega), if_pos (by omega)] | rw [if_neg (by omega), if_neg (by omega), if_pos (by omega), if_neg (by omega)] | rw [if_neg (by omega), if_neg (by omega), if_neg (by omega), if_neg (by omega)]]; exact ⟨rfl, hM.ref (by omega), YC.ref⟩))
set_option maxHeartbeats 4000000 in
set_option maxRecDepth 100000 in
theorem c_X10_draw {κ : Kp} (hI : Ij κ) (l : Launch) (σ : St) {sd : Int} (hsd : σ.1 105 12 = sd) {n : Nat} {zn : Int} (hn : zn = (n : Int)) (hn1 : 0 < n ∧ n ≤ 100) : CtI κ l 0 yX10_draw cX10_draw 2 .int [.ref (κ.2.1 105), .int (iZ zn)] σ (fun z σ' => z = (dvl (drw sd) n : Int) ∧ σ' = sI σ 105 12 (drw sd)) := by
  refine Ct.ofG (own := RX10) hI (by decide +kernel) rfl (Nat.le_of_ble_eq_true rfl) rfl ?_
  intro M C hMl
  refine g_aload_n C dX10_draw_0 rfl ?_
  refine g_aload_n C dX10_draw_1 rfl ?_
  refine gf_X10_142 (z := sd) C dX10_draw_2 rfl hsd ?_
  refine g_ldcw (z := 1103515245) C dX10_draw_5 wq_498 ?_
  refine g_imul C dX10_draw_8 ?_
  refine g_sipush (z := 12345) C dX10_draw_9 rfl ?_
  refine g_iadd C dX10_draw_12 ?_
  refine g_pc (pc' := 13) rfl ?_
  refine gp_X10_142 C dX10_draw_13 rfl ?_
  refine g_aload_n C dX10_draw_16 rfl ?_
  refine gf_X10_142 (z := ((sd * 1103515245) + 12345)) C dX10_draw_17 rfl rI_s ?_
  refine g_bipush (z := 16) C dX10_draw_20 rfl ?_
  refine g_iushr C dX10_draw_22 ?_
  refine g_raw (ush_raw (drw sd)) ?_
  have hdl : (iZ (drw sd)).toBitVec.toNat < 2 ^ 32 := (iZ (drw sd)).toBitVec.isLt
  refine g_iload_n C dX10_draw_23 rfl ?_
  refine g_irem C dX10_draw_24 (by omega) ?_
  exact g_ireturn C dX10_draw_25 ⟨by rw [hn]; exact (Int.natCast_emod _ _).symm, rfl⟩
def SDr (k : Nat) : Prop := k = 107 ∨ k = 108
def SDt (j : Nat) : Prop := j = 12
set_option maxHeartbeats 4000000 in
set_option maxRecDepth 100000 in
theorem c_X10_drawsLine {κ : Kp} (hI : Ij κ) (l : Launch) (σ : St) {w : Wv} (hM : MW σ w) (hW : OKW w) : CtI κ l 1 yX10_drawsLine cX10_drawsLine 5 .int [.ref (κ.2.1 105)] σ (fun z σ' => z = (if wl w (wdT w) < 16 then 1 else 0) ∧ MW σ' (wDraw w) ∧ Fm SDr SDt σ σ') := by
  refine Ct.ofG (own := RX10) hI (by decide +kernel) rfl (Nat.le_of_ble_eq_true rfl) rfl ?_
  intro M C hMl
  refine g_aload_n C dX10_drawsLine_0 rfl ?_
  refine g_iconst (z := 5) C dX10_drawsLine_1 rfl ?_
  refine gc_X10_378 C dX10_drawsLine_2 rfl (c_X10_draw hI (Ml M) σ (sd := (wsd w)) hM.2.2.2 (n := 5) rfl ⟨by omega, by omega⟩) (by decide) (Nat.le_of_ble_eq_true rfl) (fun z σ1 ⟨hz, hσ⟩ => ?_)
  subst z
  subst σ1
  have ht5 := dvl_lt (drw (wsd w)) (n := 5) (by omega)
  refine g_istore_n (L' := [(1, .int (iZ ((dvl (drw (wsd w)) 5) : Int))), (0, .ref (κ.2.1 105))]) C dX10_drawsLine_5 rfl (by decide) rfl ?_
  refine g_aload_n C dX10_drawsLine_6 rfl ?_
  refine g_bipush (z := 20) C dX10_drawsLine_7 rfl ?_
  refine gc_X10_378 C dX10_drawsLine_9 rfl (c_X10_draw hI (Ml M) (sI σ 105 12 (drw (wsd w))) (sd := (drw (wsd w))) rI_s (n := 20) rfl ⟨by omega, by omega⟩) (by decide) (Nat.le_of_ble_eq_true rfl) (fun z σ1 ⟨hz, hσ⟩ => ?_)
  subst z
  subst σ1
  refine g_pc (pc' := 12) rfl ?_
  refine g_istore_n (L' := [(2, .int (iZ ((dvl (drw (drw (wsd w))) 20) : Int))), (1, .int (iZ ((dvl (drw (wsd w)) 5) : Int))), (0, .ref (κ.2.1 105))]) C dX10_drawsLine_12 rfl (by decide) rfl ?_
  refine g_aload_n C dX10_drawsLine_13 rfl ?_
  refine g_bipush (z := 20) C dX10_drawsLine_14 rfl ?_
  refine gc_X10_378 C dX10_drawsLine_16 rfl (c_X10_draw hI (Ml M) (sI (sI σ 105 12 (drw (wsd w))) 105 12 (drw (drw (wsd w)))) (sd := (drw (drw (wsd w)))) rI_s (n := 20) rfl ⟨by omega, by omega⟩) (by decide) (Nat.le_of_ble_eq_true rfl) (fun z σ1 ⟨hz, hσ⟩ => ?_)
  subst z
  subst σ1
  refine g_istore_n (L' := [(3, .int (iZ ((dvl (drw (drw (drw (wsd w)))) 20) : Int))), (2, .int (iZ ((dvl (drw (drw (wsd w))) 20) : Int))), (1, .int (iZ ((dvl (drw (wsd w)) 5) : Int))), (0, .ref (κ.2.1 105))]) C dX10_drawsLine_19 rfl (by decide) rfl ?_
  refine g_aload_n C dX10_drawsLine_20 rfl ?_
  refine g_bipush (z := 20) C dX10_drawsLine_21 rfl ?_
  refine gc_X10_378 C dX10_drawsLine_23 rfl (c_X10_draw hI (Ml M) (sI (sI (sI σ 105 12 (drw (wsd w))) 105 12 (drw (drw (wsd w)))) 105 12 (drw (drw (drw (wsd w))))) (sd := (drw (drw (drw (wsd w))))) rI_s (n := 20) rfl ⟨by omega, by omega⟩) (by decide) (Nat.le_of_ble_eq_true rfl) (fun z σ1 ⟨hz, hσ⟩ => ?_)
  subst z
  subst σ1
  refine g_pc (pc' := 26) rfl ?_
  refine g_istore (L' := [(4, .int (iZ ((dvl (drw (drw (drw (drw (wsd w))))) 20) : Int))), (3, .int (iZ ((dvl (drw (drw (drw (wsd w)))) 20) : Int))), (2, .int (iZ ((dvl (drw (drw (wsd w))) 20) : Int))), (1, .int (iZ ((dvl (drw (wsd w)) 5) : Int))), (0, .ref (κ.2.1 105))]) C dX10_drawsLine_26 (by decide) rfl ?_
  refine g_sig (σ' := (sI σ 105 12 (drw (drw (drw (drw (wsd w))))))) (by rw [sI_twice, sI_twice, sI_twice]) ?_
  have hM4 : MW (sI σ 105 12 (drw (drw (drw (drw (wsd w)))))) (wseed w (drw (drw (drw (drw (wsd w)))))) := hM.sed (fun t ht => (hW.1 t ht).1) (drw (drw (drw (drw (wsd w)))))
  have hwl := (hW.1 (dvl (drw (wsd w)) 5) ht5).1
  have hwe : wl (wseed w (drw (drw (drw (drw (wsd w)))))) (dvl (drw (wsd w)) 5) = wl w (dvl (drw (wsd w)) 5) := rfl
  refine g_aload_n C dX10_drawsLine_28 rfl ?_
  refine gf_X10_13 C dX10_drawsLine_29 rfl ?_
  refine g_iload_n C dX10_drawsLine_32 rfl ?_
  refine g_iaz (n := (dvl (drw (wsd w)) 5)) (N := 5) (v := (wl (wseed w (drw (drw (drw (drw (wsd w)))))) (dvl (drw (wsd w)) 5) : Int)) C dX10_drawsLine_33 rfl rfl (by omega) (by omega) (by decide) ((hM4.1 (dvl (drw (wsd w)) 5) (by omega)).1) ?_
  refine g_bipush (z := 16) C dX10_drawsLine_34 rfl ?_
  refine g_icmp_ne (tgt := 41) C dX10_drawsLine_36 (by decide) (by unfold R32; omega) (fun h1 => ?_) (fun h1 => ?_)
  · refine g_aload_n C dX10_drawsLine_41 rfl ?_
    refine g_pc (pc' := 42) rfl ?_
    refine g_iload_n C dX10_drawsLine_42 rfl ?_
    refine g_iload_n C dX10_drawsLine_43 rfl ?_
    refine g_iload_n C dX10_drawsLine_44 rfl ?_
    refine g_iload C dX10_drawsLine_45 rfl ?_
    have hwl5 : wl w (dvl (drw (wsd w)) 5) < 16 := by have h5 := hwl; have h6 : wl (wseed w (drw (drw (drw (drw (wsd w)))))) (dvl (drw (wsd w)) 5) = wl w (dvl (drw (wsd w)) 5) := rfl; omega
    refine gc_X10_367 C dX10_drawsLine_47 rfl (c_X10_putsLine hI (Ml M) (sI σ 105 12 (drw (drw (drw (drw (wsd w)))))) hM4 (fun t ht => (hW.1 t ht).1) (t := (dvl (drw (wsd w)) 5)) (a := dvl (drw (drw (wsd w))) 20) (b := dvl (drw (drw (drw (wsd w)))) 20) (c := dvl (drw (drw (drw (drw (wsd w))))) 20) rfl rfl rfl rfl ht5 hwl5) (by decide) (Nat.le_of_ble_eq_true rfl) (fun σ1 ⟨hM1, hF1⟩ => ?_)
    refine g_iconst (z := 1) C dX10_drawsLine_50 rfl ?_
    exact g_ireturn C dX10_drawsLine_51 ⟨by unfold wdT; rw [if_pos hwl5], hM1, Fm.tr (S := SDr) (T := SDt) (Fm.rf.t rfl) (hF1.mono (fun k e => e) (fun j e => e.elim))⟩
  · refine g_iconst (z := 0) C dX10_drawsLine_39 rfl ?_
    refine g_pc (pc' := 40) rfl ?_
    exact g_ireturn C dX10_drawsLine_40 ⟨by unfold wdT; rw [if_neg (by omega)], by unfold wDraw wAdd wdT; rw [if_neg (by omega)]; exact hM4, Fm.rf.t rfl⟩
set_option maxHeartbeats 4000000 in
set_option maxRecDepth 100000 in
theorem c_X10_drawn {κ : Kp} (hI : Ij κ) (l : Launch) (σ : St) {V : Vw} (hM : MV σ V) (hO : OKV V) {n : Int} (hn : R32 n) : CtI κ l 3 yX10_drawn cX10_drawn 4 .int [.ref (κ.2.1 105), .int (iZ n)] σ (fun z σ' => z = (aDrawn V n).1 ∧ MV σ' (aDrawn V n).2 ∧ Fr YC σ σ') := by
  refine Ct.ofG (own := RX10) hI (by decide +kernel) rfl (Nat.le_of_ble_eq_true rfl) rfl ?_
  intro M C hMl
  refine g_iload_n C dX10_drawn_0 rfl ?_
  refine g_iconst (z := 1) C dX10_drawn_1 rfl ?_
  refine g_bipush (z := 40) C dX10_drawn_2 rfl ?_
  refine gc_X10_145 C dX10_drawn_4 (c_X10_isIn hI (Ml M) σ (v := n) (a := 1) (b := 40) (by unfold R32; omega) (by unfold R32; omega) (by unfold R32; omega)) (by decide) (Nat.le_of_ble_eq_true rfl) (fun z σ9 ⟨hz, hσ⟩ => ?_)
  subst z
  subst σ9
  refine g_ifb_ne (tgt := 17) C dX10_drawn_7 (by decide) (fun h1 => ?_) (fun h1 => ?_)
  · refine g_iconst (z := 0) C dX10_drawn_17 rfl ?_
    refine g_istore_n (L' := [(2, .int (iZ 0)), (0, .ref (κ.2.1 105)), (1, .int (iZ n))]) C dX10_drawn_18 rfl (by decide) rfl ?_
    refine g_pc (pc' := 19) rfl ?_
    refine g_iconst (z := 0) C dX10_drawn_19 rfl ?_
    refine g_istore_n (L' := [(3, .int (iZ 0)), (2, .int (iZ 0)), (0, .ref (κ.2.1 105)), (1, .int (iZ n))]) C dX10_drawn_20 rfl (by decide) rfl ?_
    have lp21 : ∀ (fz9 : Nat) (i : Nat) (x2 : Int) (x3 : Int) (s : St), (n.toNat - i < fz9) → (x3 = (i : Int)) → ((i : Int) ≤ n) → (x2 = ((drN (vW V) i).2 : Int)) → (Fm SDr SDt σ s) → (MW s (drN (vW V) i).1) → (1 ≤ n ∧ n ≤ 40) → ((drN (vW V) i).2 ≤ i) → G M κ 4 (En M κ (qI κ (fun z σ' => z = (aDrawn V n).1 ∧ MV σ' (aDrawn V n).2 ∧ Fr YC σ σ'))) 21 [(0, .ref (κ.2.1 105)), (1, .int (iZ n)), (2, .int (iZ x2)), (3, .int (iZ x3))] [] s := by
      intro fz9
      induction fz9 with
      | zero => intro i x2 x3 s hm0; exact absurd hm0 (Nat.not_lt_zero _)
      | succ fz9 ih21 =>
        intro i x2 x3 s hm21 hx3 hi hx2 hF hMs hnn hb
        refine g_iload_n C dX10_drawn_21 rfl ?_
        refine g_iload_n C dX10_drawn_22 rfl ?_
        refine g_icmp_ge (tgt := 39) C dX10_drawn_23 (by decide) (by unfold R32; omega) (fun h2 => ?_) (fun h2 => ?_)
        · obtain rfl : i = n.toNat := by omega
          refine g_iload_n C dX10_drawn_39 rfl ?_
          exact g_ireturn C dX10_drawn_40 (by rw [show aDrawn V n = (((drN (vW V) n.toNat).2 : Int), ((drN (vW V) n.toNat).1, V.2)) by unfold aDrawn; (first | rw [if_pos (by omega)] | rw [if_neg (by omega)])]; exact ⟨hx2, hM.wor (hF.mono (fun k e => by unfold SDr at e; unfold SW; omega) (fun j e => by unfold SDt at e; unfold SWt; omega)) hMs, hF.toY (fun k e => by unfold SDr at e; omega)⟩)
        · refine g_iload_n C dX10_drawn_26 rfl ?_
          refine g_pc (pc' := 27) rfl ?_
          refine g_aload_n C dX10_drawn_27 rfl ?_
          refine gc_X10_381 C dX10_drawn_28 rfl (c_X10_drawsLine hI (Ml M) s hMs (drN_OK hO.1 i)) (by decide) (Nat.le_of_ble_eq_true rfl) (fun z s1 ⟨hz, hMs1, hF1⟩ => ?_)
          refine g_iadd C dX10_drawn_31 ?_
          refine g_istore_n (L' := [(2, .int (iZ (x2 + z))), (0, .ref (κ.2.1 105)), (1, .int (iZ n)), (3, .int (iZ x3))]) C dX10_drawn_32 rfl (by decide) rfl ?_
          refine g_iinc (q := 3) (v := (x3 + 1)) (L' := [(3, .int (iZ (x3 + 1))), (2, .int (iZ (x2 + z))), (0, .ref (κ.2.1 105)), (1, .int (iZ n))]) C dX10_drawn_33 rfl rfl (by decide) rfl ?_
          refine g_goto (tgt := 21) C dX10_drawn_36 (by decide) ?_
          exact g_loc [2, 3, 1, 0] (by rfl) (ih21 (i + 1) (x2 + z) (x3 + 1) s1 (by omega) (by omega) (by omega) (by rw [drN, hx2, hz]; show _ = (((drN (vW V) i).2 + _ : Nat) : Int); split <;> omega) (hF.tr hF1) hMs1 hnn (by rw [drN]; show (drN (vW V) i).2 + _ ≤ _; split <;> omega))
    exact g_loc [2, 3, 1, 0] (by rfl) (lp21 _ 0 0 0 σ (Nat.lt_succ_self _) rfl (by omega) rfl Fm.rf hM.1 (by omega) (Nat.le_refl _))
  · refine g_aload_n C dX10_drawn_10 rfl ?_
    refine g_bipush (z := (-6)) C dX10_drawn_11 rfl ?_
    refine g_pc (pc' := 13) rfl ?_
    refine gc_X10_274 C dX10_drawn_13 rfl (c_X10_no hI (Ml M) σ (y := 6) (v := (-6)) (by first | rfl | omega) (by decide)) (by decide) (Nat.le_of_ble_eq_true rfl) (fun z σ9 ⟨hz, hσ⟩ => ?_)
    subst z
    subst σ9
    exact g_ireturn C dX10_drawn_16 (by rw [show aDrawn V n = rfs 6 V by unfold aDrawn; (first | rw [if_pos (by omega)] | rw [if_neg (by omega)])]; exact ⟨rfl, hM.ref (by omega), YC.ref⟩)

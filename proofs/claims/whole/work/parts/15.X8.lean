set_option maxHeartbeats 4000000 in
set_option maxRecDepth 100000 in
theorem c_X8_hasWithin {κ : Kp} (hI : Ij κ) (l : Launch) (σ : St) {w : Wv} (hX : XW 0 σ w) (hW : OKW w) {s j : Nat} {zs zj : Int} (hs : zs = (s : Int)) (hj : zj = (j : Int)) (hs32 : s < 32) (hjn : j < wnj w) : CtI κ l 1 yX8_hasWithin cX8_hasWithin 3 .boolean [.ref (κ.2.1 0), .int (iZ zs), .int (iZ zj)] σ (fun z σ' => z = bZ (bitv s (wja w j / 3) = 1 ∧ bitv s (wjb w j / 3) = 1) ∧ σ' = σ) := by
  refine Ct.ofG (own := RX8) hI (by decide +kernel) rfl (Nat.le_of_ble_eq_true rfl) rfl ?_
  intro M C hMl
  have hjo := hW.2.2.2 j hjn
  have hj8 := hW.2.2.1
  refine g_iload_n C dX8_hasWithin_0 rfl ?_
  refine g_aload_n C dX8_hasWithin_1 rfl ?_
  refine gf_X8_31 C dX8_hasWithin_2 rfl ?_
  refine g_iload_n C dX8_hasWithin_5 rfl ?_
  refine g_iaz (n := j) (N := 8) (v := (wja w j : Int)) C dX8_hasWithin_6 rfl rfl (by omega) (by omega) (by decide) ((hX.2.2.1.2 j (by omega)).1) ?_
  refine gc_X8_44 C dX8_hasWithin_7 (c_X9_isWithin hI (Ml M) σ (s := s) hs (p := wja w j) rfl hs32 (by omega)) (by decide) (Nat.le_of_ble_eq_true rfl) (fun z σ1 ⟨hz, hσ⟩ => ?_)
  subst z
  subst σ1
  refine g_ifb_eq (tgt := 30) C dX8_hasWithin_10 (by decide) (fun h1 => ?_) (fun h1 => ?_)
  · refine g_pc (pc' := 30) rfl ?_
    refine g_iconst (z := 0) C dX8_hasWithin_30 rfl ?_
    exact g_zreturn C dX8_hasWithin_31 (by omega) ⟨(bZ_f (fun q => by first | exact absurd q.1 (by assumption) | exact absurd q.2 (by assumption))).symm, rfl⟩
  · refine g_iload_n C dX8_hasWithin_13 rfl ?_
    refine g_aload_n C dX8_hasWithin_14 rfl ?_
    refine gf_X8_34 C dX8_hasWithin_15 rfl ?_
    refine g_iload_n C dX8_hasWithin_18 rfl ?_
    refine g_iaz (n := j) (N := 8) (v := (wjb w j : Int)) C dX8_hasWithin_19 rfl rfl (by omega) (by omega) (by decide) ((hX.2.2.1.2 j (by omega)).2) ?_
    refine gc_X8_44 C dX8_hasWithin_20 (c_X9_isWithin hI (Ml M) σ (s := s) hs (p := wjb w j) rfl hs32 (by omega)) (by decide) (Nat.le_of_ble_eq_true rfl) (fun z σ1 ⟨hz, hσ⟩ => ?_)
    subst z
    subst σ1
    refine g_pc (pc' := 23) rfl ?_
    refine g_ifb_eq (tgt := 30) C dX8_hasWithin_23 (by decide) (fun h2 => ?_) (fun h2 => ?_)
    · refine g_iconst (z := 0) C dX8_hasWithin_30 rfl ?_
      exact g_zreturn C dX8_hasWithin_31 (by omega) ⟨(bZ_f (fun q => by first | exact absurd q.1 (by assumption) | exact absurd q.2 (by assumption))).symm, rfl⟩
    · refine g_iconst (z := 1) C dX8_hasWithin_26 rfl ?_
      refine g_goto (tgt := 31) C dX8_hasWithin_27 (by decide) ?_
      exact g_zreturn C dX8_hasWithin_31 (by omega) ⟨(bZ_t ⟨by assumption, by assumption⟩).symm, rfl⟩
set_option maxHeartbeats 4000000 in
set_option maxRecDepth 100000 in
theorem c_X8_placeIn {κ : Kp} (hI : Ij κ) (l : Launch) (σ : St) {w : Wv} (hX : XW 0 σ w) (hW : OKW w) {s j : Nat} {zs zj : Int} (hs : zs = (s : Int)) (hj : zj = (j : Int)) (hs32 : s < 32) (hjn : j < wnj w) : CtI κ l 1 yX8_placeIn cX8_placeIn 3 .int [.ref (κ.2.1 0), .int (iZ zs), .int (iZ zj)] σ (fun z σ' => z = (wpl w s j : Int) ∧ σ' = σ) := by
  refine Ct.ofG (own := RX8) hI (by decide +kernel) rfl (Nat.le_of_ble_eq_true rfl) rfl ?_
  intro M C hMl
  have hjo := hW.2.2.2 j hjn
  have hj8 := hW.2.2.1
  refine g_iload_n C dX8_placeIn_0 rfl ?_
  refine g_aload_n C dX8_placeIn_1 rfl ?_
  refine gf_X8_31 C dX8_placeIn_2 rfl ?_
  refine g_iload_n C dX8_placeIn_5 rfl ?_
  refine g_iaz (n := j) (N := 8) (v := (wja w j : Int)) C dX8_placeIn_6 rfl rfl (by omega) (by omega) (by decide) ((hX.2.2.1.2 j (by omega)).1) ?_
  refine gc_X8_44 C dX8_placeIn_7 (c_X9_isWithin hI (Ml M) σ (s := s) hs (p := wja w j) rfl hs32 (by omega)) (by decide) (Nat.le_of_ble_eq_true rfl) (fun z σ1 ⟨hz, hσ⟩ => ?_)
  subst z
  subst σ1
  refine g_ifb_eq (tgt := 22) C dX8_placeIn_10 (by decide) (fun h1 => ?_) (fun h1 => ?_)
  · refine g_pc (pc' := 22) rfl ?_
    refine g_aload_n C dX8_placeIn_22 rfl ?_
    refine gf_X8_34 C dX8_placeIn_23 rfl ?_
    refine g_iload_n C dX8_placeIn_26 rfl ?_
    refine g_iaz (n := j) (N := 8) (v := (wjb w j : Int)) C dX8_placeIn_27 rfl rfl (by omega) (by omega) (by decide) ((hX.2.2.1.2 j (by omega)).2) ?_
    exact g_ireturn C dX8_placeIn_28 ⟨by unfold wpl; first | rw [if_pos (by assumption)] | rw [if_neg (by assumption)], rfl⟩
  · refine g_aload_n C dX8_placeIn_13 rfl ?_
    refine gf_X8_31 C dX8_placeIn_14 rfl ?_
    refine g_iload_n C dX8_placeIn_17 rfl ?_
    refine g_pc (pc' := 18) rfl ?_
    refine g_iaz (n := j) (N := 8) (v := (wja w j : Int)) C dX8_placeIn_18 rfl rfl (by omega) (by omega) (by decide) ((hX.2.2.1.2 j (by omega)).1) ?_
    refine g_goto (tgt := 28) C dX8_placeIn_19 (by decide) ?_
    exact g_ireturn C dX8_placeIn_28 ⟨by unfold wpl; first | rw [if_pos (by assumption)] | rw [if_neg (by assumption)], rfl⟩
set_option maxHeartbeats 4000000 in
set_option maxRecDepth 100000 in
theorem c_X8_allLines {κ : Kp} (hI : Ij κ) (l : Launch) (σ : St) {w : Wv} (hX : XW 0 σ w) (hW : OKW w) : CtI κ l 0 yX8_allLines cX8_allLines 3 .int [.ref (κ.2.1 0)] σ (fun z σ' => z = (wsum w 5 : Int) ∧ σ' = σ) := by
  refine Ct.ofG (own := RX8) hI (by decide +kernel) rfl (Nat.le_of_ble_eq_true rfl) rfl ?_
  intro M C hMl
  refine g_iconst (z := 0) C dX8_allLines_0 rfl ?_
  refine g_istore_n (L' := [(1, .int (iZ 0)), (0, .ref (κ.2.1 0))]) C dX8_allLines_1 rfl (by decide) rfl ?_
  refine g_iconst (z := 0) C dX8_allLines_2 rfl ?_
  refine g_istore_n (L' := [(2, .int (iZ 0)), (1, .int (iZ 0)), (0, .ref (κ.2.1 0))]) C dX8_allLines_3 rfl (by decide) rfl ?_
  have lp4 : ∀ (fz9 : Nat) (t : Nat) (x1 : Int) (x2 : Int), (5 - t < fz9) → (x2 = (t : Int)) → (t ≤ 5) → (x1 = (wsum w t : Int)) → G M κ 3 (En M κ (qI κ (fun z σ' => z = (wsum w 5 : Int) ∧ σ' = σ))) 4 [(0, .ref (κ.2.1 0)), (1, .int (iZ x1)), (2, .int (iZ x2))] [] σ := by
    intro fz9
    induction fz9 with
    | zero => intro t x1 x2 hm0; exact absurd hm0 (Nat.not_lt_zero _)
    | succ fz9 ih =>
      intro t x1 x2 hm4 hx2 ht hx1
      refine g_iload_n C dX8_allLines_4 rfl ?_
      refine g_iconst (z := 5) C dX8_allLines_5 rfl ?_
      refine g_icmp_ge (tgt := 27) C dX8_allLines_6 (by decide) (by unfold R32; omega) (fun h1 => ?_) (fun h1 => ?_)
      · refine g_pc (pc' := 27) rfl ?_
        refine g_iload_n C dX8_allLines_27 rfl ?_
        exact g_ireturn C dX8_allLines_28 ⟨by rw [hx1, show t = 5 by omega], rfl⟩
      · refine g_iload_n C dX8_allLines_9 rfl ?_
        refine g_aload_n C dX8_allLines_10 rfl ?_
        refine gf_X8_11 C dX8_allLines_11 rfl ?_
        refine g_iload_n C dX8_allLines_14 rfl ?_
        have hk2 : kd (2 + 2 * t) = 5 := kd_tab t (by omega)
        refine g_aald (n := t) (N := 5) (c := 23) (r := (2 + 2 * t)) C dX8_allLines_15 rfl (by decide) rfl (by decide) rfl (by omega) (by omega) (by decide) (rf_23 _ _ rfl) ?_
        refine gf_X8_48 (z := (wl w t : Int)) C dX8_allLines_16 hk2 ((hX.1 t (by omega)).1) ?_
        refine g_pc (pc' := 19) rfl ?_
        refine g_iadd C dX8_allLines_19 ?_
        refine g_istore_n (L' := [(1, .int (iZ (x1 + (wl w t : Int)))), (0, .ref (κ.2.1 0)), (2, .int (iZ x2))]) C dX8_allLines_20 rfl (by decide) rfl ?_
        refine g_iinc (q := 2) (v := (x2 + 1)) (L' := [(2, .int (iZ (x2 + 1))), (1, .int (iZ (x1 + (wl w t : Int)))), (0, .ref (κ.2.1 0))]) C dX8_allLines_21 rfl rfl (by decide) rfl ?_
        refine g_goto (tgt := 4) C dX8_allLines_24 (by decide) ?_
        exact g_loc [2, 1, 0] (by rfl) (ih (t + 1) (x1 + (wl w t : Int)) (x2 + 1) (by omega) (by omega) (by omega) (by rw [hx1]; exact (Int.natCast_add _ _).symm))
  exact g_loc [2, 1, 0] (by rfl) (lp4 _ 0 0 0 (Nat.lt_succ_self _) rfl (by omega) rfl)
set_option maxHeartbeats 4000000 in
set_option maxRecDepth 100000 in
theorem c_X8_drawBelow {κ : Kp} (hI : Ij κ) (l : Launch) (σ : St) {sd : Int} (hsd : σ.1 0 8 = sd) {n : Nat} {zn : Int} (hn : zn = (n : Int)) (hn1 : 0 < n ∧ n ≤ 100) : CtI κ l 0 yX8_drawBelow cX8_drawBelow 2 .int [.ref (κ.2.1 0), .int (iZ zn)] σ (fun z σ' => z = (dvl (drw sd) n : Int) ∧ σ' = sI σ 0 8 (drw sd)) := by
  refine Ct.ofG (own := RX8) hI (by decide +kernel) rfl (Nat.le_of_ble_eq_true rfl) rfl ?_
  intro M C hMl
  refine g_aload_n C dX8_drawBelow_0 rfl ?_
  refine g_aload_n C dX8_drawBelow_1 rfl ?_
  refine gf_X8_40 (z := sd) C dX8_drawBelow_2 rfl hsd ?_
  refine g_ldc (z := 1103515245) C dX8_drawBelow_5 wq_816 ?_
  refine g_imul C dX8_drawBelow_7 ?_
  refine g_sipush (z := 12345) C dX8_drawBelow_8 rfl ?_
  refine g_iadd C dX8_drawBelow_11 ?_
  refine g_pc (pc' := 12) rfl ?_
  refine gp_X8_40 C dX8_drawBelow_12 rfl ?_
  refine g_aload_n C dX8_drawBelow_15 rfl ?_
  refine gf_X8_40 (z := ((sd * 1103515245) + 12345)) C dX8_drawBelow_16 rfl rI_s ?_
  refine g_bipush (z := 16) C dX8_drawBelow_19 rfl ?_
  refine g_iushr C dX8_drawBelow_21 ?_
  refine g_raw (ush_raw (drw sd)) ?_
  have hdl : (iZ (drw sd)).toBitVec.toNat < 2 ^ 32 := (iZ (drw sd)).toBitVec.isLt
  refine g_iload_n C dX8_drawBelow_22 rfl ?_
  refine g_irem C dX8_drawBelow_23 (by omega) ?_
  exact g_ireturn C dX8_drawBelow_24 ⟨by rw [hn]; exact (Int.natCast_emod _ _).symm, rfl⟩
theorem sI_twice {σ : St} {k j : Nat} {u v : Int} : sI (sI σ k j u) k j v = sI σ k j v := by
  unfold sI
  congr 1
  funext a b
  by_cases h : a = k ∧ b = j
  · rw [if_pos h, if_pos h]
  · rw [if_neg h, if_neg h]; exact if_neg h
/-- a drawn line: the table, the new view -/
def wdT (w : Wv) : Nat := dvl (drw (wsd w)) 5
def wDraw (w : Wv) : Wv := wAdd (wseed w (drw (drw (drw (drw (wsd w)))))) (wdT w) (dvl (drw (drw (wsd w))) 20) (dvl (drw (drw (drw (wsd w)))) 20) (dvl (drw (drw (drw (drw (wsd w))))) 20)
theorem OKW.draw {w : Wv} (h : OKW w) : OKW (wDraw w) := by
  have a := dvl_lt (drw (drw (wsd w))) (n := 20) (by omega)
  have b := dvl_lt (drw (drw (drw (wsd w)))) (n := 20) (by omega)
  have c := dvl_lt (drw (drw (drw (drw (wsd w))))) (n := 20) (by omega)
  exact (h.seed _).add (dvl_lt _ (by omega)) ⟨by omega, by omega, by omega⟩
theorem tAdd_fr {σ : St} {S : Nat → Prop} {k n : Nat} {a b c : Int} (h1 : S k) (h2 : S (k + 1)) : Fr S σ (tAdd σ k n a b c) := by
  unfold tAdd
  split
  · exact (((Fr.rf.sI h2).sI h2).sI h2).sI h1
  · exact Fr.rf
def W0C (k : Nat) : Prop := k ≤ 16
set_option maxHeartbeats 4000000 in
set_option maxRecDepth 100000 in
theorem c_X8_drawLine {κ : Kp} (hI : Ij κ) (l : Launch) (σ : St) {w : Wv} (hX : XW 0 σ w) (hW : OKW w) : CtI κ l 1 yX8_drawLine cX8_drawLine 6 .boolean [.ref (κ.2.1 0)] σ (fun z σ' => z = bZ (wl w (wdT w) < 16) ∧ XW 0 σ' (wDraw w) ∧ Fr W0C σ σ') := by
  refine Ct.ofG (own := RX8) hI (by decide +kernel) rfl (Nat.le_of_ble_eq_true rfl) rfl ?_
  intro M C hMl
  refine g_aload_n C dX8_drawLine_0 rfl ?_
  refine gf_X8_11 C dX8_drawLine_1 rfl ?_
  refine g_aload_n C dX8_drawLine_4 rfl ?_
  refine g_iconst (z := 5) C dX8_drawLine_5 rfl ?_
  refine gc_X8_52 C dX8_drawLine_6 rfl (c_X8_drawBelow hI (Ml M) σ (sd := (wsd w)) hX.2.2.2 (n := 5) rfl ⟨by omega, by omega⟩) (by decide) (Nat.le_of_ble_eq_true rfl) (fun z σ1 ⟨hz, hσ⟩ => ?_)
  subst z
  subst σ1
  have ht5 := dvl_lt (drw (wsd w)) (n := 5) (by omega)
  have hk1 : kd (2 + 2 * (dvl (drw (wsd w)) 5)) = 5 := kd_tab (dvl (drw (wsd w)) 5) (by omega)
  refine g_aald (n := (dvl (drw (wsd w)) 5)) (N := 5) (c := 23) (r := (2 + 2 * (dvl (drw (wsd w)) 5))) C dX8_drawLine_9 rfl (by decide) rfl (by decide) rfl (by omega) (by omega) (by decide) (rf_23 _ _ rfl) ?_
  refine g_astore_n (L' := [(1, .ref (κ.2.1 (2 + 2 * (dvl (drw (wsd w)) 5)))), (0, .ref (κ.2.1 0))]) C dX8_drawLine_10 rfl (by decide) rfl ?_
  refine g_pc (pc' := 11) rfl ?_
  refine g_aload_n C dX8_drawLine_11 rfl ?_
  refine g_bipush (z := 20) C dX8_drawLine_12 rfl ?_
  refine gc_X8_52 C dX8_drawLine_14 rfl (c_X8_drawBelow hI (Ml M) (sI σ 0 8 (drw (wsd w))) (sd := (drw (wsd w))) rI_s (n := 20) rfl ⟨by omega, by omega⟩) (by decide) (Nat.le_of_ble_eq_true rfl) (fun z σ1 ⟨hz, hσ⟩ => ?_)
  subst z
  subst σ1
  refine g_istore_n (L' := [(2, .int (iZ ((dvl (drw (drw (wsd w))) 20) : Int))), (1, .ref (κ.2.1 (2 + 2 * (dvl (drw (wsd w)) 5)))), (0, .ref (κ.2.1 0))]) C dX8_drawLine_17 rfl (by decide) rfl ?_
  refine g_aload_n C dX8_drawLine_18 rfl ?_
  refine g_bipush (z := 20) C dX8_drawLine_19 rfl ?_
  refine gc_X8_52 C dX8_drawLine_21 rfl (c_X8_drawBelow hI (Ml M) (sI (sI σ 0 8 (drw (wsd w))) 0 8 (drw (drw (wsd w)))) (sd := (drw (drw (wsd w)))) rI_s (n := 20) rfl ⟨by omega, by omega⟩) (by decide) (Nat.le_of_ble_eq_true rfl) (fun z σ1 ⟨hz, hσ⟩ => ?_)
  subst z
  subst σ1
  refine g_istore_n (L' := [(3, .int (iZ ((dvl (drw (drw (drw (wsd w)))) 20) : Int))), (2, .int (iZ ((dvl (drw (drw (wsd w))) 20) : Int))), (1, .ref (κ.2.1 (2 + 2 * (dvl (drw (wsd w)) 5)))), (0, .ref (κ.2.1 0))]) C dX8_drawLine_24 rfl (by decide) rfl ?_
  refine g_pc (pc' := 25) rfl ?_
  refine g_aload_n C dX8_drawLine_25 rfl ?_
  refine g_bipush (z := 20) C dX8_drawLine_26 rfl ?_
  refine gc_X8_52 C dX8_drawLine_28 rfl (c_X8_drawBelow hI (Ml M) (sI (sI (sI σ 0 8 (drw (wsd w))) 0 8 (drw (drw (wsd w)))) 0 8 (drw (drw (drw (wsd w))))) (sd := (drw (drw (drw (wsd w))))) rI_s (n := 20) rfl ⟨by omega, by omega⟩) (by decide) (Nat.le_of_ble_eq_true rfl) (fun z σ1 ⟨hz, hσ⟩ => ?_)
  subst z
  subst σ1
  refine g_sig (σ' := (sI σ 0 8 (drw (drw (drw (drw (wsd w))))))) (by rw [sI_twice, sI_twice, sI_twice]) ?_
  have hX4 : XW 0 (sI σ 0 8 (drw (drw (drw (drw (wsd w)))))) (wseed w (drw (drw (drw (drw (wsd w)))))) := hX.seed (drw (drw (drw (drw (wsd w)))))
  have hwl := (hW.1 (dvl (drw (wsd w)) 5) ht5).1
  refine g_istore (L' := [(4, .int (iZ ((dvl (drw (drw (drw (drw (wsd w))))) 20) : Int))), (3, .int (iZ ((dvl (drw (drw (drw (wsd w)))) 20) : Int))), (2, .int (iZ ((dvl (drw (drw (wsd w))) 20) : Int))), (1, .ref (κ.2.1 (2 + 2 * (dvl (drw (wsd w)) 5)))), (0, .ref (κ.2.1 0))]) C dX8_drawLine_31 (by decide) rfl ?_
  refine g_aload_n C dX8_drawLine_33 rfl ?_
  refine gf_X8_48 (z := (wl w (dvl (drw (wsd w)) 5) : Int)) C dX8_drawLine_34 hk1 ((hX4.1 (dvl (drw (wsd w)) 5) (by omega)).1) ?_
  refine g_bipush (z := 16) C dX8_drawLine_37 rfl ?_
  refine g_icmp_ge (tgt := 46) C dX8_drawLine_39 (by decide) (by unfold R32; omega) (fun h2 => ?_) (fun h2 => ?_)
  · refine g_pc (pc' := 46) rfl ?_
    refine g_iconst (z := 0) C dX8_drawLine_46 rfl ?_
    refine g_istore (L' := [(5, .int (iZ 0)), (4, .int (iZ ((dvl (drw (drw (drw (drw (wsd w))))) 20) : Int))), (3, .int (iZ ((dvl (drw (drw (drw (wsd w)))) 20) : Int))), (2, .int (iZ ((dvl (drw (drw (wsd w))) 20) : Int))), (1, .ref (κ.2.1 (2 + 2 * (dvl (drw (wsd w)) 5)))), (0, .ref (κ.2.1 0))]) C dX8_drawLine_47 (by decide) rfl ?_
    refine g_aload_n C dX8_drawLine_49 rfl ?_
    refine g_iload_n C dX8_drawLine_50 rfl ?_
    refine g_iload_n C dX8_drawLine_51 rfl ?_
    refine g_iload C dX8_drawLine_52 rfl ?_
    refine gc_X8_56 C dX8_drawLine_54 hk1 (c_X5_add hI (Ml M) (sI σ 0 8 (drw (drw (drw (drw (wsd w)))))) hk1 (n := wl w (dvl (drw (wsd w)) 5)) (hX4.1 (dvl (drw (wsd w)) 5) ht5).1 (hW.1 (dvl (drw (wsd w)) 5) ht5).1 _ _ _) (by decide) (Nat.le_of_ble_eq_true rfl) (fun σ1 hσ => ?_)
    subst σ1
    refine g_iload C dX8_drawLine_57 rfl ?_
    refine g_pc (pc' := 59) rfl ?_
    exact g_zreturn C dX8_drawLine_59 (by omega) ⟨(bZ_f (by unfold wdT; omega)).symm, hX4.add ht5 _ _ _, (Fr.rf.sI (by unfold W0C; omega)).tr (tAdd_fr (by unfold W0C; omega) (by unfold W0C; omega))⟩
  · refine g_iconst (z := 1) C dX8_drawLine_42 rfl ?_
    refine g_goto (tgt := 47) C dX8_drawLine_43 (by decide) ?_
    refine g_istore (L' := [(5, .int (iZ 1)), (4, .int (iZ ((dvl (drw (drw (drw (drw (wsd w))))) 20) : Int))), (3, .int (iZ ((dvl (drw (drw (drw (wsd w)))) 20) : Int))), (2, .int (iZ ((dvl (drw (drw (wsd w))) 20) : Int))), (1, .ref (κ.2.1 (2 + 2 * (dvl (drw (wsd w)) 5)))), (0, .ref (κ.2.1 0))]) C dX8_drawLine_47 (by decide) rfl ?_
    refine g_aload_n C dX8_drawLine_49 rfl ?_
    refine g_iload_n C dX8_drawLine_50 rfl ?_
    refine g_iload_n C dX8_drawLine_51 rfl ?_
    refine g_iload C dX8_drawLine_52 rfl ?_
    refine g_pc (pc' := 54) rfl ?_
    refine gc_X8_56 C dX8_drawLine_54 hk1 (c_X5_add hI (Ml M) (sI σ 0 8 (drw (drw (drw (drw (wsd w)))))) hk1 (n := wl w (dvl (drw (wsd w)) 5)) (hX4.1 (dvl (drw (wsd w)) 5) ht5).1 (hW.1 (dvl (drw (wsd w)) 5) ht5).1 _ _ _) (by decide) (Nat.le_of_ble_eq_true rfl) (fun σ1 hσ => ?_)
    subst σ1
    refine g_iload C dX8_drawLine_57 rfl ?_
    exact g_zreturn C dX8_drawLine_59 (by omega) ⟨(bZ_t (by unfold wdT; omega)).symm, hX4.add ht5 _ _ _, (Fr.rf.sI (by unfold W0C; omega)).tr (tAdd_fr (by unfold W0C; omega) (by unfold W0C; omega))⟩
set_option maxHeartbeats 4000000 in
set_option maxRecDepth 100000 in
theorem c_X8_addFilter {κ : Kp} (hI : Ij κ) (l : Launch) (σ : St) {w : Wv} (hX : XW 0 σ w) (hW : OKW w) (hn : wnf w < 8) (p s v : Int) : CtV κ l 0 yX8_addFilter cX8_addFilter 4 [.ref (κ.2.1 0), .int (iZ p), .int (iZ s), .int (iZ v)] σ (fun σ' => σ' = aFil σ 0 (wnf w) p s v) := by
  refine Ct.ofG (own := RX8) hI (by decide +kernel) rfl (Nat.le_of_ble_eq_true rfl) rfl ?_
  intro M C hMl
  refine g_aload_n C dX8_addFilter_0 rfl ?_
  refine gf_X8_27 (z := (wnf w : Int)) C dX8_addFilter_1 rfl hX.2.1.1 ?_
  refine g_bipush (z := 8) C dX8_addFilter_4 rfl ?_
  refine g_icmp_ge (tgt := 49) C dX8_addFilter_6 (by decide) (by unfold R32; omega) (fun h1 => ?_) (fun h1 => ?_)
  · exfalso; omega
  · refine g_aload_n C dX8_addFilter_9 rfl ?_
    refine gf_X8_17 C dX8_addFilter_10 rfl ?_
    refine g_aload_n C dX8_addFilter_13 rfl ?_
    refine g_pc (pc' := 14) rfl ?_
    refine gf_X8_27 (z := (wnf w : Int)) C dX8_addFilter_14 rfl hX.2.1.1 ?_
    refine g_iload_n C dX8_addFilter_17 rfl ?_
    refine g_iast (n := (wnf w)) (N := 8) C dX8_addFilter_18 rfl rfl (by omega) (by omega) (by decide) ?_
    refine g_aload_n C dX8_addFilter_19 rfl ?_
    refine gf_X8_21 C dX8_addFilter_20 rfl ?_
    refine g_aload_n C dX8_addFilter_23 rfl ?_
    refine gf_X8_27 (z := (wnf w : Int)) C dX8_addFilter_24 rfl ((rI_k (by decide)).trans hX.2.1.1) ?_
    refine g_iload_n C dX8_addFilter_27 rfl ?_
    refine g_pc (pc' := 28) rfl ?_
    refine g_iast (n := (wnf w)) (N := 8) C dX8_addFilter_28 rfl rfl (by omega) (by omega) (by decide) ?_
    refine g_aload_n C dX8_addFilter_29 rfl ?_
    refine gf_X8_24 C dX8_addFilter_30 rfl ?_
    refine g_aload_n C dX8_addFilter_33 rfl ?_
    refine gf_X8_27 (z := (wnf w : Int)) C dX8_addFilter_34 rfl ((rI_k (by decide)).trans ((rI_k (by decide)).trans hX.2.1.1)) ?_
    refine g_iload_n C dX8_addFilter_37 rfl ?_
    refine g_iast (n := (wnf w)) (N := 8) C dX8_addFilter_38 rfl rfl (by omega) (by omega) (by decide) ?_
    refine g_aload_n C dX8_addFilter_39 rfl ?_
    refine g_pc (pc' := 40) rfl ?_
    refine g_dup C dX8_addFilter_40 rfl ?_
    refine gf_X8_27 (z := (wnf w : Int)) C dX8_addFilter_41 rfl ((rI_k (by decide)).trans ((rI_k (by decide)).trans ((rI_k (by decide)).trans hX.2.1.1))) ?_
    refine g_iconst (z := 1) C dX8_addFilter_44 rfl ?_
    refine g_iadd C dX8_addFilter_45 ?_
    refine gp_X8_27 C dX8_addFilter_46 rfl ?_
    exact g_return C dX8_addFilter_49 rfl
set_option maxHeartbeats 4000000 in
set_option maxRecDepth 100000 in
theorem c_X8_addJoin {κ : Kp} (hI : Ij κ) (l : Launch) (σ : St) {w : Wv} (hX : XW 0 σ w) (hW : OKW w) (hn : wnj w < 8) (x y : Int) : CtV κ l 0 yX8_addJoin cX8_addJoin 3 [.ref (κ.2.1 0), .int (iZ x), .int (iZ y)] σ (fun σ' => σ' = aJoi σ 0 (wnj w) x y) := by
  refine Ct.ofG (own := RX8) hI (by decide +kernel) rfl (Nat.le_of_ble_eq_true rfl) rfl ?_
  intro M C hMl
  refine g_aload_n C dX8_addJoin_0 rfl ?_
  refine gf_X8_37 (z := (wnj w : Int)) C dX8_addJoin_1 rfl hX.2.2.1.1 ?_
  refine g_bipush (z := 8) C dX8_addJoin_4 rfl ?_
  refine g_icmp_ge (tgt := 39) C dX8_addJoin_6 (by decide) (by unfold R32; omega) (fun h1 => ?_) (fun h1 => ?_)
  · exfalso; omega
  · refine g_aload_n C dX8_addJoin_9 rfl ?_
    refine gf_X8_31 C dX8_addJoin_10 rfl ?_
    refine g_aload_n C dX8_addJoin_13 rfl ?_
    refine g_pc (pc' := 14) rfl ?_
    refine gf_X8_37 (z := (wnj w : Int)) C dX8_addJoin_14 rfl hX.2.2.1.1 ?_
    refine g_iload_n C dX8_addJoin_17 rfl ?_
    refine g_iast (n := (wnj w)) (N := 8) C dX8_addJoin_18 rfl rfl (by omega) (by omega) (by decide) ?_
    refine g_aload_n C dX8_addJoin_19 rfl ?_
    refine gf_X8_34 C dX8_addJoin_20 rfl ?_
    refine g_aload_n C dX8_addJoin_23 rfl ?_
    refine gf_X8_37 (z := (wnj w : Int)) C dX8_addJoin_24 rfl ((rI_k (by decide)).trans hX.2.2.1.1) ?_
    refine g_iload_n C dX8_addJoin_27 rfl ?_
    refine g_pc (pc' := 28) rfl ?_
    refine g_iast (n := (wnj w)) (N := 8) C dX8_addJoin_28 rfl rfl (by omega) (by omega) (by decide) ?_
    refine g_aload_n C dX8_addJoin_29 rfl ?_
    refine g_dup C dX8_addJoin_30 rfl ?_
    refine gf_X8_37 (z := (wnj w : Int)) C dX8_addJoin_31 rfl ((rI_k (by decide)).trans ((rI_k (by decide)).trans hX.2.2.1.1)) ?_
    refine g_iconst (z := 1) C dX8_addJoin_34 rfl ?_
    refine g_iadd C dX8_addJoin_35 ?_
    refine gp_X8_37 C dX8_addJoin_36 rfl ?_
    exact g_return C dX8_addJoin_39 rfl

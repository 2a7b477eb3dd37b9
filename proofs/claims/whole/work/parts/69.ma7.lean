/-! THE MODEL: the best ways -/
def aOf (c : Cel) : Int := if zW c = 0 ∨ zW c = 4 then 0 else zL c / 16
def PKm (σ : St) (k : Nat) (c : Cel) : Prop := σ.1 127 k = zW c ∧ (zW c ≠ -1 → σ.2.1 126 k = zK c ∧ σ.1 128 k = aOf c ∧ σ.1 129 k = zJ c)
def PTm (σ : St) (w : Wv) (N : Nat) (c : Cel) : Prop := (∀ k, k < 512 → k ≠ N → PKm σ k (if k < N then tC w k else pcN)) ∧ PKm σ N c
def SPl (k : Nat) : Prop := 126 ≤ k ∧ k ≤ 129
def MP (σ : St) (w : Wv) (s o : Nat) (c : Cel) : Prop := MW σ w ∧ (σ.1 105 24 = (s : Int) ∧ σ.1 105 25 = (o : Int)) ∧ (∀ u, 1 ≤ u → u ≤ 31 → σ.2.1 125 u = tho w u) ∧ PTm σ w (16 * s + o) c
theorem PKm.fr {σ τ : St} {k : Nat} {c : Cel} (h : PKm σ k c) (e1 : τ.1 127 k = σ.1 127 k) (e2 : τ.2.1 126 k = σ.2.1 126 k) (e3 : τ.1 128 k = σ.1 128 k) (e4 : τ.1 129 k = σ.1 129 k) : PKm τ k c := by
  unfold PKm
  rw [e1, e2, e3, e4]
  exact h
theorem MP.set {σ : St} {w : Wv} {s o : Nat} {c n : Cel} {y a j : Int} {x : UInt32} (h : MP σ w s o c) (h1 : zW n = y) (h2 : zK n = x) (h3 : aOf n = a) (h4 : zJ n = j) : MP (sI (sI (sF (sI σ 127 (16 * s + o) y) 126 (16 * s + o) x) 128 (16 * s + o) a) 129 (16 * s + o) j) w s o n ∧ Fm SPl NoT σ (sI (sI (sF (sI σ 127 (16 * s + o) y) 126 (16 * s + o) x) 128 (16 * s + o) a) 129 (16 * s + o) j) := by
  have hF : Fm SPl NoT σ (sI (sI (sF (sI σ 127 (16 * s + o) y) 126 (16 * s + o) x) 128 (16 * s + o) a) 129 (16 * s + o) j) := (((Fm.rf.a (by decide) (by unfold SPl; omega)).f (by unfold SPl; omega)).a (by decide) (by unfold SPl; omega)).a (by decide) (by unfold SPl; omega)
  refine ⟨⟨h.1.fm hF (fun k _ _ e => by unfold SPl at e; omega) (fun j _ _ e => e), ⟨(hF.2 24 (fun e => e)).trans h.2.1.1, (hF.2 25 (fun e => e)).trans h.2.1.2⟩, fun u h1 h2 => ?_, ⟨fun k hk hn => (h.2.2.2.1 k hk hn).fr ?_ ?_ ?_ ?_, ?_⟩⟩, hF⟩
  · rw [(hF.1 125 (by decide) (by unfold SPl; omega)).2.1]; exact h.2.2.1 u h1 h2
  · rw [rI_k (by decide), rI_k (by decide)]; exact rI_j hn
  · exact rF_j hn
  · rw [rI_k (by decide), rI_j hn]; exact rI_k (σ := σ) (k := 127) (k' := 128) (j := 16 * s + o) (v := y) (by decide)
  · rw [rI_j hn, rI_k (by decide)]; exact rI_k (σ := σ) (k := 127) (k' := 129) (j := 16 * s + o) (v := y) (by decide)
  · refine ⟨?_, fun _ => ⟨?_, ?_, ?_⟩⟩
    · rw [h1, rI_k (by decide), rI_k (by decide)]; exact rI_s
    · rw [h2]; exact rF_s
    · rw [h3, rI_k (by decide)]; exact rI_s
    · rw [h4]; exact rI_s
theorem MP.hm {σ τ : St} {w : Wv} {s o : Nat} {c : Cel} (h : MP σ w s o c) (g : Fm HM HT σ τ) : MP τ w s o c := by
  refine ⟨h.1.hm g, ⟨(g.2 24 (by unfold HT; omega)).trans h.2.1.1, (g.2 25 (by unfold HT; omega)).trans h.2.1.2⟩, fun u h1 h2 => ?_, ⟨fun k hk hn => (h.2.2.2.1 k hk hn).fr ?_ ?_ ?_ ?_, h.2.2.2.2.fr ?_ ?_ ?_ ?_⟩⟩
  · rw [(g.1 125 (by decide) (by unfold HM; omega)).2.1]; exact h.2.2.1 u h1 h2
  all_goals first | rw [(g.1 127 (by decide) (by unfold HM; omega)).1] | rw [(g.1 126 (by decide) (by unfold HM; omega)).2.1] | rw [(g.1 128 (by decide) (by unfold HM; omega)).1] | rw [(g.1 129 (by decide) (by unfold HM; omega)).1]
/-- a cell ahead -/
theorem MP.get {σ : St} {w : Wv} {s o : Nat} {c : Cel} (h : MP σ w s o c) {a q : Nat} (ha : a < s) (hs : s ≤ 31) (hq : q < 16) : PKm σ (16 * a + q) (TT w a q) := by
  have := h.2.2.2.1 (16 * a + q) (by omega) (by omega)
  rwa [if_pos (by omega), tC_c hq] at this
theorem jbm {w : Wv} {a b j : Nat} : btw w a b j ↔ ((bitv a (wja w j / 3) = 1 ∧ bitv b (wjb w j / 3) = 1) ∨ (bitv a (wjb w j / 3) = 1 ∧ bitv b (wja w j / 3) = 1)) := by unfold btw; omega
set_option maxHeartbeats 4000000 in
set_option maxRecDepth 100000 in
theorem c_X10_offers {κ : Kp} (hI : Ij κ) (l : Launch) (σ : St) {w : Wv} {s o : Nat} {c : Cel} (hP : MP σ w s o c) (hs31 : s ≤ 31) (ho : o < 16) {K S m : Nat} (hc : PO c K S) {n : Cel} {y a j : Int} {x : UInt32} (q1 : zW n = y) (q2 : zK n = x) (q3 : aOf n = a) (q4 : zJ n = j) (hx : fB x m) : CtV κ l 0 yX10_offers cX10_offers 6 [.ref (κ.2.1 105), .int (iZ y), .float x, .int (iZ a), .int (iZ j)] σ (fun σ' => MP σ' w s o (addP c n) ∧ Fm SPl NoT σ σ') := by
  refine Ct.ofG (own := RX10) hI (by decide +kernel) rfl (Nat.le_of_ble_eq_true rfl) rfl ?_
  intro M C hMl
  have hcW : R32 (zW c) := by rcases hc with h | h <;> (unfold R32; omega)
  have hPc := hP.2.2.2.2
  refine g_bipush (z := 16) C dX10_offers_0 rfl ?_
  refine g_aload_n C dX10_offers_2 rfl ?_
  refine gf_X10_204 (z := (s : Int)) C dX10_offers_3 rfl hP.2.1.1 ?_
  refine g_imul C dX10_offers_6 ?_
  refine g_aload_n C dX10_offers_7 rfl ?_
  refine gf_X10_207 (z := (o : Int)) C dX10_offers_8 rfl hP.2.1.2 ?_
  refine g_iadd C dX10_offers_11 ?_
  refine g_pc (pc' := 12) rfl ?_
  refine g_istore (L' := [(5, .int (iZ ((16 * (s : Int)) + (o : Int)))), (0, .ref (κ.2.1 105)), (1, .int (iZ y)), (2, .float x), (3, .int (iZ a)), (4, .int (iZ j))]) C dX10_offers_12 (by decide) rfl ?_
  refine g_aload_n C dX10_offers_14 rfl ?_
  refine gf_X10_62 C dX10_offers_15 rfl ?_
  refine g_iload C dX10_offers_18 rfl ?_
  refine g_iaz (n := ((16 * s) + o)) (N := 512) (v := (zW c)) C dX10_offers_20 rfl rfl (by omega) (by omega) (by decide) hPc.1 ?_
  refine g_if_lt (tgt := 37) C dX10_offers_21 (by decide) hcW (fun h1 => ?_) (fun h1 => ?_)
  · refine g_aload_n C dX10_offers_37 rfl ?_
    refine gf_X10_62 C dX10_offers_38 rfl ?_
    refine g_pc (pc' := 41) rfl ?_
    refine g_iload C dX10_offers_41 rfl ?_
    refine g_iload_n C dX10_offers_43 rfl ?_
    refine g_iast (n := ((16 * s) + o)) (N := 512) C dX10_offers_44 rfl rfl (by omega) (by omega) (by decide) ?_
    refine g_aload_n C dX10_offers_45 rfl ?_
    refine gf_X10_59 C dX10_offers_46 rfl ?_
    refine g_iload C dX10_offers_49 rfl ?_
    refine g_fload_n C dX10_offers_51 rfl ?_
    refine g_fast (n := ((16 * s) + o)) (N := 512) C dX10_offers_52 rfl rfl (by omega) (by omega) (by decide) ?_
    refine g_pc (pc' := 53) rfl ?_
    refine g_aload_n C dX10_offers_53 rfl ?_
    refine gf_X10_65 C dX10_offers_54 rfl ?_
    refine g_iload C dX10_offers_57 rfl ?_
    refine g_iload_n C dX10_offers_59 rfl ?_
    refine g_iast (n := ((16 * s) + o)) (N := 512) C dX10_offers_60 rfl rfl (by omega) (by omega) (by decide) ?_
    refine g_aload_n C dX10_offers_61 rfl ?_
    refine gf_X10_68 C dX10_offers_62 rfl ?_
    refine g_iload C dX10_offers_65 rfl ?_
    refine g_pc (pc' := 67) rfl ?_
    refine g_iload C dX10_offers_67 rfl ?_
    refine g_iast (n := ((16 * s) + o)) (N := 512) C dX10_offers_69 rfl rfl (by omega) (by omega) (by decide) ?_
    exact g_return C dX10_offers_70 (by rw [addP_y (c := c) (n := n) (show zW c = -1 ∨ FP.fcmp (zK n) (zK c) = some .lt from Or.inl (by rcases hc with h | h; exact h; omega))]; exact hP.set q1 q2 q3 q4)
  · have hcB := hc.resolve_left (by omega)
    refine g_fload_n C dX10_offers_24 rfl ?_
    refine g_aload_n C dX10_offers_25 rfl ?_
    refine gf_X10_59 C dX10_offers_26 rfl ?_
    refine g_iload C dX10_offers_29 rfl ?_
    refine g_faz (n := ((16 * s) + o)) (N := 512) (v := (zK c)) C dX10_offers_31 rfl rfl (by omega) (by omega) (by decide) ((hPc.2 (by omega)).1) ?_
    refine g_pc (pc' := 32) rfl ?_
    refine g_fcmp C dX10_offers_32 ?_
    obtain ⟨zc, hzc, hzr, hzl⟩ := cvN (FN.of hx) (FN.of hcB.2.1) .l
    refine g_raw hzc ?_
    refine g_if_lt (tgt := 37) C dX10_offers_33 (by decide) hzr (fun h2 => ?_) (fun h2 => ?_)
    · refine g_aload_n C dX10_offers_37 rfl ?_
      refine gf_X10_62 C dX10_offers_38 rfl ?_
      refine g_iload C dX10_offers_41 rfl ?_
      refine g_iload_n C dX10_offers_43 rfl ?_
      refine g_iast (n := ((16 * s) + o)) (N := 512) C dX10_offers_44 rfl rfl (by omega) (by omega) (by decide) ?_
      refine g_aload_n C dX10_offers_45 rfl ?_
      refine g_pc (pc' := 46) rfl ?_
      refine gf_X10_59 C dX10_offers_46 rfl ?_
      refine g_iload C dX10_offers_49 rfl ?_
      refine g_fload_n C dX10_offers_51 rfl ?_
      refine g_fast (n := ((16 * s) + o)) (N := 512) C dX10_offers_52 rfl rfl (by omega) (by omega) (by decide) ?_
      refine g_aload_n C dX10_offers_53 rfl ?_
      refine gf_X10_65 C dX10_offers_54 rfl ?_
      refine g_iload C dX10_offers_57 rfl ?_
      refine g_iload_n C dX10_offers_59 rfl ?_
      refine g_pc (pc' := 60) rfl ?_
      refine g_iast (n := ((16 * s) + o)) (N := 512) C dX10_offers_60 rfl rfl (by omega) (by omega) (by decide) ?_
      refine g_aload_n C dX10_offers_61 rfl ?_
      refine gf_X10_68 C dX10_offers_62 rfl ?_
      refine g_iload C dX10_offers_65 rfl ?_
      refine g_iload C dX10_offers_67 rfl ?_
      refine g_iast (n := ((16 * s) + o)) (N := 512) C dX10_offers_69 rfl rfl (by omega) (by omega) (by decide) ?_
      exact g_return C dX10_offers_70 (by rw [addP_y (c := c) (n := n) (show zW c = -1 ∨ FP.fcmp (zK n) (zK c) = some .lt from Or.inr (by rw [q2]; exact hzl.mp (by omega)))]; exact hP.set q1 q2 q3 q4)
    · exact g_return C dX10_offers_36 ⟨by rw [addP_n (c := c) (n := n) (show ¬ (zW c = -1 ∨ FP.fcmp (zK n) (zK c) = some .lt) from fun e => by rw [q2] at e; rcases e with e | e; omega; have := hzl.mpr e; omega)]; exact hP, Fm.rf⟩
set_option maxHeartbeats 4000000 in
set_option maxRecDepth 100000 in
theorem c_X10_isBest {κ : Kp} (hI : Ij κ) (l : Launch) (σ : St) {s o : Nat} {zs zo : Int} (hs : zs = (s : Int)) (ho : zo = (o : Int)) (hs31 : s ≤ 31) (ho16 : o < 16) {c : Cel} (hc : PKm σ (16 * s + o) c) (hcW : -1 ≤ zW c ∧ zW c ≤ 4) : CtI κ l 0 yX10_isBest cX10_isBest 3 .boolean [.ref (κ.2.1 105), .int (iZ zs), .int (iZ zo)] σ (fun z σ' => z = bZ (zW c ≠ -1) ∧ σ' = σ) := by
  refine Ct.ofG (own := RX10) hI (by decide +kernel) rfl (Nat.le_of_ble_eq_true rfl) rfl ?_
  intro M C hMl
  refine g_aload_n C dX10_isBest_0 rfl ?_
  refine gf_X10_62 C dX10_isBest_1 rfl ?_
  refine g_bipush (z := 16) C dX10_isBest_4 rfl ?_
  refine g_iload_n C dX10_isBest_6 rfl ?_
  refine g_imul C dX10_isBest_7 ?_
  refine g_iload_n C dX10_isBest_8 rfl ?_
  refine g_iadd C dX10_isBest_9 ?_
  refine g_pc (pc' := 10) rfl ?_
  refine g_iaz (n := ((16 * s) + o)) (N := 512) (v := (zW c)) C dX10_isBest_10 rfl rfl (by omega) (by omega) (by decide) hc.1 ?_
  refine g_if_lt (tgt := 18) C dX10_isBest_11 (by decide) (by unfold R32; omega) (fun h1 => ?_) (fun h1 => ?_)
  · refine g_iconst (z := 0) C dX10_isBest_18 rfl ?_
    exact g_zreturn C dX10_isBest_19 (by omega) ⟨(bZ_f (by omega)).symm, rfl⟩
  · refine g_iconst (z := 1) C dX10_isBest_14 rfl ?_
    refine g_goto (tgt := 19) C dX10_isBest_15 (by decide) ?_
    exact g_zreturn C dX10_isBest_19 (by omega) ⟨(bZ_t (by omega)).symm, rfl⟩
set_option maxHeartbeats 4000000 in
set_option maxRecDepth 100000 in
theorem c_X10_best {κ : Kp} (hI : Ij κ) (l : Launch) (σ : St) {s o : Nat} {zs zo : Int} (hs : zs = (s : Int)) (ho : zo = (o : Int)) (hs31 : s ≤ 31) (ho16 : o < 16) {c : Cel} (hc : PKm σ (16 * s + o) c) (hw : zW c ≠ -1) : CtF κ l 0 yX10_best cX10_best 3 [.ref (κ.2.1 105), .int (iZ zs), .int (iZ zo)] σ (fun z σ' => z = zK c ∧ σ' = σ) := by
  refine Ct.ofG (own := RX10) hI (by decide +kernel) rfl (Nat.le_of_ble_eq_true rfl) rfl ?_
  intro M C hMl
  refine g_aload_n C dX10_best_0 rfl ?_
  refine gf_X10_59 C dX10_best_1 rfl ?_
  refine g_bipush (z := 16) C dX10_best_4 rfl ?_
  refine g_iload_n C dX10_best_6 rfl ?_
  refine g_imul C dX10_best_7 ?_
  refine g_iload_n C dX10_best_8 rfl ?_
  refine g_iadd C dX10_best_9 ?_
  refine g_pc (pc' := 10) rfl ?_
  refine g_faz (n := ((16 * s) + o)) (N := 512) (v := (zK c)) C dX10_best_10 rfl rfl (by omega) (by omega) (by decide) ((hc.2 hw).1) ?_
  exact g_freturn C dX10_best_11 ⟨rfl, rfl⟩
set_option maxHeartbeats 4000000 in
set_option maxRecDepth 100000 in
theorem c_X10_placeIn {κ : Kp} (hI : Ij κ) (l : Launch) (σ : St) {w : Wv} (hM : MW σ w) (hW : OKW w) {j s : Nat} {zj zs : Int} (hj : zj = (j : Int)) (hs : zs = (s : Int)) (hjn : j < wnj w) (hs32 : s < 32) : CtI κ l 1 yX10_placeIn cX10_placeIn 3 .int [.ref (κ.2.1 105), .int (iZ zj), .int (iZ zs)] σ (fun z σ' => z = (wpl w s j : Int) ∧ σ' = σ) := by
  refine Ct.ofG (own := RX10) hI (by decide +kernel) rfl (Nat.le_of_ble_eq_true rfl) rfl ?_
  intro M C hMl
  have hjo := hW.2.2.2 j hjn
  have hj8 := hW.2.2.1
  refine g_iload_n C dX10_placeIn_0 rfl ?_
  refine g_aload_n C dX10_placeIn_1 rfl ?_
  refine gf_X10_34 C dX10_placeIn_2 rfl ?_
  refine g_iload_n C dX10_placeIn_5 rfl ?_
  refine g_iaz (n := j) (N := 8) (v := (wja w j : Int)) C dX10_placeIn_6 rfl rfl (by omega) (by omega) (by decide) ((hM.2.2.1.2 j (by omega)).1) ?_
  refine g_iconst (z := 3) C dX10_placeIn_7 rfl ?_
  refine g_idiv C dX10_placeIn_8 (by omega) ?_
  refine g_pc (pc' := 9) rfl ?_
  refine gc_X10_184 C dX10_placeIn_9 (c_X10_has hI (Ml M) σ (s := s) (k := ((wja w j) / 3)) (by omega) (by omega) (by omega) (by omega)) (by decide) (Nat.le_of_ble_eq_true rfl) (fun z σ9 ⟨hz, hσ⟩ => ?_)
  subst z
  subst σ9
  refine g_ifb_eq (tgt := 24) C dX10_placeIn_12 (by decide) (fun h1 => ?_) (fun h1 => ?_)
  · refine g_aload_n C dX10_placeIn_24 rfl ?_
    refine gf_X10_37 C dX10_placeIn_25 rfl ?_
    refine g_iload_n C dX10_placeIn_28 rfl ?_
    refine g_iaz (n := j) (N := 8) (v := (wjb w j : Int)) C dX10_placeIn_29 rfl rfl (by omega) (by omega) (by decide) ((hM.2.2.1.2 j (by omega)).2) ?_
    exact g_ireturn C dX10_placeIn_30 ⟨by unfold wpl; first | rw [if_pos (by assumption)] | rw [if_neg (by assumption)], rfl⟩
  · refine g_aload_n C dX10_placeIn_15 rfl ?_
    refine g_pc (pc' := 16) rfl ?_
    refine gf_X10_34 C dX10_placeIn_16 rfl ?_
    refine g_iload_n C dX10_placeIn_19 rfl ?_
    refine g_iaz (n := j) (N := 8) (v := (wja w j : Int)) C dX10_placeIn_20 rfl rfl (by omega) (by omega) (by decide) ((hM.2.2.1.2 j (by omega)).1) ?_
    refine g_goto (tgt := 30) C dX10_placeIn_21 (by decide) ?_
    exact g_ireturn C dX10_placeIn_30 ⟨by unfold wpl; first | rw [if_pos (by assumption)] | rw [if_neg (by assumption)], rfl⟩
set_option maxHeartbeats 4000000 in
set_option maxRecDepth 100000 in
theorem c_X10_isPlaceIn {κ : Kp} (hI : Ij κ) (l : Launch) (σ : St) {o s : Nat} {zo zs : Int} (ho : zo = (o : Int)) (hs : zs = (s : Int)) (ho16 : o < 16) (hs32 : s < 32) : CtI κ l 1 yX10_isPlaceIn cX10_isPlaceIn 3 .boolean [.ref (κ.2.1 105), .int (iZ zo), .int (iZ zs)] σ (fun z σ' => z = bZ (1 ≤ o ∧ bitv s ((o - 1) / 3) = 1) ∧ σ' = σ) := by
  refine Ct.ofG (own := RX10) hI (by decide +kernel) rfl (Nat.le_of_ble_eq_true rfl) rfl ?_
  intro M C hMl
  refine g_iload_n C dX10_isPlaceIn_0 rfl ?_
  refine g_if_le (tgt := 20) C dX10_isPlaceIn_1 (by decide) (by unfold R32; omega) (fun h1 => ?_) (fun h1 => ?_)
  · refine g_iconst (z := 0) C dX10_isPlaceIn_20 rfl ?_
    exact g_zreturn C dX10_isPlaceIn_21 (by omega) ⟨(bZ_f (by omega)).symm, rfl⟩
  · refine g_iload_n C dX10_isPlaceIn_4 rfl ?_
    refine g_iload_n C dX10_isPlaceIn_5 rfl ?_
    refine g_iconst (z := 1) C dX10_isPlaceIn_6 rfl ?_
    refine g_pc (pc' := 7) rfl ?_
    refine g_isub C dX10_isPlaceIn_7 ?_
    refine g_iconst (z := 3) C dX10_isPlaceIn_8 rfl ?_
    refine g_idiv C dX10_isPlaceIn_9 (by omega) ?_
    refine gc_X10_184 C dX10_isPlaceIn_10 (c_X10_has hI (Ml M) σ (s := s) (k := ((o - 1) / 3)) (by omega) (by omega) (by omega) (by omega)) (by decide) (Nat.le_of_ble_eq_true rfl) (fun z σ9 ⟨hz, hσ⟩ => ?_)
    subst z
    subst σ9
    refine g_ifb_eq (tgt := 20) C dX10_isPlaceIn_13 (by decide) (fun h2 => ?_) (fun h2 => ?_)
    · refine g_iconst (z := 0) C dX10_isPlaceIn_20 rfl ?_
      exact g_zreturn C dX10_isPlaceIn_21 (by omega) ⟨(bZ_f (by omega)).symm, rfl⟩
    · refine g_iconst (z := 1) C dX10_isPlaceIn_16 rfl ?_
      refine g_pc (pc' := 17) rfl ?_
      refine g_goto (tgt := 21) C dX10_isPlaceIn_17 (by decide) ?_
      exact g_zreturn C dX10_isPlaceIn_21 (by omega) ⟨(bZ_t (by omega)).symm, rfl⟩
set_option maxHeartbeats 4000000 in
set_option maxRecDepth 100000 in
theorem c_X10_joinBetween {κ : Kp} (hI : Ij κ) (l : Launch) (σ : St) {w : Wv} (hM : MW σ w) (hW : OKW w) {a b : Nat} {za zb : Int} (hza : za = (a : Int)) (hzb : zb = (b : Int)) (ha : a < 32) (hb : b < 32) : CtI κ l 1 yX10_joinBetween cX10_joinBetween 6 .int [.ref (κ.2.1 105), .int (iZ za), .int (iZ zb)] σ (fun z σ' => z = jB w a b ∧ σ' = σ) := by
  refine Ct.ofG (own := RX10) hI (by decide +kernel) rfl (Nat.le_of_ble_eq_true rfl) rfl ?_
  intro M C hMl
  have hnj8 := hW.2.2.1
  refine g_iconst (z := 0) C dX10_joinBetween_0 rfl ?_
  refine g_istore_n (L' := [(3, .int (iZ 0)), (0, .ref (κ.2.1 105)), (1, .int (iZ za)), (2, .int (iZ zb))]) C dX10_joinBetween_1 rfl (by decide) rfl ?_
  have lp2 : ∀ (fz9 : Nat) (j : Nat) (x3 : Int), (wnj w - j < fz9) → (x3 = (j : Int)) → (j ≤ wnj w) → (jB w a b = jbF w a b (wnj w - j) j) → G M κ 6 (En M κ (qI κ (fun z σ' => z = jB w a b ∧ σ' = σ))) 2 [(0, .ref (κ.2.1 105)), (1, .int (iZ za)), (2, .int (iZ zb)), (3, .int (iZ x3))] [] σ := by
    intro fz9
    induction fz9 with
    | zero => intro j x3 hm0; exact absurd hm0 (Nat.not_lt_zero _)
    | succ fz9 ih2 =>
      intro j x3 hm2 hx3 hj hE
      refine g_iload_n C dX10_joinBetween_2 rfl ?_
      refine g_aload_n C dX10_joinBetween_3 rfl ?_
      refine gf_X10_192 (z := (wnj w : Int)) C dX10_joinBetween_4 rfl hM.2.2.1.1 ?_
      refine g_icmp_ge (tgt := 74) C dX10_joinBetween_7 (by decide) (by unfold R32; omega) (fun h1 => ?_) (fun h1 => ?_)
      · refine g_iconst (z := (-1)) C dX10_joinBetween_74 rfl ?_
        refine g_pc (pc' := 75) rfl ?_
        exact g_ireturn C dX10_joinBetween_75 ⟨by rw [hE, show wnj w - j = 0 by omega]; rfl, rfl⟩
      · have hjo := hW.2.2.2 j (by omega)
        refine g_aload_n C dX10_joinBetween_10 rfl ?_
        refine gf_X10_34 C dX10_joinBetween_11 rfl ?_
        refine g_iload_n C dX10_joinBetween_14 rfl ?_
        refine g_iaz (n := j) (N := 8) (v := (wja w j : Int)) C dX10_joinBetween_15 rfl rfl (by omega) (by omega) (by decide) ((hM.2.2.1.2 j (by omega)).1) ?_
        refine g_iconst (z := 3) C dX10_joinBetween_16 rfl ?_
        refine g_idiv C dX10_joinBetween_17 (by omega) ?_
        refine g_istore (L' := [(4, .int (iZ ((wja w j : Int) / 3))), (0, .ref (κ.2.1 105)), (1, .int (iZ za)), (2, .int (iZ zb)), (3, .int (iZ x3))]) C dX10_joinBetween_18 (by decide) rfl ?_
        refine g_pc (pc' := 20) rfl ?_
        refine g_aload_n C dX10_joinBetween_20 rfl ?_
        refine gf_X10_37 C dX10_joinBetween_21 rfl ?_
        refine g_iload_n C dX10_joinBetween_24 rfl ?_
        refine g_iaz (n := j) (N := 8) (v := (wjb w j : Int)) C dX10_joinBetween_25 rfl rfl (by omega) (by omega) (by decide) ((hM.2.2.1.2 j (by omega)).2) ?_
        refine g_iconst (z := 3) C dX10_joinBetween_26 rfl ?_
        refine g_idiv C dX10_joinBetween_27 (by omega) ?_
        refine g_istore (L' := [(5, .int (iZ ((wjb w j : Int) / 3))), (4, .int (iZ ((wja w j : Int) / 3))), (0, .ref (κ.2.1 105)), (1, .int (iZ za)), (2, .int (iZ zb)), (3, .int (iZ x3))]) C dX10_joinBetween_28 (by decide) rfl ?_
        refine g_iload_n C dX10_joinBetween_30 rfl ?_
        refine g_pc (pc' := 31) rfl ?_
        refine g_iload C dX10_joinBetween_31 rfl ?_
        refine gc_X10_184 C dX10_joinBetween_33 (c_X10_has hI (Ml M) σ (s := a) (k := ((wja w j) / 3)) (by omega) (by omega) (by omega) (by omega)) (by decide) (Nat.le_of_ble_eq_true rfl) (fun z σ9 ⟨hz, hσ⟩ => ?_)
        subst z
        subst σ9
        refine g_ifb_eq (tgt := 48) C dX10_joinBetween_36 (by decide) (fun h2 => ?_) (fun h2 => ?_)
        · refine g_iload_n C dX10_joinBetween_48 rfl ?_
          refine g_iload C dX10_joinBetween_49 rfl ?_
          refine gc_X10_184 C dX10_joinBetween_51 (c_X10_has hI (Ml M) σ (s := a) (k := ((wjb w j) / 3)) (by omega) (by omega) (by omega) (by omega)) (by decide) (Nat.le_of_ble_eq_true rfl) (fun z σ9 ⟨hz, hσ⟩ => ?_)
          subst z
          subst σ9
          refine g_ifb_eq (tgt := 68) C dX10_joinBetween_54 (by decide) (fun h3 => ?_) (fun h3 => ?_)
          · refine g_iinc (q := 5) (v := (x3 + 1)) (L' := [(3, .int (iZ (x3 + 1))), (5, .int (iZ ((wjb w j : Int) / 3))), (4, .int (iZ ((wja w j : Int) / 3))), (0, .ref (κ.2.1 105)), (1, .int (iZ za)), (2, .int (iZ zb))]) C dX10_joinBetween_68 rfl rfl (by decide) rfl ?_
            refine g_pc (pc' := 71) rfl ?_
            refine g_goto (tgt := 2) C dX10_joinBetween_71 (by decide) ?_
            exact g_loc [3, 4, 5, 0] (by rfl) (ih2 (j + 1) (x3 + 1) (by omega) (by omega) (by omega) (by rw [hE, show wnj w - j = (wnj w - (j + 1)) + 1 by omega]; exact jbF_n (fun e => by have e2 := jbm.mp e; omega)))
          · refine g_iload_n C dX10_joinBetween_57 rfl ?_
            refine g_iload C dX10_joinBetween_58 rfl ?_
            refine gc_X10_184 C dX10_joinBetween_60 (c_X10_has hI (Ml M) σ (s := b) (k := ((wja w j) / 3)) (by omega) (by omega) (by omega) (by omega)) (by decide) (Nat.le_of_ble_eq_true rfl) (fun z σ9 ⟨hz, hσ⟩ => ?_)
            subst z
            subst σ9
            refine g_ifb_eq (tgt := 68) C dX10_joinBetween_63 (by decide) (fun h4 => ?_) (fun h4 => ?_)
            · refine g_iinc (q := 5) (v := (x3 + 1)) (L' := [(3, .int (iZ (x3 + 1))), (5, .int (iZ ((wjb w j : Int) / 3))), (4, .int (iZ ((wja w j : Int) / 3))), (0, .ref (κ.2.1 105)), (1, .int (iZ za)), (2, .int (iZ zb))]) C dX10_joinBetween_68 rfl rfl (by decide) rfl ?_
              refine g_goto (tgt := 2) C dX10_joinBetween_71 (by decide) ?_
              exact g_loc [3, 4, 5, 0] (by rfl) (ih2 (j + 1) (x3 + 1) (by omega) (by omega) (by omega) (by rw [hE, show wnj w - j = (wnj w - (j + 1)) + 1 by omega]; exact jbF_n (fun e => by have e2 := jbm.mp e; omega)))
            · refine g_iload_n C dX10_joinBetween_66 rfl ?_
              refine g_pc (pc' := 67) rfl ?_
              exact g_ireturn C dX10_joinBetween_67 ⟨by rw [hE, show wnj w - j = (wnj w - (j + 1)) + 1 by omega, jbF_y (jbm.mpr (by omega))]; exact hx3, rfl⟩
        · refine g_iload_n C dX10_joinBetween_39 rfl ?_
          refine g_iload C dX10_joinBetween_40 rfl ?_
          refine gc_X10_184 C dX10_joinBetween_42 (c_X10_has hI (Ml M) σ (s := b) (k := ((wjb w j) / 3)) (by omega) (by omega) (by omega) (by omega)) (by decide) (Nat.le_of_ble_eq_true rfl) (fun z σ9 ⟨hz, hσ⟩ => ?_)
          subst z
          subst σ9
          refine g_ifb_ne (tgt := 66) C dX10_joinBetween_45 (by decide) (fun h5 => ?_) (fun h5 => ?_)
          · refine g_iload_n C dX10_joinBetween_66 rfl ?_
            exact g_ireturn C dX10_joinBetween_67 ⟨by rw [hE, show wnj w - j = (wnj w - (j + 1)) + 1 by omega, jbF_y (jbm.mpr (by omega))]; exact hx3, rfl⟩
          · refine g_iload_n C dX10_joinBetween_48 rfl ?_
            refine g_pc (pc' := 49) rfl ?_
            refine g_iload C dX10_joinBetween_49 rfl ?_
            refine gc_X10_184 C dX10_joinBetween_51 (c_X10_has hI (Ml M) σ (s := a) (k := ((wjb w j) / 3)) (by omega) (by omega) (by omega) (by omega)) (by decide) (Nat.le_of_ble_eq_true rfl) (fun z σ9 ⟨hz, hσ⟩ => ?_)
            subst z
            subst σ9
            refine g_ifb_eq (tgt := 68) C dX10_joinBetween_54 (by decide) (fun h6 => ?_) (fun h6 => ?_)
            · refine g_iinc (q := 5) (v := (x3 + 1)) (L' := [(3, .int (iZ (x3 + 1))), (5, .int (iZ ((wjb w j : Int) / 3))), (4, .int (iZ ((wja w j : Int) / 3))), (0, .ref (κ.2.1 105)), (1, .int (iZ za)), (2, .int (iZ zb))]) C dX10_joinBetween_68 rfl rfl (by decide) rfl ?_
              refine g_goto (tgt := 2) C dX10_joinBetween_71 (by decide) ?_
              exact g_loc [3, 4, 5, 0] (by rfl) (ih2 (j + 1) (x3 + 1) (by omega) (by omega) (by omega) (by rw [hE, show wnj w - j = (wnj w - (j + 1)) + 1 by omega]; exact jbF_n (fun e => by have e2 := jbm.mp e; omega)))
            · refine g_iload_n C dX10_joinBetween_57 rfl ?_
              refine g_iload C dX10_joinBetween_58 rfl ?_
              refine gc_X10_184 C dX10_joinBetween_60 (c_X10_has hI (Ml M) σ (s := b) (k := ((wja w j) / 3)) (by omega) (by omega) (by omega) (by omega)) (by decide) (Nat.le_of_ble_eq_true rfl) (fun z σ9 ⟨hz, hσ⟩ => ?_)
              subst z
              subst σ9
              refine g_pc (pc' := 63) rfl ?_
              refine g_ifb_eq (tgt := 68) C dX10_joinBetween_63 (by decide) (fun h7 => ?_) (fun h7 => ?_)
              · refine g_iinc (q := 5) (v := (x3 + 1)) (L' := [(3, .int (iZ (x3 + 1))), (5, .int (iZ ((wjb w j : Int) / 3))), (4, .int (iZ ((wja w j : Int) / 3))), (0, .ref (κ.2.1 105)), (1, .int (iZ za)), (2, .int (iZ zb))]) C dX10_joinBetween_68 rfl rfl (by decide) rfl ?_
                refine g_goto (tgt := 2) C dX10_joinBetween_71 (by decide) ?_
                exact g_loc [3, 4, 5, 0] (by rfl) (ih2 (j + 1) (x3 + 1) (by omega) (by omega) (by omega) (by rw [hE, show wnj w - j = (wnj w - (j + 1)) + 1 by omega]; exact jbF_n (fun e => by have e2 := jbm.mp e; omega)))
              · refine g_iload_n C dX10_joinBetween_66 rfl ?_
                exact g_ireturn C dX10_joinBetween_67 ⟨by rw [hE, show wnj w - j = (wnj w - (j + 1)) + 1 by omega, jbF_y (jbm.mpr (by omega))]; exact hx3, rfl⟩
  exact g_loc [1, 2, 3, 0] (by rfl) (lp2 _ 0 0 (Nat.lt_succ_self _) rfl (Nat.zero_le _) rfl)
theorem on_all : ∀ s : Fin 32, 1 ≤ s.val → (s.val &&& (s.val - 1) = 0 → s.val = 2 ^ leastT s.val) ∧ (∀ t : Fin 5, s.val = 2 ^ t.val → s.val &&& (s.val - 1) = 0 ∧ t.val = leastT s.val) := by decide +kernel
theorem p2_raw {t : Nat} {z : Int} (hz : z = (t : Int)) (ht : t < 5) : iZ 1 <<< (iZ z &&& 31) = iZ ((2 ^ t : Nat) : Int) := shl1_rw hz (by omega)
set_option maxHeartbeats 4000000 in
set_option maxRecDepth 100000 in
theorem c_X10_onlyOf {κ : Kp} (hI : Ij κ) (l : Launch) (σ : St) {s : Nat} {zs : Int} (hs : zs = (s : Int)) (hs31 : s ≤ 31) (hs1 : 1 ≤ s) : CtI κ l 0 yX10_onlyOf cX10_onlyOf 2 .int [.int (iZ zs)] σ (fun z σ' => z = (if s &&& (s - 1) = 0 then (leastT s : Int) else -1) ∧ σ' = σ) := by
  refine Ct.ofG (own := RX10) hI (by decide +kernel) rfl (Nat.le_of_ble_eq_true rfl) rfl ?_
  intro M C hMl
  have hon := on_all ⟨s, by omega⟩ hs1
  dsimp only at hon
  have hlt := leastT_1 ⟨s, by omega⟩ hs1
  dsimp only at hlt
  refine g_iconst (z := 0) C dX10_onlyOf_0 rfl ?_
  refine g_istore_n (L' := [(1, .int (iZ 0)), (0, .int (iZ zs))]) C dX10_onlyOf_1 rfl (by decide) rfl ?_
  have lp2 : ∀ (fz9 : Nat) (t : Nat) (x1 : Int), (5 - t < fz9) → (x1 = (t : Int)) → (t ≤ 5) → (∀ u, u < t → s ≠ 2 ^ u) → G M κ 2 (En M κ (qI κ (fun z σ' => z = (if s &&& (s - 1) = 0 then (leastT s : Int) else -1) ∧ σ' = σ))) 2 [(0, .int (iZ zs)), (1, .int (iZ x1))] [] σ := by
    intro fz9
    induction fz9 with
    | zero => intro t x1 hm0; exact absurd hm0 (Nat.not_lt_zero _)
    | succ fz9 ih2 =>
      intro t x1 hm2 hx1 ht hN
      refine g_iload_n C dX10_onlyOf_2 rfl ?_
      refine g_iconst (z := 5) C dX10_onlyOf_3 rfl ?_
      refine g_icmp_ge (tgt := 22) C dX10_onlyOf_4 (by decide) (by unfold R32; omega) (fun h1 => ?_) (fun h1 => ?_)
      · refine g_iconst (z := (-1)) C dX10_onlyOf_22 rfl ?_
        exact g_ireturn C dX10_onlyOf_23 ⟨by rw [if_neg (fun e => hN (leastT s) (by omega) (hon.1 e))], rfl⟩
      · refine g_pc (pc' := 7) rfl ?_
        refine g_iload_n C dX10_onlyOf_7 rfl ?_
        refine g_iconst (z := 1) C dX10_onlyOf_8 rfl ?_
        refine g_iload_n C dX10_onlyOf_9 rfl ?_
        refine g_ishl C dX10_onlyOf_10 ?_
        refine g_raw (p2_raw hx1 (by omega)) ?_
        have hp2 : 2 ^ t ≤ 32 := Nat.le_trans (Nat.pow_le_pow_right (by decide) (show t ≤ 5 by omega)) (by decide)
        generalize hP2 : 2 ^ t = P2 at hp2 ⊢
        refine g_icmp_ne (tgt := 16) C dX10_onlyOf_11 (by decide) (by unfold R32; omega) (fun h2 => ?_) (fun h2 => ?_)
        · refine g_iinc (q := 1) (v := (x1 + 1)) (L' := [(1, .int (iZ (x1 + 1))), (0, .int (iZ zs))]) C dX10_onlyOf_16 rfl rfl (by decide) rfl ?_
          refine g_goto (tgt := 2) C dX10_onlyOf_19 (by decide) ?_
          exact g_loc [1, 0] (by rfl) (ih2 (t + 1) (x1 + 1) (by omega) (by omega) (by omega) (fun u hu => by rcases Nat.lt_or_ge u t with k | k; exact hN u k; (rw [show u = t by omega, hP2]; omega)))
        · refine g_iload_n C dX10_onlyOf_14 rfl ?_
          refine g_pc (pc' := 15) rfl ?_
          exact g_ireturn C dX10_onlyOf_15 ⟨by have h9 := hon.2 ⟨t, by omega⟩ (by show s = 2 ^ t; rw [hP2]; omega); dsimp only at h9; rw [if_pos h9.1]; omega, rfl⟩
  exact g_loc [1, 0] (by rfl) (lp2 _ 0 0 (Nat.lt_succ_self _) rfl (by omega) (fun u hu => absurd hu (Nat.not_lt_zero u)))

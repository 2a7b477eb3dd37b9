/-! THE MODEL: the search -/
def SBs (k : Nat) : Prop := SPl k ∨ HM k
theorem Fm.bs {σ τ : St} (g : Fm SPl NoT σ τ) : Fm SBs HT σ τ := g.mono (fun k => Or.inl) (fun j e => e.elim)
theorem Fm.bh {σ τ : St} (g : Fm HM HT σ τ) : Fm SBs HT σ τ := g.mono (fun k => Or.inr) (fun j e => e)
theorem baR_o {w : Wv} {s o : Nat} (h1 : 1 ≤ s) (hs : s ≤ 31) : TT w s o = if zW (TT w s 0) ≠ -1 ∧ 1 ≤ o ∧ bitv s ((o - 1) / 3) = 1 then addP (baR w (TT w) s o) (soC w s (TT w s)) else baR w (TT w) s o := by
  have e0 := TT_0 (w := w) h1 hs
  have e := congrFun (TT_eq (w := w) h1 hs) o
  rw [e]
  unfold soR soC
  rw [e0]
theorem aOf_0 {c : Cel} (h : zW c = 0 ∨ zW c = 4) : aOf c = 0 := if_pos h
theorem TT_00 {w : Wv} {o : Nat} : TT w 0 o = pcN := by unfold TT; rw [tbl_ge (n := 31) (by omega)]; rfl
def PTa (σ : St) (w : Wv) (N : Nat) : Prop := ∀ k, k < 512 → PKm σ k (if k < N then tC w k else pcN)
set_option maxHeartbeats 4000000 in
set_option maxRecDepth 100000 in
theorem c_X10_offersAll {κ : Kp} (hI : Ij κ) (l : Launch) (σ : St) {w : Wv} {s o : Nat} (hP : MP σ w s o pcN) (hs31 : s ≤ 31) (hs1 : 1 ≤ s) (ho : o < 16) (hW : OKW w) : CtV κ l 7 yX10_offersAll cX10_offersAll 3 [.ref (κ.2.1 105)] σ (fun σ' => MP σ' w s o (TT w s o) ∧ Fm SBs HT σ σ') := by
  refine Ct.ofG (own := RX10) hI (by decide +kernel) rfl (Nat.le_of_ble_eq_true rfl) rfl ?_
  intro M C hMl
  have hlt := leastT_1 ⟨s, by omega⟩ hs1
  dsimp only at hlt
  have hto := hW.1 (leastT s) hlt.1
  refine g_aload_n C dX10_offersAll_0 rfl ?_
  refine gf_X10_204 (z := (s : Int)) C dX10_offersAll_1 rfl hP.2.1.1 ?_
  refine gc_X10_236 C dX10_offersAll_4 (c_X10_onlyOf hI (Ml M) σ (s := s) rfl hs31 hs1) (by decide) (Nat.le_of_ble_eq_true rfl) (fun z1 σ9 ⟨hz1, hσ⟩ => ?_)
  subst σ9
  refine g_istore_n (L' := [(1, .int (iZ z1)), (0, .ref (κ.2.1 105))]) C dX10_offersAll_7 rfl (by decide) rfl ?_
  refine g_iload_n C dX10_offersAll_8 rfl ?_
  refine g_if_lt (tgt := 70) C dX10_offersAll_9 (by decide) (by unfold R32; omega) (fun h1 => ?_) (fun h1 => ?_)
  · have hsg : ¬ s &&& (s - 1) = 0 := by intro e; rw [if_pos e] at hz1; omega
    rw [if_neg hsg] at hz1
    subst hz1
    refine g_iconst (z := 1) C dX10_offersAll_70 rfl ?_
    refine g_pc (pc' := 71) rfl ?_
    refine g_istore_n (L' := [(2, .int (iZ 1)), (1, .int (iZ (-1))), (0, .ref (κ.2.1 105))]) C dX10_offersAll_71 rfl (by decide) rfl ?_
    have lp72 : ∀ (fz9 : Nat) (a : Nat) (x2 : Int) (q : St), (s - a < fz9) → (x2 = (a : Int)) → (1 ≤ a ∧ a ≤ s) → (MP q w s o (prR w (TT w) s a o)) → (Fm SPl NoT σ q) → G M κ 3 (En M κ (qV κ (fun σ' => MP σ' w s o (TT w s o) ∧ Fm SBs HT σ σ'))) 72 [(0, .ref (κ.2.1 105)), (1, .int (iZ (-1))), (2, .int (iZ x2))] [] q := by
      intro fz9
      induction fz9 with
      | zero => intro a x2 q hm0; exact absurd hm0 (Nat.not_lt_zero _)
      | succ fz9 ih72 =>
        intro a x2 q hm72 hx2 ha1 hPq hF
        refine g_iload_n C dX10_offersAll_72 rfl ?_
        refine g_aload_n C dX10_offersAll_73 rfl ?_
        refine gf_X10_204 (z := (s : Int)) C dX10_offersAll_74 rfl hPq.2.1.1 ?_
        refine g_icmp_ge (tgt := 102) C dX10_offersAll_77 (by decide) (by unfold R32; omega) (fun h2 => ?_) (fun h2 => ?_)
        · have hB : MP q w s o (baR w (TT w) s o) := by unfold baR; rw [if_neg hsg]; rw [show s = a by omega] at hPq ⊢; exact hPq
          have hFB : Fm SPl NoT σ q := hF
          generalize hqq : q = p0 at hB hFB ⊢
          refine g_aload_n C dX10_offersAll_102 rfl ?_
          refine g_aload_n C dX10_offersAll_103 rfl ?_
          refine gf_X10_207 (z := (o : Int)) C dX10_offersAll_104 rfl hB.2.1.2 ?_
          refine g_pc (pc' := 107) rfl ?_
          refine g_aload_n C dX10_offersAll_107 rfl ?_
          refine gf_X10_204 (z := (s : Int)) C dX10_offersAll_108 rfl hB.2.1.1 ?_
          refine gc_X10_210 C dX10_offersAll_111 rfl (c_X10_isPlaceIn hI (Ml M) p0 (o := o) (s := s) rfl rfl ho (by omega)) (by decide) (Nat.le_of_ble_eq_true rfl) (fun z σ9 ⟨hz, hσ⟩ => ?_)
          subst z
          subst σ9
          refine g_ifb_eq (tgt := 154) C dX10_offersAll_114 (by decide) (fun h3 => ?_) (fun h3 => ?_)
          · exact g_return C dX10_offersAll_154 ⟨by rw [baR_o hs1 hs31]; rw [if_neg (fun e => by omega)]; exact hB, hFB.bs⟩
          · refine g_aload_n C dX10_offersAll_117 rfl ?_
            refine g_aload_n C dX10_offersAll_118 rfl ?_
            refine gf_X10_204 (z := (s : Int)) C dX10_offersAll_119 rfl hB.2.1.1 ?_
            refine g_pc (pc' := 122) rfl ?_
            refine g_iconst (z := 0) C dX10_offersAll_122 rfl ?_
            have hcell : PKm p0 (16 * s + 0) (TT w s 0) := by have h9 := hB.2.2.2.1 (16 * s + 0) (by omega) (by omega); rwa [if_pos (by omega), tC_c (by omega)] at h9
            have hTs := TT_PO hW s s (Nat.le_refl _) hs1 hs31
            refine gc_X10_213 C dX10_offersAll_123 rfl (c_X10_isBest hI (Ml M) p0 (s := s) (o := 0) rfl rfl hs31 (by omega) hcell (PO_W (hTs.1 0 (by omega)))) (by decide) (Nat.le_of_ble_eq_true rfl) (fun z σ9 ⟨hz, hσ⟩ => ?_)
            subst z
            subst σ9
            refine g_ifb_eq (tgt := 154) C dX10_offersAll_126 (by decide) (fun h4 => ?_) (fun h4 => ?_)
            · exact g_return C dX10_offersAll_154 ⟨by rw [baR_o hs1 hs31]; rw [if_neg (fun e => by omega)]; exact hB, hFB.bs⟩
            · refine g_aload_n C dX10_offersAll_129 rfl ?_
              refine g_iconst (z := 4) C dX10_offersAll_130 rfl ?_
              refine g_aload_n C dX10_offersAll_131 rfl ?_
              refine g_aload_n C dX10_offersAll_132 rfl ?_
              refine g_pc (pc' := 133) rfl ?_
              refine gf_X10_204 (z := (s : Int)) C dX10_offersAll_133 rfl hB.2.1.1 ?_
              refine g_iconst (z := 0) C dX10_offersAll_136 rfl ?_
              refine gc_X10_216 C dX10_offersAll_137 rfl (c_X10_best hI (Ml M) p0 (s := s) (o := 0) rfl rfl hs31 (by omega) hcell (by assumption)) (by decide) (Nat.le_of_ble_eq_true rfl) (fun z σ9 ⟨hz, hσ⟩ => ?_)
              subst z
              subst σ9
              refine g_aload_n C dX10_offersAll_140 rfl ?_
              refine g_aload_n C dX10_offersAll_141 rfl ?_
              refine gf_X10_204 (z := (s : Int)) C dX10_offersAll_142 rfl hB.2.1.1 ?_
              refine gc_X10_242 C dX10_offersAll_145 rfl (c_X10_sortingOf hI (Ml M) p0 hB.1 hW (s := s) rfl (by omega)) (by decide) (Nat.le_of_ble_eq_true rfl) (fun z p1 ⟨hz, hF3⟩ => ?_)
              subst z
              have hB1 := hB.hm hF3
              have h0w : zW (TT w s 0) ≠ -1 := by assumption
              have hp0 : PO (TT w s 0) (25 * kT s) (4 * kT s - 3) := by have h9 := hTs.1 0 (by omega); simpa using h9
              have hk5 := kT_5 ⟨s, by omega⟩
              dsimp only at hk5
              have hk1 := hk5.2 hs1
              have hv148 : fB (FP.fadd (zK (TT w s 0)) (cso (tho w s))) (2 ^ (25 * kT s + 1) * fu) := fB_add2 (PO.fb hp0 h0w) (fB_up (cso_B (tho_B hW s) (by decide)) (by omega)) (by omega)
              have hbp := baR_PO hW hs31 hs1 (T := TT w) (fun u h1 h2 => TT_PO hW u u (Nat.le_refl _) h1 (by omega)) o ho
              refine g_fadd C dX10_offersAll_148 hv148.vf ?_
              refine g_pc (pc' := 149) rfl ?_
              refine g_iconst (z := 0) C dX10_offersAll_149 rfl ?_
              refine g_iconst (z := (-1)) C dX10_offersAll_150 rfl ?_
              refine gc_X10_219 C dX10_offersAll_151 rfl (c_X10_offers hI (Ml M) p1 hB1 hs31 ho hbp (n := soC w s (TT w s)) rfl rfl (aOf_0 (Or.inr rfl)) rfl hv148) (by decide) (Nat.le_of_ble_eq_true rfl) (fun p2 ⟨hP4, hF4⟩ => ?_)
              exact g_return C dX10_offersAll_154 ⟨by rw [baR_o hs1 hs31, if_pos ⟨h0w, by omega, by omega⟩]; exact hP4, (hFB.bs.tr hF3.bh).tr hF4.bs⟩
        · refine g_iload_n C dX10_offersAll_80 rfl ?_
          refine g_aload_n C dX10_offersAll_81 rfl ?_
          refine gf_X10_204 (z := (s : Int)) C dX10_offersAll_82 rfl hPq.2.1.1 ?_
          refine g_iconst (z := (-1)) C dX10_offersAll_85 rfl ?_
          refine g_pc (pc' := 86) rfl ?_
          refine g_ixor C dX10_offersAll_86 ?_
          refine g_iand C dX10_offersAll_87 ?_
          refine g_raw (out_raw (s := s) rfl hx2 (by omega) (by omega)) ?_
          have hle9 := Nat.and_le_left (n := a) (m := s)
          refine g_if_ne (tgt := 96) C dX10_offersAll_88 (by decide) (by unfold R32; omega) (fun h5 => ?_) (fun h5 => ?_)
          · refine g_iinc (q := 2) (v := (x2 + 1)) (L' := [(2, .int (iZ (x2 + 1))), (0, .ref (κ.2.1 105)), (1, .int (iZ (-1)))]) C dX10_offersAll_96 rfl rfl (by decide) rfl ?_
            refine g_goto (tgt := 72) C dX10_offersAll_99 (by decide) ?_
            exact g_loc [1, 2, 0] (by rfl) (ih72 (a + 1) (x2 + 1) q (by omega) (by omega) ⟨by omega, by omega⟩ (by rw [prR_n (fun e => absurd e.2.1 (by omega))]; exact hPq) hF)
          · have hsub : a &&& s = a := by have := Nat.and_le_left (n := a) (m := s); omega
            refine g_aload_n C dX10_offersAll_91 rfl ?_
            refine g_iload_n C dX10_offersAll_92 rfl ?_
            refine gc_X10_239 C dX10_offersAll_93 rfl (c_X10_offersSplit hI (Ml M) q hPq hs31 ho hW hx2 ha1.1 (by omega) hsub) (by decide) (Nat.le_of_ble_eq_true rfl) (fun q2 ⟨hP2, hF2⟩ => ?_)
            refine g_pc (pc' := 96) rfl ?_
            refine g_iinc (q := 2) (v := (x2 + 1)) (L' := [(2, .int (iZ (x2 + 1))), (0, .ref (κ.2.1 105)), (1, .int (iZ (-1)))]) C dX10_offersAll_96 rfl rfl (by decide) rfl ?_
            refine g_goto (tgt := 72) C dX10_offersAll_99 (by decide) ?_
            exact g_loc [1, 2, 0] (by rfl) (ih72 (a + 1) (x2 + 1) q2 (by omega) (by omega) ⟨by omega, by omega⟩ hP2 (hF.tr hF2))
    exact g_loc [2, 1, 0] (by rfl) (lp72 _ 1 1 σ (Nat.lt_succ_self _) rfl ⟨by omega, by omega⟩ hP Fm.rf)
  · have hsg : s &&& (s - 1) = 0 := by split at hz1; assumption; omega
    rw [if_pos hsg] at hz1
    refine g_aload_n C dX10_offersAll_12 rfl ?_
    refine gf_X10_22 C dX10_offersAll_13 rfl ?_
    refine g_iload_n C dX10_offersAll_16 rfl ?_
    refine g_iaz (n := (leastT s)) (N := 5) (v := ((wst w (leastT s) : Int) - 1)) C dX10_offersAll_17 rfl rfl (by omega) (by omega) (by decide) ((hP.1.1 (leastT s) (by omega)).2.2.1) ?_
    refine g_if_ge (tgt := 25) C dX10_offersAll_18 (by decide) (by unfold R32; omega) (fun h6 => ?_) (fun h6 => ?_)
    · refine g_iconst (z := 3) C dX10_offersAll_25 rfl ?_
      refine g_pc (pc' := 26) rfl ?_
      refine g_iload_n C dX10_offersAll_26 rfl ?_
      refine g_imul C dX10_offersAll_27 ?_
      refine g_aload_n C dX10_offersAll_28 rfl ?_
      refine gf_X10_22 C dX10_offersAll_29 rfl ?_
      refine g_iload_n C dX10_offersAll_32 rfl ?_
      refine g_iaz (n := (leastT s)) (N := 5) (v := ((wst w (leastT s) : Int) - 1)) C dX10_offersAll_33 rfl rfl (by omega) (by omega) (by decide) ((hP.1.1 (leastT s) (by omega)).2.2.1) ?_
      refine g_iadd C dX10_offersAll_34 ?_
      refine g_iconst (z := 1) C dX10_offersAll_35 rfl ?_
      refine g_pc (pc' := 36) rfl ?_
      refine g_iadd C dX10_offersAll_36 ?_
      obtain ⟨gv, hgv⟩ : ∃ gv : Nat, (wst w (leastT s) = 0 ∧ gv = 0) ∨ (wst w (leastT s) ≠ 0 ∧ gv = 3 * leastT s + wst w (leastT s)) := by
        by_cases e : wst w (leastT s) = 0
        · exact ⟨0, Or.inl ⟨e, rfl⟩⟩
        · exact ⟨_, Or.inr ⟨e, rfl⟩⟩
      refine g_int (z' := (gv : Int)) (by omega) ?_
      refine g_istore_n (L' := [(2, .int (iZ (gv : Int))), (1, .int (iZ z1)), (0, .ref (κ.2.1 105))]) C dX10_offersAll_37 rfl (by decide) rfl ?_
      refine g_aload_n C dX10_offersAll_38 rfl ?_
      refine gf_X10_207 (z := (o : Int)) C dX10_offersAll_39 rfl hP.2.1.2 ?_
      refine g_if_eq (tgt := 53) C dX10_offersAll_42 (by decide) (by unfold R32; omega) (fun h7 => ?_) (fun h7 => ?_)
      · refine g_aload_n C dX10_offersAll_53 rfl ?_
        refine g_iconst (z := 0) C dX10_offersAll_54 rfl ?_
        refine g_aload_n C dX10_offersAll_55 rfl ?_
        refine g_pc (pc' := 56) rfl ?_
        refine gf_X10_13 C dX10_offersAll_56 rfl ?_
        refine g_iload_n C dX10_offersAll_59 rfl ?_
        refine g_iaz (n := (leastT s)) (N := 5) (v := (wl w (leastT s) : Int)) C dX10_offersAll_60 rfl rfl (by omega) (by omega) (by decide) ((hP.1.1 (leastT s) (by omega)).1) ?_
        refine g_i2f C dX10_offersAll_61 ?_
        refine g_iconst (z := 0) C dX10_offersAll_62 rfl ?_
        refine g_iconst (z := (-1)) C dX10_offersAll_63 rfl ?_
        refine gc_X10_219 C dX10_offersAll_64 rfl (c_X10_offers hI (Ml M) σ hP hs31 ho (PO_N (K := 0) (S := 0)) (n := rdC w s) rfl rfl (aOf_0 (Or.inl rfl)) rfl (fB_i2f (show wl w (leastT s) < 16777216 by omega))) (by decide) (Nat.le_of_ble_eq_true rfl) (fun σ1 ⟨hP1, hF1⟩ => ?_)
        refine g_goto (tgt := 102) C dX10_offersAll_67 (by decide) ?_
        have hB : MP σ1 w s o (baR w (TT w) s o) := by unfold baR; rw [if_pos hsg]; unfold rdR; rw [if_pos (by omega)]; rw [addP_N] at hP1; exact hP1
        have hFB : Fm SPl NoT σ σ1 := hF1
        generalize hqq : σ1 = p0 at hB hFB ⊢
        refine g_pc (pc' := 102) rfl ?_
        refine g_aload_n C dX10_offersAll_102 rfl ?_
        refine g_aload_n C dX10_offersAll_103 rfl ?_
        refine gf_X10_207 (z := (o : Int)) C dX10_offersAll_104 rfl hB.2.1.2 ?_
        refine g_aload_n C dX10_offersAll_107 rfl ?_
        refine gf_X10_204 (z := (s : Int)) C dX10_offersAll_108 rfl hB.2.1.1 ?_
        refine gc_X10_210 C dX10_offersAll_111 rfl (c_X10_isPlaceIn hI (Ml M) p0 (o := o) (s := s) rfl rfl ho (by omega)) (by decide) (Nat.le_of_ble_eq_true rfl) (fun z σ9 ⟨hz, hσ⟩ => ?_)
        subst z
        subst σ9
        refine g_ifb_eq (tgt := 154) C dX10_offersAll_114 (by decide) (fun h8 => ?_) (fun h8 => ?_)
        · exact g_return C dX10_offersAll_154 ⟨by rw [baR_o hs1 hs31]; rw [if_neg (fun e => by omega)]; exact hB, hFB.bs⟩
        · refine g_pc (pc' := 117) rfl ?_
          refine g_aload_n C dX10_offersAll_117 rfl ?_
          refine g_aload_n C dX10_offersAll_118 rfl ?_
          refine gf_X10_204 (z := (s : Int)) C dX10_offersAll_119 rfl hB.2.1.1 ?_
          refine g_iconst (z := 0) C dX10_offersAll_122 rfl ?_
          have hcell : PKm p0 (16 * s + 0) (TT w s 0) := by have h9 := hB.2.2.2.1 (16 * s + 0) (by omega) (by omega); rwa [if_pos (by omega), tC_c (by omega)] at h9
          have hTs := TT_PO hW s s (Nat.le_refl _) hs1 hs31
          refine gc_X10_213 C dX10_offersAll_123 rfl (c_X10_isBest hI (Ml M) p0 (s := s) (o := 0) rfl rfl hs31 (by omega) hcell (PO_W (hTs.1 0 (by omega)))) (by decide) (Nat.le_of_ble_eq_true rfl) (fun z σ9 ⟨hz, hσ⟩ => ?_)
          subst z
          subst σ9
          refine g_ifb_eq (tgt := 154) C dX10_offersAll_126 (by decide) (fun h9 => ?_) (fun h9 => ?_)
          · exact g_return C dX10_offersAll_154 ⟨by rw [baR_o hs1 hs31]; rw [if_neg (fun e => by omega)]; exact hB, hFB.bs⟩
          · refine g_aload_n C dX10_offersAll_129 rfl ?_
            refine g_pc (pc' := 130) rfl ?_
            refine g_iconst (z := 4) C dX10_offersAll_130 rfl ?_
            refine g_aload_n C dX10_offersAll_131 rfl ?_
            refine g_aload_n C dX10_offersAll_132 rfl ?_
            refine gf_X10_204 (z := (s : Int)) C dX10_offersAll_133 rfl hB.2.1.1 ?_
            refine g_iconst (z := 0) C dX10_offersAll_136 rfl ?_
            refine gc_X10_216 C dX10_offersAll_137 rfl (c_X10_best hI (Ml M) p0 (s := s) (o := 0) rfl rfl hs31 (by omega) hcell (by assumption)) (by decide) (Nat.le_of_ble_eq_true rfl) (fun z σ9 ⟨hz, hσ⟩ => ?_)
            subst z
            subst σ9
            refine g_aload_n C dX10_offersAll_140 rfl ?_
            refine g_aload_n C dX10_offersAll_141 rfl ?_
            refine g_pc (pc' := 142) rfl ?_
            refine gf_X10_204 (z := (s : Int)) C dX10_offersAll_142 rfl hB.2.1.1 ?_
            refine gc_X10_242 C dX10_offersAll_145 rfl (c_X10_sortingOf hI (Ml M) p0 hB.1 hW (s := s) rfl (by omega)) (by decide) (Nat.le_of_ble_eq_true rfl) (fun z p1 ⟨hz, hF3⟩ => ?_)
            subst z
            have hB1 := hB.hm hF3
            have h0w : zW (TT w s 0) ≠ -1 := by assumption
            have hp0 : PO (TT w s 0) (25 * kT s) (4 * kT s - 3) := by have h9 := hTs.1 0 (by omega); simpa using h9
            have hk5 := kT_5 ⟨s, by omega⟩
            dsimp only at hk5
            have hk1 := hk5.2 hs1
            have hv148 : fB (FP.fadd (zK (TT w s 0)) (cso (tho w s))) (2 ^ (25 * kT s + 1) * fu) := fB_add2 (PO.fb hp0 h0w) (fB_up (cso_B (tho_B hW s) (by decide)) (by omega)) (by omega)
            have hbp := baR_PO hW hs31 hs1 (T := TT w) (fun u h1 h2 => TT_PO hW u u (Nat.le_refl _) h1 (by omega)) o ho
            refine g_fadd C dX10_offersAll_148 hv148.vf ?_
            refine g_iconst (z := 0) C dX10_offersAll_149 rfl ?_
            refine g_iconst (z := (-1)) C dX10_offersAll_150 rfl ?_
            refine gc_X10_219 C dX10_offersAll_151 rfl (c_X10_offers hI (Ml M) p1 hB1 hs31 ho hbp (n := soC w s (TT w s)) rfl rfl (aOf_0 (Or.inr rfl)) rfl hv148) (by decide) (Nat.le_of_ble_eq_true rfl) (fun p2 ⟨hP4, hF4⟩ => ?_)
            exact g_return C dX10_offersAll_154 ⟨by rw [baR_o hs1 hs31, if_pos ⟨h0w, by omega, by omega⟩]; exact hP4, (hFB.bs.tr hF3.bh).tr hF4.bs⟩
      · refine g_aload_n C dX10_offersAll_45 rfl ?_
        refine g_pc (pc' := 46) rfl ?_
        refine gf_X10_207 (z := (o : Int)) C dX10_offersAll_46 rfl hP.2.1.2 ?_
        refine g_iload_n C dX10_offersAll_49 rfl ?_
        refine g_icmp_ne (tgt := 67) C dX10_offersAll_50 (by decide) (by unfold R32; omega) (fun h10 => ?_) (fun h10 => ?_)
        · refine g_goto (tgt := 102) C dX10_offersAll_67 (by decide) ?_
          have hB : MP σ w s o (baR w (TT w) s o) := by unfold baR; rw [if_pos hsg]; unfold rdR; rw [if_neg (fun e => by omega)]; exact hP
          have hFB : Fm SPl NoT σ σ := (Fm.rf (S := SPl) (T := NoT))
          generalize hqq : σ = p0 at hB hFB ⊢
          refine g_aload_n C dX10_offersAll_102 rfl ?_
          refine g_aload_n C dX10_offersAll_103 rfl ?_
          refine gf_X10_207 (z := (o : Int)) C dX10_offersAll_104 rfl hB.2.1.2 ?_
          refine g_aload_n C dX10_offersAll_107 rfl ?_
          refine g_pc (pc' := 108) rfl ?_
          refine gf_X10_204 (z := (s : Int)) C dX10_offersAll_108 rfl hB.2.1.1 ?_
          refine gc_X10_210 C dX10_offersAll_111 rfl (c_X10_isPlaceIn hI (Ml M) p0 (o := o) (s := s) rfl rfl ho (by omega)) (by decide) (Nat.le_of_ble_eq_true rfl) (fun z σ9 ⟨hz, hσ⟩ => ?_)
          subst z
          subst σ9
          refine g_ifb_eq (tgt := 154) C dX10_offersAll_114 (by decide) (fun h11 => ?_) (fun h11 => ?_)
          · exact g_return C dX10_offersAll_154 ⟨by rw [baR_o hs1 hs31]; rw [if_neg (fun e => by omega)]; exact hB, hFB.bs⟩
          · refine g_aload_n C dX10_offersAll_117 rfl ?_
            refine g_aload_n C dX10_offersAll_118 rfl ?_
            refine gf_X10_204 (z := (s : Int)) C dX10_offersAll_119 rfl hB.2.1.1 ?_
            refine g_iconst (z := 0) C dX10_offersAll_122 rfl ?_
            refine g_pc (pc' := 123) rfl ?_
            have hcell : PKm p0 (16 * s + 0) (TT w s 0) := by have h9 := hB.2.2.2.1 (16 * s + 0) (by omega) (by omega); rwa [if_pos (by omega), tC_c (by omega)] at h9
            have hTs := TT_PO hW s s (Nat.le_refl _) hs1 hs31
            refine gc_X10_213 C dX10_offersAll_123 rfl (c_X10_isBest hI (Ml M) p0 (s := s) (o := 0) rfl rfl hs31 (by omega) hcell (PO_W (hTs.1 0 (by omega)))) (by decide) (Nat.le_of_ble_eq_true rfl) (fun z σ9 ⟨hz, hσ⟩ => ?_)
            subst z
            subst σ9
            refine g_ifb_eq (tgt := 154) C dX10_offersAll_126 (by decide) (fun h12 => ?_) (fun h12 => ?_)
            · exact g_return C dX10_offersAll_154 ⟨by rw [baR_o hs1 hs31]; rw [if_neg (fun e => by omega)]; exact hB, hFB.bs⟩
            · refine g_aload_n C dX10_offersAll_129 rfl ?_
              refine g_iconst (z := 4) C dX10_offersAll_130 rfl ?_
              refine g_aload_n C dX10_offersAll_131 rfl ?_
              refine g_aload_n C dX10_offersAll_132 rfl ?_
              refine gf_X10_204 (z := (s : Int)) C dX10_offersAll_133 rfl hB.2.1.1 ?_
              refine g_pc (pc' := 136) rfl ?_
              refine g_iconst (z := 0) C dX10_offersAll_136 rfl ?_
              refine gc_X10_216 C dX10_offersAll_137 rfl (c_X10_best hI (Ml M) p0 (s := s) (o := 0) rfl rfl hs31 (by omega) hcell (by assumption)) (by decide) (Nat.le_of_ble_eq_true rfl) (fun z σ9 ⟨hz, hσ⟩ => ?_)
              subst z
              subst σ9
              refine g_aload_n C dX10_offersAll_140 rfl ?_
              refine g_aload_n C dX10_offersAll_141 rfl ?_
              refine gf_X10_204 (z := (s : Int)) C dX10_offersAll_142 rfl hB.2.1.1 ?_
              refine gc_X10_242 C dX10_offersAll_145 rfl (c_X10_sortingOf hI (Ml M) p0 hB.1 hW (s := s) rfl (by omega)) (by decide) (Nat.le_of_ble_eq_true rfl) (fun z p1 ⟨hz, hF3⟩ => ?_)
              subst z
              have hB1 := hB.hm hF3
              have h0w : zW (TT w s 0) ≠ -1 := by assumption
              have hp0 : PO (TT w s 0) (25 * kT s) (4 * kT s - 3) := by have h9 := hTs.1 0 (by omega); simpa using h9
              have hk5 := kT_5 ⟨s, by omega⟩
              dsimp only at hk5
              have hk1 := hk5.2 hs1
              have hv148 : fB (FP.fadd (zK (TT w s 0)) (cso (tho w s))) (2 ^ (25 * kT s + 1) * fu) := fB_add2 (PO.fb hp0 h0w) (fB_up (cso_B (tho_B hW s) (by decide)) (by omega)) (by omega)
              have hbp := baR_PO hW hs31 hs1 (T := TT w) (fun u h1 h2 => TT_PO hW u u (Nat.le_refl _) h1 (by omega)) o ho
              refine g_fadd C dX10_offersAll_148 hv148.vf ?_
              refine g_iconst (z := 0) C dX10_offersAll_149 rfl ?_
              refine g_pc (pc' := 150) rfl ?_
              refine g_iconst (z := (-1)) C dX10_offersAll_150 rfl ?_
              refine gc_X10_219 C dX10_offersAll_151 rfl (c_X10_offers hI (Ml M) p1 hB1 hs31 ho hbp (n := soC w s (TT w s)) rfl rfl (aOf_0 (Or.inr rfl)) rfl hv148) (by decide) (Nat.le_of_ble_eq_true rfl) (fun p2 ⟨hP4, hF4⟩ => ?_)
              exact g_return C dX10_offersAll_154 ⟨by rw [baR_o hs1 hs31, if_pos ⟨h0w, by omega, by omega⟩]; exact hP4, (hFB.bs.tr hF3.bh).tr hF4.bs⟩
        · refine g_aload_n C dX10_offersAll_53 rfl ?_
          refine g_iconst (z := 0) C dX10_offersAll_54 rfl ?_
          refine g_aload_n C dX10_offersAll_55 rfl ?_
          refine gf_X10_13 C dX10_offersAll_56 rfl ?_
          refine g_iload_n C dX10_offersAll_59 rfl ?_
          refine g_pc (pc' := 60) rfl ?_
          refine g_iaz (n := (leastT s)) (N := 5) (v := (wl w (leastT s) : Int)) C dX10_offersAll_60 rfl rfl (by omega) (by omega) (by decide) ((hP.1.1 (leastT s) (by omega)).1) ?_
          refine g_i2f C dX10_offersAll_61 ?_
          refine g_iconst (z := 0) C dX10_offersAll_62 rfl ?_
          refine g_iconst (z := (-1)) C dX10_offersAll_63 rfl ?_
          refine gc_X10_219 C dX10_offersAll_64 rfl (c_X10_offers hI (Ml M) σ hP hs31 ho (PO_N (K := 0) (S := 0)) (n := rdC w s) rfl rfl (aOf_0 (Or.inl rfl)) rfl (fB_i2f (show wl w (leastT s) < 16777216 by omega))) (by decide) (Nat.le_of_ble_eq_true rfl) (fun σ1 ⟨hP1, hF1⟩ => ?_)
          refine g_goto (tgt := 102) C dX10_offersAll_67 (by decide) ?_
          have hB : MP σ1 w s o (baR w (TT w) s o) := by unfold baR; rw [if_pos hsg]; unfold rdR; rw [if_pos (by omega)]; rw [addP_N] at hP1; exact hP1
          have hFB : Fm SPl NoT σ σ1 := hF1
          generalize hqq : σ1 = p0 at hB hFB ⊢
          refine g_aload_n C dX10_offersAll_102 rfl ?_
          refine g_aload_n C dX10_offersAll_103 rfl ?_
          refine g_pc (pc' := 104) rfl ?_
          refine gf_X10_207 (z := (o : Int)) C dX10_offersAll_104 rfl hB.2.1.2 ?_
          refine g_aload_n C dX10_offersAll_107 rfl ?_
          refine gf_X10_204 (z := (s : Int)) C dX10_offersAll_108 rfl hB.2.1.1 ?_
          refine gc_X10_210 C dX10_offersAll_111 rfl (c_X10_isPlaceIn hI (Ml M) p0 (o := o) (s := s) rfl rfl ho (by omega)) (by decide) (Nat.le_of_ble_eq_true rfl) (fun z σ9 ⟨hz, hσ⟩ => ?_)
          subst z
          subst σ9
          refine g_ifb_eq (tgt := 154) C dX10_offersAll_114 (by decide) (fun h13 => ?_) (fun h13 => ?_)
          · exact g_return C dX10_offersAll_154 ⟨by rw [baR_o hs1 hs31]; rw [if_neg (fun e => by omega)]; exact hB, hFB.bs⟩
          · refine g_aload_n C dX10_offersAll_117 rfl ?_
            refine g_aload_n C dX10_offersAll_118 rfl ?_
            refine g_pc (pc' := 119) rfl ?_
            refine gf_X10_204 (z := (s : Int)) C dX10_offersAll_119 rfl hB.2.1.1 ?_
            refine g_iconst (z := 0) C dX10_offersAll_122 rfl ?_
            have hcell : PKm p0 (16 * s + 0) (TT w s 0) := by have h9 := hB.2.2.2.1 (16 * s + 0) (by omega) (by omega); rwa [if_pos (by omega), tC_c (by omega)] at h9
            have hTs := TT_PO hW s s (Nat.le_refl _) hs1 hs31
            refine gc_X10_213 C dX10_offersAll_123 rfl (c_X10_isBest hI (Ml M) p0 (s := s) (o := 0) rfl rfl hs31 (by omega) hcell (PO_W (hTs.1 0 (by omega)))) (by decide) (Nat.le_of_ble_eq_true rfl) (fun z σ9 ⟨hz, hσ⟩ => ?_)
            subst z
            subst σ9
            refine g_ifb_eq (tgt := 154) C dX10_offersAll_126 (by decide) (fun h14 => ?_) (fun h14 => ?_)
            · exact g_return C dX10_offersAll_154 ⟨by rw [baR_o hs1 hs31]; rw [if_neg (fun e => by omega)]; exact hB, hFB.bs⟩
            · refine g_aload_n C dX10_offersAll_129 rfl ?_
              refine g_iconst (z := 4) C dX10_offersAll_130 rfl ?_
              refine g_aload_n C dX10_offersAll_131 rfl ?_
              refine g_pc (pc' := 132) rfl ?_
              refine g_aload_n C dX10_offersAll_132 rfl ?_
              refine gf_X10_204 (z := (s : Int)) C dX10_offersAll_133 rfl hB.2.1.1 ?_
              refine g_iconst (z := 0) C dX10_offersAll_136 rfl ?_
              refine gc_X10_216 C dX10_offersAll_137 rfl (c_X10_best hI (Ml M) p0 (s := s) (o := 0) rfl rfl hs31 (by omega) hcell (by assumption)) (by decide) (Nat.le_of_ble_eq_true rfl) (fun z σ9 ⟨hz, hσ⟩ => ?_)
              subst z
              subst σ9
              refine g_aload_n C dX10_offersAll_140 rfl ?_
              refine g_aload_n C dX10_offersAll_141 rfl ?_
              refine gf_X10_204 (z := (s : Int)) C dX10_offersAll_142 rfl hB.2.1.1 ?_
              refine gc_X10_242 C dX10_offersAll_145 rfl (c_X10_sortingOf hI (Ml M) p0 hB.1 hW (s := s) rfl (by omega)) (by decide) (Nat.le_of_ble_eq_true rfl) (fun z p1 ⟨hz, hF3⟩ => ?_)
              subst z
              have hB1 := hB.hm hF3
              have h0w : zW (TT w s 0) ≠ -1 := by assumption
              have hp0 : PO (TT w s 0) (25 * kT s) (4 * kT s - 3) := by have h9 := hTs.1 0 (by omega); simpa using h9
              have hk5 := kT_5 ⟨s, by omega⟩
              dsimp only at hk5
              have hk1 := hk5.2 hs1
              have hv148 : fB (FP.fadd (zK (TT w s 0)) (cso (tho w s))) (2 ^ (25 * kT s + 1) * fu) := fB_add2 (PO.fb hp0 h0w) (fB_up (cso_B (tho_B hW s) (by decide)) (by omega)) (by omega)
              have hbp := baR_PO hW hs31 hs1 (T := TT w) (fun u h1 h2 => TT_PO hW u u (Nat.le_refl _) h1 (by omega)) o ho
              refine g_pc (pc' := 148) rfl ?_
              refine g_fadd C dX10_offersAll_148 hv148.vf ?_
              refine g_iconst (z := 0) C dX10_offersAll_149 rfl ?_
              refine g_iconst (z := (-1)) C dX10_offersAll_150 rfl ?_
              refine gc_X10_219 C dX10_offersAll_151 rfl (c_X10_offers hI (Ml M) p1 hB1 hs31 ho hbp (n := soC w s (TT w s)) rfl rfl (aOf_0 (Or.inr rfl)) rfl hv148) (by decide) (Nat.le_of_ble_eq_true rfl) (fun p2 ⟨hP4, hF4⟩ => ?_)
              exact g_return C dX10_offersAll_154 ⟨by rw [baR_o hs1 hs31, if_pos ⟨h0w, by omega, by omega⟩]; exact hP4, (hFB.bs.tr hF3.bh).tr hF4.bs⟩
    · refine g_iconst (z := 0) C dX10_offersAll_21 rfl ?_
      refine g_goto (tgt := 37) C dX10_offersAll_22 (by decide) ?_
      obtain ⟨gv, hgv⟩ : ∃ gv : Nat, (wst w (leastT s) = 0 ∧ gv = 0) ∨ (wst w (leastT s) ≠ 0 ∧ gv = 3 * leastT s + wst w (leastT s)) := by
        by_cases e : wst w (leastT s) = 0
        · exact ⟨0, Or.inl ⟨e, rfl⟩⟩
        · exact ⟨_, Or.inr ⟨e, rfl⟩⟩
      refine g_int (z' := (gv : Int)) (by omega) ?_
      refine g_istore_n (L' := [(2, .int (iZ (gv : Int))), (1, .int (iZ z1)), (0, .ref (κ.2.1 105))]) C dX10_offersAll_37 rfl (by decide) rfl ?_
      refine g_pc (pc' := 38) rfl ?_
      refine g_aload_n C dX10_offersAll_38 rfl ?_
      refine gf_X10_207 (z := (o : Int)) C dX10_offersAll_39 rfl hP.2.1.2 ?_
      refine g_if_eq (tgt := 53) C dX10_offersAll_42 (by decide) (by unfold R32; omega) (fun h15 => ?_) (fun h15 => ?_)
      · refine g_aload_n C dX10_offersAll_53 rfl ?_
        refine g_iconst (z := 0) C dX10_offersAll_54 rfl ?_
        refine g_aload_n C dX10_offersAll_55 rfl ?_
        refine gf_X10_13 C dX10_offersAll_56 rfl ?_
        refine g_iload_n C dX10_offersAll_59 rfl ?_
        refine g_pc (pc' := 60) rfl ?_
        refine g_iaz (n := (leastT s)) (N := 5) (v := (wl w (leastT s) : Int)) C dX10_offersAll_60 rfl rfl (by omega) (by omega) (by decide) ((hP.1.1 (leastT s) (by omega)).1) ?_
        refine g_i2f C dX10_offersAll_61 ?_
        refine g_iconst (z := 0) C dX10_offersAll_62 rfl ?_
        refine g_iconst (z := (-1)) C dX10_offersAll_63 rfl ?_
        refine gc_X10_219 C dX10_offersAll_64 rfl (c_X10_offers hI (Ml M) σ hP hs31 ho (PO_N (K := 0) (S := 0)) (n := rdC w s) rfl rfl (aOf_0 (Or.inl rfl)) rfl (fB_i2f (show wl w (leastT s) < 16777216 by omega))) (by decide) (Nat.le_of_ble_eq_true rfl) (fun σ1 ⟨hP1, hF1⟩ => ?_)
        refine g_goto (tgt := 102) C dX10_offersAll_67 (by decide) ?_
        have hB : MP σ1 w s o (baR w (TT w) s o) := by unfold baR; rw [if_pos hsg]; unfold rdR; rw [if_pos (by omega)]; rw [addP_N] at hP1; exact hP1
        have hFB : Fm SPl NoT σ σ1 := hF1
        generalize hqq : σ1 = p0 at hB hFB ⊢
        refine g_aload_n C dX10_offersAll_102 rfl ?_
        refine g_aload_n C dX10_offersAll_103 rfl ?_
        refine g_pc (pc' := 104) rfl ?_
        refine gf_X10_207 (z := (o : Int)) C dX10_offersAll_104 rfl hB.2.1.2 ?_
        refine g_aload_n C dX10_offersAll_107 rfl ?_
        refine gf_X10_204 (z := (s : Int)) C dX10_offersAll_108 rfl hB.2.1.1 ?_
        refine gc_X10_210 C dX10_offersAll_111 rfl (c_X10_isPlaceIn hI (Ml M) p0 (o := o) (s := s) rfl rfl ho (by omega)) (by decide) (Nat.le_of_ble_eq_true rfl) (fun z σ9 ⟨hz, hσ⟩ => ?_)
        subst z
        subst σ9
        refine g_ifb_eq (tgt := 154) C dX10_offersAll_114 (by decide) (fun h16 => ?_) (fun h16 => ?_)
        · exact g_return C dX10_offersAll_154 ⟨by rw [baR_o hs1 hs31]; rw [if_neg (fun e => by omega)]; exact hB, hFB.bs⟩
        · refine g_aload_n C dX10_offersAll_117 rfl ?_
          refine g_aload_n C dX10_offersAll_118 rfl ?_
          refine g_pc (pc' := 119) rfl ?_
          refine gf_X10_204 (z := (s : Int)) C dX10_offersAll_119 rfl hB.2.1.1 ?_
          refine g_iconst (z := 0) C dX10_offersAll_122 rfl ?_
          have hcell : PKm p0 (16 * s + 0) (TT w s 0) := by have h9 := hB.2.2.2.1 (16 * s + 0) (by omega) (by omega); rwa [if_pos (by omega), tC_c (by omega)] at h9
          have hTs := TT_PO hW s s (Nat.le_refl _) hs1 hs31
          refine gc_X10_213 C dX10_offersAll_123 rfl (c_X10_isBest hI (Ml M) p0 (s := s) (o := 0) rfl rfl hs31 (by omega) hcell (PO_W (hTs.1 0 (by omega)))) (by decide) (Nat.le_of_ble_eq_true rfl) (fun z σ9 ⟨hz, hσ⟩ => ?_)
          subst z
          subst σ9
          refine g_ifb_eq (tgt := 154) C dX10_offersAll_126 (by decide) (fun h17 => ?_) (fun h17 => ?_)
          · exact g_return C dX10_offersAll_154 ⟨by rw [baR_o hs1 hs31]; rw [if_neg (fun e => by omega)]; exact hB, hFB.bs⟩
          · refine g_aload_n C dX10_offersAll_129 rfl ?_
            refine g_iconst (z := 4) C dX10_offersAll_130 rfl ?_
            refine g_aload_n C dX10_offersAll_131 rfl ?_
            refine g_pc (pc' := 132) rfl ?_
            refine g_aload_n C dX10_offersAll_132 rfl ?_
            refine gf_X10_204 (z := (s : Int)) C dX10_offersAll_133 rfl hB.2.1.1 ?_
            refine g_iconst (z := 0) C dX10_offersAll_136 rfl ?_
            refine gc_X10_216 C dX10_offersAll_137 rfl (c_X10_best hI (Ml M) p0 (s := s) (o := 0) rfl rfl hs31 (by omega) hcell (by assumption)) (by decide) (Nat.le_of_ble_eq_true rfl) (fun z σ9 ⟨hz, hσ⟩ => ?_)
            subst z
            subst σ9
            refine g_aload_n C dX10_offersAll_140 rfl ?_
            refine g_aload_n C dX10_offersAll_141 rfl ?_
            refine gf_X10_204 (z := (s : Int)) C dX10_offersAll_142 rfl hB.2.1.1 ?_
            refine gc_X10_242 C dX10_offersAll_145 rfl (c_X10_sortingOf hI (Ml M) p0 hB.1 hW (s := s) rfl (by omega)) (by decide) (Nat.le_of_ble_eq_true rfl) (fun z p1 ⟨hz, hF3⟩ => ?_)
            subst z
            have hB1 := hB.hm hF3
            have h0w : zW (TT w s 0) ≠ -1 := by assumption
            have hp0 : PO (TT w s 0) (25 * kT s) (4 * kT s - 3) := by have h9 := hTs.1 0 (by omega); simpa using h9
            have hk5 := kT_5 ⟨s, by omega⟩
            dsimp only at hk5
            have hk1 := hk5.2 hs1
            have hv148 : fB (FP.fadd (zK (TT w s 0)) (cso (tho w s))) (2 ^ (25 * kT s + 1) * fu) := fB_add2 (PO.fb hp0 h0w) (fB_up (cso_B (tho_B hW s) (by decide)) (by omega)) (by omega)
            have hbp := baR_PO hW hs31 hs1 (T := TT w) (fun u h1 h2 => TT_PO hW u u (Nat.le_refl _) h1 (by omega)) o ho
            refine g_pc (pc' := 148) rfl ?_
            refine g_fadd C dX10_offersAll_148 hv148.vf ?_
            refine g_iconst (z := 0) C dX10_offersAll_149 rfl ?_
            refine g_iconst (z := (-1)) C dX10_offersAll_150 rfl ?_
            refine gc_X10_219 C dX10_offersAll_151 rfl (c_X10_offers hI (Ml M) p1 hB1 hs31 ho hbp (n := soC w s (TT w s)) rfl rfl (aOf_0 (Or.inr rfl)) rfl hv148) (by decide) (Nat.le_of_ble_eq_true rfl) (fun p2 ⟨hP4, hF4⟩ => ?_)
            exact g_return C dX10_offersAll_154 ⟨by rw [baR_o hs1 hs31, if_pos ⟨h0w, by omega, by omega⟩]; exact hP4, (hFB.bs.tr hF3.bh).tr hF4.bs⟩
      · refine g_aload_n C dX10_offersAll_45 rfl ?_
        refine gf_X10_207 (z := (o : Int)) C dX10_offersAll_46 rfl hP.2.1.2 ?_
        refine g_iload_n C dX10_offersAll_49 rfl ?_
        refine g_pc (pc' := 50) rfl ?_
        refine g_icmp_ne (tgt := 67) C dX10_offersAll_50 (by decide) (by unfold R32; omega) (fun h18 => ?_) (fun h18 => ?_)
        · refine g_goto (tgt := 102) C dX10_offersAll_67 (by decide) ?_
          have hB : MP σ w s o (baR w (TT w) s o) := by unfold baR; rw [if_pos hsg]; unfold rdR; rw [if_neg (fun e => by omega)]; exact hP
          have hFB : Fm SPl NoT σ σ := (Fm.rf (S := SPl) (T := NoT))
          generalize hqq : σ = p0 at hB hFB ⊢
          refine g_aload_n C dX10_offersAll_102 rfl ?_
          refine g_aload_n C dX10_offersAll_103 rfl ?_
          refine gf_X10_207 (z := (o : Int)) C dX10_offersAll_104 rfl hB.2.1.2 ?_
          refine g_aload_n C dX10_offersAll_107 rfl ?_
          refine gf_X10_204 (z := (s : Int)) C dX10_offersAll_108 rfl hB.2.1.1 ?_
          refine gc_X10_210 C dX10_offersAll_111 rfl (c_X10_isPlaceIn hI (Ml M) p0 (o := o) (s := s) rfl rfl ho (by omega)) (by decide) (Nat.le_of_ble_eq_true rfl) (fun z σ9 ⟨hz, hσ⟩ => ?_)
          subst z
          subst σ9
          refine g_pc (pc' := 114) rfl ?_
          refine g_ifb_eq (tgt := 154) C dX10_offersAll_114 (by decide) (fun h19 => ?_) (fun h19 => ?_)
          · exact g_return C dX10_offersAll_154 ⟨by rw [baR_o hs1 hs31]; rw [if_neg (fun e => by omega)]; exact hB, hFB.bs⟩
          · refine g_aload_n C dX10_offersAll_117 rfl ?_
            refine g_aload_n C dX10_offersAll_118 rfl ?_
            refine gf_X10_204 (z := (s : Int)) C dX10_offersAll_119 rfl hB.2.1.1 ?_
            refine g_iconst (z := 0) C dX10_offersAll_122 rfl ?_
            have hcell : PKm p0 (16 * s + 0) (TT w s 0) := by have h9 := hB.2.2.2.1 (16 * s + 0) (by omega) (by omega); rwa [if_pos (by omega), tC_c (by omega)] at h9
            have hTs := TT_PO hW s s (Nat.le_refl _) hs1 hs31
            refine gc_X10_213 C dX10_offersAll_123 rfl (c_X10_isBest hI (Ml M) p0 (s := s) (o := 0) rfl rfl hs31 (by omega) hcell (PO_W (hTs.1 0 (by omega)))) (by decide) (Nat.le_of_ble_eq_true rfl) (fun z σ9 ⟨hz, hσ⟩ => ?_)
            subst z
            subst σ9
            refine g_ifb_eq (tgt := 154) C dX10_offersAll_126 (by decide) (fun h20 => ?_) (fun h20 => ?_)
            · refine g_pc (pc' := 154) rfl ?_
              exact g_return C dX10_offersAll_154 ⟨by rw [baR_o hs1 hs31]; rw [if_neg (fun e => by omega)]; exact hB, hFB.bs⟩
            · refine g_aload_n C dX10_offersAll_129 rfl ?_
              refine g_iconst (z := 4) C dX10_offersAll_130 rfl ?_
              refine g_aload_n C dX10_offersAll_131 rfl ?_
              refine g_aload_n C dX10_offersAll_132 rfl ?_
              refine gf_X10_204 (z := (s : Int)) C dX10_offersAll_133 rfl hB.2.1.1 ?_
              refine g_iconst (z := 0) C dX10_offersAll_136 rfl ?_
              refine gc_X10_216 C dX10_offersAll_137 rfl (c_X10_best hI (Ml M) p0 (s := s) (o := 0) rfl rfl hs31 (by omega) hcell (by assumption)) (by decide) (Nat.le_of_ble_eq_true rfl) (fun z σ9 ⟨hz, hσ⟩ => ?_)
              subst z
              subst σ9
              refine g_pc (pc' := 140) rfl ?_
              refine g_aload_n C dX10_offersAll_140 rfl ?_
              refine g_aload_n C dX10_offersAll_141 rfl ?_
              refine gf_X10_204 (z := (s : Int)) C dX10_offersAll_142 rfl hB.2.1.1 ?_
              refine gc_X10_242 C dX10_offersAll_145 rfl (c_X10_sortingOf hI (Ml M) p0 hB.1 hW (s := s) rfl (by omega)) (by decide) (Nat.le_of_ble_eq_true rfl) (fun z p1 ⟨hz, hF3⟩ => ?_)
              subst z
              have hB1 := hB.hm hF3
              have h0w : zW (TT w s 0) ≠ -1 := by assumption
              have hp0 : PO (TT w s 0) (25 * kT s) (4 * kT s - 3) := by have h9 := hTs.1 0 (by omega); simpa using h9
              have hk5 := kT_5 ⟨s, by omega⟩
              dsimp only at hk5
              have hk1 := hk5.2 hs1
              have hv148 : fB (FP.fadd (zK (TT w s 0)) (cso (tho w s))) (2 ^ (25 * kT s + 1) * fu) := fB_add2 (PO.fb hp0 h0w) (fB_up (cso_B (tho_B hW s) (by decide)) (by omega)) (by omega)
              have hbp := baR_PO hW hs31 hs1 (T := TT w) (fun u h1 h2 => TT_PO hW u u (Nat.le_refl _) h1 (by omega)) o ho
              refine g_fadd C dX10_offersAll_148 hv148.vf ?_
              refine g_iconst (z := 0) C dX10_offersAll_149 rfl ?_
              refine g_iconst (z := (-1)) C dX10_offersAll_150 rfl ?_
              refine gc_X10_219 C dX10_offersAll_151 rfl (c_X10_offers hI (Ml M) p1 hB1 hs31 ho hbp (n := soC w s (TT w s)) rfl rfl (aOf_0 (Or.inr rfl)) rfl hv148) (by decide) (Nat.le_of_ble_eq_true rfl) (fun p2 ⟨hP4, hF4⟩ => ?_)
              refine g_pc (pc' := 154) rfl ?_
              exact g_return C dX10_offersAll_154 ⟨by rw [baR_o hs1 hs31, if_pos ⟨h0w, by omega, by omega⟩]; exact hP4, (hFB.bs.tr hF3.bh).tr hF4.bs⟩
        · refine g_aload_n C dX10_offersAll_53 rfl ?_
          refine g_iconst (z := 0) C dX10_offersAll_54 rfl ?_
          refine g_aload_n C dX10_offersAll_55 rfl ?_
          refine gf_X10_13 C dX10_offersAll_56 rfl ?_
          refine g_iload_n C dX10_offersAll_59 rfl ?_
          refine g_iaz (n := (leastT s)) (N := 5) (v := (wl w (leastT s) : Int)) C dX10_offersAll_60 rfl rfl (by omega) (by omega) (by decide) ((hP.1.1 (leastT s) (by omega)).1) ?_
          refine g_i2f C dX10_offersAll_61 ?_
          refine g_pc (pc' := 62) rfl ?_
          refine g_iconst (z := 0) C dX10_offersAll_62 rfl ?_
          refine g_iconst (z := (-1)) C dX10_offersAll_63 rfl ?_
          refine gc_X10_219 C dX10_offersAll_64 rfl (c_X10_offers hI (Ml M) σ hP hs31 ho (PO_N (K := 0) (S := 0)) (n := rdC w s) rfl rfl (aOf_0 (Or.inl rfl)) rfl (fB_i2f (show wl w (leastT s) < 16777216 by omega))) (by decide) (Nat.le_of_ble_eq_true rfl) (fun σ1 ⟨hP1, hF1⟩ => ?_)
          refine g_goto (tgt := 102) C dX10_offersAll_67 (by decide) ?_
          have hB : MP σ1 w s o (baR w (TT w) s o) := by unfold baR; rw [if_pos hsg]; unfold rdR; rw [if_pos (by omega)]; rw [addP_N] at hP1; exact hP1
          have hFB : Fm SPl NoT σ σ1 := hF1
          generalize hqq : σ1 = p0 at hB hFB ⊢
          refine g_aload_n C dX10_offersAll_102 rfl ?_
          refine g_aload_n C dX10_offersAll_103 rfl ?_
          refine gf_X10_207 (z := (o : Int)) C dX10_offersAll_104 rfl hB.2.1.2 ?_
          refine g_aload_n C dX10_offersAll_107 rfl ?_
          refine g_pc (pc' := 108) rfl ?_
          refine gf_X10_204 (z := (s : Int)) C dX10_offersAll_108 rfl hB.2.1.1 ?_
          refine gc_X10_210 C dX10_offersAll_111 rfl (c_X10_isPlaceIn hI (Ml M) p0 (o := o) (s := s) rfl rfl ho (by omega)) (by decide) (Nat.le_of_ble_eq_true rfl) (fun z σ9 ⟨hz, hσ⟩ => ?_)
          subst z
          subst σ9
          refine g_ifb_eq (tgt := 154) C dX10_offersAll_114 (by decide) (fun h21 => ?_) (fun h21 => ?_)
          · exact g_return C dX10_offersAll_154 ⟨by rw [baR_o hs1 hs31]; rw [if_neg (fun e => by omega)]; exact hB, hFB.bs⟩
          · refine g_aload_n C dX10_offersAll_117 rfl ?_
            refine g_aload_n C dX10_offersAll_118 rfl ?_
            refine gf_X10_204 (z := (s : Int)) C dX10_offersAll_119 rfl hB.2.1.1 ?_
            refine g_iconst (z := 0) C dX10_offersAll_122 rfl ?_
            refine g_pc (pc' := 123) rfl ?_
            have hcell : PKm p0 (16 * s + 0) (TT w s 0) := by have h9 := hB.2.2.2.1 (16 * s + 0) (by omega) (by omega); rwa [if_pos (by omega), tC_c (by omega)] at h9
            have hTs := TT_PO hW s s (Nat.le_refl _) hs1 hs31
            refine gc_X10_213 C dX10_offersAll_123 rfl (c_X10_isBest hI (Ml M) p0 (s := s) (o := 0) rfl rfl hs31 (by omega) hcell (PO_W (hTs.1 0 (by omega)))) (by decide) (Nat.le_of_ble_eq_true rfl) (fun z σ9 ⟨hz, hσ⟩ => ?_)
            subst z
            subst σ9
            refine g_ifb_eq (tgt := 154) C dX10_offersAll_126 (by decide) (fun h22 => ?_) (fun h22 => ?_)
            · exact g_return C dX10_offersAll_154 ⟨by rw [baR_o hs1 hs31]; rw [if_neg (fun e => by omega)]; exact hB, hFB.bs⟩
            · refine g_aload_n C dX10_offersAll_129 rfl ?_
              refine g_iconst (z := 4) C dX10_offersAll_130 rfl ?_
              refine g_aload_n C dX10_offersAll_131 rfl ?_
              refine g_aload_n C dX10_offersAll_132 rfl ?_
              refine gf_X10_204 (z := (s : Int)) C dX10_offersAll_133 rfl hB.2.1.1 ?_
              refine g_pc (pc' := 136) rfl ?_
              refine g_iconst (z := 0) C dX10_offersAll_136 rfl ?_
              refine gc_X10_216 C dX10_offersAll_137 rfl (c_X10_best hI (Ml M) p0 (s := s) (o := 0) rfl rfl hs31 (by omega) hcell (by assumption)) (by decide) (Nat.le_of_ble_eq_true rfl) (fun z σ9 ⟨hz, hσ⟩ => ?_)
              subst z
              subst σ9
              refine g_aload_n C dX10_offersAll_140 rfl ?_
              refine g_aload_n C dX10_offersAll_141 rfl ?_
              refine gf_X10_204 (z := (s : Int)) C dX10_offersAll_142 rfl hB.2.1.1 ?_
              refine gc_X10_242 C dX10_offersAll_145 rfl (c_X10_sortingOf hI (Ml M) p0 hB.1 hW (s := s) rfl (by omega)) (by decide) (Nat.le_of_ble_eq_true rfl) (fun z p1 ⟨hz, hF3⟩ => ?_)
              subst z
              have hB1 := hB.hm hF3
              have h0w : zW (TT w s 0) ≠ -1 := by assumption
              have hp0 : PO (TT w s 0) (25 * kT s) (4 * kT s - 3) := by have h9 := hTs.1 0 (by omega); simpa using h9
              have hk5 := kT_5 ⟨s, by omega⟩
              dsimp only at hk5
              have hk1 := hk5.2 hs1
              have hv148 : fB (FP.fadd (zK (TT w s 0)) (cso (tho w s))) (2 ^ (25 * kT s + 1) * fu) := fB_add2 (PO.fb hp0 h0w) (fB_up (cso_B (tho_B hW s) (by decide)) (by omega)) (by omega)
              have hbp := baR_PO hW hs31 hs1 (T := TT w) (fun u h1 h2 => TT_PO hW u u (Nat.le_refl _) h1 (by omega)) o ho
              refine g_fadd C dX10_offersAll_148 hv148.vf ?_
              refine g_iconst (z := 0) C dX10_offersAll_149 rfl ?_
              refine g_pc (pc' := 150) rfl ?_
              refine g_iconst (z := (-1)) C dX10_offersAll_150 rfl ?_
              refine gc_X10_219 C dX10_offersAll_151 rfl (c_X10_offers hI (Ml M) p1 hB1 hs31 ho hbp (n := soC w s (TT w s)) rfl rfl (aOf_0 (Or.inr rfl)) rfl hv148) (by decide) (Nat.le_of_ble_eq_true rfl) (fun p2 ⟨hP4, hF4⟩ => ?_)
              exact g_return C dX10_offersAll_154 ⟨by rw [baR_o hs1 hs31, if_pos ⟨h0w, by omega, by omega⟩]; exact hP4, (hFB.bs.tr hF3.bh).tr hF4.bs⟩

/-! MATCHES: all rows, told by the lines of the first table -/
theorem nsum_mono {g : Nat → Nat} {i : Nat} : ∀ {n : Nat}, i ≤ n → nsum i g ≤ nsum n g
  | 0, h => by rw [show i = 0 by omega]; exact Nat.le_refl _
  | n + 1, h => by
    rcases Nat.lt_or_ge n i with k | k
    · rw [show i = n + 1 by omega]; exact Nat.le_refl _
    · exact Nat.le_trans (nsum_mono k) (by rw [nsum]; omega)
theorem mL_0 {s f : Nat} : ∀ t, gL (mL s f t) 0 = f
  | 0 => rfl
  | t + 1 => by
    rw [mL]
    split
    · rw [gL_l (by have := (mL_len (s := s) (f := f) t).1; omega)]; exact mL_0 t
    · exact mL_0 t
theorem mL_lt {s f : Nat} (hf : f < 5) : ∀ t, t ≤ 5 → ∀ i, i < (mL s f t).length → gL (mL s f t) i < 5
  | 0, _, i, hi => by
    rw [mL, List.length_singleton] at hi
    rw [show i = 0 by omega]; exact hf
  | t + 1, ht, i, hi => by
    rw [mL] at hi ⊢
    split
    · rename_i h
      rw [if_pos h, List.length_append, List.length_singleton] at hi
      rcases Nat.lt_or_ge i (mL s f t).length with k | k
      · rw [gL_l k]; exact mL_lt hf t (by omega) i k
      · rw [show i = (mL s f t).length by omega, gL_r]; omega
    · rename_i h
      rw [if_neg h] at hi
      exact mL_lt hf t (by omega) i hi
theorem mL_OK {s f : Nat} (hf : f < 5) : LOK (mL s f 5) := ⟨by have := (mL_len (s := s) (f := f) 5).2; rwa [if_pos hf] at this, mL_lt hf 5 (Nat.le_refl _)⟩
/-- the rows by the lines of the first table -/
def rB (w : Wv) (s f : Nat) : Nat → Nat := sN1 (jA w s (wnj w)) (mL s f 5) 0 (fM w (wnf w))
theorem rB_le {w : Wv} {s f : Nat} (hf : f < 5) (i : Nat) : rB w s f i ≤ 65536 := by
  unfold rB sN1
  split
  · refine Nat.le_trans cN_le ?_
    have := (mL_OK (s := s) hf).1
    refine Nat.le_trans (Nat.pow_le_pow_right (by decide) (show ((mL s f 5).drop (0 + 1)).length ≤ 4 by rw [List.length_drop]; omega)) (by decide)
  · exact Nat.zero_le _
def MX (k : Nat) : Prop := k = 98 ∨ k = 99 ∨ k = 100 ∨ k = 101 ∨ k = 102
def RCx (k : Nat) : Prop := k = 100 ∨ k = 102
def RO (w : Wv) (s f : Nat) (σ : St) (z : Int) (σ' : St) : Prop := (nsum 16 (rB w s f) ≤ 100000 → z = (nsum 16 (rB w s f) : Int) ∧ ∀ j, j < 16 → σ'.1 102 j = (rB w s f j : Int)) ∧ (100000 < nsum 16 (rB w s f) → 100000 < z) ∧ 0 ≤ z ∧ z ≤ 165536 ∧ Fr MX σ σ'
theorem RO_of {w : Wv} {s f i : Nat} {σ σ3 q : St} {z : Int} (hx3 : z = (nsum i (rB w s f) : Int)) (hi : i ≤ 16) (hb : z ≤ 165536) (h : i = 16 ∨ 100000 < z) (hB : ∀ j, j < i → q.1 102 j = (rB w s f j : Int)) (hF3 : Fr MX σ σ3) (hF : Fr RCx σ3 q) : RO w s f σ z q := by
  have h9 := nsum_mono (g := rB w s f) hi
  refine ⟨fun hN => ?_, fun hN => ?_, by omega, hb, hF3.tr (hF.mono (fun k e => by unfold RCx at e; unfold MX; omega))⟩
  · have h8 : i = 16 := by omega
    subst h8
    exact ⟨hx3, hB⟩
  · rcases h with h | h
    · subst h; omega
    · exact h
set_option maxHeartbeats 4000000 in
set_option maxRecDepth 100000 in
theorem c_X1_rowsOf {κ : Kp} (hI : Ij κ) (l : Launch) (σ : St) {w : Wv} (hX : XW 0 σ w) (hW : OKW w) {s f : Nat} {zs zf : Int} (hs : zs = (s : Int)) (hf : zf = (f : Int)) (hs32 : s < 32) (hf5 : f < 5) : CtI κ l 8 yX1_rowsOf cX1_rowsOf 6 .int [.ref (κ.2.1 98), .int (iZ zs), .int (iZ zf)] σ (fun z σ' => RO w s f σ z σ') := by
  refine Ct.ofG (own := RX1) hI (by decide +kernel) rfl (Nat.le_of_ble_eq_true rfl) rfl ?_
  intro M C hMl
  refine g_aload_n C dX1_rowsOf_0 rfl ?_
  refine g_iload_n C dX1_rowsOf_1 rfl ?_
  refine g_iload_n C dX1_rowsOf_2 rfl ?_
  refine gc_X1_32 C dX1_rowsOf_3 rfl (c_X1_chooseMembers hI (Ml M) σ hs hf hs32 hf5) (by decide) (Nat.le_of_ble_eq_true rfl) (fun σ1 ⟨hM1, hFa⟩ => ?_)
  have hX1 : XW 0 σ1 w := hX.fr hFa (fun k _ hk e => by unfold MC1 at e; omega)
  refine g_aload_n C dX1_rowsOf_6 rfl ?_
  refine gc_X1_36 C dX1_rowsOf_7 rfl (c_X1_passFilters hI (Ml M) σ1 hX1 hW) (by decide) (Nat.le_of_ble_eq_true rfl) (fun σ2 ⟨hFb, mf, hS2, hK2⟩ => ?_)
  have hX2 := hX1.frF hFb
  refine g_aload_n C dX1_rowsOf_10 rfl ?_
  refine g_pc (pc' := 11) rfl ?_
  refine g_iload_n C dX1_rowsOf_11 rfl ?_
  refine gc_X1_39 C dX1_rowsOf_12 rfl (c_X1_pairLines hI (Ml M) σ2 hX2 hW hs hs32) (by decide) (Nat.le_of_ble_eq_true rfl) (fun σ3 ⟨hFc, pm, hP3, hA3⟩ => ?_)
  have hLO := mL_OK (s := s) hf5
  have hg0 := mL_0 (s := s) (f := f) 5
  have hL1 : 0 < (mL s f 5).length := (mL_len (s := s) (f := f) 5).1
  have hM3 : MS σ3 (mL s f 5) := (hM1.fr hFb (by unfold FC; omega) (by unfold FC; omega)).fr hFc (by unfold PC; omega) (by unfold PC; omega)
  have hR3 : FR σ3 (mL s f 5) 0 mf := fun j _ hj => by rw [hFc.1 100 (by unfold PC; omega), show 0 * 5 + gL (mL s f 5) j = gL (mL s f 5) j by omega]; exact hS2 _ (hLO.2 j hj)
  have hK3 : FKs (mL s f 5) 0 mf (fM w (wnf w)) := fun j _ hj => hK2 _ (hLO.2 j hj)
  have hms := hK2 f hf5
  have hms1 := hms.1
  have hF3 : Fr MX σ σ3 := ((hFa.mono (fun k e => by unfold MC1 at e; unfold MX; omega)).tr (hFb.mono (fun k e => by unfold FC at e; unfold MX; omega))).tr (hFc.mono (fun k e => by unfold PC at e; unfold MX; omega))
  refine g_iconst (z := 0) C dX1_rowsOf_15 rfl ?_
  refine g_istore_n (L' := [(3, .int (iZ 0)), (0, .ref (κ.2.1 98)), (1, .int (iZ zs)), (2, .int (iZ zf))]) C dX1_rowsOf_16 rfl (by decide) rfl ?_
  refine g_iconst (z := 0) C dX1_rowsOf_17 rfl ?_
  refine g_istore (L' := [(4, .int (iZ 0)), (3, .int (iZ 0)), (0, .ref (κ.2.1 98)), (1, .int (iZ zs)), (2, .int (iZ zf))]) C dX1_rowsOf_18 (by decide) rfl ?_
  have lp20 : ∀ (fz9 : Nat) (i : Nat) (x3 : Int) (x4 : Int) (q : St), (16 - i < fz9) → (x3 = (nsum i (rB w s f) : Int)) → (x4 = (i : Int)) → (i ≤ 16) → (x3 ≤ 165536) → (Fr RCx σ3 q) → (low 0 σ3 q) → (∀ j, j < i → q.1 102 j = ((rB w s f) j : Int)) → G M κ 6 (En M κ (qI κ (fun z σ' => RO w s f σ z σ'))) 20 [(0, .ref (κ.2.1 98)), (1, .int (iZ zs)), (2, .int (iZ zf)), (3, .int (iZ x3)), (4, .int (iZ x4))] [] q := by
    intro fz9
    induction fz9 with
    | zero => intro i x3 x4 q hm0; exact absurd hm0 (Nat.not_lt_zero _)
    | succ fz9 ih20 =>
      intro i x3 x4 q hm20 hx3 hx4 hi hx3b hF hl hB
      have hMq := hM3.fr hF (by unfold RCx; omega) (by unfold RCx; omega)
      have hPq := hP3.fr hF (by unfold RCx; omega)
      have hRq := hR3.low hLO hl
      have hbs : nsum (i + 1) (rB w s f) = nsum i (rB w s f) + (rB w s f) i := rfl
      have hgi := rB_le (w := w) (s := s) hf5 i
      have hf0 : q.1 100 f = (mf f : Int) := by have h9 := hRq 0 (Nat.le_refl _) hL1; rw [hg0, show 0 * 5 + f = f by omega] at h9; exact h9
      refine g_iload C dX1_rowsOf_20 rfl ?_
      refine g_bipush (z := 16) C dX1_rowsOf_22 rfl ?_
      refine g_pc (pc' := 24) rfl ?_
      refine g_icmp_ge (tgt := 102) C dX1_rowsOf_24 (by decide) (by unfold R32; omega) (fun h1 => ?_) (fun h1 => ?_)
      · refine g_iload_n C dX1_rowsOf_102 rfl ?_
        exact g_ireturn C dX1_rowsOf_103 (RO_of hx3 hi hx3b (by omega) hB hF3 hF)
      · refine g_iload_n C dX1_rowsOf_27 rfl ?_
        refine g_ldc (z := 100000) C dX1_rowsOf_28 wq_569 ?_
        refine g_icmp_gt (tgt := 102) C dX1_rowsOf_30 (by decide) (by unfold R32; omega) (fun h2 => ?_) (fun h2 => ?_)
        · refine g_iload_n C dX1_rowsOf_102 rfl ?_
          exact g_ireturn C dX1_rowsOf_103 (RO_of hx3 hi hx3b (by omega) hB hF3 hF)
        · refine g_pc (pc' := 33) rfl ?_
          refine g_aload_n C dX1_rowsOf_33 rfl ?_
          refine gf_X1_19 C dX1_rowsOf_34 rfl ?_
          refine g_iload_n C dX1_rowsOf_37 rfl ?_
          refine g_iaz (n := f) (N := 25) (v := (mf f : Int)) C dX1_rowsOf_38 rfl rfl (by omega) (by omega) (by decide) hf0 ?_
          refine g_iload C dX1_rowsOf_39 rfl ?_
          refine g_ishr C dX1_rowsOf_41 ?_
          refine g_iconst (z := 1) C dX1_rowsOf_42 rfl ?_
          refine g_iand C dX1_rowsOf_43 ?_
          refine g_raw (bit_raw (s := mf f) (t := i) rfl hx4 (by omega) (by omega)) ?_
          have hb01 := bitv_01 (mf f) i
          refine g_pc (pc' := 44) rfl ?_
          refine g_iconst (z := 1) C dX1_rowsOf_44 rfl ?_
          refine g_icmp_ne (tgt := 62) C dX1_rowsOf_45 (by decide) (by unfold R32; omega) (fun h3 => ?_) (fun h3 => ?_)
          · refine g_iconst (z := 0) C dX1_rowsOf_62 rfl ?_
            refine g_istore (L' := [(5, .int (iZ 0)), (0, .ref (κ.2.1 98)), (1, .int (iZ zs)), (2, .int (iZ zf)), (3, .int (iZ x3)), (4, .int (iZ x4))]) C dX1_rowsOf_63 (by decide) rfl ?_
            refine g_aload_n C dX1_rowsOf_65 rfl ?_
            refine gf_X1_25 C dX1_rowsOf_66 rfl ?_
            refine g_iload C dX1_rowsOf_69 rfl ?_
            refine g_iload C dX1_rowsOf_71 rfl ?_
            refine g_pc (pc' := 73) rfl ?_
            refine g_if_eq (tgt := 84) C dX1_rowsOf_73 (by decide) (by unfold R32; omega) (fun h4 => ?_) (fun h4 => ?_)
            · refine g_iconst (z := 0) C dX1_rowsOf_84 rfl ?_
              refine g_iast (n := i) (N := 16) C dX1_rowsOf_85 rfl rfl (by omega) (by omega) (by decide) ?_
              have hFi : fM w (wnf w) f i = false := by rw [← hms.2 i (by omega), tb_bitv]; exact decide_eq_false (by omega)
              have h0 : rB w s f i = 0 := by unfold rB sN1; rw [hg0, hFi]; rfl
              refine g_iload_n C dX1_rowsOf_86 rfl ?_
              refine g_aload_n C dX1_rowsOf_87 rfl ?_
              refine gf_X1_25 C dX1_rowsOf_88 rfl ?_
              refine g_iload C dX1_rowsOf_91 rfl ?_
              refine g_iaz (n := i) (N := 16) (v := 0) C dX1_rowsOf_93 rfl rfl (by omega) (by omega) (by decide) rI_s ?_
              refine g_pc (pc' := 94) rfl ?_
              refine g_iadd C dX1_rowsOf_94 ?_
              refine g_istore_n (L' := [(3, .int (iZ (x3 + 0))), (5, .int (iZ 0)), (0, .ref (κ.2.1 98)), (1, .int (iZ zs)), (2, .int (iZ zf)), (4, .int (iZ x4))]) C dX1_rowsOf_95 rfl (by decide) rfl ?_
              refine g_iinc (q := 5) (v := (x4 + 1)) (L' := [(4, .int (iZ (x4 + 1))), (3, .int (iZ (x3 + 0))), (5, .int (iZ 0)), (0, .ref (κ.2.1 98)), (1, .int (iZ zs)), (2, .int (iZ zf))]) C dX1_rowsOf_96 rfl rfl (by decide) rfl ?_
              refine g_goto (tgt := 20) C dX1_rowsOf_99 (by decide) ?_
              exact g_loc [3, 4, 5, 1, 0] (by rfl) (ih20 (i + 1) (x3 + 0) (x4 + 1) (sI q 102 i 0) (by omega) (by rw [hbs]; omega) (by omega) (by omega) (by omega) (hF.sI (by unfold RCx; omega)) (fun u hu => by rw [rI_k (by decide)]; exact hl u hu) (fun j hj => by rcases Nat.lt_or_ge j i with k | k; (rw [rI_j (by omega)]; exact hB j k); (rw [show j = i by omega, rI_s]; omega)))
            · exfalso; omega
          · refine g_aload_n C dX1_rowsOf_48 rfl ?_
            refine g_iconst (z := 0) C dX1_rowsOf_49 rfl ?_
            refine g_iload C dX1_rowsOf_50 rfl ?_
            refine gc_X1_44 C dX1_rowsOf_52 rfl (c_X1_narrow hI (Ml M) q hMq hLO hPq hA3 (s := 0) (i := i) rfl hx4 hL1 (by omega) hRq hK3) (by decide) (Nat.le_of_ble_eq_true rfl) (fun zw σ4 ⟨hF1, hl1, hz1⟩ => ?_)
            refine g_pc (pc' := 55) rfl ?_
            refine g_if_eq (tgt := 62) C dX1_rowsOf_55 (by decide) (by unfold R32; omega) (fun h5 => ?_) (fun h5 => ?_)
            · refine g_iconst (z := 0) C dX1_rowsOf_62 rfl ?_
              refine g_istore (L' := [(5, .int (iZ 0)), (0, .ref (κ.2.1 98)), (1, .int (iZ zs)), (2, .int (iZ zf)), (3, .int (iZ x3)), (4, .int (iZ x4))]) C dX1_rowsOf_63 (by decide) rfl ?_
              refine g_aload_n C dX1_rowsOf_65 rfl ?_
              refine gf_X1_25 C dX1_rowsOf_66 rfl ?_
              refine g_iload C dX1_rowsOf_69 rfl ?_
              refine g_iload C dX1_rowsOf_71 rfl ?_
              refine g_if_eq (tgt := 84) C dX1_rowsOf_73 (by decide) (by unfold R32; omega) (fun h6 => ?_) (fun h6 => ?_)
              · refine g_pc (pc' := 84) rfl ?_
                refine g_iconst (z := 0) C dX1_rowsOf_84 rfl ?_
                refine g_iast (n := i) (N := 16) C dX1_rowsOf_85 rfl rfl (by omega) (by omega) (by decide) ?_
                have h0 : rB w s f i = 0 := by rcases hz1 with hz1 | hz1; exact sN1_dead hK3 hLO hL1 (by omega) hA3 hz1.2; exact absurd hz1.1 (by omega)
                refine g_iload_n C dX1_rowsOf_86 rfl ?_
                refine g_aload_n C dX1_rowsOf_87 rfl ?_
                refine gf_X1_25 C dX1_rowsOf_88 rfl ?_
                refine g_iload C dX1_rowsOf_91 rfl ?_
                refine g_iaz (n := i) (N := 16) (v := 0) C dX1_rowsOf_93 rfl rfl (by omega) (by omega) (by decide) rI_s ?_
                refine g_iadd C dX1_rowsOf_94 ?_
                refine g_pc (pc' := 95) rfl ?_
                refine g_istore_n (L' := [(3, .int (iZ (x3 + 0))), (5, .int (iZ 0)), (0, .ref (κ.2.1 98)), (1, .int (iZ zs)), (2, .int (iZ zf)), (4, .int (iZ x4))]) C dX1_rowsOf_95 rfl (by decide) rfl ?_
                refine g_iinc (q := 5) (v := (x4 + 1)) (L' := [(4, .int (iZ (x4 + 1))), (3, .int (iZ (x3 + 0))), (5, .int (iZ 0)), (0, .ref (κ.2.1 98)), (1, .int (iZ zs)), (2, .int (iZ zf))]) C dX1_rowsOf_96 rfl rfl (by decide) rfl ?_
                refine g_goto (tgt := 20) C dX1_rowsOf_99 (by decide) ?_
                exact g_loc [3, 4, 5, 1, 0] (by rfl) (ih20 (i + 1) (x3 + 0) (x4 + 1) (sI σ4 102 i 0) (by omega) (by rw [hbs]; omega) (by omega) (by omega) (by omega) ((hF.tr (hF1.mono (fun k e => Or.inl e))).sI (by unfold RCx; omega)) (fun u hu => by rw [rI_k (by decide)]; exact (hl.tr hl1) u hu) (fun j hj => by rcases Nat.lt_or_ge j i with k | k; (rw [rI_j (by omega), hF1.1 102 (by unfold NC; omega)]; exact hB j k); (rw [show j = i by omega, rI_s]; omega)))
              · exfalso; omega
            · refine g_iconst (z := 1) C dX1_rowsOf_58 rfl ?_
              refine g_goto (tgt := 63) C dX1_rowsOf_59 (by decide) ?_
              refine g_istore (L' := [(5, .int (iZ 1)), (0, .ref (κ.2.1 98)), (1, .int (iZ zs)), (2, .int (iZ zf)), (3, .int (iZ x3)), (4, .int (iZ x4))]) C dX1_rowsOf_63 (by decide) rfl ?_
              refine g_aload_n C dX1_rowsOf_65 rfl ?_
              refine gf_X1_25 C dX1_rowsOf_66 rfl ?_
              refine g_pc (pc' := 69) rfl ?_
              refine g_iload C dX1_rowsOf_69 rfl ?_
              refine g_iload C dX1_rowsOf_71 rfl ?_
              refine g_if_eq (tgt := 84) C dX1_rowsOf_73 (by decide) (by unfold R32; omega) (fun h7 => ?_) (fun h7 => ?_)
              · exfalso; omega
              · refine g_aload_n C dX1_rowsOf_76 rfl ?_
                refine g_iconst (z := 1) C dX1_rowsOf_77 rfl ?_
                refine gc_X1_48 C dX1_rowsOf_78 (c_X1_rowsFrom hI (Ml M) hLO hA3 σ4 (s := 1) (mf := nM pm (gL (mL s f 5) 0) i mf) (F := nF (jA w s (wnj w)) (gL (mL s f 5) 0) i (fM w (wnf w))) (hMq.fr hF1 (by unfold NC; omega) (by unfold NC; omega)) (hPq.fr hF1 (by unfold NC; omega)) rfl (by omega) hL1 (by rcases hz1 with hz1 | hz1; exact absurd hz1.1 (by omega); exact hz1.2) (hK3.n hLO hL1 (by omega) hA3)) (by decide) (Nat.le_of_ble_eq_true rfl) (fun zr σ5 ⟨hz2, hF2, hl2⟩ => ?_)
                refine g_goto (tgt := 85) C dX1_rowsOf_81 (by decide) ?_
                refine g_iast (n := i) (N := 16) C dX1_rowsOf_85 rfl rfl (by omega) (by omega) (by decide) ?_
                have hFi : fM w (wnf w) f i = true := by rw [← hms.2 i (by omega), tb_bitv]; exact decide_eq_true (by omega)
                have h0 : (rB w s f i : Int) = zr := by rw [hz2]; unfold rB sN1; rw [hg0, if_pos hFi]
                refine g_pc (pc' := 86) rfl ?_
                refine g_iload_n C dX1_rowsOf_86 rfl ?_
                refine g_aload_n C dX1_rowsOf_87 rfl ?_
                refine gf_X1_25 C dX1_rowsOf_88 rfl ?_
                refine g_iload C dX1_rowsOf_91 rfl ?_
                refine g_iaz (n := i) (N := 16) (v := zr) C dX1_rowsOf_93 rfl rfl (by omega) (by omega) (by decide) rI_s ?_
                refine g_iadd C dX1_rowsOf_94 ?_
                refine g_istore_n (L' := [(3, .int (iZ (x3 + zr))), (5, .int (iZ 1)), (0, .ref (κ.2.1 98)), (1, .int (iZ zs)), (2, .int (iZ zf)), (4, .int (iZ x4))]) C dX1_rowsOf_95 rfl (by decide) rfl ?_
                refine g_iinc (q := 5) (v := (x4 + 1)) (L' := [(4, .int (iZ (x4 + 1))), (3, .int (iZ (x3 + zr))), (5, .int (iZ 1)), (0, .ref (κ.2.1 98)), (1, .int (iZ zs)), (2, .int (iZ zf))]) C dX1_rowsOf_96 rfl rfl (by decide) rfl ?_
                refine g_pc (pc' := 99) rfl ?_
                refine g_goto (tgt := 20) C dX1_rowsOf_99 (by decide) ?_
                exact g_loc [3, 4, 5, 1, 0] (by rfl) (ih20 (i + 1) (x3 + zr) (x4 + 1) (sI σ5 102 i zr) (by omega) (by rw [hbs]; omega) (by omega) (by omega) (by omega) (((hF.tr (hF1.mono (fun k e => Or.inl e))).tr (hF2.mono (fun k e => Or.inl e))).sI (by unfold RCx; omega)) (fun u hu => by rw [rI_k (by decide)]; exact ((hl.tr hl1).tr (hl2.mono (Nat.zero_le _))) u hu) (fun j hj => by rcases Nat.lt_or_ge j i with k | k; (rw [rI_j (by omega), hF2.1 102 (by unfold NC; omega), hF1.1 102 (by unfold NC; omega)]; exact hB j k); (rw [show j = i by omega, rI_s]; omega)))
  exact g_loc [2, 3, 4, 1, 0] (by rfl) (lp20 _ 0 0 0 σ3 (Nat.lt_succ_self _) rfl rfl (by omega) (by omega) Fr.rf low.rf (fun j hj => absurd hj (Nat.not_lt_zero _)))

/-! THE MODEL: what a split offers -/
theorem PO_W {c : Cel} {K S : Nat} (h : PO c K S) : -1 ≤ zW c ∧ zW c ≤ 4 := by rcases h with h | h <;> omega
theorem prR_c {w : Wv} {T : Nat → Nat → Cel} {s : Nat} : ∀ n, zW (prR w T s n 0) ≠ -1 ∨ ∀ o, prR w T s n o = pcN
  | 0 => Or.inr (fun _ => rfl)
  | n + 1 => by
    rw [prR]
    split
    · refine Or.inl ?_
      unfold stP s3R
      rw [if_pos (Or.inl rfl)]
      exact addP_W (show (3 : Int) ≠ -1 by decide)
    · exact prR_c n
theorem TT_conv {w : Wv} {s o : Nat} (h1 : 1 ≤ s) (h2 : s ≤ 31) (h : zW (TT w s o) ≠ -1) : zW (TT w s 0) ≠ -1 := by
  rw [TT_0 h1 h2]
  rw [congrFun (TT_eq (w := w) h1 h2) o] at h
  unfold soR at h
  split at h
  · rename_i e; exact e.1
  · unfold baR at h ⊢
    split
    · unfold rdR; rw [if_pos (Or.inl rfl)]; exact (show (0 : Int) ≠ -1 by decide)
    · rename_i e
      rw [if_neg e] at h
      rcases prR_c (w := w) (T := TT w) (s := s) s with k | k
      · exact k
      · rw [k o] at h; exact absurd rfl h
theorem aOf_h {w : Wv} {T : Nat → Nat → Cel} {a b : Nat} {j : Int} : aOf (hC w T a b j) = (a : Int) := by
  show (if ((1 : Int) = 0 ∨ (1 : Int) = 4) then (0 : Int) else ((16 * a + 0 : Nat) : Int) / 16) = _
  rw [if_neg (by decide)]
  omega
theorem aOf_l {w : Wv} {T : Nat → Nat → Cel} {a b o : Nat} {j : Int} (ho : o < 16) : aOf (lC w T a b j o) = (a : Int) := by
  show (if ((2 : Int) = 0 ∨ (2 : Int) = 4) then (0 : Int) else ((16 * a + o : Nat) : Int) / 16) = _
  rw [if_neg (by decide)]
  omega
theorem aOf_m {w : Wv} {T : Nat → Nat → Cel} {a b : Nat} {j : Int} (ho : mO w a j < 16) : aOf (mC w T a b j) = (a : Int) := by
  show (if ((3 : Int) = 0 ∨ (3 : Int) = 4) then (0 : Int) else ((16 * a + mO w a j : Nat) : Int) / 16) = _
  rw [if_neg (by decide)]
  omega
def cLp (w : Wv) (a b : Nat) (j : Int) (o : Nat) (c : Cel) : Cel := if inO a o ∧ zW (TT w a o) ≠ -1 ∧ zW (TT w b 0) ≠ -1 then addP c (lC w (TT w) a b j o) else c
def cMp (w : Wv) (a b : Nat) (j : Int) (o : Nat) (c : Cel) : Cel := if (o = 0 ∨ o = mO w a j) ∧ zW (TT w a (mO w a j)) ≠ -1 ∧ zW (TT w b (mO w b j)) ≠ -1 then addP c (mC w (TT w) a b j) else c
def cHp (w : Wv) (a b : Nat) (j : Int) (o : Nat) (c : Cel) : Cel := if o = 0 ∧ zW (TT w a 0) ≠ -1 ∧ zW (TT w b 0) ≠ -1 then addP c (hC w (TT w) a b j) else c
theorem sp_eq {w : Wv} {s a o : Nat} (hs : s ≤ 31) (h1 : 1 ≤ a) (h2 : a < s) (h3 : a &&& s = a) (ho : o < 16) (hj : jB w a (s - a) ≠ -1) (hin : zW (TT w a 0) ≠ -1 → inO a o → zW (TT w a o) ≠ -1) (hmA : zW (TT w a 0) ≠ -1 → zW (TT w a (mO w a (jB w a (s - a)))) ≠ -1) (hmB : zW (TT w (s - a) 0) ≠ -1 → zW (TT w (s - a) (mO w (s - a) (jB w a (s - a)))) ≠ -1) : cMp w a (s - a) (jB w a (s - a)) o (cLp w a (s - a) (jB w a (s - a)) o (cHp w a (s - a) (jB w a (s - a)) o (prR w (TT w) s a o))) = prR w (TT w) s (a + 1) o := by
  by_cases hw : zW (TT w a 0) ≠ -1 ∧ zW (TT w (s - a) 0) ≠ -1
  · rw [prR_y ⟨h1, h3, hj, hw.1, hw.2⟩]
    have e1 : cHp w a (s - a) (jB w a (s - a)) o (prR w (TT w) s a o) = s1R w (TT w) a (s - a) (jB w a (s - a)) (prR w (TT w) s a) o := by
      unfold cHp s1R
      by_cases h : o = 0
      · rw [if_pos ⟨h, hw.1, hw.2⟩, if_pos h]
      · rw [if_neg (fun e => h e.1), if_neg h]
    have e2 : ∀ c, c = s1R w (TT w) a (s - a) (jB w a (s - a)) (prR w (TT w) s a) o → cLp w a (s - a) (jB w a (s - a)) o c = s2R w (TT w) a (s - a) (jB w a (s - a)) (s1R w (TT w) a (s - a) (jB w a (s - a)) (prR w (TT w) s a)) 16 o := fun c hc => by
      unfold cLp s2R
      by_cases h : inO a o
      · rw [if_pos ⟨h, hin hw.1 h, hw.2⟩, if_pos ⟨ho, h⟩, hc]
      · rw [if_neg (fun e => h e.1), if_neg (fun e => h e.2), hc]
    rw [e2 _ e1]
    unfold cMp stP s3R
    by_cases h : o = 0 ∨ o = mO w a (jB w a (s - a))
    · rw [if_pos ⟨h, hmA hw.1, hmB hw.2⟩, if_pos h]
    · rw [if_neg (fun e => h e.1), if_neg h]
  · have n1 : ∀ q, zW (TT w a q) ≠ -1 → ¬ zW (TT w (s - a) 0) ≠ -1 := fun q e e2 => hw ⟨TT_conv h1 (by omega) e, e2⟩
    rw [prR_n (fun e => hw ⟨e.2.2.2.1, e.2.2.2.2⟩)]
    unfold cMp cLp cHp
    rw [if_neg (fun e => hw ⟨TT_conv h1 (by omega) e.2.1, TT_conv (by omega) (by omega) e.2.2⟩), if_neg (fun e => hw ⟨TT_conv h1 (by omega) e.2.1, e.2.2⟩), if_neg (fun e => hw ⟨e.2.1, e.2.2⟩)]
theorem sub_raw_ : ∀ s : Fin 32, ∀ a : Fin 32, a.val &&& s.val = a.val → iZ (s.val : Int) &&& (iZ (a.val : Int) ^^^ iZ (-1)) = iZ ((s.val - a.val : Nat) : Int) := by decide +kernel
theorem sub_raw {s a : Nat} {zs za : Int} (hs : zs = (s : Int)) (ha : za = (a : Int)) (h : s < 32) (h2 : a < 32) (e : a &&& s = a) : iZ zs &&& (iZ za ^^^ iZ (-1)) = iZ ((s - a : Nat) : Int) := by subst hs; subst ha; exact sub_raw_ ⟨s, h⟩ ⟨a, h2⟩ e
theorem out_raw_ : ∀ s : Fin 32, ∀ a : Fin 32, iZ (a.val : Int) &&& (iZ (s.val : Int) ^^^ iZ (-1)) = iZ ((a.val - (a.val &&& s.val) : Nat) : Int) := by decide +kernel
theorem out_raw {s a : Nat} {zs za : Int} (hs : zs = (s : Int)) (ha : za = (a : Int)) (h : s < 32) (h2 : a < 32) : iZ za &&& (iZ zs ^^^ iZ (-1)) = iZ ((a - (a &&& s) : Nat) : Int) := by subst hs; subst ha; exact out_raw_ ⟨s, h⟩ ⟨a, h2⟩
set_option maxHeartbeats 4000000 in
set_option maxRecDepth 100000 in
theorem c_X10_offersLoop {κ : Kp} (hI : Ij κ) (l : Launch) (σ : St) {w : Wv} {s o : Nat} {c : Cel} (hP : MP σ w s o c) (hs31 : s ≤ 31) (ho : o < 16) (hW : OKW w) {a b jj : Nat} {za zb zj : Int} (hza : za = (a : Int)) (hzb : zb = (b : Int)) (hzj : zj = (jj : Int)) (ha1 : 1 ≤ a) (hb1 : 1 ≤ b) (hab : a + b = s) (hk : kT a + kT b = kT s) (k1 : 1 ≤ kT a ∧ 1 ≤ kT b ∧ kT a + kT b ≤ 5) (hjn : jj < wnj w) (hj7 : 0 ≤ (jj : Int) ∧ (jj : Int) ≤ 7) (hmo : mO w a jj < 16 ∧ mO w b jj < 16) (hio : inO a (mO w a jj) ∧ inO b (mO w b jj)) {K S : Nat} (hc : PO c K S) : CtV κ l 2 yX10_offersLoop cX10_offersLoop 5 [.ref (κ.2.1 105), .int (iZ za), .int (iZ zb), .int (iZ zj)] σ (fun σ' => MP σ' w s o (cLp w a b jj o c) ∧ Fm SPl NoT σ σ') := by
  refine Ct.ofG (own := RX10) hI (by decide +kernel) rfl (Nat.le_of_ble_eq_true rfl) rfl ?_
  intro M C hMl
  have hTa := TT_PO hW a a (Nat.le_refl _) ha1 (by omega)
  have hTb := TT_PO hW b b (Nat.le_refl _) hb1 (by omega)
  have hma : mO w a jj = wpl w a jj + 1 := rfl
  have hmb : mO w b jj = wpl w b jj + 1 := rfl
  have habn : a < 32 ∧ b < 32 := ⟨by omega, by omega⟩
  refine g_aload_n C dX10_offersLoop_0 rfl ?_
  refine gf_X10_207 (z := (o : Int)) C dX10_offersLoop_1 rfl hP.2.1.2 ?_
  refine g_if_eq (tgt := 19) C dX10_offersLoop_4 (by decide) (by unfold R32; omega) (fun h1 => ?_) (fun h1 => ?_)
  · refine g_iconst (z := 1) C dX10_offersLoop_19 rfl ?_
    refine g_goto (tgt := 24) C dX10_offersLoop_20 (by decide) ?_
    refine g_istore (L' := [(4, .int (iZ 1)), (0, .ref (κ.2.1 105)), (1, .int (iZ za)), (2, .int (iZ zb)), (3, .int (iZ zj))]) C dX10_offersLoop_24 (by decide) rfl ?_
    refine g_iload C dX10_offersLoop_26 rfl ?_
    refine g_pc (pc' := 28) rfl ?_
    refine g_if_eq (tgt := 82) C dX10_offersLoop_28 (by decide) (by unfold R32; omega) (fun h2 => ?_) (fun h2 => ?_)
    · exfalso; omega
    · refine g_aload_n C dX10_offersLoop_31 rfl ?_
      refine g_iload_n C dX10_offersLoop_32 rfl ?_
      refine g_aload_n C dX10_offersLoop_33 rfl ?_
      refine gf_X10_207 (z := (o : Int)) C dX10_offersLoop_34 rfl hP.2.1.2 ?_
      refine gc_X10_213 C dX10_offersLoop_37 rfl (c_X10_isBest hI (Ml M) σ (s := a) (o := o) (by omega) (by omega) (by omega) (by omega) (hP.get (by omega) hs31 (by omega)) (PO_W (hTa.1 _ (by omega)))) (by decide) (Nat.le_of_ble_eq_true rfl) (fun z σ9 ⟨hz, hσ⟩ => ?_)
      subst z
      subst σ9
      refine g_ifb_eq (tgt := 82) C dX10_offersLoop_40 (by decide) (fun h3 => ?_) (fun h3 => ?_)
      · exact g_return C dX10_offersLoop_82 ⟨by unfold cLp inO; rw [if_neg (fun e => by omega)]; exact hP, Fm.rf⟩
      · refine g_pc (pc' := 43) rfl ?_
        refine g_aload_n C dX10_offersLoop_43 rfl ?_
        refine g_iload_n C dX10_offersLoop_44 rfl ?_
        refine g_iconst (z := 0) C dX10_offersLoop_45 rfl ?_
        refine gc_X10_213 C dX10_offersLoop_46 rfl (c_X10_isBest hI (Ml M) σ (s := b) (o := 0) (by omega) (by omega) (by omega) (by omega) (hP.get (by omega) hs31 (by omega)) (PO_W (hTb.1 _ (by omega)))) (by decide) (Nat.le_of_ble_eq_true rfl) (fun z σ9 ⟨hz, hσ⟩ => ?_)
        subst z
        subst σ9
        refine g_ifb_eq (tgt := 82) C dX10_offersLoop_49 (by decide) (fun h4 => ?_) (fun h4 => ?_)
        · exact g_return C dX10_offersLoop_82 ⟨by unfold cLp inO; rw [if_neg (fun e => by omega)]; exact hP, Fm.rf⟩
        · have hao : zW (TT w a o) ≠ -1 := by assumption
          have h0b : zW (TT w b 0) ≠ -1 := by assumption
          have h0a := TT_conv ha1 (by omega) hao
          have hin : inO a o := by unfold inO; omega
          have hlp := lC_PO (j := (jj : Int)) hW hTa hTb h0a h0b k1 hj7 habn ho hin
          obtain ⟨_, hv75⟩ := lC_v hW hTa hTb h0a h0b k1
          have hv76 := PO.fb hlp (show (2 : Int) ≠ -1 by decide)
          refine g_aload_n C dX10_offersLoop_52 rfl ?_
          refine g_iconst (z := 2) C dX10_offersLoop_53 rfl ?_
          refine g_pc (pc' := 54) rfl ?_
          refine g_aload_n C dX10_offersLoop_54 rfl ?_
          refine g_iload_n C dX10_offersLoop_55 rfl ?_
          refine g_aload_n C dX10_offersLoop_56 rfl ?_
          refine gf_X10_207 (z := (o : Int)) C dX10_offersLoop_57 rfl hP.2.1.2 ?_
          refine gc_X10_216 C dX10_offersLoop_60 rfl (c_X10_best hI (Ml M) σ (s := a) (o := o) (by omega) (by omega) (by omega) (by omega) (hP.get (by omega) hs31 (by omega)) (by assumption)) (by decide) (Nat.le_of_ble_eq_true rfl) (fun z σ9 ⟨hz, hσ⟩ => ?_)
          subst z
          subst σ9
          refine g_aload_n C dX10_offersLoop_63 rfl ?_
          refine gf_X10_55 C dX10_offersLoop_64 rfl ?_
          refine g_iload_n C dX10_offersLoop_67 rfl ?_
          refine g_pc (pc' := 68) rfl ?_
          refine g_faz (n := a) (N := 32) (v := (tho w a)) C dX10_offersLoop_68 rfl rfl (by omega) (by omega) (by decide) (hP.2.2.1 a (by omega) (by omega)) ?_
          refine g_aload_n C dX10_offersLoop_69 rfl ?_
          refine g_iload_n C dX10_offersLoop_70 rfl ?_
          refine g_iconst (z := 0) C dX10_offersLoop_71 rfl ?_
          refine gc_X10_216 C dX10_offersLoop_72 rfl (c_X10_best hI (Ml M) σ (s := b) (o := 0) (by omega) (by omega) (by omega) (by omega) (hP.get (by omega) hs31 (by omega)) (by assumption)) (by decide) (Nat.le_of_ble_eq_true rfl) (fun z σ9 ⟨hz, hσ⟩ => ?_)
          subst z
          subst σ9
          refine g_fmul C dX10_offersLoop_75 hv75.vf ?_
          refine g_fadd C dX10_offersLoop_76 hv76.vf ?_
          refine g_iload_n C dX10_offersLoop_77 rfl ?_
          refine g_pc (pc' := 78) rfl ?_
          refine g_iload_n C dX10_offersLoop_78 rfl ?_
          refine gc_X10_219 C dX10_offersLoop_79 rfl (c_X10_offers hI (Ml M) σ hP hs31 ho hc (n := (lC w (TT w) a b (jj : Int) o)) rfl rfl ((aOf_l ho).trans hza.symm) hzj.symm (PO.fb hlp (show (2 : Int) ≠ -1 by decide))) (by decide) (Nat.le_of_ble_eq_true rfl) (fun σ1 ⟨hP1, hF1⟩ => ?_)
          exact g_return C dX10_offersLoop_82 ⟨by unfold cLp; rw [if_pos ⟨hin, hao, h0b⟩]; exact hP1, hF1⟩
  · refine g_aload_n C dX10_offersLoop_7 rfl ?_
    refine g_aload_n C dX10_offersLoop_8 rfl ?_
    refine gf_X10_207 (z := (o : Int)) C dX10_offersLoop_9 rfl hP.2.1.2 ?_
    refine g_iload_n C dX10_offersLoop_12 rfl ?_
    refine gc_X10_210 C dX10_offersLoop_13 rfl (c_X10_isPlaceIn hI (Ml M) σ (o := o) (s := a) rfl hza ho (by omega)) (by decide) (Nat.le_of_ble_eq_true rfl) (fun z σ9 ⟨hz, hσ⟩ => ?_)
    subst z
    subst σ9
    refine g_pc (pc' := 16) rfl ?_
    refine g_ifb_eq (tgt := 23) C dX10_offersLoop_16 (by decide) (fun h5 => ?_) (fun h5 => ?_)
    · refine g_iconst (z := 0) C dX10_offersLoop_23 rfl ?_
      refine g_istore (L' := [(4, .int (iZ 0)), (0, .ref (κ.2.1 105)), (1, .int (iZ za)), (2, .int (iZ zb)), (3, .int (iZ zj))]) C dX10_offersLoop_24 (by decide) rfl ?_
      refine g_iload C dX10_offersLoop_26 rfl ?_
      refine g_if_eq (tgt := 82) C dX10_offersLoop_28 (by decide) (by unfold R32; omega) (fun h6 => ?_) (fun h6 => ?_)
      · exact g_return C dX10_offersLoop_82 ⟨by unfold cLp inO; rw [if_neg (fun e => by omega)]; exact hP, Fm.rf⟩
      · exfalso; omega
    · refine g_iconst (z := 1) C dX10_offersLoop_19 rfl ?_
      refine g_goto (tgt := 24) C dX10_offersLoop_20 (by decide) ?_
      refine g_pc (pc' := 24) rfl ?_
      refine g_istore (L' := [(4, .int (iZ 1)), (0, .ref (κ.2.1 105)), (1, .int (iZ za)), (2, .int (iZ zb)), (3, .int (iZ zj))]) C dX10_offersLoop_24 (by decide) rfl ?_
      refine g_iload C dX10_offersLoop_26 rfl ?_
      refine g_if_eq (tgt := 82) C dX10_offersLoop_28 (by decide) (by unfold R32; omega) (fun h7 => ?_) (fun h7 => ?_)
      · exfalso; omega
      · refine g_aload_n C dX10_offersLoop_31 rfl ?_
        refine g_iload_n C dX10_offersLoop_32 rfl ?_
        refine g_aload_n C dX10_offersLoop_33 rfl ?_
        refine gf_X10_207 (z := (o : Int)) C dX10_offersLoop_34 rfl hP.2.1.2 ?_
        refine gc_X10_213 C dX10_offersLoop_37 rfl (c_X10_isBest hI (Ml M) σ (s := a) (o := o) (by omega) (by omega) (by omega) (by omega) (hP.get (by omega) hs31 (by omega)) (PO_W (hTa.1 _ (by omega)))) (by decide) (Nat.le_of_ble_eq_true rfl) (fun z σ9 ⟨hz, hσ⟩ => ?_)
        subst z
        subst σ9
        refine g_pc (pc' := 40) rfl ?_
        refine g_ifb_eq (tgt := 82) C dX10_offersLoop_40 (by decide) (fun h8 => ?_) (fun h8 => ?_)
        · exact g_return C dX10_offersLoop_82 ⟨by unfold cLp inO; rw [if_neg (fun e => by omega)]; exact hP, Fm.rf⟩
        · refine g_aload_n C dX10_offersLoop_43 rfl ?_
          refine g_iload_n C dX10_offersLoop_44 rfl ?_
          refine g_iconst (z := 0) C dX10_offersLoop_45 rfl ?_
          refine gc_X10_213 C dX10_offersLoop_46 rfl (c_X10_isBest hI (Ml M) σ (s := b) (o := 0) (by omega) (by omega) (by omega) (by omega) (hP.get (by omega) hs31 (by omega)) (PO_W (hTb.1 _ (by omega)))) (by decide) (Nat.le_of_ble_eq_true rfl) (fun z σ9 ⟨hz, hσ⟩ => ?_)
          subst z
          subst σ9
          refine g_ifb_eq (tgt := 82) C dX10_offersLoop_49 (by decide) (fun h9 => ?_) (fun h9 => ?_)
          · exact g_return C dX10_offersLoop_82 ⟨by unfold cLp inO; rw [if_neg (fun e => by omega)]; exact hP, Fm.rf⟩
          · have hao : zW (TT w a o) ≠ -1 := by assumption
            have h0b : zW (TT w b 0) ≠ -1 := by assumption
            have h0a := TT_conv ha1 (by omega) hao
            have hin : inO a o := by unfold inO; omega
            have hlp := lC_PO (j := (jj : Int)) hW hTa hTb h0a h0b k1 hj7 habn ho hin
            obtain ⟨_, hv75⟩ := lC_v hW hTa hTb h0a h0b k1
            have hv76 := PO.fb hlp (show (2 : Int) ≠ -1 by decide)
            refine g_pc (pc' := 52) rfl ?_
            refine g_aload_n C dX10_offersLoop_52 rfl ?_
            refine g_iconst (z := 2) C dX10_offersLoop_53 rfl ?_
            refine g_aload_n C dX10_offersLoop_54 rfl ?_
            refine g_iload_n C dX10_offersLoop_55 rfl ?_
            refine g_aload_n C dX10_offersLoop_56 rfl ?_
            refine gf_X10_207 (z := (o : Int)) C dX10_offersLoop_57 rfl hP.2.1.2 ?_
            refine gc_X10_216 C dX10_offersLoop_60 rfl (c_X10_best hI (Ml M) σ (s := a) (o := o) (by omega) (by omega) (by omega) (by omega) (hP.get (by omega) hs31 (by omega)) (by assumption)) (by decide) (Nat.le_of_ble_eq_true rfl) (fun z σ9 ⟨hz, hσ⟩ => ?_)
            subst z
            subst σ9
            refine g_aload_n C dX10_offersLoop_63 rfl ?_
            refine g_pc (pc' := 64) rfl ?_
            refine gf_X10_55 C dX10_offersLoop_64 rfl ?_
            refine g_iload_n C dX10_offersLoop_67 rfl ?_
            refine g_faz (n := a) (N := 32) (v := (tho w a)) C dX10_offersLoop_68 rfl rfl (by omega) (by omega) (by decide) (hP.2.2.1 a (by omega) (by omega)) ?_
            refine g_aload_n C dX10_offersLoop_69 rfl ?_
            refine g_iload_n C dX10_offersLoop_70 rfl ?_
            refine g_iconst (z := 0) C dX10_offersLoop_71 rfl ?_
            refine gc_X10_216 C dX10_offersLoop_72 rfl (c_X10_best hI (Ml M) σ (s := b) (o := 0) (by omega) (by omega) (by omega) (by omega) (hP.get (by omega) hs31 (by omega)) (by assumption)) (by decide) (Nat.le_of_ble_eq_true rfl) (fun z σ9 ⟨hz, hσ⟩ => ?_)
            subst z
            subst σ9
            refine g_fmul C dX10_offersLoop_75 hv75.vf ?_
            refine g_pc (pc' := 76) rfl ?_
            refine g_fadd C dX10_offersLoop_76 hv76.vf ?_
            refine g_iload_n C dX10_offersLoop_77 rfl ?_
            refine g_iload_n C dX10_offersLoop_78 rfl ?_
            refine gc_X10_219 C dX10_offersLoop_79 rfl (c_X10_offers hI (Ml M) σ hP hs31 ho hc (n := (lC w (TT w) a b (jj : Int) o)) rfl rfl ((aOf_l ho).trans hza.symm) hzj.symm (PO.fb hlp (show (2 : Int) ≠ -1 by decide))) (by decide) (Nat.le_of_ble_eq_true rfl) (fun σ1 ⟨hP1, hF1⟩ => ?_)
            exact g_return C dX10_offersLoop_82 ⟨by unfold cLp; rw [if_pos ⟨hin, hao, h0b⟩]; exact hP1, hF1⟩
set_option maxHeartbeats 4000000 in
set_option maxRecDepth 100000 in
theorem c_X10_offersMerge {κ : Kp} (hI : Ij κ) (l : Launch) (σ : St) {w : Wv} {s o : Nat} {c : Cel} (hP : MP σ w s o c) (hs31 : s ≤ 31) (ho : o < 16) (hW : OKW w) {a b jj : Nat} {za zb zj : Int} (hza : za = (a : Int)) (hzb : zb = (b : Int)) (hzj : zj = (jj : Int)) (ha1 : 1 ≤ a) (hb1 : 1 ≤ b) (hab : a + b = s) (hk : kT a + kT b = kT s) (k1 : 1 ≤ kT a ∧ 1 ≤ kT b ∧ kT a + kT b ≤ 5) (hjn : jj < wnj w) (hj7 : 0 ≤ (jj : Int) ∧ (jj : Int) ≤ 7) (hmo : mO w a jj < 16 ∧ mO w b jj < 16) (hio : inO a (mO w a jj) ∧ inO b (mO w b jj)) {K S : Nat} (hc : PO c K S) : CtV κ l 2 yX10_offersMerge cX10_offersMerge 6 [.ref (κ.2.1 105), .int (iZ za), .int (iZ zb), .int (iZ zj)] σ (fun σ' => MP σ' w s o (cMp w a b jj o c) ∧ Fm SPl NoT σ σ') := by
  refine Ct.ofG (own := RX10) hI (by decide +kernel) rfl (Nat.le_of_ble_eq_true rfl) rfl ?_
  intro M C hMl
  have hTa := TT_PO hW a a (Nat.le_refl _) ha1 (by omega)
  have hTb := TT_PO hW b b (Nat.le_refl _) hb1 (by omega)
  have hma : mO w a jj = wpl w a jj + 1 := rfl
  have hmb : mO w b jj = wpl w b jj + 1 := rfl
  have habn : a < 32 ∧ b < 32 := ⟨by omega, by omega⟩
  refine g_aload_n C dX10_offersMerge_0 rfl ?_
  refine g_iload_n C dX10_offersMerge_1 rfl ?_
  refine g_iload_n C dX10_offersMerge_2 rfl ?_
  refine gc_X10_223 C dX10_offersMerge_3 rfl (c_X10_placeIn hI (Ml M) σ hP.1 hW (j := jj) (s := a) hzj hza hjn (by omega)) (by decide) (Nat.le_of_ble_eq_true rfl) (fun z σ9 ⟨hz, hσ⟩ => ?_)
  subst z
  subst σ9
  refine g_iconst (z := 1) C dX10_offersMerge_6 rfl ?_
  refine g_iadd C dX10_offersMerge_7 ?_
  refine g_istore (L' := [(4, .int (iZ ((wpl w a jj : Int) + 1))), (0, .ref (κ.2.1 105)), (1, .int (iZ za)), (2, .int (iZ zb)), (3, .int (iZ zj))]) C dX10_offersMerge_8 (by decide) rfl ?_
  refine g_pc (pc' := 10) rfl ?_
  refine g_aload_n C dX10_offersMerge_10 rfl ?_
  refine g_iload_n C dX10_offersMerge_11 rfl ?_
  refine g_iload_n C dX10_offersMerge_12 rfl ?_
  refine gc_X10_223 C dX10_offersMerge_13 rfl (c_X10_placeIn hI (Ml M) σ hP.1 hW (j := jj) (s := b) hzj hzb hjn (by omega)) (by decide) (Nat.le_of_ble_eq_true rfl) (fun z σ9 ⟨hz, hσ⟩ => ?_)
  subst z
  subst σ9
  refine g_iconst (z := 1) C dX10_offersMerge_16 rfl ?_
  refine g_iadd C dX10_offersMerge_17 ?_
  refine g_istore (L' := [(5, .int (iZ ((wpl w b jj : Int) + 1))), (4, .int (iZ ((wpl w a jj : Int) + 1))), (0, .ref (κ.2.1 105)), (1, .int (iZ za)), (2, .int (iZ zb)), (3, .int (iZ zj))]) C dX10_offersMerge_18 (by decide) rfl ?_
  refine g_aload_n C dX10_offersMerge_20 rfl ?_
  refine g_pc (pc' := 21) rfl ?_
  refine gf_X10_207 (z := (o : Int)) C dX10_offersMerge_21 rfl hP.2.1.2 ?_
  refine g_if_eq (tgt := 36) C dX10_offersMerge_24 (by decide) (by unfold R32; omega) (fun h1 => ?_) (fun h1 => ?_)
  · refine g_aload_n C dX10_offersMerge_36 rfl ?_
    refine g_iload_n C dX10_offersMerge_37 rfl ?_
    refine g_iload C dX10_offersMerge_38 rfl ?_
    refine gc_X10_213 C dX10_offersMerge_40 rfl (c_X10_isBest hI (Ml M) σ (s := a) (o := mO w a jj) (by omega) (by omega) (by omega) (by omega) (hP.get (by omega) hs31 (by omega)) (PO_W (hTa.1 _ (by omega)))) (by decide) (Nat.le_of_ble_eq_true rfl) (fun z σ9 ⟨hz, hσ⟩ => ?_)
    subst z
    subst σ9
    refine g_ifb_eq (tgt := 56) C dX10_offersMerge_43 (by decide) (fun h2 => ?_) (fun h2 => ?_)
    · exact g_return C dX10_offersMerge_56 ⟨by unfold cMp; rw [if_neg (fun e => by omega)]; exact hP, Fm.rf⟩
    · refine g_pc (pc' := 46) rfl ?_
      refine g_aload_n C dX10_offersMerge_46 rfl ?_
      refine g_iload_n C dX10_offersMerge_47 rfl ?_
      refine g_iload C dX10_offersMerge_48 rfl ?_
      refine gc_X10_213 C dX10_offersMerge_50 rfl (c_X10_isBest hI (Ml M) σ (s := b) (o := mO w b jj) (by omega) (by omega) (by omega) (by omega) (hP.get (by omega) hs31 (by omega)) (PO_W (hTb.1 _ (by omega)))) (by decide) (Nat.le_of_ble_eq_true rfl) (fun z σ9 ⟨hz, hσ⟩ => ?_)
      subst z
      subst σ9
      refine g_ifb_ne (tgt := 57) C dX10_offersMerge_53 (by decide) (fun h3 => ?_) (fun h3 => ?_)
      · have hao : zW (TT w a (mO w a jj)) ≠ -1 := by assumption
        have hbo : zW (TT w b (mO w b jj)) ≠ -1 := by assumption
        have h0a := TT_conv ha1 (by omega) hao
        have h0b := TT_conv hb1 (by omega) hbo
        have hlp := mC_PO (j := (jj : Int)) hW hTa hTb h0a h0b k1 hj7 habn hmo hio
        obtain ⟨⟨_, hv73⟩, ⟨_, hv86⟩, ⟨_, hv96⟩⟩ := mC_v (j := (jj : Int)) hW hTa hTb h0a h0b k1 hmo hio
        have hv97 := PO.fb hlp (show (3 : Int) ≠ -1 by decide)
        refine g_aload_n C dX10_offersMerge_57 rfl ?_
        refine g_iconst (z := 3) C dX10_offersMerge_58 rfl ?_
        refine g_aload_n C dX10_offersMerge_59 rfl ?_
        refine g_pc (pc' := 60) rfl ?_
        refine g_iload_n C dX10_offersMerge_60 rfl ?_
        refine g_iload C dX10_offersMerge_61 rfl ?_
        refine gc_X10_216 C dX10_offersMerge_63 rfl (c_X10_best hI (Ml M) σ (s := a) (o := mO w a jj) (by omega) (by omega) (by omega) (by omega) (hP.get (by omega) hs31 (by omega)) (by assumption)) (by decide) (Nat.le_of_ble_eq_true rfl) (fun z σ9 ⟨hz, hσ⟩ => ?_)
        subst z
        subst σ9
        refine g_aload_n C dX10_offersMerge_66 rfl ?_
        refine g_iload_n C dX10_offersMerge_67 rfl ?_
        refine g_iload C dX10_offersMerge_68 rfl ?_
        refine gc_X10_216 C dX10_offersMerge_70 rfl (c_X10_best hI (Ml M) σ (s := b) (o := mO w b jj) (by omega) (by omega) (by omega) (by omega) (hP.get (by omega) hs31 (by omega)) (by assumption)) (by decide) (Nat.le_of_ble_eq_true rfl) (fun z σ9 ⟨hz, hσ⟩ => ?_)
        subst z
        subst σ9
        refine g_fadd C dX10_offersMerge_73 hv73.vf ?_
        refine g_pc (pc' := 74) rfl ?_
        refine g_aload_n C dX10_offersMerge_74 rfl ?_
        refine gf_X10_55 C dX10_offersMerge_75 rfl ?_
        refine g_iload_n C dX10_offersMerge_78 rfl ?_
        refine g_faz (n := a) (N := 32) (v := (tho w a)) C dX10_offersMerge_79 rfl rfl (by omega) (by omega) (by decide) (hP.2.2.1 a (by omega) (by omega)) ?_
        refine g_aload_n C dX10_offersMerge_80 rfl ?_
        refine gf_X10_55 C dX10_offersMerge_81 rfl ?_
        refine g_iload_n C dX10_offersMerge_84 rfl ?_
        refine g_faz (n := b) (N := 32) (v := (tho w b)) C dX10_offersMerge_85 rfl rfl (by omega) (by omega) (by decide) (hP.2.2.1 b (by omega) (by omega)) ?_
        refine g_pc (pc' := 86) rfl ?_
        refine g_fadd C dX10_offersMerge_86 hv86.vf ?_
        refine g_aload_n C dX10_offersMerge_87 rfl ?_
        refine gf_X10_55 C dX10_offersMerge_88 rfl ?_
        refine g_aload_n C dX10_offersMerge_91 rfl ?_
        refine gf_X10_204 (z := (s : Int)) C dX10_offersMerge_92 rfl hP.2.1.1 ?_
        refine g_faz (n := s) (N := 32) (v := (tho w (a + b))) C dX10_offersMerge_95 rfl rfl (by omega) (by omega) (by decide) (by rw [hab]; exact hP.2.2.1 s (by omega) (by omega)) ?_
        refine g_fadd C dX10_offersMerge_96 hv96.vf ?_
        refine g_fadd C dX10_offersMerge_97 hv97.vf ?_
        refine g_pc (pc' := 98) rfl ?_
        refine g_iload_n C dX10_offersMerge_98 rfl ?_
        refine g_iload_n C dX10_offersMerge_99 rfl ?_
        refine gc_X10_219 C dX10_offersMerge_100 rfl (c_X10_offers hI (Ml M) σ hP hs31 ho hc (n := (mC w (TT w) a b (jj : Int))) rfl rfl ((aOf_m hmo.1).trans hza.symm) hzj.symm (PO.fb hlp (show (3 : Int) ≠ -1 by decide))) (by decide) (Nat.le_of_ble_eq_true rfl) (fun σ1 ⟨hP1, hF1⟩ => ?_)
        exact g_return C dX10_offersMerge_103 ⟨by unfold cMp; rw [if_pos ⟨by omega, hao, hbo⟩]; exact hP1, hF1⟩
      · exact g_return C dX10_offersMerge_56 ⟨by unfold cMp; rw [if_neg (fun e => by omega)]; exact hP, Fm.rf⟩
  · refine g_aload_n C dX10_offersMerge_27 rfl ?_
    refine gf_X10_207 (z := (o : Int)) C dX10_offersMerge_28 rfl hP.2.1.2 ?_
    refine g_iload C dX10_offersMerge_31 rfl ?_
    refine g_pc (pc' := 33) rfl ?_
    refine g_icmp_ne (tgt := 56) C dX10_offersMerge_33 (by decide) (by unfold R32; omega) (fun h4 => ?_) (fun h4 => ?_)
    · exact g_return C dX10_offersMerge_56 ⟨by unfold cMp; rw [if_neg (fun e => by omega)]; exact hP, Fm.rf⟩
    · refine g_aload_n C dX10_offersMerge_36 rfl ?_
      refine g_iload_n C dX10_offersMerge_37 rfl ?_
      refine g_iload C dX10_offersMerge_38 rfl ?_
      refine gc_X10_213 C dX10_offersMerge_40 rfl (c_X10_isBest hI (Ml M) σ (s := a) (o := mO w a jj) (by omega) (by omega) (by omega) (by omega) (hP.get (by omega) hs31 (by omega)) (PO_W (hTa.1 _ (by omega)))) (by decide) (Nat.le_of_ble_eq_true rfl) (fun z σ9 ⟨hz, hσ⟩ => ?_)
      subst z
      subst σ9
      refine g_ifb_eq (tgt := 56) C dX10_offersMerge_43 (by decide) (fun h5 => ?_) (fun h5 => ?_)
      · exact g_return C dX10_offersMerge_56 ⟨by unfold cMp; rw [if_neg (fun e => by omega)]; exact hP, Fm.rf⟩
      · refine g_pc (pc' := 46) rfl ?_
        refine g_aload_n C dX10_offersMerge_46 rfl ?_
        refine g_iload_n C dX10_offersMerge_47 rfl ?_
        refine g_iload C dX10_offersMerge_48 rfl ?_
        refine gc_X10_213 C dX10_offersMerge_50 rfl (c_X10_isBest hI (Ml M) σ (s := b) (o := mO w b jj) (by omega) (by omega) (by omega) (by omega) (hP.get (by omega) hs31 (by omega)) (PO_W (hTb.1 _ (by omega)))) (by decide) (Nat.le_of_ble_eq_true rfl) (fun z σ9 ⟨hz, hσ⟩ => ?_)
        subst z
        subst σ9
        refine g_ifb_ne (tgt := 57) C dX10_offersMerge_53 (by decide) (fun h6 => ?_) (fun h6 => ?_)
        · have hao : zW (TT w a (mO w a jj)) ≠ -1 := by assumption
          have hbo : zW (TT w b (mO w b jj)) ≠ -1 := by assumption
          have h0a := TT_conv ha1 (by omega) hao
          have h0b := TT_conv hb1 (by omega) hbo
          have hlp := mC_PO (j := (jj : Int)) hW hTa hTb h0a h0b k1 hj7 habn hmo hio
          obtain ⟨⟨_, hv73⟩, ⟨_, hv86⟩, ⟨_, hv96⟩⟩ := mC_v (j := (jj : Int)) hW hTa hTb h0a h0b k1 hmo hio
          have hv97 := PO.fb hlp (show (3 : Int) ≠ -1 by decide)
          refine g_aload_n C dX10_offersMerge_57 rfl ?_
          refine g_iconst (z := 3) C dX10_offersMerge_58 rfl ?_
          refine g_aload_n C dX10_offersMerge_59 rfl ?_
          refine g_pc (pc' := 60) rfl ?_
          refine g_iload_n C dX10_offersMerge_60 rfl ?_
          refine g_iload C dX10_offersMerge_61 rfl ?_
          refine gc_X10_216 C dX10_offersMerge_63 rfl (c_X10_best hI (Ml M) σ (s := a) (o := mO w a jj) (by omega) (by omega) (by omega) (by omega) (hP.get (by omega) hs31 (by omega)) (by assumption)) (by decide) (Nat.le_of_ble_eq_true rfl) (fun z σ9 ⟨hz, hσ⟩ => ?_)
          subst z
          subst σ9
          refine g_aload_n C dX10_offersMerge_66 rfl ?_
          refine g_iload_n C dX10_offersMerge_67 rfl ?_
          refine g_iload C dX10_offersMerge_68 rfl ?_
          refine gc_X10_216 C dX10_offersMerge_70 rfl (c_X10_best hI (Ml M) σ (s := b) (o := mO w b jj) (by omega) (by omega) (by omega) (by omega) (hP.get (by omega) hs31 (by omega)) (by assumption)) (by decide) (Nat.le_of_ble_eq_true rfl) (fun z σ9 ⟨hz, hσ⟩ => ?_)
          subst z
          subst σ9
          refine g_fadd C dX10_offersMerge_73 hv73.vf ?_
          refine g_pc (pc' := 74) rfl ?_
          refine g_aload_n C dX10_offersMerge_74 rfl ?_
          refine gf_X10_55 C dX10_offersMerge_75 rfl ?_
          refine g_iload_n C dX10_offersMerge_78 rfl ?_
          refine g_faz (n := a) (N := 32) (v := (tho w a)) C dX10_offersMerge_79 rfl rfl (by omega) (by omega) (by decide) (hP.2.2.1 a (by omega) (by omega)) ?_
          refine g_aload_n C dX10_offersMerge_80 rfl ?_
          refine gf_X10_55 C dX10_offersMerge_81 rfl ?_
          refine g_iload_n C dX10_offersMerge_84 rfl ?_
          refine g_faz (n := b) (N := 32) (v := (tho w b)) C dX10_offersMerge_85 rfl rfl (by omega) (by omega) (by decide) (hP.2.2.1 b (by omega) (by omega)) ?_
          refine g_pc (pc' := 86) rfl ?_
          refine g_fadd C dX10_offersMerge_86 hv86.vf ?_
          refine g_aload_n C dX10_offersMerge_87 rfl ?_
          refine gf_X10_55 C dX10_offersMerge_88 rfl ?_
          refine g_aload_n C dX10_offersMerge_91 rfl ?_
          refine gf_X10_204 (z := (s : Int)) C dX10_offersMerge_92 rfl hP.2.1.1 ?_
          refine g_faz (n := s) (N := 32) (v := (tho w (a + b))) C dX10_offersMerge_95 rfl rfl (by omega) (by omega) (by decide) (by rw [hab]; exact hP.2.2.1 s (by omega) (by omega)) ?_
          refine g_fadd C dX10_offersMerge_96 hv96.vf ?_
          refine g_fadd C dX10_offersMerge_97 hv97.vf ?_
          refine g_pc (pc' := 98) rfl ?_
          refine g_iload_n C dX10_offersMerge_98 rfl ?_
          refine g_iload_n C dX10_offersMerge_99 rfl ?_
          refine gc_X10_219 C dX10_offersMerge_100 rfl (c_X10_offers hI (Ml M) σ hP hs31 ho hc (n := (mC w (TT w) a b (jj : Int))) rfl rfl ((aOf_m hmo.1).trans hza.symm) hzj.symm (PO.fb hlp (show (3 : Int) ≠ -1 by decide))) (by decide) (Nat.le_of_ble_eq_true rfl) (fun σ1 ⟨hP1, hF1⟩ => ?_)
          exact g_return C dX10_offersMerge_103 ⟨by unfold cMp; rw [if_pos ⟨by omega, hao, hbo⟩]; exact hP1, hF1⟩
        · exact g_return C dX10_offersMerge_56 ⟨by unfold cMp; rw [if_neg (fun e => by omega)]; exact hP, Fm.rf⟩
set_option maxHeartbeats 4000000 in
set_option maxRecDepth 100000 in
theorem c_X10_offersSplit {κ : Kp} (hI : Ij κ) (l : Launch) (σ : St) {w : Wv} {s o a : Nat} (hP : MP σ w s o (prR w (TT w) s a o)) (hs31 : s ≤ 31) (ho : o < 16) (hW : OKW w) {za : Int} (hza : za = (a : Int)) (ha1 : 1 ≤ a) (has : a < s) (hsub : a &&& s = a) : CtV κ l 3 yX10_offersSplit cX10_offersSplit 4 [.ref (κ.2.1 105), .int (iZ za)] σ (fun σ' => MP σ' w s o (prR w (TT w) s (a + 1) o) ∧ Fm SPl NoT σ σ') := by
  refine Ct.ofG (own := RX10) hI (by decide +kernel) rfl (Nat.le_of_ble_eq_true rfl) rfl ?_
  intro M C hMl
  have hjR := jB_R hW a (s - a)
  refine g_aload_n C dX10_offersSplit_0 rfl ?_
  refine gf_X10_204 (z := (s : Int)) C dX10_offersSplit_1 rfl hP.2.1.1 ?_
  refine g_iload_n C dX10_offersSplit_4 rfl ?_
  refine g_iconst (z := (-1)) C dX10_offersSplit_5 rfl ?_
  refine g_ixor C dX10_offersSplit_6 ?_
  refine g_iand C dX10_offersSplit_7 ?_
  refine g_raw (sub_raw (s := s) rfl hza (by omega) (by omega) hsub) ?_
  refine g_istore_n (L' := [(2, .int (iZ ((s - a : Nat) : Int))), (0, .ref (κ.2.1 105)), (1, .int (iZ za))]) C dX10_offersSplit_8 rfl (by decide) rfl ?_
  refine g_pc (pc' := 9) rfl ?_
  refine g_aload_n C dX10_offersSplit_9 rfl ?_
  refine g_iload_n C dX10_offersSplit_10 rfl ?_
  refine g_iload_n C dX10_offersSplit_11 rfl ?_
  refine gc_X10_226 C dX10_offersSplit_12 rfl (c_X10_joinBetween hI (Ml M) σ hP.1 hW (a := a) (b := s - a) hza rfl (by omega) (by omega)) (by decide) (Nat.le_of_ble_eq_true rfl) (fun z σ9 ⟨hz, hσ⟩ => ?_)
  subst z
  subst σ9
  refine g_istore_n (L' := [(3, .int (iZ (jB w a (s - a)))), (2, .int (iZ ((s - a : Nat) : Int))), (0, .ref (κ.2.1 105)), (1, .int (iZ za))]) C dX10_offersSplit_15 rfl (by decide) rfl ?_
  refine g_iload_n C dX10_offersSplit_16 rfl ?_
  refine g_if_ge (tgt := 21) C dX10_offersSplit_17 (by decide) (by unfold R32; omega) (fun h1 => ?_) (fun h1 => ?_)
  · obtain ⟨jj, hji, hjn, hj7a, hib, hil⟩ := split_f hW hs31 ha1 has hsub (by omega)
    have hf := sub_all ⟨s, by omega⟩ ⟨a, by omega⟩ hsub ha1 has
    have h5 := (kT_5 ⟨s, by omega⟩).1
    dsimp only at hf h5
    have hma : mO w a (jj : Int) = wpl w a jj + 1 := rfl
    have hmb : mO w (s - a) (jj : Int) = wpl w (s - a) jj + 1 := rfl
    have hTa := TT_PO hW a a (Nat.le_refl _) ha1 (by omega)
    have hTb := TT_PO hW (s - a) (s - a) (Nat.le_refl _) (by omega) (by omega)
    have habn : a < 32 ∧ s - a < 32 := ⟨by omega, by omega⟩
    have hj7 : 0 ≤ (jj : Int) ∧ (jj : Int) ≤ 7 := ⟨by omega, by omega⟩
    have hk1 : 1 ≤ kT a ∧ 1 ≤ kT (s - a) ∧ kT a + kT (s - a) ≤ 5 := ⟨hf.2.1, hf.2.2.1, by omega⟩
    have hmo : mO w a (jj : Int) < 16 ∧ mO w (s - a) (jj : Int) < 16 := ⟨by omega, by omega⟩
    have hio : inO a (mO w a (jj : Int)) ∧ inO (s - a) (mO w (s - a) (jj : Int)) := ⟨Or.inr (by rw [hma, Nat.add_sub_cancel]; exact hib.1), Or.inr (by rw [hmb, Nat.add_sub_cancel]; exact hib.2)⟩
    have hc0 := prR_PO hW hs31 (fun u h1 h2 => TT_PO hW u u (Nat.le_refl _) h1 (by omega)) a (by omega) o ho
    have hsab : a + (s - a) = s := by omega
    have hc1 : PO (cHp w a (s - a) jj o (prR w (TT w) s a o)) (25 * kT s) (4 * kT s - 3) := by unfold cHp; split; (rename_i e; rw [← hf.1] at hc0 ⊢; exact PO_add hc0 (hC_PO hW hTa hTb e.2.1 e.2.2 hk1 hj7 habn)); exact hc0
    have hc2 : PO (cLp w a (s - a) jj o (cHp w a (s - a) jj o (prR w (TT w) s a o))) (25 * kT s) (4 * kT s - 3) := by unfold cLp; split; (rename_i e; rw [← hf.1] at hc1 ⊢; exact PO_add hc1 (lC_PO hW hTa hTb (TT_conv ha1 (by omega) e.2.1) e.2.2 hk1 hj7 habn ho e.1)); exact hc1
    refine g_aload_n C dX10_offersSplit_21 rfl ?_
    refine g_pc (pc' := 22) rfl ?_
    refine gf_X10_207 (z := (o : Int)) C dX10_offersSplit_22 rfl hP.2.1.2 ?_
    refine g_if_ne (tgt := 92) C dX10_offersSplit_25 (by decide) (by unfold R32; omega) (fun h2 => ?_) (fun h2 => ?_)
    · have hPc1 : MP σ w s o (cHp w a (s - a) jj o (prR w (TT w) s a o)) := by unfold cHp; rw [if_neg (fun e => by omega)]; exact hP
      refine g_aload_n C dX10_offersSplit_92 rfl ?_
      refine g_iload_n C dX10_offersSplit_93 rfl ?_
      refine g_iload_n C dX10_offersSplit_94 rfl ?_
      refine g_iload_n C dX10_offersSplit_95 rfl ?_
      refine gc_X10_229 C dX10_offersSplit_96 rfl (c_X10_offersLoop hI (Ml M) σ hPc1 hs31 ho hW (a := a) (b := s - a) (jj := jj) hza rfl hji ha1 (by omega) hsab (by omega) hk1 hjn hj7 hmo hio hc1) (by decide) (Nat.le_of_ble_eq_true rfl) (fun σ2 ⟨hσ2, hFσ2⟩ => ?_)
      refine g_aload_n C dX10_offersSplit_99 rfl ?_
      refine g_pc (pc' := 100) rfl ?_
      refine g_iload_n C dX10_offersSplit_100 rfl ?_
      refine g_iload_n C dX10_offersSplit_101 rfl ?_
      refine g_iload_n C dX10_offersSplit_102 rfl ?_
      refine gc_X10_233 C dX10_offersSplit_103 rfl (c_X10_offersMerge hI (Ml M) σ2 hσ2 hs31 ho hW (a := a) (b := s - a) (jj := jj) hza rfl hji ha1 (by omega) hsab (by omega) hk1 hjn hj7 hmo hio hc2) (by decide) (Nat.le_of_ble_eq_true rfl) (fun σ3 ⟨hσ3, hFσ3⟩ => ?_)
      exact g_return C dX10_offersSplit_106 ⟨by have h9 := sp_eq (w := w) hs31 ha1 has hsub ho (by omega) (fun h => hTa.2 h o ho) (fun h => by rw [hji]; exact hTa.2 h _ hmo.1 hio.1) (fun h => by rw [hji]; exact hTb.2 h _ hmo.2 hio.2); rw [← h9, hji]; exact hσ3, ((Fm.rf.tr hFσ2).tr hFσ3)⟩
    · refine g_aload_n C dX10_offersSplit_28 rfl ?_
      refine g_iload_n C dX10_offersSplit_29 rfl ?_
      refine g_iconst (z := 0) C dX10_offersSplit_30 rfl ?_
      refine g_pc (pc' := 31) rfl ?_
      refine gc_X10_213 C dX10_offersSplit_31 rfl (c_X10_isBest hI (Ml M) σ (s := a) (o := 0) (by omega) (by omega) (by omega) (by omega) (hP.get (by omega) hs31 (by omega)) (PO_W (hTa.1 _ (by omega)))) (by decide) (Nat.le_of_ble_eq_true rfl) (fun z σ9 ⟨hz, hσ⟩ => ?_)
      subst z
      subst σ9
      refine g_ifb_eq (tgt := 92) C dX10_offersSplit_34 (by decide) (fun h3 => ?_) (fun h3 => ?_)
      · have hPc1 : MP σ w s o (cHp w a (s - a) jj o (prR w (TT w) s a o)) := by unfold cHp; rw [if_neg (fun e => by omega)]; exact hP
        refine g_aload_n C dX10_offersSplit_92 rfl ?_
        refine g_iload_n C dX10_offersSplit_93 rfl ?_
        refine g_iload_n C dX10_offersSplit_94 rfl ?_
        refine g_iload_n C dX10_offersSplit_95 rfl ?_
        refine gc_X10_229 C dX10_offersSplit_96 rfl (c_X10_offersLoop hI (Ml M) σ hPc1 hs31 ho hW (a := a) (b := s - a) (jj := jj) hza rfl hji ha1 (by omega) hsab (by omega) hk1 hjn hj7 hmo hio hc1) (by decide) (Nat.le_of_ble_eq_true rfl) (fun σ2 ⟨hσ2, hFσ2⟩ => ?_)
        refine g_aload_n C dX10_offersSplit_99 rfl ?_
        refine g_pc (pc' := 100) rfl ?_
        refine g_iload_n C dX10_offersSplit_100 rfl ?_
        refine g_iload_n C dX10_offersSplit_101 rfl ?_
        refine g_iload_n C dX10_offersSplit_102 rfl ?_
        refine gc_X10_233 C dX10_offersSplit_103 rfl (c_X10_offersMerge hI (Ml M) σ2 hσ2 hs31 ho hW (a := a) (b := s - a) (jj := jj) hza rfl hji ha1 (by omega) hsab (by omega) hk1 hjn hj7 hmo hio hc2) (by decide) (Nat.le_of_ble_eq_true rfl) (fun σ3 ⟨hσ3, hFσ3⟩ => ?_)
        exact g_return C dX10_offersSplit_106 ⟨by have h9 := sp_eq (w := w) hs31 ha1 has hsub ho (by omega) (fun h => hTa.2 h o ho) (fun h => by rw [hji]; exact hTa.2 h _ hmo.1 hio.1) (fun h => by rw [hji]; exact hTb.2 h _ hmo.2 hio.2); rw [← h9, hji]; exact hσ3, ((Fm.rf.tr hFσ2).tr hFσ3)⟩
      · refine g_aload_n C dX10_offersSplit_37 rfl ?_
        refine g_iload_n C dX10_offersSplit_38 rfl ?_
        refine g_iconst (z := 0) C dX10_offersSplit_39 rfl ?_
        refine g_pc (pc' := 40) rfl ?_
        refine gc_X10_213 C dX10_offersSplit_40 rfl (c_X10_isBest hI (Ml M) σ (s := (s - a)) (o := 0) (by omega) (by omega) (by omega) (by omega) (hP.get (by omega) hs31 (by omega)) (PO_W (hTb.1 _ (by omega)))) (by decide) (Nat.le_of_ble_eq_true rfl) (fun z σ9 ⟨hz, hσ⟩ => ?_)
        subst z
        subst σ9
        refine g_ifb_eq (tgt := 92) C dX10_offersSplit_43 (by decide) (fun h4 => ?_) (fun h4 => ?_)
        · have hPc1 : MP σ w s o (cHp w a (s - a) jj o (prR w (TT w) s a o)) := by unfold cHp; rw [if_neg (fun e => by omega)]; exact hP
          refine g_aload_n C dX10_offersSplit_92 rfl ?_
          refine g_iload_n C dX10_offersSplit_93 rfl ?_
          refine g_iload_n C dX10_offersSplit_94 rfl ?_
          refine g_iload_n C dX10_offersSplit_95 rfl ?_
          refine gc_X10_229 C dX10_offersSplit_96 rfl (c_X10_offersLoop hI (Ml M) σ hPc1 hs31 ho hW (a := a) (b := s - a) (jj := jj) hza rfl hji ha1 (by omega) hsab (by omega) hk1 hjn hj7 hmo hio hc1) (by decide) (Nat.le_of_ble_eq_true rfl) (fun σ2 ⟨hσ2, hFσ2⟩ => ?_)
          refine g_aload_n C dX10_offersSplit_99 rfl ?_
          refine g_pc (pc' := 100) rfl ?_
          refine g_iload_n C dX10_offersSplit_100 rfl ?_
          refine g_iload_n C dX10_offersSplit_101 rfl ?_
          refine g_iload_n C dX10_offersSplit_102 rfl ?_
          refine gc_X10_233 C dX10_offersSplit_103 rfl (c_X10_offersMerge hI (Ml M) σ2 hσ2 hs31 ho hW (a := a) (b := s - a) (jj := jj) hza rfl hji ha1 (by omega) hsab (by omega) hk1 hjn hj7 hmo hio hc2) (by decide) (Nat.le_of_ble_eq_true rfl) (fun σ3 ⟨hσ3, hFσ3⟩ => ?_)
          exact g_return C dX10_offersSplit_106 ⟨by have h9 := sp_eq (w := w) hs31 ha1 has hsub ho (by omega) (fun h => hTa.2 h o ho) (fun h => by rw [hji]; exact hTa.2 h _ hmo.1 hio.1) (fun h => by rw [hji]; exact hTb.2 h _ hmo.2 hio.2); rw [← h9, hji]; exact hσ3, ((Fm.rf.tr hFσ2).tr hFσ3)⟩
        · have h0a : zW (TT w a 0) ≠ -1 := by assumption
          have h0b : zW (TT w (s - a) 0) ≠ -1 := by assumption
          have hlp := hC_PO (j := (jj : Int)) hW hTa hTb h0a h0b hk1 hj7 habn
          obtain ⟨⟨_, hv74⟩, ⟨_, hv75⟩, ⟨_, hv85⟩, ⟨_, hv60⟩⟩ := hC_v hW hTa hTb h0a h0b hk1
          have hv86 := PO.fb hlp (show (1 : Int) ≠ -1 by decide)
          refine g_aload_n C dX10_offersSplit_46 rfl ?_
          refine g_iconst (z := 1) C dX10_offersSplit_47 rfl ?_
          refine g_aload_n C dX10_offersSplit_48 rfl ?_
          refine g_pc (pc' := 49) rfl ?_
          refine g_iload_n C dX10_offersSplit_49 rfl ?_
          refine g_iconst (z := 0) C dX10_offersSplit_50 rfl ?_
          refine gc_X10_216 C dX10_offersSplit_51 rfl (c_X10_best hI (Ml M) σ (s := a) (o := 0) (by omega) (by omega) (by omega) (by omega) (hP.get (by omega) hs31 (by omega)) (by assumption)) (by decide) (Nat.le_of_ble_eq_true rfl) (fun z σ9 ⟨hz, hσ⟩ => ?_)
          subst z
          subst σ9
          refine g_aload_n C dX10_offersSplit_54 rfl ?_
          refine g_iload_n C dX10_offersSplit_55 rfl ?_
          refine g_iconst (z := 0) C dX10_offersSplit_56 rfl ?_
          refine gc_X10_216 C dX10_offersSplit_57 rfl (c_X10_best hI (Ml M) σ (s := (s - a)) (o := 0) (by omega) (by omega) (by omega) (by omega) (hP.get (by omega) hs31 (by omega)) (by assumption)) (by decide) (Nat.le_of_ble_eq_true rfl) (fun z σ9 ⟨hz, hσ⟩ => ?_)
          subst z
          subst σ9
          refine g_fadd C dX10_offersSplit_60 hv60.vf ?_
          refine g_pc (pc' := 61) rfl ?_
          refine g_aload_n C dX10_offersSplit_61 rfl ?_
          refine gf_X10_55 C dX10_offersSplit_62 rfl ?_
          refine g_iload_n C dX10_offersSplit_65 rfl ?_
          refine g_faz (n := a) (N := 32) (v := (tho w a)) C dX10_offersSplit_66 rfl rfl (by omega) (by omega) (by decide) (hP.2.2.1 a (by omega) (by omega)) ?_
          refine g_fconst2 C dX10_offersSplit_67 ?_
          refine g_aload_n C dX10_offersSplit_68 rfl ?_
          refine gf_X10_55 C dX10_offersSplit_69 rfl ?_
          refine g_iload_n C dX10_offersSplit_72 rfl ?_
          refine g_pc (pc' := 73) rfl ?_
          refine g_faz (n := (s - a)) (N := 32) (v := (tho w (s - a))) C dX10_offersSplit_73 rfl rfl (by omega) (by omega) (by decide) (hP.2.2.1 (s - a) (by omega) (by omega)) ?_
          refine g_fmul C dX10_offersSplit_74 hv74.vf ?_
          refine g_fadd C dX10_offersSplit_75 hv75.vf ?_
          refine g_aload_n C dX10_offersSplit_76 rfl ?_
          refine gf_X10_55 C dX10_offersSplit_77 rfl ?_
          refine g_aload_n C dX10_offersSplit_80 rfl ?_
          refine gf_X10_204 (z := (s : Int)) C dX10_offersSplit_81 rfl hP.2.1.1 ?_
          refine g_faz (n := s) (N := 32) (v := (tho w (a + (s - a)))) C dX10_offersSplit_84 rfl rfl (by omega) (by omega) (by decide) (by rw [hsab]; exact hP.2.2.1 s (by omega) (by omega)) ?_
          refine g_pc (pc' := 85) rfl ?_
          refine g_fadd C dX10_offersSplit_85 hv85.vf ?_
          refine g_fadd C dX10_offersSplit_86 hv86.vf ?_
          refine g_iload_n C dX10_offersSplit_87 rfl ?_
          refine g_iload_n C dX10_offersSplit_88 rfl ?_
          refine gc_X10_219 C dX10_offersSplit_89 rfl (c_X10_offers hI (Ml M) σ hP hs31 ho hc0 (n := (hC w (TT w) a (s - a) (jj : Int))) rfl rfl (aOf_h.trans hza.symm) hji.symm (PO.fb hlp (show (1 : Int) ≠ -1 by decide))) (by decide) (Nat.le_of_ble_eq_true rfl) (fun σ1 ⟨hP1, hF1⟩ => ?_)
          have hPc1 : MP σ1 w s o (cHp w a (s - a) jj o (prR w (TT w) s a o)) := by unfold cHp; rw [if_pos ⟨by omega, by assumption, by assumption⟩]; exact hP1
          refine g_aload_n C dX10_offersSplit_92 rfl ?_
          refine g_iload_n C dX10_offersSplit_93 rfl ?_
          refine g_iload_n C dX10_offersSplit_94 rfl ?_
          refine g_pc (pc' := 95) rfl ?_
          refine g_iload_n C dX10_offersSplit_95 rfl ?_
          refine gc_X10_229 C dX10_offersSplit_96 rfl (c_X10_offersLoop hI (Ml M) σ1 hPc1 hs31 ho hW (a := a) (b := s - a) (jj := jj) hza rfl hji ha1 (by omega) hsab (by omega) hk1 hjn hj7 hmo hio hc1) (by decide) (Nat.le_of_ble_eq_true rfl) (fun σ2 ⟨hσ2, hFσ2⟩ => ?_)
          refine g_aload_n C dX10_offersSplit_99 rfl ?_
          refine g_iload_n C dX10_offersSplit_100 rfl ?_
          refine g_iload_n C dX10_offersSplit_101 rfl ?_
          refine g_iload_n C dX10_offersSplit_102 rfl ?_
          refine gc_X10_233 C dX10_offersSplit_103 rfl (c_X10_offersMerge hI (Ml M) σ2 hσ2 hs31 ho hW (a := a) (b := s - a) (jj := jj) hza rfl hji ha1 (by omega) hsab (by omega) hk1 hjn hj7 hmo hio hc2) (by decide) (Nat.le_of_ble_eq_true rfl) (fun σ3 ⟨hσ3, hFσ3⟩ => ?_)
          exact g_return C dX10_offersSplit_106 ⟨by have h9 := sp_eq (w := w) hs31 ha1 has hsub ho (by omega) (fun h => hTa.2 h o ho) (fun h => by rw [hji]; exact hTa.2 h _ hmo.1 hio.1) (fun h => by rw [hji]; exact hTb.2 h _ hmo.2 hio.2); rw [← h9, hji]; exact hσ3, ((hF1.tr hFσ2).tr hFσ3)⟩
  · refine g_pc (pc' := 20) rfl ?_
    exact g_return C dX10_offersSplit_20 ⟨by rw [prR_n (fun e => absurd e.2.2.1 (by omega))]; exact hP, Fm.rf⟩

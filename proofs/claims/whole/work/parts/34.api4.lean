theorem rrun_le {w : Wv} {f : Nat → Int} : ∀ (n i : Nat) (r : Rd) {j : Nat}, rrun w f n i r = .inl j → j ≤ i + n
  | 0, i, r, j, h => by rw [rrun] at h; cases h
  | n + 1, i, r, j, h => by
    rw [rrun] at h
    split at h
    · injection h with h; omega
    · have := rrun_le n (i + 1) _ h; omega
theorem rtext_le {w : Wv} {f : Nat → Int} {n j : Nat} (h : rtext w f n = .inl j) : j ≤ n := by
  unfold rtext at h
  split at h
  · rename_i i hi
    have := rrun_le n 0 rd0 hi
    injection h with h; omega
  · split at h
    · cases h
    · injection h with h; omega
def RZ (σ' : St) (w : Wv) (f : Nat → Int) (n : Nat) (z : Int) : Prop := (∃ i : Nat, z = (i : Int) ∧ rtext w f n = .inl i) ∨ (z = -1 ∧ ∃ r, rtext w f n = .inr r ∧ RE σ' w r)
theorem RZ.r {σ' : St} {w : Wv} {f : Nat → Int} {n : Nat} {z : Int} (h : RZ σ' w f n z) (hn : n ≤ 160) : -1 ≤ z ∧ z ≤ 160 := by
  rcases h with ⟨i, hz, ht⟩ | ⟨hz, _⟩
  · have := rtext_le ht; omega
  · omega
theorem RZ.ok {σ' : St} {w : Wv} {f : Nat → Int} {n : Nat} {z : Int} (h : RZ σ' w f n z) (hz : z = -1) : ∃ r, rtext w f n = .inr r ∧ RE σ' w r := by
  rcases h with ⟨i, hi, ht⟩ | ⟨_, h⟩
  · omega
  · exact h
theorem RZ.no {σ' : St} {w : Wv} {f : Nat → Int} {n : Nat} {z : Int} (h : RZ σ' w f n z) (hz : z ≠ -1) : ∃ i : Nat, z = (i : Int) ∧ rtext w f n = .inl i := by
  rcases h with h | ⟨h, _⟩
  · exact h
  · exact absurd h hz
theorem aRead_l {V : Vw} {x : Int} {i : Nat} (hw : wnr V x = 0) (h : rtext (vW V) (chI (vSh V) x.toNat) (sN (vSh V) x.toNat) = .inl i) : aRead V x = rfs 6 (vFlt V (i : Int)) := by unfold aRead; rw [if_neg (fun e => e hw), h]; rfl
theorem aRead_r {V : Vw} {x : Int} {r : Rd} (hw : wnr V x = 0) (h : rtext (vW V) (chI (vSh V) x.toNat) (sN (vSh V) x.toNat) = .inr r) : aRead V x = ((rit r : Int), (wBring (vW V) r, (vFlt V (-1)).2)) := by unfold aRead; rw [if_neg (fun e => e hw), h]; rfl
theorem RC_XC {k : Nat} (h : RC k) : XC k := by unfold RC at h; unfold XC; omega
theorem XV.rd {σ σ' : St} {V : Vw} (hX : XV σ V) (hO : OKV V) (hF : Fr RC σ σ') (h : XW 0 σ' (vW V)) : XV σ' V := XV.world (w' := vW V) hX hO hF (fun k h1 h2 e => by unfold RC at e; omega) h
theorem OKV.flt {V : Vw} (hO : OKV V) {z : Int} (hz : R32 z) : OKV (vFlt V z) := ⟨hO.1, hO.2.1, hO.2.2.1, hO.2.2.2.1, hz⟩
theorem aRead_k {V : Vw} {x : Int} (h : wnr V x ≠ 0) : aRead V x = rfs (wnr V x) V := by unfold aRead; rw [if_pos h]
theorem HB_at {σ : St} {w : Wv} {p b : Nat} (h : HS σ (wcol w p) (wl w (p / 3)) (wb w (p / 3))) (hb : b < bct (wl w (p / 3)) (wb w (p / 3)) (wb w (p / 3))) : σ.1 83 b = wsrt w p (bA (wl w (p / 3)) (wb w (p / 3)) b) ∧ σ.1 84 b = wsrt w p (bB (wl w (p / 3)) (wb w (p / 3)) b - 1) ∧ σ.1 85 b = ((bB (wl w (p / 3)) (wb w (p / 3)) b - bA (wl w (p / 3)) (wb w (p / 3)) b : Nat) : Int) ∧ σ.1 86 b = (dif (wsrt w p) (bA (wl w (p / 3)) (wb w (p / 3)) b) (bB (wl w (p / 3)) (wb w (p / 3)) b) : Int) := h.2.2.2 b hb
theorem HC_XC {k : Nat} (h : HC k) : XC k := by unfold HC at h; unfold XC; omega
theorem XV.frH {σ σ' : St} {V : Vw} (hX : XV σ V) (hO : OKV V) (hF : Fr HC σ σ') : XV σ' V := hX.scratch hO hF (fun k hk e => by unfold HC at e; omega)
theorem chI_r {h : Sh} {s i : Nat} : R32 (chI h s i) := R32_of _
theorem RE.sI {σ : St} {w : Wv} {r : Rd} (h : RE σ w r) {z : Int} : RE (sI σ 76 10 z) w r := by
  obtain ⟨a1, a2, a3, a4, a5⟩ := h
  refine ⟨a1.sI9 (by omega), fun t ht => (rI_k (by decide)).trans (a2 t ht), (rI_k (by decide)).trans a3, fun t ht i c hc hi => ?_, a5⟩
  rw [rI_k (by omega)]
  exact a4 t ht i c hc hi
set_option maxHeartbeats 4000000 in
set_option maxRecDepth 100000 in
theorem c_X9_read {κ : Kp} (hI : Ij κ) (l : Launch) (σ : St) {V : Vw} (hX : XV σ V) (hO : OKV V) {x : Int} (hx : R32 x) : CtI κ l 6 yX9_read cX9_read 3 .int [.ref (κ.2.1 76), .int (iZ x)] σ (fun z σ' => z = (aRead V x).1 ∧ XV σ' (aRead V x).2 ∧ Fr XC σ σ') := by
  refine Ct.ofG (own := RX9) hI (by decide +kernel) rfl (Nat.le_of_ble_eq_true rfl) rfl ?_
  intro M C hMl
  refine g_aload_n C dX9_read_0 rfl ?_
  refine g_iload_n C dX9_read_1 rfl ?_
  refine gc_X9_92 C dX9_read_2 rfl (c_X9_whyNoRow hI (Ml M) σ (x := x) (kn := sK (vSh V)) hx (hX.kinds hO)) (by decide) (Nat.le_of_ble_eq_true rfl) (fun z σ1 ⟨hz, hσ⟩ => ?_)
  rw [wnr_int] at hz
  subst z
  subst σ1
  have hwn := wnr_le V x
  refine g_istore_n (L' := [(2, .int (iZ (wnr V x : Int))), (0, .ref (κ.2.1 76)), (1, .int (iZ x))]) C dX9_read_5 rfl (by decide) rfl ?_
  refine g_iload_n C dX9_read_6 rfl ?_
  refine g_if_eq (tgt := 16) C dX9_read_7 (by decide) (by unfold R32; omega) (fun h1 => ?_) (fun h1 => ?_)
  · have hxk := wnr_0 (V := V) (x := x) hO (by omega)
    have hrw := sh_row hX hO (s := x.toNat) (by omega) hxk.2
    have hw0 : wnr V x = 0 := by omega
    refine g_aload_n C dX9_read_16 rfl ?_
    refine g_pc (pc' := 17) rfl ?_
    refine g_aload_n C dX9_read_17 rfl ?_
    refine gf_X9_51 C dX9_read_18 rfl ?_
    refine g_aload_n C dX9_read_21 rfl ?_
    refine gf_X9_57 C dX9_read_22 rfl ?_
    refine g_iload_n C dX9_read_25 rfl ?_
    have hkz2 : kd (34 + 3 * x.toNat) = 4 := kd_shelf x.toNat (by omega)
    refine g_aald (n := x.toNat) (N := 8) (c := 25) (r := (34 + 3 * x.toNat)) C dX9_read_26 rfl (by decide) rfl (by decide) rfl (by omega) (by omega) (by decide) (rf_25 _ _ rfl) ?_
    refine gc_X9_158 C dX9_read_27 rfl (c_X6_faultIn hI (Ml M) σ hX.1 hO.1 hkz2 (n := sN (vSh V) x.toNat) (f := chI (vSh V) x.toNat) hrw.2.1 hrw.2.2.2.2 (by omega) (fun i hi => by show _ = (sE (vSh V) x.toNat i).toInt32.toInt; rw [← hrw.2.2.1 i hi])) (by decide) (Nat.le_of_ble_eq_true rfl) (fun z s1 ⟨hF, hXW, hz⟩ => ?_)
    replace hz : RZ s1 (vW V) (chI (vSh V) x.toNat) (sN (vSh V) x.toNat) z := hz
    have hzr := hz.r hrw.2.2.2.2
    have hX1 := hX.rd hO hF hXW
    have hO1 : OKV (vFlt V z) := hO.flt (by unfold R32; omega)
    refine gp_X9_71 C dX9_read_30 rfl ?_
    refine g_pc (pc' := 33) rfl ?_
    refine g_aload_n C dX9_read_33 rfl ?_
    refine gf_X9_71 (z := z) C dX9_read_34 rfl rI_s ?_
    refine g_iconst (z := (-1)) C dX9_read_37 rfl ?_
    refine g_icmp_eq (tgt := 48) C dX9_read_38 (by decide) (by unfold R32; omega) (fun h3 => ?_) (fun h3 => ?_)
    · refine g_aload_n C dX9_read_48 rfl ?_
      refine gf_X9_51 C dX9_read_49 rfl ?_
      obtain ⟨r, ht, hE⟩ := hz.ok (by omega)
      have hE2 := hE.sI (z := z)
      refine gc_X9_162 C dX9_read_52 rfl (c_X6_bringLines hI (Ml M) (sI s1 76 10 z) hE2 hO.1) (by decide) (Nat.le_of_ble_eq_true rfl) (fun s2 ⟨hG, hXB⟩ => ?_)
      have hzm : z = -1 := by omega
      have hzz : (rit r : Int) = (aRead V x).1 := by rw [aRead_r hw0 ht]
      have hX9 : XV s2 (aRead V x).2 := by
        rw [aRead_r hw0 ht]
        have h8 := (hX1.flt hO z).world hO1 hG (fun k _ _ e => by unfold LC at e; omega) hXB
        rw [hzm] at h8
        exact h8
      have hF9 : Fr XC σ s2 := (hF.mono (fun k => RC_XC)).tr ((Fr.rf.sI (k := 76) (j := 10) (v := z) (by unfold XC; omega)).tr (hG.mono (fun k hk => by unfold LC at hk; unfold XC; omega)))
      refine g_aload_n C dX9_read_55 rfl ?_
      refine g_pc (pc' := 56) rfl ?_
      refine gf_X9_51 C dX9_read_56 rfl ?_
      refine gf_X9_165 (z := (rit r : Int)) C dX9_read_59 rfl (hG.1 103 (by unfold LC; omega) ▸ hE2.2.2.1) ?_
      exact g_ireturn C dX9_read_62 ⟨hzz, hX9, hF9⟩
    · refine g_aload_n C dX9_read_41 rfl ?_
      refine g_bipush (z := 6) C dX9_read_42 rfl ?_
      refine gc_X9_84 C dX9_read_44 rfl (c_X9_refuse hI (Ml M) (sI s1 76 10 z) (y := 6) rfl (by omega)) (by decide) (Nat.le_of_ble_eq_true rfl) (fun z σ1 ⟨hz, hσ⟩ => ?_)
      subst z
      subst σ1
      exact g_ireturn C dX9_read_47 (by obtain ⟨i, hz2, ht⟩ := hz.no (by omega); rw [aRead_l hw0 ht, ← hz2]; exact ⟨rfl, (hX1.flt hO z).ref hO1 (by omega), (hF.mono (fun k => RC_XC)).tr ((Fr.rf.sI (by unfold XC; omega)).tr XC.ref)⟩)
  · refine g_aload_n C dX9_read_10 rfl ?_
    refine g_pc (pc' := 11) rfl ?_
    refine g_iload_n C dX9_read_11 rfl ?_
    refine gc_X9_84 C dX9_read_12 rfl (c_X9_refuse hI (Ml M) σ (y := (wnr V x)) rfl (by omega)) (by decide) (Nat.le_of_ble_eq_true rfl) (fun z σ1 ⟨hz, hσ⟩ => ?_)
    subst z
    subst σ1
    exact g_ireturn C dX9_read_15 (by rw [aRead_k (by omega)]; exact ⟨rfl, hX.ref hO (by omega), XC.ref⟩)
set_option maxHeartbeats 4000000 in
set_option maxRecDepth 100000 in
theorem c_X9_bucket {κ : Kp} (hI : Ij κ) (l : Launch) (σ : St) {V : Vw} (hX : XV σ V) (hO : OKV V) {p b a : Int} (hp : R32 p) (hb : R32 b) (ha : R32 a) : CtI κ l 4 yX9_bucket cX9_bucket 5 .int [.ref (κ.2.1 76), .int (iZ p), .int (iZ b), .int (iZ a)] σ (fun z σ' => z = (aBucket V p b a).1 ∧ XV σ' (aBucket V p b a).2 ∧ Fr XC σ σ') := by
  refine Ct.ofG (own := RX9) hI (by decide +kernel) rfl (Nat.le_of_ble_eq_true rfl) rfl ?_
  intro M C hMl
  refine g_iload_n C dX9_bucket_0 rfl ?_
  refine g_bipush (z := 15) C dX9_bucket_1 rfl ?_
  refine gc_X9_80 C dX9_bucket_3 (c_X9_isBelow hI (Ml M) σ (x := p) (e := 15) (by unfold R32; omega) (by unfold R32; omega)) (by decide) (Nat.le_of_ble_eq_true rfl) (fun z σ1 ⟨hz, hσ⟩ => ?_)
  subst z
  subst σ1
  refine g_ifb_ne (tgt := 15) C dX9_bucket_6 (by decide) (fun h1 => ?_) (fun h1 => ?_)
  · refine g_aload_n C dX9_bucket_15 rfl ?_
    refine gf_X9_28 C dX9_bucket_16 rfl ?_
    refine g_iload_n C dX9_bucket_19 rfl ?_
    refine g_pc (pc' := 20) rfl ?_
    refine gc_X9_181 C dX9_bucket_20 rfl (c_X7_histogramOf hI (Ml M) σ hX.1 hO.1 (p := p.toNat) (by omega) (by omega)) (by decide) (Nat.le_of_ble_eq_true rfl) (fun k9 s1 ⟨hk9, hF, hFs⟩ => ?_)
    subst k9
    have hX1 := hX.frH hO hF
    have hbc8 : bct (wl (vW V) (p.toNat / 3)) (wb (vW V) (p.toNat / 3)) (wb (vW V) (p.toNat / 3)) ≤ wb (vW V) (p.toNat / 3) := bct_le _ _ _
    have hwt := hO.1.1 (p.toNat / 3) (by omega)
    refine g_astore (L' := [(4, .ref (κ.2.1 81)), (0, .ref (κ.2.1 76)), (1, .int (iZ p)), (2, .int (iZ b)), (3, .int (iZ a))]) C dX9_bucket_23 (by decide) rfl ?_
    refine g_iload_n C dX9_bucket_25 rfl ?_
    refine g_aload C dX9_bucket_26 rfl ?_
    refine gf_X9_185 (z := ((bct (wl (vW V) (p.toNat / 3)) (wb (vW V) (p.toNat / 3)) (wb (vW V) (p.toNat / 3))) : Int)) C dX9_bucket_28 rfl hFs.2.2.1 ?_
    refine gc_X9_80 C dX9_bucket_31 (c_X9_isBelow hI (Ml M) s1 (x := b) (e := ((bct (wl (vW V) (p.toNat / 3)) (wb (vW V) (p.toNat / 3)) (wb (vW V) (p.toNat / 3))) : Int)) (by unfold R32; omega) (by unfold R32; omega)) (by decide) (Nat.le_of_ble_eq_true rfl) (fun z σ1 ⟨hz, hσ⟩ => ?_)
    subst z
    subst σ1
    refine g_ifb_ne (tgt := 43) C dX9_bucket_34 (by decide) (fun h2 => ?_) (fun h2 => ?_)
    · refine g_iload_n C dX9_bucket_43 rfl ?_
      refine g_pc (pc' := 44) rfl ?_
      have hs3 : a < 0 ∨ 3 < a ∨ a = 0 ∨ a = 1 ∨ a = 2 ∨ a = 3 := by omega
      rcases hs3 with hs3 | hs3 | hs3 | hs3 | hs3 | hs3
      · refine g_tswd (tgt := 108) C dX9_bucket_44 (by unfold R32; omega) (by omega) (by decide) ?_
        refine g_aload_n C dX9_bucket_108 rfl ?_
        refine g_iconst (z := 5) C dX9_bucket_109 rfl ?_
        refine gc_X9_84 C dX9_bucket_110 rfl (c_X9_refuse hI (Ml M) s1 (y := 5) rfl (by omega)) (by decide) (Nat.le_of_ble_eq_true rfl) (fun z σ1 ⟨hz, hσ⟩ => ?_)
        subst z
        subst σ1
        exact g_ireturn C dX9_bucket_113 (by rw [show aBucket V p b a = rfs 5 V by unfold aBucket; (first | rw [if_pos (by omega)] | rw [if_neg (by omega), if_pos (by omega)] | rw [if_neg (by omega), if_neg (by omega), if_pos (by omega)] | rw [if_neg (by omega), if_neg (by omega), if_neg (by omega), if_pos (by omega)] | rw [if_neg (by omega), if_neg (by omega), if_neg (by omega), if_neg (by omega), if_pos (by omega)] | rw [if_neg (by omega), if_neg (by omega), if_neg (by omega), if_neg (by omega), if_neg (by omega), if_pos (by omega)] | rw [if_neg (by omega), if_neg (by omega), if_neg (by omega), if_neg (by omega), if_neg (by omega), if_neg (by omega)])]; exact ⟨rfl, hX1.ref hO (by omega), (hF.mono (fun k => HC_XC)).tr XC.ref⟩)
      · refine g_tswd (tgt := 108) C dX9_bucket_44 (by unfold R32; omega) (by omega) (by decide) ?_
        refine g_aload_n C dX9_bucket_108 rfl ?_
        refine g_iconst (z := 5) C dX9_bucket_109 rfl ?_
        refine gc_X9_84 C dX9_bucket_110 rfl (c_X9_refuse hI (Ml M) s1 (y := 5) rfl (by omega)) (by decide) (Nat.le_of_ble_eq_true rfl) (fun z σ1 ⟨hz, hσ⟩ => ?_)
        subst z
        subst σ1
        refine g_pc (pc' := 113) rfl ?_
        exact g_ireturn C dX9_bucket_113 (by rw [show aBucket V p b a = rfs 5 V by unfold aBucket; (first | rw [if_pos (by omega)] | rw [if_neg (by omega), if_pos (by omega)] | rw [if_neg (by omega), if_neg (by omega), if_pos (by omega)] | rw [if_neg (by omega), if_neg (by omega), if_neg (by omega), if_pos (by omega)] | rw [if_neg (by omega), if_neg (by omega), if_neg (by omega), if_neg (by omega), if_pos (by omega)] | rw [if_neg (by omega), if_neg (by omega), if_neg (by omega), if_neg (by omega), if_neg (by omega), if_pos (by omega)] | rw [if_neg (by omega), if_neg (by omega), if_neg (by omega), if_neg (by omega), if_neg (by omega), if_neg (by omega)])]; exact ⟨rfl, hX1.ref hO (by omega), (hF.mono (fun k => HC_XC)).tr XC.ref⟩)
      · refine g_int (z' := 0) hs3 ?_
        refine g_tsw (tgt := 76) C dX9_bucket_44 (by decide) (by decide) rfl (by decide) ?_
        refine g_aload C dX9_bucket_76 rfl ?_
        refine gf_X9_188 C dX9_bucket_78 rfl ?_
        refine g_iload_n C dX9_bucket_81 rfl ?_
        refine g_iaz (n := b.toNat) (N := 8) (v := (s1.1 83 b.toNat)) C dX9_bucket_82 rfl rfl (by omega) (by omega) (by decide) rfl ?_
        exact g_ireturn C dX9_bucket_83 ⟨by unfold aBucket; rw [if_neg (by omega), if_neg (by omega), if_pos (by omega)]; exact (HB_at hFs (b := b.toNat) (by omega)).1, by unfold aBucket; rw [if_neg (by omega), if_neg (by omega), if_pos (by omega)]; exact hX1, hF.mono (fun k => HC_XC)⟩
      · refine g_int (z' := 1) hs3 ?_
        refine g_tsw (tgt := 84) C dX9_bucket_44 (by decide) (by decide) rfl (by decide) ?_
        refine g_aload C dX9_bucket_84 rfl ?_
        refine gf_X9_191 C dX9_bucket_86 rfl ?_
        refine g_pc (pc' := 89) rfl ?_
        refine g_iload_n C dX9_bucket_89 rfl ?_
        refine g_iaz (n := b.toNat) (N := 8) (v := (s1.1 84 b.toNat)) C dX9_bucket_90 rfl rfl (by omega) (by omega) (by decide) rfl ?_
        exact g_ireturn C dX9_bucket_91 ⟨by unfold aBucket; rw [if_neg (by omega), if_neg (by omega), if_neg (by omega), if_pos (by omega)]; exact (HB_at hFs (b := b.toNat) (by omega)).2.1, by unfold aBucket; rw [if_neg (by omega), if_neg (by omega), if_neg (by omega), if_pos (by omega)]; exact hX1, hF.mono (fun k => HC_XC)⟩
      · refine g_int (z' := 2) hs3 ?_
        refine g_tsw (tgt := 92) C dX9_bucket_44 (by decide) (by decide) rfl (by decide) ?_
        refine g_aload C dX9_bucket_92 rfl ?_
        refine gf_X9_194 C dX9_bucket_94 rfl ?_
        refine g_iload_n C dX9_bucket_97 rfl ?_
        refine g_iaz (n := b.toNat) (N := 8) (v := (s1.1 85 b.toNat)) C dX9_bucket_98 rfl rfl (by omega) (by omega) (by decide) rfl ?_
        exact g_ireturn C dX9_bucket_99 ⟨by unfold aBucket; rw [if_neg (by omega), if_neg (by omega), if_neg (by omega), if_neg (by omega), if_pos (by omega)]; exact (HB_at hFs (b := b.toNat) (by omega)).2.2.1, by unfold aBucket; rw [if_neg (by omega), if_neg (by omega), if_neg (by omega), if_neg (by omega), if_pos (by omega)]; exact hX1, hF.mono (fun k => HC_XC)⟩
      · refine g_int (z' := 3) hs3 ?_
        refine g_tsw (tgt := 100) C dX9_bucket_44 (by decide) (by decide) rfl (by decide) ?_
        refine g_pc (pc' := 100) rfl ?_
        refine g_aload C dX9_bucket_100 rfl ?_
        refine gf_X9_197 C dX9_bucket_102 rfl ?_
        refine g_iload_n C dX9_bucket_105 rfl ?_
        refine g_iaz (n := b.toNat) (N := 8) (v := (s1.1 86 b.toNat)) C dX9_bucket_106 rfl rfl (by omega) (by omega) (by decide) rfl ?_
        exact g_ireturn C dX9_bucket_107 ⟨by unfold aBucket; rw [if_neg (by omega), if_neg (by omega), if_neg (by omega), if_neg (by omega), if_neg (by omega), if_pos (by omega)]; exact (HB_at hFs (b := b.toNat) (by omega)).2.2.2, by unfold aBucket; rw [if_neg (by omega), if_neg (by omega), if_neg (by omega), if_neg (by omega), if_neg (by omega), if_pos (by omega)]; exact hX1, hF.mono (fun k => HC_XC)⟩
    · refine g_aload_n C dX9_bucket_37 rfl ?_
      refine g_iconst (z := 5) C dX9_bucket_38 rfl ?_
      refine gc_X9_84 C dX9_bucket_39 rfl (c_X9_refuse hI (Ml M) s1 (y := 5) rfl (by omega)) (by decide) (Nat.le_of_ble_eq_true rfl) (fun z σ1 ⟨hz, hσ⟩ => ?_)
      subst z
      subst σ1
      refine g_pc (pc' := 42) rfl ?_
      exact g_ireturn C dX9_bucket_42 (by rw [show aBucket V p b a = rfs 5 V by unfold aBucket; (first | rw [if_pos (by omega)] | rw [if_neg (by omega), if_pos (by omega)] | rw [if_neg (by omega), if_neg (by omega), if_pos (by omega)] | rw [if_neg (by omega), if_neg (by omega), if_neg (by omega), if_pos (by omega)] | rw [if_neg (by omega), if_neg (by omega), if_neg (by omega), if_neg (by omega), if_pos (by omega)] | rw [if_neg (by omega), if_neg (by omega), if_neg (by omega), if_neg (by omega), if_neg (by omega), if_pos (by omega)] | rw [if_neg (by omega), if_neg (by omega), if_neg (by omega), if_neg (by omega), if_neg (by omega), if_neg (by omega)])]; exact ⟨rfl, hX1.ref hO (by omega), (hF.mono (fun k => HC_XC)).tr XC.ref⟩)
  · refine g_aload_n C dX9_bucket_9 rfl ?_
    refine g_iconst (z := 1) C dX9_bucket_10 rfl ?_
    refine gc_X9_84 C dX9_bucket_11 rfl (c_X9_refuse hI (Ml M) σ (y := 1) rfl (by omega)) (by decide) (Nat.le_of_ble_eq_true rfl) (fun z σ1 ⟨hz, hσ⟩ => ?_)
    subst z
    subst σ1
    exact g_ireturn C dX9_bucket_14 (by rw [show aBucket V p b a = rfs 1 V by unfold aBucket; (first | rw [if_pos (by omega)] | rw [if_neg (by omega), if_pos (by omega)] | rw [if_neg (by omega), if_neg (by omega), if_pos (by omega)] | rw [if_neg (by omega), if_neg (by omega), if_neg (by omega), if_pos (by omega)] | rw [if_neg (by omega), if_neg (by omega), if_neg (by omega), if_neg (by omega), if_pos (by omega)] | rw [if_neg (by omega), if_neg (by omega), if_neg (by omega), if_neg (by omega), if_neg (by omega), if_pos (by omega)] | rw [if_neg (by omega), if_neg (by omega), if_neg (by omega), if_neg (by omega), if_neg (by omega), if_neg (by omega)])]; exact ⟨rfl, hX.ref hO (by omega), XC.ref⟩)
set_option maxHeartbeats 4000000 in
set_option maxRecDepth 100000 in
theorem c_X9_different {κ : Kp} (hI : Ij κ) (l : Launch) (σ : St) {V : Vw} (hX : XV σ V) (hO : OKV V) {p : Int} (hp : R32 p) : CtI κ l 4 yX9_different cX9_different 2 .int [.ref (κ.2.1 76), .int (iZ p)] σ (fun z σ' => z = (aDifferent V p).1 ∧ XV σ' (aDifferent V p).2 ∧ Fr XC σ σ') := by
  refine Ct.ofG (own := RX9) hI (by decide +kernel) rfl (Nat.le_of_ble_eq_true rfl) rfl ?_
  intro M C hMl
  refine g_iload_n C dX9_different_0 rfl ?_
  refine g_bipush (z := 15) C dX9_different_1 rfl ?_
  refine gc_X9_80 C dX9_different_3 (c_X9_isBelow hI (Ml M) σ (x := p) (e := 15) (by unfold R32; omega) (by unfold R32; omega)) (by decide) (Nat.le_of_ble_eq_true rfl) (fun z σ1 ⟨hz, hσ⟩ => ?_)
  subst z
  subst σ1
  refine g_ifb_ne (tgt := 15) C dX9_different_6 (by decide) (fun h1 => ?_) (fun h1 => ?_)
  · refine g_aload_n C dX9_different_15 rfl ?_
    refine gf_X9_28 C dX9_different_16 rfl ?_
    refine g_iload_n C dX9_different_19 rfl ?_
    refine g_pc (pc' := 20) rfl ?_
    refine gc_X9_181 C dX9_different_20 rfl (c_X7_histogramOf hI (Ml M) σ hX.1 hO.1 (p := p.toNat) (by omega) (by omega)) (by decide) (Nat.le_of_ble_eq_true rfl) (fun k9 s1 ⟨hk9, hF, hFs⟩ => ?_)
    subst k9
    have hX1 := hX.frH hO hF
    have hbc8 : bct (wl (vW V) (p.toNat / 3)) (wb (vW V) (p.toNat / 3)) (wb (vW V) (p.toNat / 3)) ≤ wb (vW V) (p.toNat / 3) := bct_le _ _ _
    have hwt := hO.1.1 (p.toNat / 3) (by omega)
    refine gc_X9_200 C dX9_different_23 rfl (c_X0_differentValues hI (Ml M) s1 hFs.1 (hO.1.1 (p.toNat / 3) (by omega)).1 (HS_rng hO.1 (by omega) hFs)) (by decide) (Nat.le_of_ble_eq_true rfl) (fun z σ9 ⟨hz, hσ⟩ => ?_)
    subst σ9
    rw [HS_dif hFs] at hz
    exact g_ireturn C dX9_different_26 (by rw [show aDifferent V p = ((wdif (vW V) p.toNat : Int), V) by unfold aDifferent; (first | rw [if_pos (by omega)] | rw [if_neg (by omega)])]; exact ⟨hz, hX1, hF.mono (fun k => HC_XC)⟩)
  · refine g_aload_n C dX9_different_9 rfl ?_
    refine g_iconst (z := 1) C dX9_different_10 rfl ?_
    refine gc_X9_84 C dX9_different_11 rfl (c_X9_refuse hI (Ml M) σ (y := 1) rfl (by omega)) (by decide) (Nat.le_of_ble_eq_true rfl) (fun z σ1 ⟨hz, hσ⟩ => ?_)
    subst z
    subst σ1
    exact g_ireturn C dX9_different_14 (by rw [show aDifferent V p = rfs 1 V by unfold aDifferent; (first | rw [if_pos (by omega)] | rw [if_neg (by omega)])]; exact ⟨rfl, hX.ref hO (by omega), XC.ref⟩)
set_option maxHeartbeats 4000000 in
set_option maxRecDepth 100000 in
theorem c_X9_judge {κ : Kp} (hI : Ij κ) (l : Launch) (σ : St) {V : Vw} (hX : XV σ V) (hO : OKV V) {x n : Int} (hx : R32 x) (hn : R32 n) : CtI κ l 2 yX9_judge cX9_judge 5 .int [.ref (κ.2.1 76), .int (iZ x), .int (iZ n)] σ (fun z σ' => z = (aJudge V x n).1 ∧ XV σ' (aJudge V x n).2 ∧ Fr XC σ σ') := by
  refine Ct.ofG (own := RX9) hI (by decide +kernel) rfl (Nat.le_of_ble_eq_true rfl) rfl ?_
  intro M C hMl
  refine g_aload_n C dX9_judge_0 rfl ?_
  refine g_iload_n C dX9_judge_1 rfl ?_
  refine gc_X9_92 C dX9_judge_2 rfl (c_X9_whyNoRow hI (Ml M) σ (x := x) (kn := sK (vSh V)) hx (hX.kinds hO)) (by decide) (Nat.le_of_ble_eq_true rfl) (fun z σ1 ⟨hz, hσ⟩ => ?_)
  rw [wnr_int] at hz
  subst z
  subst σ1
  have hwn := wnr_le V x
  refine g_istore_n (L' := [(3, .int (iZ (wnr V x : Int))), (0, .ref (κ.2.1 76)), (1, .int (iZ x)), (2, .int (iZ n))]) C dX9_judge_5 rfl (by decide) rfl ?_
  refine g_iload_n C dX9_judge_6 rfl ?_
  refine g_if_eq (tgt := 16) C dX9_judge_7 (by decide) (by unfold R32; omega) (fun h1 => ?_) (fun h1 => ?_)
  · have hxk := wnr_0 (V := V) (x := x) hO (by omega)
    have hrw := sh_row hX hO (s := x.toNat) (by omega) hxk.2
    have hw0 : wnr V x = 0 := by omega
    have hnp := np_le hO
    refine g_iload_n C dX9_judge_16 rfl ?_
    refine g_pc (pc' := 17) rfl ?_
    refine g_if_ge (tgt := 26) C dX9_judge_17 (by decide) (by unfold R32; omega) (fun h2 => ?_) (fun h2 => ?_)
    · refine g_iload_n C dX9_judge_26 rfl ?_
      refine g_aload_n C dX9_judge_27 rfl ?_
      refine gf_X9_57 C dX9_judge_28 rfl ?_
      refine g_iload_n C dX9_judge_31 rfl ?_
      have hkz3 : kd (34 + 3 * x.toNat) = 4 := kd_shelf x.toNat (by omega)
      refine g_aald (n := x.toNat) (N := 8) (c := 25) (r := (34 + 3 * x.toNat)) C dX9_judge_32 rfl (by decide) rfl (by decide) rfl (by omega) (by omega) (by decide) (rf_25 _ _ rfl) ?_
      refine gf_X9_95 (z := (sN (vSh V) x.toNat : Int)) C dX9_judge_33 hkz3 hrw.2.1 ?_
      refine g_icmp_gt (tgt := 46) C dX9_judge_36 (by decide) (by unfold R32; omega) (fun h4 => ?_) (fun h4 => ?_)
      · refine g_pc (pc' := 46) rfl ?_
        refine g_aload_n C dX9_judge_46 rfl ?_
        refine g_iconst (z := 5) C dX9_judge_47 rfl ?_
        refine gc_X9_168 C dX9_judge_48 rfl (c_X9_refuseTenLower hI (Ml M) σ (y := 5) rfl (by omega)) (by decide) (Nat.le_of_ble_eq_true rfl) (fun z σ1 ⟨hz, hσ⟩ => ?_)
        subst z
        subst σ1
        exact g_ireturn C dX9_judge_51 (by rw [show aJudge V x n = rfT 5 V by unfold aJudge; (first | rw [if_pos (by omega)] | rw [if_neg (by omega), if_pos (by omega)] | rw [if_neg (by omega), if_neg (by omega), if_pos (by omega)] | rw [if_neg (by omega), if_neg (by omega), if_neg (by omega), if_pos (by omega)] | rw [if_neg (by omega), if_neg (by omega), if_neg (by omega), if_neg (by omega)])]; exact ⟨rfl, hX.ref hO (by omega), XC.ref⟩)
      · refine g_aload_n C dX9_judge_39 rfl ?_
        refine gf_X9_67 (z := (vP V : Int)) C dX9_judge_40 rfl (np_rd hX) ?_
        refine g_if_ne (tgt := 52) C dX9_judge_43 (by decide) (by unfold R32; omega) (fun h5 => ?_) (fun h5 => ?_)
        · refine g_iload_n C dX9_judge_52 rfl ?_
          refine g_pc (pc' := 53) rfl ?_
          refine g_bipush (z := 40) C dX9_judge_53 rfl ?_
          refine g_icmp_le (tgt := 65) C dX9_judge_55 (by decide) (by unfold R32; omega) (fun h6 => ?_) (fun h6 => ?_)
          · refine g_iconst (z := 0) C dX9_judge_65 rfl ?_
            refine g_istore (L' := [(4, .int (iZ 0)), (3, .int (iZ (wnr V x : Int))), (0, .ref (κ.2.1 76)), (1, .int (iZ x)), (2, .int (iZ n))]) C dX9_judge_66 (by decide) rfl ?_
            have lp68 : ∀ (fz9 : Nat) (i : Nat) (x4 : Int), (n.toNat - i < fz9) → (x4 = (i : Int)) → ((i : Int) ≤ n) → (jdg V x.toNat n.toNat (n.toNat - i) i = jdg V x.toNat n.toNat n.toNat 0) → G M κ 5 (En M κ (qI κ (fun z σ' => z = (aJudge V x n).1 ∧ XV σ' (aJudge V x n).2 ∧ Fr XC σ σ'))) 68 [(0, .ref (κ.2.1 76)), (1, .int (iZ x)), (2, .int (iZ n)), (3, .int (iZ (wnr V x : Int))), (4, .int (iZ x4))] [] σ := by
              intro fz9
              induction fz9 with
              | zero => intro i x4 hm0; exact absurd hm0 (Nat.not_lt_zero _)
              | succ fz9 ih =>
                intro i x4 hm68 hx4 hi hJ
                refine g_iload C dX9_judge_68 rfl ?_
                refine g_iload_n C dX9_judge_70 rfl ?_
                refine g_icmp_ge (tgt := 116) C dX9_judge_71 (by decide) (by unfold R32; omega) (fun h7 => ?_) (fun h7 => ?_)
                · refine g_iload_n C dX9_judge_116 rfl ?_
                  refine g_pc (pc' := 117) rfl ?_
                  refine g_aload_n C dX9_judge_117 rfl ?_
                  refine gf_X9_67 (z := (vP V : Int)) C dX9_judge_118 rfl (np_rd hX) ?_
                  refine g_icmp_ge (tgt := 128) C dX9_judge_121 (by decide) (by unfold R32; omega) (fun h8 => ?_) (fun h8 => ?_)
                  · refine g_iconst (z := (-1)) C dX9_judge_128 rfl ?_
                    exact g_ireturn C dX9_judge_129 (by rw [show aJudge V x n = (jdg V x.toNat n.toNat n.toNat 0, V) by unfold aJudge; rw [if_neg (by omega), if_neg (by omega), if_neg (by omega), if_neg (by omega)]]; exact ⟨by rw [← hJ, show n.toNat - i = 0 by omega, jdg]; first | (rw [if_pos (by omega)]; omega) | rw [if_neg (by omega)], hX, Fr.rf⟩)
                  · refine g_iload_n C dX9_judge_124 rfl ?_
                    refine g_goto (tgt := 129) C dX9_judge_125 (by decide) ?_
                    exact g_ireturn C dX9_judge_129 (by rw [show aJudge V x n = (jdg V x.toNat n.toNat n.toNat 0, V) by unfold aJudge; rw [if_neg (by omega), if_neg (by omega), if_neg (by omega), if_neg (by omega)]]; exact ⟨by rw [← hJ, show n.toNat - i = 0 by omega, jdg]; first | (rw [if_pos (by omega)]; omega) | rw [if_neg (by omega)], hX, Fr.rf⟩)
                · refine g_pc (pc' := 74) rfl ?_
                  refine g_aload_n C dX9_judge_74 rfl ?_
                  refine g_iload C dX9_judge_75 rfl ?_
                  refine gc_X9_123 C dX9_judge_77 rfl (c_X9_isNode hI (Ml M) σ (x := x4) (np := vP V) (by unfold R32; omega) (np_rd hX) (np_le hO)) (by decide) (Nat.le_of_ble_eq_true rfl) (fun z σ1 ⟨hz, hσ⟩ => ?_)
                  subst z
                  subst σ1
                  refine g_ifb_eq (tgt := 107) C dX9_judge_80 (by decide) (fun h9 => ?_) (fun h9 => ?_)
                  · refine g_iload C dX9_judge_107 rfl ?_
                    exact g_ireturn C dX9_judge_109 (by rw [show aJudge V x n = (jdg V x.toNat n.toNat n.toNat 0, V) by unfold aJudge; rw [if_neg (by omega), if_neg (by omega), if_neg (by omega), if_neg (by omega)]]; exact ⟨by rw [← hJ, jdg_st (by omega), if_neg (by omega)]; exact hx4, hX, Fr.rf⟩)
                  · refine g_aload_n C dX9_judge_83 rfl ?_
                    refine gf_X9_57 C dX9_judge_84 rfl ?_
                    refine g_pc (pc' := 87) rfl ?_
                    refine g_iload_n C dX9_judge_87 rfl ?_
                    have hkz10 : kd (34 + 3 * x.toNat) = 4 := kd_shelf x.toNat (by omega)
                    refine g_aald (n := x.toNat) (N := 8) (c := 25) (r := (34 + 3 * x.toNat)) C dX9_judge_88 rfl (by decide) rfl (by decide) rfl (by omega) (by omega) (by decide) (rf_25 _ _ rfl) ?_
                    refine g_iload C dX9_judge_89 rfl ?_
                    have hno := nd_ok hO (i := i) (by omega)
                    refine gc_X9_317 C dX9_judge_91 hkz10 (c_X4_intAt hI (Ml M) σ hkz10 (i := i) hx4 (by omega)) (by decide) (Nat.le_of_ble_eq_true rfl) (fun z σ9 ⟨hz, hσ⟩ => ?_)
                    subst σ9
                    rw [hrw.2.2.1 i (by omega)] at hz
                    have hz2 : z = chI (vSh V) x.toNat i := hz
                    subst hz2
                    have hcr := chI_r (h := vSh V) (s := x.toNat) (i := i)
                    refine g_aload_n C dX9_judge_94 rfl ?_
                    refine gf_X9_63 C dX9_judge_95 rfl ?_
                    refine g_iload C dX9_judge_98 rfl ?_
                    have hkz11 : kd (58 + i) = 2 := kd_node i (by omega)
                    refine g_aald (n := i) (N := 18) (c := 24) (r := (58 + i)) C dX9_judge_100 rfl (by decide) rfl (by decide) rfl (by omega) (by omega) (by decide) (rf_24 _ _ rfl) ?_
                    refine g_pc (pc' := 101) rfl ?_
                    refine gf_X9_284 (z := (vD V i 0)) C dX9_judge_101 hkz11 (nd_rd hX (by omega) (by decide)) ?_
                    refine g_icmp_eq (tgt := 110) C dX9_judge_104 (by decide) ⟨hcr, by have := hno.1; unfold R32; omega⟩ (fun h12 => ?_) (fun h12 => ?_)
                    · refine g_iinc (q := 4) (v := (x4 + 1)) (L' := [(4, .int (iZ (x4 + 1))), (0, .ref (κ.2.1 76)), (1, .int (iZ x)), (2, .int (iZ n)), (3, .int (iZ (wnr V x : Int)))]) C dX9_judge_110 rfl rfl (by decide) rfl ?_
                      refine g_goto (tgt := 68) C dX9_judge_113 (by decide) ?_
                      exact g_loc [1, 2, 3, 4, 0] (by rfl) (ih (i + 1) (x4 + 1) (by omega) (by omega) (by omega) (by rw [← hJ, jdg_st (i := i) (by omega), if_pos ⟨by omega, by assumption⟩]))
                    · refine g_iload C dX9_judge_107 rfl ?_
                      exact g_ireturn C dX9_judge_109 (by rw [show aJudge V x n = (jdg V x.toNat n.toNat n.toNat 0, V) by unfold aJudge; rw [if_neg (by omega), if_neg (by omega), if_neg (by omega), if_neg (by omega)]]; exact ⟨by rw [← hJ, jdg_st (by omega), if_neg (by omega)]; exact hx4, hX, Fr.rf⟩)
            exact g_loc [2, 3, 4, 1, 0] (by rfl) (lp68 _ 0 0 (Nat.lt_succ_self _) rfl (by omega) rfl)
          · refine g_aload_n C dX9_judge_58 rfl ?_
            refine g_bipush (z := 6) C dX9_judge_59 rfl ?_
            refine g_pc (pc' := 61) rfl ?_
            refine gc_X9_168 C dX9_judge_61 rfl (c_X9_refuseTenLower hI (Ml M) σ (y := 6) rfl (by omega)) (by decide) (Nat.le_of_ble_eq_true rfl) (fun z σ1 ⟨hz, hσ⟩ => ?_)
            subst z
            subst σ1
            exact g_ireturn C dX9_judge_64 (by rw [show aJudge V x n = rfT 6 V by unfold aJudge; (first | rw [if_pos (by omega)] | rw [if_neg (by omega), if_pos (by omega)] | rw [if_neg (by omega), if_neg (by omega), if_pos (by omega)] | rw [if_neg (by omega), if_neg (by omega), if_neg (by omega), if_pos (by omega)] | rw [if_neg (by omega), if_neg (by omega), if_neg (by omega), if_neg (by omega)])]; exact ⟨rfl, hX.ref hO (by omega), XC.ref⟩)
        · refine g_aload_n C dX9_judge_46 rfl ?_
          refine g_iconst (z := 5) C dX9_judge_47 rfl ?_
          refine gc_X9_168 C dX9_judge_48 rfl (c_X9_refuseTenLower hI (Ml M) σ (y := 5) rfl (by omega)) (by decide) (Nat.le_of_ble_eq_true rfl) (fun z σ1 ⟨hz, hσ⟩ => ?_)
          subst z
          subst σ1
          exact g_ireturn C dX9_judge_51 (by rw [show aJudge V x n = rfT 5 V by unfold aJudge; (first | rw [if_pos (by omega)] | rw [if_neg (by omega), if_pos (by omega)] | rw [if_neg (by omega), if_neg (by omega), if_pos (by omega)] | rw [if_neg (by omega), if_neg (by omega), if_neg (by omega), if_pos (by omega)] | rw [if_neg (by omega), if_neg (by omega), if_neg (by omega), if_neg (by omega)])]; exact ⟨rfl, hX.ref hO (by omega), XC.ref⟩)
    · refine g_aload_n C dX9_judge_20 rfl ?_
      refine g_iconst (z := 4) C dX9_judge_21 rfl ?_
      refine g_pc (pc' := 22) rfl ?_
      refine gc_X9_168 C dX9_judge_22 rfl (c_X9_refuseTenLower hI (Ml M) σ (y := 4) rfl (by omega)) (by decide) (Nat.le_of_ble_eq_true rfl) (fun z σ1 ⟨hz, hσ⟩ => ?_)
      subst z
      subst σ1
      exact g_ireturn C dX9_judge_25 (by rw [show aJudge V x n = rfT 4 V by unfold aJudge; (first | rw [if_pos (by omega)] | rw [if_neg (by omega), if_pos (by omega)] | rw [if_neg (by omega), if_neg (by omega), if_pos (by omega)] | rw [if_neg (by omega), if_neg (by omega), if_neg (by omega), if_pos (by omega)] | rw [if_neg (by omega), if_neg (by omega), if_neg (by omega), if_neg (by omega)])]; exact ⟨rfl, hX.ref hO (by omega), XC.ref⟩)
  · refine g_aload_n C dX9_judge_10 rfl ?_
    refine g_iload_n C dX9_judge_11 rfl ?_
    refine gc_X9_168 C dX9_judge_12 rfl (c_X9_refuseTenLower hI (Ml M) σ (y := (wnr V x)) rfl (by omega)) (by decide) (Nat.le_of_ble_eq_true rfl) (fun z σ1 ⟨hz, hσ⟩ => ?_)
    subst z
    subst σ1
    exact g_ireturn C dX9_judge_15 (by rw [show aJudge V x n = rfT (wnr V x) V by unfold aJudge; (first | rw [if_pos (by omega)] | rw [if_neg (by omega), if_pos (by omega)] | rw [if_neg (by omega), if_neg (by omega), if_pos (by omega)] | rw [if_neg (by omega), if_neg (by omega), if_neg (by omega), if_pos (by omega)] | rw [if_neg (by omega), if_neg (by omega), if_neg (by omega), if_neg (by omega)])]; exact ⟨rfl, hX.ref hO (by omega), XC.ref⟩)

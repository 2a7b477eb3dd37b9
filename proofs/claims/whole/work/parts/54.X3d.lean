/-! THE PLANNER: pairs, sets, the search -/
theorem or_all : ∀ s : Fin 32, ∀ a : Fin 32, a.val &&& s.val = a.val → iZ (a.val : Int) ||| iZ ((s.val - a.val : Nat) : Int) = iZ (s.val : Int) := by decide +kernel
theorem xor_all : ∀ s : Fin 32, ∀ a : Fin 32, a.val &&& s.val = a.val → iZ (s.val : Int) ^^^ iZ (a.val : Int) = iZ ((s.val - a.val : Nat) : Int) := by decide +kernel
theorem xor_z {s a : Nat} {zs za : Int} (hs : zs = (s : Int)) (ha : za = (a : Int)) (h : s < 32) (h2 : a < 32) (e : a &&& s = a) : iZ zs ^^^ iZ za = iZ ((s - a : Nat) : Int) := by subst hs; subst ha; exact xor_all ⟨s, h⟩ ⟨a, h2⟩ e
theorem or_z {s a : Nat} {za zb : Int} (ha : za = (a : Int)) (hb : zb = ((s - a : Nat) : Int)) (h : s < 32) (h2 : a < 32) (e : a &&& s = a) : iZ za ||| iZ zb = iZ (s : Int) := by subst ha; subst hb; exact or_all ⟨s, h⟩ ⟨a, h2⟩ e
theorem jB_R {w : Wv} (hW : OKW w) (a b : Nat) : -1 ≤ jB w a b ∧ jB w a b ≤ 7 := by
  by_cases h : jB w a b = -1
  · rw [h]; decide
  · obtain ⟨i, e, hi, -⟩ := jB_spec h
    have := hW.2.2.1
    omega
theorem prR_y {w : Wv} {T : Nat → Nat → Cel} {s n : Nat} (h : pcn w T s n) : prR w T s (n + 1) = stP w T n (s - n) (jB w n (s - n)) (prR w T s n) := by rw [prR, if_pos h]
theorem prR_n {w : Wv} {T : Nat → Nat → Cel} {s n : Nat} (h : ¬ pcn w T s n) : prR w T s (n + 1) = prR w T s n := by rw [prR, if_neg h]
theorem sub_of : ∀ {s a : Nat}, s ≤ 31 → a &&& s = a → (s - a) &&& s = s - a := by
  intro s a hs h
  have hall : ∀ s : Fin 32, ∀ a : Fin 32, a.val &&& s.val = a.val → (s.val - a.val) &&& s.val = s.val - a.val := by decide +kernel
  have : a ≤ s := by rw [← h]; exact Nat.and_le_right
  exact hall ⟨s, by omega⟩ ⟨a, by omega⟩ h
set_option maxHeartbeats 4000000 in
set_option maxRecDepth 100000 in
theorem c_X3_offerPairs {κ : Kp} (hI : Ij κ) (l : Launch) (σ : St) {w : Wv} (hX : XW 0 σ w) (hW : OKW w) {s : Nat} {zs : Int} (hs : zs = (s : Int)) (hs31 : s ≤ 31) (hs1 : 1 ≤ s) (hD : ∀ a, 1 ≤ a → a < s → a &&& s = a → PRw σ a (TT w a) ∧ σ.2.1 90 a = tho w a) (hts : σ.2.1 90 s = tho w s) (hN : PRw σ s (fun _ => pcN)) : CtV κ l 3 yX3_offerPairs cX3_offerPairs 4 [.ref (κ.2.1 89), .int (iZ zs)] σ (fun σ' => PRw σ' s (prR w (TT w) s s) ∧ KK (inS s) σ σ') := by
  refine Ct.ofG (own := RX3) hI (by decide +kernel) rfl (Nat.le_of_ble_eq_true rfl) rfl ?_
  intro M C hMl
  refine g_iconst (z := 1) C dX3_offerPairs_0 rfl ?_
  refine g_istore_n (L' := [(2, .int (iZ 1)), (0, .ref (κ.2.1 89)), (1, .int (iZ zs))]) C dX3_offerPairs_1 rfl (by decide) rfl ?_
  have lp2 : ∀ (fz9 : Nat) (n : Nat) (x2 : Int) (q : St), (s - n < fz9) → (x2 = (n : Int)) → (1 ≤ n) → (n ≤ s) → (PRw q s (prR w (TT w) s n)) → (KK (inS s) σ q) → G M κ 4 (En M κ (qV κ (fun σ' => PRw σ' s (prR w (TT w) s s) ∧ KK (inS s) σ σ'))) 2 [(0, .ref (κ.2.1 89)), (1, .int (iZ zs)), (2, .int (iZ x2))] [] q := by
    intro fz9
    induction fz9 with
    | zero => intro n x2 q hm0; exact absurd hm0 (Nat.not_lt_zero _)
    | succ fz9 ih2 =>
      intro n x2 q hm2 hx2 hn1 hns hQ hKq
      have hXq := hX.frK hKq
      have ht90 : ∀ u, q.2.1 90 u = σ.2.1 90 u := fun u => congrFun (hKq.1.2.1 90 (by unfold PLC; omega)) u
      refine g_iload_n C dX3_offerPairs_2 rfl ?_
      refine g_iload_n C dX3_offerPairs_3 rfl ?_
      refine g_icmp_ge (tgt := 43) C dX3_offerPairs_4 (by decide) (by unfold R32; omega) (fun h1 => ?_) (fun h1 => ?_)
      · exact g_return C dX3_offerPairs_43 ⟨by rw [show s = n by omega] at hQ ⊢; exact hQ, hKq⟩
      · have hlt : n < s := by omega
        refine g_iload_n C dX3_offerPairs_7 rfl ?_
        refine g_pc (pc' := 8) rfl ?_
        refine g_iload_n C dX3_offerPairs_8 rfl ?_
        refine g_iand C dX3_offerPairs_9 ?_
        refine g_raw (and_z hx2 hs (by omega) (by omega)) ?_
        have hale : n &&& s ≤ n := Nat.and_le_left
        refine g_iload_n C dX3_offerPairs_10 rfl ?_
        refine g_icmp_ne (tgt := 37) C dX3_offerPairs_11 (by decide) (by unfold R32; omega) (fun h2 => ?_) (fun h2 => ?_)
        · refine g_iinc (q := 2) (v := (x2 + 1)) (L' := [(2, .int (iZ (x2 + 1))), (0, .ref (κ.2.1 89)), (1, .int (iZ zs))]) C dX3_offerPairs_37 rfl rfl (by decide) rfl ?_
          refine g_goto (tgt := 2) C dX3_offerPairs_40 (by decide) ?_
          exact g_loc [1, 2, 0] (by rfl) (ih2 (n + 1) (x2 + 1) q (by omega) (by omega) (by omega) (by omega) (by rw [prR_n (fun e => by first | exact absurd e.2.1 (by omega) | exact absurd e.2.2.1 (by omega))]; exact hQ) hKq)
        · have hsub : n &&& s = n := by omega
          refine g_aload_n C dX3_offerPairs_14 rfl ?_
          refine g_iload_n C dX3_offerPairs_15 rfl ?_
          refine g_pc (pc' := 16) rfl ?_
          refine g_iload_n C dX3_offerPairs_16 rfl ?_
          refine g_iload_n C dX3_offerPairs_17 rfl ?_
          refine g_ixor C dX3_offerPairs_18 ?_
          refine g_raw (xor_z hs hx2 (by omega) (by omega) hsub) ?_
          refine gc_X3_91 C dX3_offerPairs_19 rfl (c_X3_firstJoinBetween hI (Ml M) q hXq hW (a := n) (b := s - n) hx2 rfl (by omega) (by omega)) (by decide) (Nat.le_of_ble_eq_true rfl) (fun z σ9 ⟨hz, hσ⟩ => ?_)
          subst z
          subst σ9
          refine g_istore_n (L' := [(3, .int (iZ (jB w n (s - n)))), (0, .ref (κ.2.1 89)), (1, .int (iZ zs)), (2, .int (iZ x2))]) C dX3_offerPairs_22 rfl (by decide) rfl ?_
          refine g_iload_n C dX3_offerPairs_23 rfl ?_
          refine g_iconst (z := (-1)) C dX3_offerPairs_24 rfl ?_
          refine g_icmp_eq (tgt := 37) C dX3_offerPairs_25 (by decide) ⟨by have := jB_R hW n (s - n); unfold R32; omega, by unfold R32; omega⟩ (fun h3 => ?_) (fun h3 => ?_)
          · refine g_pc (pc' := 37) rfl ?_
            refine g_iinc (q := 3) (v := (x2 + 1)) (L' := [(2, .int (iZ (x2 + 1))), (3, .int (iZ (jB w n (s - n)))), (0, .ref (κ.2.1 89)), (1, .int (iZ zs))]) C dX3_offerPairs_37 rfl rfl (by decide) rfl ?_
            refine g_goto (tgt := 2) C dX3_offerPairs_40 (by decide) ?_
            exact g_loc [2, 3, 0] (by rfl) (ih2 (n + 1) (x2 + 1) q (by omega) (by omega) (by omega) (by omega) (by rw [prR_n (fun e => by first | exact absurd e.2.1 (by omega) | exact absurd e.2.2.1 (by omega))]; exact hQ) hKq)
          · refine g_aload_n C dX3_offerPairs_28 rfl ?_
            refine g_iload_n C dX3_offerPairs_29 rfl ?_
            refine g_iload_n C dX3_offerPairs_30 rfl ?_
            refine g_iload_n C dX3_offerPairs_31 rfl ?_
            refine g_ixor C dX3_offerPairs_32 ?_
            refine g_raw (xor_z hs hx2 (by omega) (by omega) hsub) ?_
            refine g_iload_n C dX3_offerPairs_33 rfl ?_
            refine g_pc (pc' := 34) rfl ?_
            obtain ⟨i, hji, hin, hi7, hib, hil⟩ := split_f hW hs31 hn1 hlt hsub (by assumption)
            have hf := sub_all ⟨s, by omega⟩ ⟨n, by omega⟩ hsub hn1 hlt
            have h5 := (kT_5 ⟨s, by omega⟩).1
            dsimp only at hf h5
            have hsn : n + (s - n) = s := by omega
            have hmn : mO w n (i : Int) = wpl w n i + 1 := rfl
            have hmb : mO w (s - n) (i : Int) = wpl w (s - n) i + 1 := rfl
            obtain ⟨hPn, htn⟩ := hD n hn1 hlt hsub
            obtain ⟨hPb, htb⟩ := hD (s - n) (by omega) (by omega) (sub_of hs31 hsub)
            refine gc_X3_94 C dX3_offerPairs_34 rfl (c_X3_offerPair hI (Ml M) q hXq hW (a := n) (b := s - n) (j := i) hx2 rfl hji hn1 (by omega) (by omega) (by rw [hsn]; exact hf.1) ⟨hf.2.1, hf.2.2.1, by omega⟩ hin ⟨by omega, by omega⟩ ⟨by omega, by omega⟩ ⟨Or.inr (by rw [hmn, Nat.add_sub_cancel]; exact hib.1), Or.inr (by rw [hmb, Nat.add_sub_cancel]; exact hib.2)⟩ (by rw [hsn]; exact or_z hx2 rfl (by omega) (by omega) hsub) (R := prR w (TT w) s n) (by rw [hsn]; exact hQ) (by rw [hf.1]; exact prR_PO hW hs31 (fun a h1 h2 => TT_PO hW a a (Nat.le_refl _) h1 (by omega)) n (by omega)) (hPn.kk hKq (fun o ho e => by unfold inS at e; omega)) (hPb.kk hKq (fun o ho e => by unfold inS at e; omega)) ((ht90 _).trans htn) ((ht90 _).trans htb) (by rw [hsn]; exact (ht90 _).trans hts)) (by decide) (Nat.le_of_ble_eq_true rfl) (fun q2 ⟨hP2, hK2⟩ => ?_)
            rw [hsn] at hP2 hK2
            have hP3 : PRw q2 s (prR w (TT w) s (n + 1)) := hP2.cong (fun o _ => by by_cases hc : zW (TT w n 0) ≠ -1 ∧ zW (TT w (s - n) 0) ≠ -1; (rw [if_pos hc, prR_y ⟨hn1, hsub, by assumption, hc.1, hc.2⟩, hji]); (rw [if_neg hc, prR_n (fun e => hc ⟨e.2.2.2.1, e.2.2.2.2⟩)]))
            refine g_iinc (q := 3) (v := (x2 + 1)) (L' := [(2, .int (iZ (x2 + 1))), (3, .int (iZ (jB w n (s - n)))), (0, .ref (κ.2.1 89)), (1, .int (iZ zs))]) C dX3_offerPairs_37 rfl rfl (by decide) rfl ?_
            refine g_goto (tgt := 2) C dX3_offerPairs_40 (by decide) ?_
            exact g_loc [2, 3, 0] (by rfl) (ih2 (n + 1) (x2 + 1) q2 (by omega) (by omega) (by omega) (by omega) hP3 (hKq.tr hK2))
  exact g_loc [1, 2, 0] (by rfl) (lp2 _ 1 1 σ (Nat.lt_succ_self _) rfl (by omega) (by omega) hN KK.rf)
def PLD (k : Nat) : Prop := 90 ≤ k ∧ k ≤ 96
/-- a set's own row and thought change -/
def KS (s : Nat) (σ σ' : St) : Prop := Fr PLD σ σ' ∧ (∀ a q, a ≠ 90 → q / 16 ≠ s → σ'.1 a q = σ.1 a q ∧ σ'.2.1 a q = σ.2.1 a q) ∧ ∀ q, q ≠ s → σ'.2.1 90 q = σ.2.1 90 q
theorem KS.tr {s : Nat} {σ τ ρ : St} (h : KS s σ τ) (g : KS s τ ρ) : KS s σ ρ := ⟨h.1.tr g.1, fun a q h1 h2 => ⟨(g.2.1 a q h1 h2).1.trans (h.2.1 a q h1 h2).1, (g.2.1 a q h1 h2).2.trans (h.2.1 a q h1 h2).2⟩, fun q hq => (g.2.2 q hq).trans (h.2.2 q hq)⟩
theorem KS.of {s : Nat} {σ τ : St} (h : KK (inS s) σ τ) : KS s σ τ := ⟨h.1.mono (fun k e => by unfold PLC at e; unfold PLD; omega), fun a q _ hq => h.2 a q hq, fun q _ => congrFun (h.1.2.1 90 (by unfold PLC; omega)) q⟩
theorem KS.th {s : Nat} {σ : St} {x : UInt32} : KS s σ (sF σ 90 s x) := ⟨Fr.rf.sF (by unfold PLD; omega), fun a q h1 _ => ⟨rfl, rF_k h1⟩, fun q hq => rF_j hq⟩
theorem PK.ks {s : Nat} {σ τ : St} {k : Nat} {c : Cel} (h : PK σ k c) (g : KS s σ τ) (hk : k / 16 ≠ s) : PK τ k c := by
  unfold PK
  rw [(g.2.1 91 k (by decide) hk).1, (g.2.1 92 k (by decide) hk).2, (g.2.1 93 k (by decide) hk).1, (g.2.1 94 k (by decide) hk).1, (g.2.1 95 k (by decide) hk).1, (g.2.1 96 k (by decide) hk).1]
  exact h
theorem PRw.ks {s a : Nat} {σ τ : St} {R : Nat → Cel} (h : PRw σ a R) (g : KS s σ τ) (hk : a ≠ s) : PRw τ a R := fun o ho => (h o ho).ks g (by omega)
theorem KK.w91 {P : Nat → Prop} {σ σ' : St} {k : Nat} {v : Int} (h : KK P σ σ') (hk : P k) : KK P σ (sI σ' 91 k v) := ⟨h.1.sI (by unfold PLC; omega), fun a q hq => ⟨(rI_q (fun e => hq (by rw [e]; exact hk))).trans (h.2 a q hq).1, (h.2 a q hq).2⟩⟩
theorem XW.frD {σ σ' : St} {w : Wv} (h : XW 0 σ w) (hF : Fr PLD σ σ') : XW 0 σ' w := h.fr hF (fun k _ hk e => by unfold PLD at e; omega)
theorem TH.fr {σ σ' : St} {w : Wv} {S : Nat → Prop} (h : TH σ w) (hF : Fr S σ σ') (h1 : ¬ S 87) (h2 : ¬ S 88) : TH σ' w := ⟨fun t ht => by rw [hF.2.1 87 h1]; exact h.1 t ht, fun j hj => by rw [hF.2.1 88 h2]; exact h.2 j hj⟩
set_option maxHeartbeats 4000000 in
set_option maxRecDepth 100000 in
theorem c_X3_searchSet {κ : Kp} (hI : Ij κ) (l : Launch) (σ : St) {w : Wv} (hX : XW 0 σ w) (hW : OKW w) (hT : TH σ w) {s : Nat} {zs : Int} (hs : zs = (s : Int)) (hs31 : s ≤ 31) (hs1 : 1 ≤ s) (hD : ∀ a, 1 ≤ a → a < s → a &&& s = a → PRw σ a (TT w a) ∧ σ.2.1 90 a = tho w a) : CtV κ l 4 yX3_searchSet cX3_searchSet 3 [.ref (κ.2.1 89), .int (iZ zs)] σ (fun σ' => PRw σ' s (TT w s) ∧ σ'.2.1 90 s = tho w s ∧ KS s σ σ') := by
  refine Ct.ofG (own := RX3) hI (by decide +kernel) rfl (Nat.le_of_ble_eq_true rfl) rfl ?_
  intro M C hMl
  refine g_aload_n C dX3_searchSet_0 rfl ?_
  refine gf_X3_9 C dX3_searchSet_1 rfl ?_
  refine g_iload_n C dX3_searchSet_4 rfl ?_
  refine g_aload_n C dX3_searchSet_5 rfl ?_
  refine gf_X3_41 C dX3_searchSet_6 rfl ?_
  refine g_iload_n C dX3_searchSet_9 rfl ?_
  refine gc_X3_49 C dX3_searchSet_10 rfl (c_X7_thoughtOf hI (Ml M) σ hX hW hT (s := s) hs (by omega)) (by decide) (Nat.le_of_ble_eq_true rfl) (fun z σ9 ⟨hz, hσ⟩ => ?_)
  subst z
  subst σ9
  refine g_pc (pc' := 13) rfl ?_
  refine g_fast (n := s) (N := 32) C dX3_searchSet_13 rfl rfl (by omega) (by omega) (by decide) ?_
  refine g_iconst (z := (-1)) C dX3_searchSet_14 rfl ?_
  refine g_istore_n (L' := [(2, .int (iZ (-1))), (0, .ref (κ.2.1 89)), (1, .int (iZ zs))]) C dX3_searchSet_15 rfl (by decide) rfl ?_
  have lp16 : ∀ (fz9 : Nat) (m : Nat) (x2 : Int) (q : St), (16 - m < fz9) → (x2 = (m : Int) - 1) → (m ≤ 16) → (∀ o, o < m → q.1 91 (16 * s + o) = -1) → (KK (inS s) (sF σ 90 s (tho w s)) q) → G M κ 3 (En M κ (qV κ (fun σ' => PRw σ' s (TT w s) ∧ σ'.2.1 90 s = tho w s ∧ KS s σ σ'))) 16 [(0, .ref (κ.2.1 89)), (1, .int (iZ zs)), (2, .int (iZ x2))] [] q := by
    intro fz9
    induction fz9 with
    | zero => intro m x2 q hm0; exact absurd hm0 (Nat.not_lt_zero _)
    | succ fz9 ih16 =>
      intro m x2 q hm16 hx2 hm hQ hKq
      refine g_iload_n C dX3_searchSet_16 rfl ?_
      refine g_bipush (z := 15) C dX3_searchSet_17 rfl ?_
      refine g_icmp_ge (tgt := 39) C dX3_searchSet_19 (by decide) (by unfold R32; omega) (fun h1 => ?_) (fun h1 => ?_)
      · have hN : PRw q s (fun _ => pcN) := fun o ho => ⟨hQ o (by omega), fun e => absurd rfl e⟩
        have hKS : KS s σ q := KS.th.tr (KS.of hKq)
        have hX3 := hX.frD hKS.1
        have hts : q.2.1 90 s = tho w s := (congrFun (hKq.1.2.1 90 (by unfold PLC; omega)) s).trans rF_s
        refine g_iload_n C dX3_searchSet_39 rfl ?_
        refine g_iload_n C dX3_searchSet_40 rfl ?_
        refine g_pc (pc' := 41) rfl ?_
        refine g_iconst (z := 1) C dX3_searchSet_41 rfl ?_
        refine g_isub C dX3_searchSet_42 ?_
        refine g_iand C dX3_searchSet_43 ?_
        refine g_raw (and_z (b := s - 1) hs (by omega) (by omega) (by omega)) ?_
        have hale : s &&& (s - 1) ≤ s := Nat.and_le_left
        refine g_if_ne (tgt := 55) C dX3_searchSet_44 (by decide) (by unfold R32; omega) (fun h2 => ?_) (fun h2 => ?_)
        · refine g_aload_n C dX3_searchSet_55 rfl ?_
          refine g_iload_n C dX3_searchSet_56 rfl ?_
          refine gc_X3_62 C dX3_searchSet_57 rfl (c_X3_offerPairs hI (Ml M) q hX3 hW (s := s) hs hs31 hs1 (fun a h1 h2 h3 => ⟨(hD a h1 h2 h3).1.ks hKS (by omega), (hKS.2.2 a (by omega)).trans (hD a h1 h2 h3).2⟩) hts hN) (by decide) (Nat.le_of_ble_eq_true rfl) (fun q2 ⟨hP2, hK2⟩ => ?_)
          have hB : PRw q2 s (baR w (TT w) s) := by unfold baR; rw [if_neg (by omega)]; exact hP2
          refine g_aload_n C dX3_searchSet_60 rfl ?_
          refine g_pc (pc' := 61) rfl ?_
          refine g_iload_n C dX3_searchSet_61 rfl ?_
          have hts2 : q2.2.1 90 s = tho w s := (congrFun (hK2.1.2.1 90 (by unfold PLC; omega)) s).trans hts
          refine gc_X3_65 C dX3_searchSet_62 rfl (c_X3_offerSorts hI (Ml M) q2 hW (s := s) hs hs31 hs1 hB (baR_PO hW hs31 hs1 (fun a h1 h2 => TT_PO hW a a (Nat.le_refl _) h1 (by omega))) hts2) (by decide) (Nat.le_of_ble_eq_true rfl) (fun q3 ⟨hP3, hK3⟩ => ?_)
          exact g_return C dX3_searchSet_65 ⟨by rw [TT_eq hs1 hs31]; exact hP3, (congrFun (hK3.1.2.1 90 (by unfold PLC; omega)) s).trans hts2, hKS.tr ((KS.of hK2).tr (KS.of hK3))⟩
        · refine g_aload_n C dX3_searchSet_47 rfl ?_
          refine g_iload_n C dX3_searchSet_48 rfl ?_
          refine gc_X3_59 C dX3_searchSet_49 rfl (c_X3_offerRead hI (Ml M) q hX3 hW (s := s) hs hs31 hs1 hN) (by decide) (Nat.le_of_ble_eq_true rfl) (fun q2 ⟨hP2, hK2⟩ => ?_)
          have hB : PRw q2 s (baR w (TT w) s) := by unfold baR; rw [if_pos (by omega)]; exact hP2
          refine g_goto (tgt := 60) C dX3_searchSet_52 (by decide) ?_
          refine g_aload_n C dX3_searchSet_60 rfl ?_
          refine g_pc (pc' := 61) rfl ?_
          refine g_iload_n C dX3_searchSet_61 rfl ?_
          have hts2 : q2.2.1 90 s = tho w s := (congrFun (hK2.1.2.1 90 (by unfold PLC; omega)) s).trans hts
          refine gc_X3_65 C dX3_searchSet_62 rfl (c_X3_offerSorts hI (Ml M) q2 hW (s := s) hs hs31 hs1 hB (baR_PO hW hs31 hs1 (fun a h1 h2 => TT_PO hW a a (Nat.le_refl _) h1 (by omega))) hts2) (by decide) (Nat.le_of_ble_eq_true rfl) (fun q3 ⟨hP3, hK3⟩ => ?_)
          exact g_return C dX3_searchSet_65 ⟨by rw [TT_eq hs1 hs31]; exact hP3, (congrFun (hK3.1.2.1 90 (by unfold PLC; omega)) s).trans hts2, hKS.tr ((KS.of hK2).tr (KS.of hK3))⟩
      · refine g_aload_n C dX3_searchSet_22 rfl ?_
        refine gf_X3_15 C dX3_searchSet_23 rfl ?_
        refine g_iload_n C dX3_searchSet_26 rfl ?_
        refine g_iload_n C dX3_searchSet_27 rfl ?_
        refine gc_X3_55 C dX3_searchSet_28 (c_X9_cellOf hI (Ml M) q (a := zs) (b := x2)) (by decide) (Nat.le_of_ble_eq_true rfl) (fun zc1 σ9 ⟨hzc1, hσ⟩ => ?_)
        subst σ9
        replace hzc1 : zc1 = ((16 * s + m : Nat) : Int) := by omega
        refine g_pc (pc' := 31) rfl ?_
        refine g_iconst (z := (-1)) C dX3_searchSet_31 rfl ?_
        refine g_iast (n := (16 * s + m)) (N := 512) C dX3_searchSet_32 rfl rfl (by omega) (by omega) (by decide) ?_
        refine g_iinc (q := 2) (v := (x2 + 1)) (L' := [(2, .int (iZ (x2 + 1))), (0, .ref (κ.2.1 89)), (1, .int (iZ zs))]) C dX3_searchSet_33 rfl rfl (by decide) rfl ?_
        refine g_goto (tgt := 16) C dX3_searchSet_36 (by decide) ?_
        exact g_loc [1, 2, 0] (by rfl) (ih16 (m + 1) (x2 + 1) (sI q 91 (16 * s + m) (-1)) (by omega) (by omega) (by omega) (fun o ho => by rcases Nat.lt_or_ge o m with k | k; (rw [rI_j (by omega)]; exact hQ o k); (rw [show o = m by omega]; exact rI_s)) (hKq.w91 (by unfold inS; omega)))
  exact g_loc [1, 2, 0] (by rfl) (lp16 _ 0 (-1) (sF σ 90 s (tho w s)) (Nat.lt_succ_self _) rfl (by omega) (fun o ho => absurd ho (Nat.not_lt_zero _)) KK.rf)
set_option maxHeartbeats 4000000 in
set_option maxRecDepth 100000 in
theorem c_X3_search {κ : Kp} (hI : Ij κ) (l : Launch) (σ : St) {w : Wv} (hX : XW 0 σ w) (hW : OKW w) (hT : TH σ w) {s : Nat} {zs : Int} (hs : zs = (s : Int)) (hs31 : s ≤ 31) : CtV κ l 5 yX3_search cX3_search 3 [.ref (κ.2.1 89), .int (iZ zs)] σ (fun σ' => (∀ a, 1 ≤ a → a ≤ s → a &&& s = a → PRw σ' a (TT w a)) ∧ Fr PLD σ σ') := by
  refine Ct.ofG (own := RX3) hI (by decide +kernel) rfl (Nat.le_of_ble_eq_true rfl) rfl ?_
  intro M C hMl
  refine g_iconst (z := 1) C dX3_search_0 rfl ?_
  refine g_istore_n (L' := [(2, .int (iZ 1)), (0, .ref (κ.2.1 89)), (1, .int (iZ zs))]) C dX3_search_1 rfl (by decide) rfl ?_
  have lp2 : ∀ (fz9 : Nat) (n : Nat) (x2 : Int) (q : St), (s + 1 - n < fz9) → (x2 = (n : Int)) → (1 ≤ n) → (n ≤ s + 1) → (∀ a, 1 ≤ a → a < n → a &&& s = a → PRw q a (TT w a) ∧ q.2.1 90 a = tho w a) → (Fr PLD σ q) → G M κ 3 (En M κ (qV κ (fun σ' => (∀ a, 1 ≤ a → a ≤ s → a &&& s = a → PRw σ' a (TT w a)) ∧ Fr PLD σ σ'))) 2 [(0, .ref (κ.2.1 89)), (1, .int (iZ zs)), (2, .int (iZ x2))] [] q := by
    intro fz9
    induction fz9 with
    | zero => intro n x2 q hm0; exact absurd hm0 (Nat.not_lt_zero _)
    | succ fz9 ih2 =>
      intro n x2 q hm2 hx2 hn1 hns hQ hFq
      have hXq := hX.frD hFq
      have hTq := hT.fr hFq (by unfold PLD; omega) (by unfold PLD; omega)
      refine g_iload_n C dX3_search_2 rfl ?_
      refine g_iload_n C dX3_search_3 rfl ?_
      refine g_icmp_gt (tgt := 25) C dX3_search_4 (by decide) (by unfold R32; omega) (fun h1 => ?_) (fun h1 => ?_)
      · exact g_return C dX3_search_25 ⟨fun a h1 h2 h3 => (hQ a h1 (by omega) h3).1, hFq⟩
      · refine g_iload_n C dX3_search_7 rfl ?_
        refine g_pc (pc' := 8) rfl ?_
        refine g_iload_n C dX3_search_8 rfl ?_
        refine g_iand C dX3_search_9 ?_
        refine g_raw (and_z hx2 hs (by omega) (by omega)) ?_
        have hale : n &&& s ≤ n := Nat.and_le_left
        refine g_iload_n C dX3_search_10 rfl ?_
        refine g_icmp_ne (tgt := 19) C dX3_search_11 (by decide) (by unfold R32; omega) (fun h2 => ?_) (fun h2 => ?_)
        · refine g_iinc (q := 2) (v := (x2 + 1)) (L' := [(2, .int (iZ (x2 + 1))), (0, .ref (κ.2.1 89)), (1, .int (iZ zs))]) C dX3_search_19 rfl rfl (by decide) rfl ?_
          refine g_goto (tgt := 2) C dX3_search_22 (by decide) ?_
          exact g_loc [1, 2, 0] (by rfl) (ih2 (n + 1) (x2 + 1) q (by omega) (by omega) (by omega) (by omega) (fun a h1 h2 h3 => hQ a h1 (by rcases Nat.lt_or_ge a n with k | k; exact k; exact absurd h3 (by rw [show a = n by omega]; omega)) h3) hFq)
        · have hsub : n &&& s = n := by omega
          refine g_aload_n C dX3_search_14 rfl ?_
          refine g_iload_n C dX3_search_15 rfl ?_
          refine g_pc (pc' := 16) rfl ?_
          refine gc_X3_45 C dX3_search_16 rfl (c_X3_searchSet hI (Ml M) q hXq hW hTq (s := n) hx2 (by omega) hn1 (fun a h1 h2 h3 => hQ a h1 h2 (by rw [← h3, Nat.and_assoc, hsub]))) (by decide) (Nat.le_of_ble_eq_true rfl) (fun q2 ⟨hP2, hT2, hKS2⟩ => ?_)
          refine g_iinc (q := 2) (v := (x2 + 1)) (L' := [(2, .int (iZ (x2 + 1))), (0, .ref (κ.2.1 89)), (1, .int (iZ zs))]) C dX3_search_19 rfl rfl (by decide) rfl ?_
          refine g_goto (tgt := 2) C dX3_search_22 (by decide) ?_
          exact g_loc [1, 2, 0] (by rfl) (ih2 (n + 1) (x2 + 1) q2 (by omega) (by omega) (by omega) (by omega) (fun a h1 h2 h3 => by rcases Nat.lt_or_ge a n with k | k; exact ⟨(hQ a h1 k h3).1.ks hKS2 (by omega), (hKS2.2.2 a (by omega)).trans (hQ a h1 k h3).2⟩; (rw [show a = n by omega]; exact ⟨hP2, hT2⟩)) (hFq.tr hKS2.1))
  exact g_loc [1, 2, 0] (by rfl) (lp2 _ 1 1 σ (Nat.lt_succ_self _) rfl (by omega) (by omega) (fun a h1 h2 _ => absurd h2 (by omega)) Fr.rf)

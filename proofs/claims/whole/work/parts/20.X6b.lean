set_option maxHeartbeats 4000000 in
set_option maxRecDepth 100000 in
theorem c_X6_takes {κ : Kp} (hI : Ij κ) (l : Launch) (σ : St) {w : Wv} {r : Rd} (hR : RI σ w r) (hW : OKW w) {x : Int} (hx : R32 x) : CtI κ l 4 yX6_takes cX6_takes 2 .boolean [.ref (κ.2.1 103), .int (iZ x)] σ (fun z σ' => Fr RC σ σ' ∧ XW 0 σ' w ∧ ((z = 0 ∧ stp w r x = none) ∨ (z = 1 ∧ ∃ r', stp w r x = some r' ∧ RI σ' w r'))) := by
  refine Ct.ofG (own := RX6) hI (by decide +kernel) rfl (Nat.le_of_ble_eq_true rfl) rfl ?_
  intro M C hMl
  have hB := hR.2.2.2.2.1
  have hwl := hR.2.2.2.2.2.1 (rtab r) (by omega)
  refine g_aload_n C dX6_takes_0 rfl ?_
  refine gf_X6_15 (z := (rst r : Int)) C dX6_takes_1 rfl hR.2.1.1 ?_
  have hs1 : (rst r : Int) < 0 ∨ 4 < (rst r : Int) ∨ (rst r : Int) = 0 ∨ (rst r : Int) = 1 ∨ (rst r : Int) = 2 ∨ (rst r : Int) = 3 ∨ (rst r : Int) = 4 := by omega
  rcases hs1 with hs1 | hs1 | hs1 | hs1 | hs1 | hs1 | hs1
  · omega
  · refine g_tswd (tgt := 112) C dX6_takes_4 (by unfold R32; omega) (by omega) (by decide) ?_
    refine g_aload_n C dX6_takes_112 rfl ?_
    refine g_iload_n C dX6_takes_113 rfl ?_
    refine gc_X6_94 C dX6_takes_114 rfl (c_X6_takesMark hI (Ml M) σ hR hW (by omega) hx) (by decide) (Nat.le_of_ble_eq_true rfl) (fun zm σ1 hm => ?_)
    exact g_zreturn C dX6_takes_117 (by omega) (by rw [show stp w r x = mrk r x by unfold stp; first | rw [if_neg (by omega), if_neg (by omega), if_neg (by omega), if_neg (by omega), if_pos (by omega), if_neg (by assumption)] | rw [if_neg (by omega), if_neg (by omega), if_neg (by omega), if_neg (by omega), if_neg (by omega)]]; exact hm)
  · refine g_int (z' := 0) hs1 ?_
    refine g_tsw (tgt := 40) C dX6_takes_4 (by decide) (by decide) rfl (by decide) ?_
    refine g_pc (pc' := 40) rfl ?_
    refine g_aload_n C dX6_takes_40 rfl ?_
    refine g_iload_n C dX6_takes_41 rfl ?_
    refine g_bipush (z := 116) C dX6_takes_42 rfl ?_
    refine g_icmp_ne (tgt := 51) C dX6_takes_44 (by decide) (by unfold R32; omega) (fun h2 => ?_) (fun h2 => ?_)
    · refine g_iconst (z := 0) C dX6_takes_51 rfl ?_
      refine g_iconst (z := 1) C dX6_takes_52 rfl ?_
      refine gc_X6_78 C dX6_takes_53 rfl (c_X6_moves hI (Ml M) σ (m := 0) (n := 1) (by omega)) (by decide) (Nat.le_of_ble_eq_true rfl) (fun z σ1 ⟨hz, hσ⟩ => ?_)
      subst z
      rw [if_pos (by decide)] at hσ
      subst σ1
      exact g_zreturn C dX6_takes_56 (by omega) ⟨Fr.rf.sI (by unfold RC; omega), hR.1.sI9 (by omega), Or.inl ⟨rfl, by unfold stp; rw [if_pos (by omega), if_neg (by omega)]⟩⟩
    · refine g_pc (pc' := 47) rfl ?_
      refine g_iconst (z := 1) C dX6_takes_47 rfl ?_
      refine g_goto (tgt := 52) C dX6_takes_48 (by decide) ?_
      refine g_iconst (z := 1) C dX6_takes_52 rfl ?_
      refine gc_X6_78 C dX6_takes_53 rfl (c_X6_moves hI (Ml M) σ (m := 1) (n := 1) (by omega)) (by decide) (Nat.le_of_ble_eq_true rfl) (fun z σ1 ⟨hz, hσ⟩ => ?_)
      subst z
      rw [if_neg (by decide)] at hσ
      subst σ1
      exact g_zreturn C dX6_takes_56 (by omega) ⟨Fr.rf.sI (by unfold RC; omega), (hR.tee (by omega)).1, Or.inr ⟨rfl, _, by unfold stp; rw [if_pos (by omega), if_pos (by omega)], hR.tee (by omega)⟩⟩
  · refine g_int (z' := 1) hs1 ?_
    refine g_tsw (tgt := 57) C dX6_takes_4 (by decide) (by decide) rfl (by decide) ?_
    refine g_aload_n C dX6_takes_57 rfl ?_
    refine g_iload_n C dX6_takes_58 rfl ?_
    refine gc_X6_82 C dX6_takes_59 rfl (c_X6_takesTable hI (Ml M) σ hx) (by decide) (Nat.le_of_ble_eq_true rfl) (fun zt σ1 hz => ?_)
    refine g_pc (pc' := 62) rfl ?_
    exact g_zreturn C dX6_takes_62 (by omega) (by rcases hz with ⟨q1, q2, q3⟩ | ⟨q1, q2, q3⟩; (subst q3; exact ⟨Fr.rf, hR.1, Or.inl ⟨q1, by unfold stp; rw [if_neg (by omega), if_pos (by omega), if_neg q2]⟩⟩); (subst q3; have h9 := hR.tab (n := (x - 48).toNat) (by omega); rw [show (((x - 48).toNat : Nat) : Int) = x - 48 by omega] at h9; exact ⟨(Fr.rf.sI (by unfold RC; omega)).sI (by unfold RC; omega), h9.1, Or.inr ⟨q1, _, by unfold stp; rw [if_neg (by omega), if_pos (by omega), if_pos q2], h9⟩⟩))
  · refine g_int (z' := 2) hs1 ?_
    refine g_tsw (tgt := 63) C dX6_takes_4 (by decide) (by decide) rfl (by decide) ?_
    refine g_aload_n C dX6_takes_63 rfl ?_
    refine g_iconst (z := 0) C dX6_takes_64 rfl ?_
    refine gp_X6_22 C dX6_takes_65 rfl ?_
    refine g_aload_n C dX6_takes_68 rfl ?_
    refine g_iload_n C dX6_takes_69 rfl ?_
    refine g_bipush (z := 58) C dX6_takes_70 rfl ?_
    refine g_icmp_ne (tgt := 79) C dX6_takes_72 (by decide) (by unfold R32; omega) (fun h3 => ?_) (fun h3 => ?_)
    · refine g_pc (pc' := 79) rfl ?_
      refine g_iconst (z := 0) C dX6_takes_79 rfl ?_
      refine g_iconst (z := 3) C dX6_takes_80 rfl ?_
      refine gc_X6_78 C dX6_takes_81 rfl (c_X6_moves hI (Ml M) (sI σ 103 4 0) (m := 0) (n := 3) (by omega)) (by decide) (Nat.le_of_ble_eq_true rfl) (fun z σ1 ⟨hz, hσ⟩ => ?_)
      subst z
      rw [if_pos (by decide)] at hσ
      subst σ1
      exact g_zreturn C dX6_takes_84 (by omega) ⟨(Fr.rf.sI (by unfold RC; omega)).sI (by unfold RC; omega), (hR.1.sI9 (by omega)).sI9 (by omega), Or.inl ⟨rfl, by unfold stp; rw [if_neg (by omega), if_neg (by omega), if_pos (by omega), if_neg (by omega)]⟩⟩
    · refine g_iconst (z := 1) C dX6_takes_75 rfl ?_
      refine g_goto (tgt := 80) C dX6_takes_76 (by decide) ?_
      refine g_iconst (z := 3) C dX6_takes_80 rfl ?_
      refine gc_X6_78 C dX6_takes_81 rfl (c_X6_moves hI (Ml M) (sI σ 103 4 0) (m := 1) (n := 3) (by omega)) (by decide) (Nat.le_of_ble_eq_true rfl) (fun z σ1 ⟨hz, hσ⟩ => ?_)
      subst z
      rw [if_neg (by decide)] at hσ
      subst σ1
      refine g_pc (pc' := 84) rfl ?_
      exact g_zreturn C dX6_takes_84 (by omega) ⟨(Fr.rf.sI (by unfold RC; omega)).sI (by unfold RC; omega), (hR.colon (by omega)).1, Or.inr ⟨rfl, _, by unfold stp; rw [if_neg (by omega), if_neg (by omega), if_pos (by omega), if_pos (by omega)], hR.colon (by omega)⟩⟩
  · refine g_int (z' := 3) hs1 ?_
    refine g_tsw (tgt := 85) C dX6_takes_4 (by decide) (by decide) rfl (by decide) ?_
    refine g_aload_n C dX6_takes_85 rfl ?_
    refine g_iload_n C dX6_takes_86 rfl ?_
    refine gc_X6_85 C dX6_takes_87 rfl (c_X6_takesFirstDigit hI (Ml M) σ hR hW (by omega) hx) (by decide) (Nat.le_of_ble_eq_true rfl) (fun zf σ1 hz => ?_)
    exact g_zreturn C dX6_takes_90 (by omega) (by rcases hz with ⟨q1, q2, q3⟩ | ⟨q1, q2, q3⟩; (subst q3; exact ⟨Fr.rf, hR.1, Or.inl ⟨q1, by unfold stp; rw [if_neg (by omega), if_neg (by omega), if_neg (by omega), if_pos (by omega), if_neg q2]⟩⟩); (subst q3; have h9 := hR.dig (n := (x - 48).toNat) (s := 4) (Or.inl rfl) (by omega) (by omega) (by omega) q2.2; rw [show (((x - 48).toNat : Nat) : Int) = x - 48 by omega] at h9; exact ⟨(Fr.rf.sI (by unfold RC; omega)).sI (by unfold RC; omega), h9.1, Or.inr ⟨q1, _, by unfold stp; rw [if_neg (by omega), if_neg (by omega), if_neg (by omega), if_pos (by omega), if_pos q2], h9⟩⟩))
  · refine g_int (z' := 4) hs1 ?_
    refine g_tsw (tgt := 91) C dX6_takes_4 (by decide) (by decide) rfl (by decide) ?_
    refine g_iload_n C dX6_takes_91 rfl ?_
    refine gc_X6_88 C dX6_takes_92 (c_X6_isDigit hI (Ml M) σ hx) (by decide) (Nat.le_of_ble_eq_true rfl) (fun z σ1 ⟨hz, hσ⟩ => ?_)
    subst z
    subst σ1
    refine g_ifb_eq (tgt := 106) C dX6_takes_95 (by decide) (fun h4 => ?_) (fun h4 => ?_)
    · refine g_pc (pc' := 106) rfl ?_
      refine g_aload_n C dX6_takes_106 rfl ?_
      refine g_iload_n C dX6_takes_107 rfl ?_
      refine gc_X6_94 C dX6_takes_108 rfl (c_X6_takesMark hI (Ml M) σ hR hW (by omega) hx) (by decide) (Nat.le_of_ble_eq_true rfl) (fun zm σ1 hm => ?_)
      exact g_zreturn C dX6_takes_111 (by omega) (by rw [show stp w r x = mrk r x by unfold stp; first | rw [if_neg (by omega), if_neg (by omega), if_neg (by omega), if_neg (by omega), if_pos (by omega), if_neg (by assumption)] | rw [if_neg (by omega), if_neg (by omega), if_neg (by omega), if_neg (by omega), if_neg (by omega)]]; exact hm)
    · refine g_aload_n C dX6_takes_98 rfl ?_
      refine g_iload_n C dX6_takes_99 rfl ?_
      refine gc_X6_91 C dX6_takes_100 rfl (c_X6_takesSecondDigit hI (Ml M) σ hR hW (by omega) hx) (by decide) (Nat.le_of_ble_eq_true rfl) (fun zs2 σ1 ⟨hz1, hσ⟩ => ?_)
      subst σ1
      have hsd := hR.dig (n := rnum r * 10 + (x - 48).toNat) (s := 5) (Or.inr rfl) (by omega) (by have := hB.2.2.2.2 (by omega); omega) (by omega) (hR.2.2.2.2.2.2 (by omega))
      rw [show ((rnum r * 10 + (x - 48).toNat : Nat) : Int) = (rnum r : Int) * 10 + (x - 48) by omega] at hsd
      refine g_goto (tgt := 111) C dX6_takes_103 (by decide) ?_
      refine g_pc (pc' := 111) rfl ?_
      exact g_zreturn C dX6_takes_111 (by omega) ⟨(Fr.rf.sI (by unfold RC; omega)).sI (by unfold RC; omega), hsd.1, Or.inr ⟨hz1, _, by unfold stp; rw [if_neg (by omega), if_neg (by omega), if_neg (by omega), if_neg (by omega), if_pos (by omega), if_pos (by assumption)], hsd⟩⟩
set_option maxHeartbeats 4000000 in
set_option maxRecDepth 100000 in
theorem c_X6_isBehindLine {κ : Kp} (hI : Ij κ) (l : Launch) (σ : St) {w : Wv} {r : Rd} (hR : RI σ w r) (hW : OKW w) : CtI κ l 0 yX6_isBehindLine cX6_isBehindLine 1 .boolean [.ref (κ.2.1 103)] σ (fun z σ' => z = bZ ((rst r = 4 ∨ rst r = 5) ∧ rcol r = 2) ∧ σ' = σ) := by
  refine Ct.ofG (own := RX6) hI (by decide +kernel) rfl (Nat.le_of_ble_eq_true rfl) rfl ?_
  intro M C hMl
  have hB := hR.2.2.2.2.1
  have hwl := hR.2.2.2.2.2.1 (rtab r) (by omega)
  refine g_aload_n C dX6_isBehindLine_0 rfl ?_
  refine gf_X6_15 (z := (rst r : Int)) C dX6_isBehindLine_1 rfl hR.2.1.1 ?_
  refine g_iconst (z := 4) C dX6_isBehindLine_4 rfl ?_
  refine g_icmp_eq (tgt := 16) C dX6_isBehindLine_5 (by decide) (by unfold R32; omega) (fun h1 => ?_) (fun h1 => ?_)
  · refine g_aload_n C dX6_isBehindLine_16 rfl ?_
    refine gf_X6_22 (z := (rcol r : Int)) C dX6_isBehindLine_17 rfl (hR.2.1.2.2.1 (by omega)) ?_
    refine g_iconst (z := 2) C dX6_isBehindLine_20 rfl ?_
    refine g_pc (pc' := 21) rfl ?_
    refine g_icmp_ne (tgt := 28) C dX6_isBehindLine_21 (by decide) (by unfold R32; omega) (fun h2 => ?_) (fun h2 => ?_)
    · refine g_iconst (z := 0) C dX6_isBehindLine_28 rfl ?_
      exact g_zreturn C dX6_isBehindLine_29 (by omega) ⟨(bZ_f (by omega)).symm, rfl⟩
    · refine g_iconst (z := 1) C dX6_isBehindLine_24 rfl ?_
      refine g_goto (tgt := 29) C dX6_isBehindLine_25 (by decide) ?_
      exact g_zreturn C dX6_isBehindLine_29 (by omega) ⟨(bZ_t (by omega)).symm, rfl⟩
  · refine g_aload_n C dX6_isBehindLine_8 rfl ?_
    refine gf_X6_15 (z := (rst r : Int)) C dX6_isBehindLine_9 rfl hR.2.1.1 ?_
    refine g_pc (pc' := 12) rfl ?_
    refine g_iconst (z := 5) C dX6_isBehindLine_12 rfl ?_
    refine g_icmp_ne (tgt := 28) C dX6_isBehindLine_13 (by decide) (by unfold R32; omega) (fun h3 => ?_) (fun h3 => ?_)
    · refine g_iconst (z := 0) C dX6_isBehindLine_28 rfl ?_
      exact g_zreturn C dX6_isBehindLine_29 (by omega) ⟨(bZ_f (by omega)).symm, rfl⟩
    · refine g_aload_n C dX6_isBehindLine_16 rfl ?_
      refine gf_X6_22 (z := (rcol r : Int)) C dX6_isBehindLine_17 rfl (hR.2.1.2.2.1 (by omega)) ?_
      refine g_iconst (z := 2) C dX6_isBehindLine_20 rfl ?_
      refine g_icmp_ne (tgt := 28) C dX6_isBehindLine_21 (by decide) (by unfold R32; omega) (fun h4 => ?_) (fun h4 => ?_)
      · refine g_pc (pc' := 28) rfl ?_
        refine g_iconst (z := 0) C dX6_isBehindLine_28 rfl ?_
        exact g_zreturn C dX6_isBehindLine_29 (by omega) ⟨(bZ_f (by omega)).symm, rfl⟩
      · refine g_iconst (z := 1) C dX6_isBehindLine_24 rfl ?_
        refine g_goto (tgt := 29) C dX6_isBehindLine_25 (by decide) ?_
        exact g_zreturn C dX6_isBehindLine_29 (by omega) ⟨(bZ_t (by omega)).symm, rfl⟩
/-- the machine over the signs from i on, n of them: the place of the fault, or none and the last state -/
def rrun (w : Wv) (f : Nat → Int) : Nat → Nat → Rd → Nat ⊕ Rd
  | 0, _, r => .inr r
  | n + 1, i, r => match stp w r (f i) with
    | none => .inl i
    | some r' => rrun w f n (i + 1) r'
def rd0 : Rd := (fun _ => 0, fun _ => 0, fun _ _ _ => 0)
/-- the whole text: the fault (n: too early an end), or the state behind its end -/
def rtext (w : Wv) (f : Nat → Int) (n : Nat) : Nat ⊕ Rd := match rrun w f n 0 rd0 with
  | .inl i => .inl i
  | .inr r => if (rst r = 4 ∨ rst r = 5) ∧ rcol r = 2 then .inr (rset (endR r) 4 (rit r + 1)) else .inl n
/-- behind the whole text: lines pending, no state needed -/
def RE (σ : St) (w : Wv) (r : Rd) : Prop := XW 0 σ w ∧ (∀ t, t < 5 → σ.1 104 t = (rp r t : Int)) ∧ σ.1 103 6 = (rit r : Int) ∧ (∀ t, t < 5 → ∀ i c, c < 3 → i < rp r t → σ.1 (3 + 2 * t) ((wl w t + i) * 3 + c) = (rv r t i c : Int) ∧ rv r t i c ≤ 99) ∧ (∀ t, t < 5 → wl w t + rp r t ≤ 16)
theorem RI.done {σ : St} {w : Wv} {r : Rd} (h : RI σ w r) (h4 : rst r = 4 ∨ rst r = 5) (hc : rcol r = 2) : RE (sI (sI (kepS σ w r) 104 (rtab r) ((rp r (rtab r) : Int) + 1)) 103 6 ((rit r : Int) + 1)) w (rset (endR r) 4 (rit r + 1)) := by
  obtain ⟨k1, k2, k3, k4⟩ := h.endl h4 hc
  refine ⟨k1.sI9 (by omega), fun t ht => ?_, ?_, fun t ht i k hk hik => ?_, k4⟩
  · rw [rI_k (by omega)]; exact k2 t ht
  · rw [rI_s]; simp [rit, rset]
  · rw [rI_k (by omega)]; exact k3 t ht i k hk hik
theorem RI.init {σ : St} {w : Wv} (hX : XW 0 σ w) (hW : OKW w) : RI (sI (sI (fillI σ 104 5 0) 103 2 0) 103 6 0) w rd0 := by
  have hX1 : XW 0 (fillI σ 104 5 0) w := hX.fr (S := fun q => q = 104) ⟨fun q hq => by funext j; simp [fillI, hq], fun _ _ => rfl, fun _ _ => rfl⟩ (fun q _ hq e => by omega)
  refine ⟨(hX1.sI9 (by omega)).sI9 (by omega), ⟨?_, fun q => absurd q (by decide), fun q => absurd q (by decide), fun q => absurd q (by decide), ?_⟩, fun t ht => ?_, fun t ht i k hk hik => ?_, ?_, fun t ht => ?_, ?_⟩
  · rw [rI_j (by omega), rI_s]; rfl
  · rw [rI_s]; rfl
  · rw [rI_k (by omega), rI_k (by omega)]; simp [fillI, ht]; rfl
  · rcases hik with q | ⟨q, -⟩
    · exact absurd q (Nat.not_lt_zero _)
    · exact absurd q (by decide)
  · exact ⟨by decide, by decide, by decide, by decide, fun q => absurd q (by decide)⟩
  · exact (hW.1 t ht).1
  · intro q; exact absurd q (by decide)
theorem fiF {σ : St} : Fr RC σ (fillI σ 104 5 0) := ⟨fun q hq => by
  have : q ≠ 104 := fun e => hq (by unfold RC; omega)
  funext j
  simp [fillI, this], fun _ _ => rfl, fun _ _ => rfl⟩
theorem rrun_s {w : Wv} {f : Nat → Int} {n i : Nat} {r r' : Rd} (h : stp w r (f i) = some r') : rrun w f (n + 1) i r = rrun w f n (i + 1) r' := by rw [rrun, h]
theorem rrun_n {w : Wv} {f : Nat → Int} {n i : Nat} {r : Rd} (h : stp w r (f i) = none) : rrun w f (n + 1) i r = .inl i := by rw [rrun, h]
/-- what faultIn answers and leaves -/
def FQ (σ : St) (w : Wv) (f : Nat → Int) (n : Nat) (z : Int) (σ' : St) : Prop := Fr RC σ σ' ∧ XW 0 σ' w ∧ ((∃ i : Nat, z = (i : Int) ∧ rtext w f n = .inl i) ∨ (z = -1 ∧ ∃ r, rtext w f n = .inr r ∧ RE σ' w r))
theorem rtext_l {w : Wv} {f : Nat → Int} {n i : Nat} (h : rrun w f n 0 rd0 = .inl i) : rtext w f n = .inl i := by rw [rtext, h]
theorem rtext_e {w : Wv} {f : Nat → Int} {n : Nat} {r : Rd} (h : rrun w f n 0 rd0 = .inr r) (hr : ¬ ((rst r = 4 ∨ rst r = 5) ∧ rcol r = 2)) : rtext w f n = .inl n := by rw [rtext, h]; exact if_neg hr
theorem rtext_r {w : Wv} {f : Nat → Int} {n : Nat} {r : Rd} (h : rrun w f n 0 rd0 = .inr r) (hr : (rst r = 4 ∨ rst r = 5) ∧ rcol r = 2) : rtext w f n = .inr (rset (endR r) 4 (rit r + 1)) := by rw [rtext, h]; exact if_pos hr
set_option maxHeartbeats 4000000 in
set_option maxRecDepth 100000 in
theorem c_X6_faultIn {κ : Kp} (hI : Ij κ) (l : Launch) (σ : St) {w : Wv} (hX : XW 0 σ w) (hW : OKW w) {k n : Nat} {f : Nat → Int} (hk : kd k = 4) (hkn : σ.1 k 2 = (n : Int)) (hn160 : n ≤ 160) (hkr : 33 < k ∧ k < 60) (hf : ∀ i, i < n → (σ.2.2 (k + 1) i).toInt32.toInt = f i) : CtI κ l 5 yX6_faultIn cX6_faultIn 3 .int [.ref (κ.2.1 103), .ref (κ.2.1 k)] σ (fun z σ' => FQ σ w f n z σ') := by
  refine Ct.ofG (own := RX6) hI (by decide +kernel) rfl (Nat.le_of_ble_eq_true rfl) rfl ?_
  intro M C hMl
  refine g_aload_n C dX6_faultIn_0 rfl ?_
  refine gf_X6_9 C dX6_faultIn_1 rfl ?_
  refine g_iconst (z := 0) C dX6_faultIn_4 rfl ?_
  refine gc_X6_35 C dX6_faultIn_5 (c_J7_fill_53178 hI (Ml M) σ (N := 5) rfl rfl (by decide)) (by decide) (Nat.le_of_ble_eq_true rfl) (fun σ1 hσ => ?_)
  subst σ1
  refine g_aload_n C dX6_faultIn_8 rfl ?_
  refine g_iconst (z := 0) C dX6_faultIn_9 rfl ?_
  refine gp_X6_15 C dX6_faultIn_10 rfl ?_
  refine g_pc (pc' := 13) rfl ?_
  refine g_aload_n C dX6_faultIn_13 rfl ?_
  refine g_iconst (z := 0) C dX6_faultIn_14 rfl ?_
  refine gp_X6_28 C dX6_faultIn_15 rfl ?_
  refine g_iconst (z := 0) C dX6_faultIn_18 rfl ?_
  refine g_istore_n (L' := [(2, .int (iZ 0)), (0, .ref (κ.2.1 103)), (1, .ref (κ.2.1 k))]) C dX6_faultIn_19 rfl (by decide) rfl ?_
  have lp20 : ∀ (fz9 : Nat) (i : Nat) (x2 : Int) (s : St) (r : Rd), (n - i < fz9) → (x2 = (i : Int)) → (i ≤ n) → (Fr RC σ s) → (RI s w r) → (rrun w f n 0 rd0 = rrun w f (n - i) i r) → G M κ 3 (En M κ (qI κ (fun z σ' => FQ σ w f n z σ'))) 20 [(0, .ref (κ.2.1 103)), (1, .ref (κ.2.1 k)), (2, .int (iZ x2))] [] s := by
    intro fz9
    induction fz9 with
    | zero => intro i x2 s r hm0; exact absurd hm0 (Nat.not_lt_zero _)
    | succ fz9 ih =>
      intro i x2 s r hm20 hx2 hi hF hR hrun
      refine g_iload_n C dX6_faultIn_20 rfl ?_
      refine g_aload_n C dX6_faultIn_21 rfl ?_
      refine gf_X6_41 (z := (n : Int)) C dX6_faultIn_22 hk (by rw [hF.1 k (by unfold RC; omega)]; exact hkn) ?_
      refine g_pc (pc' := 25) rfl ?_
      refine g_icmp_ge (tgt := 48) C dX6_faultIn_25 (by decide) (by unfold R32; omega) (fun h1 => ?_) (fun h1 => ?_)
      · refine g_aload_n C dX6_faultIn_48 rfl ?_
        refine gc_X6_54 C dX6_faultIn_49 rfl (c_X6_isBehindLine hI (Ml M) s hR hW) (by decide) (Nat.le_of_ble_eq_true rfl) (fun z σ1 ⟨hz, hσ⟩ => ?_)
        subst z
        subst σ1
        rw [show n - i = 0 by omega, rrun] at hrun
        refine g_ifb_ne (tgt := 60) C dX6_faultIn_52 (by decide) (fun h2 => ?_) (fun h2 => ?_)
        · refine g_aload_n C dX6_faultIn_60 rfl ?_
          refine gc_X6_58 C dX6_faultIn_61 rfl (c_X6_endItem hI (Ml M) s hR hW (by omega)) (by decide) (Nat.le_of_ble_eq_true rfl) (fun σ1 hσ => ?_)
          subst σ1
          refine g_iconst (z := (-1)) C dX6_faultIn_64 rfl ?_
          exact g_ireturn C dX6_faultIn_65 ⟨hF.tr (((kep_fr hR.2.2.2.2.1.2.1).sI (by unfold RC; omega)).sI (by unfold RC; omega)), (hR.done (by omega) (by omega)).1, Or.inr ⟨rfl, _, rtext_r hrun (by omega), hR.done (by omega) (by omega)⟩⟩
        · refine g_pc (pc' := 55) rfl ?_
          refine g_aload_n C dX6_faultIn_55 rfl ?_
          refine gf_X6_41 (z := (n : Int)) C dX6_faultIn_56 hk (by rw [hF.1 k (by unfold RC; omega)]; exact hkn) ?_
          exact g_ireturn C dX6_faultIn_59 ⟨hF, hR.1, Or.inl ⟨n, rfl, rtext_e hrun (by assumption)⟩⟩
      · refine g_aload_n C dX6_faultIn_28 rfl ?_
        refine g_aload_n C dX6_faultIn_29 rfl ?_
        refine g_iload_n C dX6_faultIn_30 rfl ?_
        refine gc_X6_46 C dX6_faultIn_31 hk (c_X4_intAt hI (Ml M) s hk (i := i) hx2 (by omega)) (by decide) (Nat.le_of_ble_eq_true rfl) (fun z σ1 ⟨hz, hσ⟩ => ?_)
        subst σ1
        rw [hF.2.2 (k + 1) (by unfold RC; omega), hf i (by omega)] at hz
        subst z
        refine gc_X6_50 C dX6_faultIn_34 rfl (c_X6_takes hI (Ml M) s hR hW (x := f i) (by rw [← hf i (by omega)]; exact R32_of _)) (by decide) (Nat.le_of_ble_eq_true rfl) (fun z s1 ⟨hG, hXs, hq⟩ => ?_)
        have hz01 : z = 0 ∨ z = 1 := by rcases hq with ⟨q1, -⟩ | ⟨q1, -⟩; exact Or.inl q1; exact Or.inr q1
        refine g_pc (pc' := 37) rfl ?_
        refine g_if_ne (tgt := 42) C dX6_faultIn_37 (by decide) (by unfold R32; omega) (fun h3 => ?_) (fun h3 => ?_)
        · obtain ⟨r', hst, hr'2⟩ : ∃ r', stp w r (f i) = some r' ∧ RI s1 w r' := by rcases hq with ⟨q1, -⟩ | ⟨-, q2⟩; exact absurd q1 (by omega); exact q2
          have hrun' : rrun w f n 0 rd0 = rrun w f (n - (i + 1)) (i + 1) r' := by rw [hrun, show n - i = n - (i + 1) + 1 by omega, rrun_s hst]
          refine g_iinc (q := 2) (v := (x2 + 1)) (L' := [(2, .int (iZ (x2 + 1))), (0, .ref (κ.2.1 103)), (1, .ref (κ.2.1 k))]) C dX6_faultIn_42 rfl rfl (by decide) rfl ?_
          refine g_goto (tgt := 20) C dX6_faultIn_45 (by decide) ?_
          exact g_loc [1, 2, 0] (by rfl) (ih (i + 1) (x2 + 1) s1 r' (by omega) (by omega) (by omega) (hF.tr hG) (by rcases hq with ⟨q1, -⟩ | ⟨-, r2, q2, q3⟩; exact absurd q1 (by omega); exact hr'2) hrun')
        · have hst : stp w r (f i) = none := by rcases hq with ⟨-, q2⟩ | ⟨q1, -⟩; exact q2; exact absurd q1 (by omega)
          refine g_iload_n C dX6_faultIn_40 rfl ?_
          exact g_ireturn C dX6_faultIn_41 ⟨hF.tr hG, hXs, Or.inl ⟨i, hx2, rtext_l (by rw [hrun, show n - i = n - (i + 1) + 1 by omega, rrun_n hst])⟩⟩
  exact g_loc [1, 2, 0] (by rfl) (lp20 _ 0 0 (sI (sI (fillI σ 104 5 0) 103 2 0) 103 6 0) rd0 (Nat.lt_succ_self _) rfl (Nat.zero_le _) ((fiF.sI (by unfold RC; omega)).sI (by unfold RC; omega)) (RI.init hX hW) rfl)

/-! THE LAW: its loop -/
theorem and63 (x : Int32) : ∃ n : Nat, n < 64 ∧ x &&& iZ 63 = iZ (n : Int) := by
  refine ⟨(x &&& iZ 63).toBitVec.toNat, ?_, Int32.toBitVec_inj.mp (BitVec.eq_of_toNat_eq (by rw [iZ_nat (BitVec.isLt _)]))⟩
  show (x.toBitVec &&& (iZ 63).toBitVec).toNat < 64
  rw [BitVec.toNat_and]
  exact Nat.lt_of_le_of_lt Nat.and_le_right (by decide)
set_option maxHeartbeats 4000000 in
set_option maxRecDepth 100000 in
theorem law_loop {M : MC} {κ : Kp} {b N : Nat} {xs : Nat → Int32} {Q : State → Prop} (C : CL M κ b N xs) (hN : N ≤ 3072) (E : ∀ (i : Nat) (σ : St), GL M κ Q 1375 [(3, .int (iZ ((i : Nat) : Int))), (0, .ref b), (1, .ref (κ.2.1 76)), (2, .ref (κ.2.1 105))] [] σ) : ∀ (fz i : Nat) (σ : St) (V : Vw), N + 6 - i < fz → i ≤ N + 5 → XV σ V → MV σ V → OKV V → GL M κ Q 18 [(3, .int (iZ ((i : Nat) : Int))), (0, .ref b), (1, .ref (κ.2.1 76)), (2, .ref (κ.2.1 105))] [] σ := by
  intro fz
  induction fz with
  | zero => intro i σ V hz; exact absurd hz (Nat.not_lt_zero _)
  | succ fz ih =>
    intro i σ V hz hi5 hX hM hO
    have K : i + 6 ≤ N → ∀ σ' V', XV σ' V' → MV σ' V' → OKV V' → GL M κ Q 1369 [(3, .int (iZ ((i : Nat) : Int))), (0, .ref b), (1, .ref (κ.2.1 76)), (2, .ref (κ.2.1 105))] [] σ' := fun hi σ' V' hX' hM' hO' => by
      refine l_iinc (q := 0) (v := ((i + 6 : Nat) : Int)) (L' := [(3, .int (iZ ((i + 6 : Nat) : Int))), (0, .ref b), (1, .ref (κ.2.1 76)), (2, .ref (κ.2.1 105))]) C dl_1369 rfl (by omega) (by decide) rfl ?_
      refine l_goto (tgt := 18) C dl_1372 (by decide) ?_
      exact ih (i + 6) σ' V' (by omega) (by omega) hX' hM' hO'
    refine l_iload_n C dl_18 rfl ?_
    refine l_aload_n C dl_19 rfl ?_
    refine l_slen C dl_20 ?_
    refine l_bipush (z := 6) C dl_21 rfl ?_
    refine l_isub C dl_23 ?_
    refine l_icmp_gt (tgt := 1375) C dl_24 (by decide) (by unfold R32; omega) (fun h1 => E i σ) (fun h1 => ?_)
    have hi : i + 6 ≤ N := by omega
    refine l_aload_n C dl_27 rfl ?_
    refine l_iload_n C dl_28 rfl ?_
    refine l_sld (j := i) C dl_29 rfl (by omega) hN ?_
    refine l_bipush (z := 63) C dl_30 rfl ?_
    refine l_iand C dl_32 ?_
    obtain ⟨n, hn, he⟩ := and63 (iZ (xv xs i))
    refine l_raw he ?_
    refine l_pc (pc' := 33) rfl ?_
    have hs : 36 < n ∨ n = 0 ∨ n = 1 ∨ n = 2 ∨ n = 3 ∨ n = 4 ∨ n = 5 ∨ n = 6 ∨ n = 7 ∨ n = 8 ∨ n = 9 ∨ n = 10 ∨ n = 11 ∨ n = 12 ∨ n = 13 ∨ n = 14 ∨ n = 15 ∨ n = 16 ∨ n = 17 ∨ n = 18 ∨ n = 19 ∨ n = 20 ∨ n = 21 ∨ n = 22 ∨ n = 23 ∨ n = 24 ∨ n = 25 ∨ n = 26 ∨ n = 27 ∨ n = 28 ∨ n = 29 ∨ n = 30 ∨ n = 31 ∨ n = 32 ∨ n = 33 ∨ n = 34 ∨ n = 35 ∨ n = 36 := by omega
    rcases hs with hs | hs | hs | hs | hs | hs | hs | hs | hs | hs | hs | hs | hs | hs | hs | hs | hs | hs | hs | hs | hs | hs | hs | hs | hs | hs | hs | hs | hs | hs | hs | hs | hs | hs | hs | hs | hs | hs
    · refine l_tswd (tgt := 1369) C dl_33 (by unfold R32; omega) (by omega) (by decide) ?_
      exact K hi σ V hX hM hO
    · subst hs
      refine l_tsw (tgt := 196) C dl_33 (by unfold R32; omega) (by decide) rfl (by decide) ?_
      exact law_row C hX hM hO hi hN (K hi)
    · subst hs
      refine l_tsw (tgt := 239) C dl_33 (by unfold R32; omega) (by decide) rfl (by decide) ?_
      exact law_set C hX hM hO hi hN (K hi)
    · subst hs
      refine l_tsw (tgt := 312) C dl_33 (by unfold R32; omega) (by decide) rfl (by decide) ?_
      exact law_copy C hX hM hO hi hN (K hi)
    · subst hs
      refine l_tsw (tgt := 375) C dl_33 (by unfold R32; omega) (by decide) rfl (by decide) ?_
      exact law_element C hX hM hO hi hN (K hi)
    · subst hs
      refine l_tsw (tgt := 409) C dl_33 (by unfold R32; omega) (by decide) rfl (by decide) ?_
      exact law_show C hX hM hO hi hN (K hi)
    · subst hs
      refine l_tsw (tgt := 442) C dl_33 (by unfold R32; omega) (by decide) rfl (by decide) ?_
      exact law_holds C hX hM hO hi hN (K hi)
    · subst hs
      refine l_tsw (tgt := 465) C dl_33 (by unfold R32; omega) (by decide) rfl (by decide) ?_
      exact law_says C hX hM hO hi hN (K hi)
    · subst hs
      refine l_tsw (tgt := 498) C dl_33 (by unfold R32; omega) (by decide) rfl (by decide) ?_
      exact law_line C hX hM hO hi hN (K hi)
    · subst hs
      refine l_tsw (tgt := 551) C dl_33 (by unfold R32; omega) (by decide) rfl (by decide) ?_
      exact law_read C hX hM hO hi hN (K hi)
    · subst hs
      refine l_tsw (tgt := 574) C dl_33 (by unfold R32; omega) (by decide) rfl (by decide) ?_
      exact law_fault C hX hM hO hi hN (K hi)
    · subst hs
      refine l_tsw (tgt := 587) C dl_33 (by unfold R32; omega) (by decide) rfl (by decide) ?_
      exact law_empty C hX hM hO hi hN (K hi)
    · subst hs
      refine l_tsw (tgt := 610) C dl_33 (by unfold R32; omega) (by decide) rfl (by decide) ?_
      exact law_put C hX hM hO hi hN (K hi)
    · subst hs
      refine l_tsw (tgt := 653) C dl_33 (by unfold R32; omega) (by decide) rfl (by decide) ?_
      exact law_tableOf C hX hM hO hi hN (K hi)
    · subst hs
      refine l_tsw (tgt := 686) C dl_33 (by unfold R32; omega) (by decide) rfl (by decide) ?_
      exact law_lineOf C hX hM hO hi hN (K hi)
    · subst hs
      refine l_tsw (tgt := 729) C dl_33 (by unfold R32; omega) (by decide) rfl (by decide) ?_
      exact law_bucket C hX hM hO hi hN (K hi)
    · subst hs
      refine l_tsw (tgt := 772) C dl_33 (by unfold R32; omega) (by decide) rfl (by decide) ?_
      exact law_different C hX hM hO hi hN (K hi)
    · subst hs
      refine l_tsw (tgt := 795) C dl_33 (by unfold R32; omega) (by decide) rfl (by decide) ?_
      exact law_share C hX hM hO hi hN (K hi)
    · subst hs
      refine l_tsw (tgt := 838) C dl_33 (by unfold R32; omega) (by decide) rfl (by decide) ?_
      exact law_filter C hX hM hO hi hN (K hi)
    · subst hs
      refine l_tsw (tgt := 881) C dl_33 (by unfold R32; omega) (by decide) rfl (by decide) ?_
      exact law_join C hX hM hO hi hN (K hi)
    · subst hs
      refine l_tsw (tgt := 914) C dl_33 (by unfold R32; omega) (by decide) rfl (by decide) ?_
      exact law_clear C hX hM hO hi hN (K hi)
    · subst hs
      refine l_tsw (tgt := 927) C dl_33 (by unfold R32; omega) (by decide) rfl (by decide) ?_
      exact law_filterOf C hX hM hO hi hN (K hi)
    · subst hs
      refine l_tsw (tgt := 960) C dl_33 (by unfold R32; omega) (by decide) rfl (by decide) ?_
      exact law_joinOf C hX hM hO hi hN (K hi)
    · subst hs
      refine l_tsw (tgt := 993) C dl_33 (by unfold R32; omega) (by decide) rfl (by decide) ?_
      exact law_joinShare C hX hM hO hi hN (K hi)
    · subst hs
      refine l_tsw (tgt := 1016) C dl_33 (by unfold R32; omega) (by decide) rfl (by decide) ?_
      exact law_thought C hX hM hO hi hN (K hi)
    · subst hs
      refine l_tsw (tgt := 1039) C dl_33 (by unfold R32; omega) (by decide) rfl (by decide) ?_
      exact law_sorting C hX hM hO hi hN (K hi)
    · subst hs
      refine l_tsw (tgt := 1062) C dl_33 (by unfold R32; omega) (by decide) rfl (by decide) ?_
      exact law_cost C hX hM hO hi hN (K hi)
    · subst hs
      refine l_tsw (tgt := 1095) C dl_33 (by unfold R32; omega) (by decide) rfl (by decide) ?_
      exact law_plan C hX hM hO hi hN (K hi)
    · subst hs
      refine l_tsw (tgt := 1128) C dl_33 (by unfold R32; omega) (by decide) rfl (by decide) ?_
      exact law_nodeOf C hX hM hO hi hN (K hi)
    · subst hs
      refine l_tsw (tgt := 1161) C dl_33 (by unfold R32; omega) (by decide) rfl (by decide) ?_
      exact law_really C hX hM hO hi hN (K hi)
    · subst hs
      refine l_tsw (tgt := 1184) C dl_33 (by unfold R32; omega) (by decide) rfl (by decide) ?_
      exact law_sum C hX hM hO hi hN (K hi)
    · subst hs
      refine l_tsw (tgt := 1218) C dl_33 (by unfold R32; omega) (by decide) rfl (by decide) ?_
      exact law_wrongBy C hX hM hO hi hN (K hi)
    · subst hs
      refine l_tsw (tgt := 1241) C dl_33 (by unfold R32; omega) (by decide) rfl (by decide) ?_
      exact law_judge C hX hM hO hi hN (K hi)
    · subst hs
      refine l_tsw (tgt := 1274) C dl_33 (by unfold R32; omega) (by decide) rfl (by decide) ?_
      exact law_drawn C hX hM hO hi hN (K hi)
    · subst hs
      refine l_tsw (tgt := 1297) C dl_33 (by unfold R32; omega) (by decide) rfl (by decide) ?_
      exact law_seed C hX hM hO hi hN (K hi)
    · subst hs
      refine l_tsw (tgt := 1320) C dl_33 (by unfold R32; omega) (by decide) rfl (by decide) ?_
      exact law_image C hX hM hO hi hN (K hi)
    · subst hs
      refine l_tsw (tgt := 1333) C dl_33 (by unfold R32; omega) (by decide) rfl (by decide) ?_
      exact law_restore C hX hM hO hi hN (K hi)
    · subst hs
      refine l_tsw (tgt := 1346) C dl_33 (by unfold R32; omega) (by decide) rfl (by decide) ?_
      exact law_status C hX hM hO hi hN (K hi)

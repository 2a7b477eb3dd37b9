/-! THE MODEL: findBest, cost -/
theorem SBs_SC {k : Nat} (h : SBs k) : SC k := by unfold SBs SPl HM at h; unfold SC; omega
theorem HT_SX {j : Nat} (h : HT j) : SX j := by unfold HT at h; unfold SX; omega
theorem HM_SC {k : Nat} (h : HM k) : SC k := by unfold HM at h; unfold SC; omega
theorem Fm.sc {σ τ : St} (g : Fm SBs HT σ τ) : Fm SC SX σ τ := g.mono (fun k => SBs_SC) (fun j => HT_SX)
theorem Fm.hc {σ τ : St} (g : Fm HM HT σ τ) : Fm SC SX σ τ := g.mono (fun k => HM_SC) (fun j => HT_SX)
theorem tC_lo {w : Wv} {k : Nat} (h : k < 16) : tC w k = pcN := by unfold tC; rw [show k / 16 = 0 by omega]; exact TT_00
theorem PTa.up {σ : St} {w : Wv} {N : Nat} (h : PTm σ w N (tC w N)) : PTa σ w (N + 1) := fun k hk => by
  by_cases e : k = N
  · subst e; rw [if_pos (by omega)]; exact h.2
  · have := h.1 k hk e
    by_cases e2 : k < N
    · rw [if_pos e2] at this; rw [if_pos (by omega)]; exact this
    · rw [if_neg e2] at this; rw [if_neg (by omega)]; exact this
theorem PTa.m {σ : St} {w : Wv} {N : Nat} (h : PTa σ w N) (hN : N < 512) : PTm σ w N pcN := ⟨fun k hk _ => h k hk, by have := h N hN; rwa [if_neg (by omega)] at this⟩
theorem PTa.fr {σ τ : St} {w : Wv} {N : Nat} (h : PTa σ w N) (e1 : τ.1 127 = σ.1 127) (e2 : τ.2.1 126 = σ.2.1 126) (e3 : τ.1 128 = σ.1 128) (e4 : τ.1 129 = σ.1 129) : PTa τ w N := fun k hk => (h k hk).fr (by rw [e1]) (by rw [e2]) (by rw [e3]) (by rw [e4])
set_option maxHeartbeats 4000000 in
set_option maxRecDepth 100000 in
theorem c_X10_findBest {κ : Kp} (hI : Ij κ) (l : Launch) (σ : St) {w : Wv} (hM : MW σ w) (hW : OKW w) : CtV κ l 8 yX10_findBest cX10_findBest 2 [.ref (κ.2.1 105)] σ (fun σ' => (∀ k, k < 512 → PKm σ' k (tC w k)) ∧ Fm SC SX σ σ') := by
  refine Ct.ofG (own := RX10) hI (by decide +kernel) rfl (Nat.le_of_ble_eq_true rfl) rfl ?_
  intro M C hMl
  refine g_iconst (z := 0) C dX10_findBest_0 rfl ?_
  refine g_istore_n (L' := [(1, .int (iZ 0)), (0, .ref (κ.2.1 105))]) C dX10_findBest_1 rfl (by decide) rfl ?_
  have lp2 : ∀ (fz9 : Nat) (k : Nat) (x1 : Int) (q : St), (512 - k < fz9) → (x1 = (k : Int)) → (k ≤ 512) → (Fm SC SX σ q) → (∀ u, u < k → q.1 127 u = -1) → G M κ 2 (En M κ (qV κ (fun σ' => (∀ k, k < 512 → PKm σ' k (tC w k)) ∧ Fm SC SX σ σ'))) 2 [(0, .ref (κ.2.1 105)), (1, .int (iZ x1))] [] q := by
    intro fz9
    induction fz9 with
    | zero => intro k x1 q hm0; exact absurd hm0 (Nat.not_lt_zero _)
    | succ fz9 ih2 =>
      intro k x1 q hm2 hx1 hk hF hN
      refine g_iload_n C dX10_findBest_2 rfl ?_
      refine g_sipush (z := 512) C dX10_findBest_3 rfl ?_
      refine g_icmp_ge (tgt := 22) C dX10_findBest_6 (by decide) (by unfold R32; omega) (fun h1 => ?_) (fun h1 => ?_)
      · refine g_iconst (z := 1) C dX10_findBest_22 rfl ?_
        refine g_istore_n (L' := [(1, .int (iZ 1)), (0, .ref (κ.2.1 105))]) C dX10_findBest_23 rfl (by decide) rfl ?_
        have lp24 : ∀ (fz9 : Nat) (s : Nat) (x1 : Int) (q2 : St), (32 - s < fz9) → (x1 = (s : Int)) → (1 ≤ s ∧ s ≤ 32) → (Fm SC SX σ q2) → (PTa q2 w 16) → (∀ u, 1 ≤ u → u < s → q2.2.1 125 u = tho w u) → G M κ 2 (En M κ (qV κ (fun σ' => (∀ k, k < 512 → PKm σ' k (tC w k)) ∧ Fm SC SX σ σ'))) 24 [(0, .ref (κ.2.1 105)), (1, .int (iZ x1))] [] q2 := by
          intro fz9
          induction fz9 with
          | zero => intro s x1 q2 hm0; exact absurd hm0 (Nat.not_lt_zero _)
          | succ fz9 ih24 =>
            intro s x1 q2 hm24 hx1b hs hF2 hP2 hT
            have hM2 := hM.scr hF2
            refine g_pc (pc' := 24) rfl ?_
            refine g_iload_n C dX10_findBest_24 rfl ?_
            refine g_bipush (z := 31) C dX10_findBest_25 rfl ?_
            refine g_icmp_gt (tgt := 47) C dX10_findBest_27 (by decide) (by unfold R32; omega) (fun h2 => ?_) (fun h2 => ?_)
            · refine g_aload_n C dX10_findBest_47 rfl ?_
              refine g_iconst (z := 1) C dX10_findBest_48 rfl ?_
              refine gp_X10_204 C dX10_findBest_49 rfl ?_
              have lp52 : ∀ (fz9 : Nat) (s : Nat) (q4 : St), (32 - s < fz9) → (1 ≤ s ∧ s ≤ 32) → (q4.1 105 24 = (s : Int)) → (Fm SC SX σ q4) → (PTa q4 w (16 * s)) → (∀ u, 1 ≤ u → u ≤ 31 → q4.2.1 125 u = tho w u) → G M κ 2 (En M κ (qV κ (fun σ' => (∀ k, k < 512 → PKm σ' k (tC w k)) ∧ Fm SC SX σ σ'))) 52 [(0, .ref (κ.2.1 105)), (1, .int (iZ x1))] [] q4 := by
                intro fz9
                induction fz9 with
                | zero => intro s q4 hm0; exact absurd hm0 (Nat.not_lt_zero _)
                | succ fz9 ih52 =>
                  intro s q4 hm52 hs4 h24 hF4 hP4 hT4
                  refine g_aload_n C dX10_findBest_52 rfl ?_
                  refine gf_X10_204 (z := (s : Int)) C dX10_findBest_53 rfl h24 ?_
                  refine g_pc (pc' := 56) rfl ?_
                  refine g_bipush (z := 31) C dX10_findBest_56 rfl ?_
                  refine g_icmp_gt (tgt := 105) C dX10_findBest_58 (by decide) (by unfold R32; omega) (fun h3 => ?_) (fun h3 => ?_)
                  · exact g_return C dX10_findBest_105 ⟨fun k hk => by have h9 := hP4 k hk; rwa [if_pos (by omega)] at h9, hF4⟩
                  · refine g_aload_n C dX10_findBest_61 rfl ?_
                    refine g_iconst (z := 0) C dX10_findBest_62 rfl ?_
                    refine gp_X10_207 C dX10_findBest_63 rfl ?_
                    have lp66 : ∀ (fz9 : Nat) (o : Nat) (q6 : St), (16 - o < fz9) → (o ≤ 16) → (q6.1 105 24 = (s : Int)) → (q6.1 105 25 = (o : Int)) → (Fm SC SX σ q6) → (PTa q6 w (16 * s + o)) → (∀ u, 1 ≤ u → u ≤ 31 → q6.2.1 125 u = tho w u) → G M κ 2 (En M κ (qV κ (fun σ' => (∀ k, k < 512 → PKm σ' k (tC w k)) ∧ Fm SC SX σ σ'))) 66 [(0, .ref (κ.2.1 105)), (1, .int (iZ x1))] [] q6 := by
                      intro fz9
                      induction fz9 with
                      | zero => intro o q6 hm0; exact absurd hm0 (Nat.not_lt_zero _)
                      | succ fz9 ih66 =>
                        intro o q6 hm66 ho h24b h25 hF6 hP6 hT6
                        have hM6 := hM.scr hF6
                        refine g_aload_n C dX10_findBest_66 rfl ?_
                        refine gf_X10_207 (z := (o : Int)) C dX10_findBest_67 rfl h25 ?_
                        refine g_pc (pc' := 70) rfl ?_
                        refine g_bipush (z := 16) C dX10_findBest_70 rfl ?_
                        refine g_icmp_ge (tgt := 92) C dX10_findBest_72 (by decide) (by unfold R32; omega) (fun h4 => ?_) (fun h4 => ?_)
                        · refine g_aload_n C dX10_findBest_92 rfl ?_
                          refine g_dup C dX10_findBest_93 rfl ?_
                          refine gf_X10_204 (z := (s : Int)) C dX10_findBest_94 rfl h24b ?_
                          refine g_iconst (z := 1) C dX10_findBest_97 rfl ?_
                          refine g_iadd C dX10_findBest_98 ?_
                          refine gp_X10_204 C dX10_findBest_99 rfl ?_
                          refine g_pc (pc' := 102) rfl ?_
                          refine g_goto (tgt := 52) C dX10_findBest_102 (by decide) ?_
                          exact g_loc [0, 1] (by rfl) (ih52 (s + 1) (sI q6 105 24 ((s : Int) + 1)) (by omega) ⟨by omega, by omega⟩ (by rw [rI_s]; omega) (hF6.t (by unfold SX; omega)) (by rw [show 16 * (s + 1) = 16 * s + o by omega]; exact hP6.fr (sI_ne (by decide)) rfl (sI_ne (by decide)) (sI_ne (by decide))) hT6)
                        · refine g_aload_n C dX10_findBest_75 rfl ?_
                          refine gc_X10_245 C dX10_findBest_76 rfl (c_X10_offersAll hI (Ml M) q6 (w := w) (s := s) (o := o) ⟨hM6, ⟨h24b, h25⟩, hT6, hP6.m (by omega)⟩ (by omega) hs4.1 (by omega) hW) (by decide) (Nat.le_of_ble_eq_true rfl) (fun q7 ⟨hP7, hF7⟩ => ?_)
                          refine g_aload_n C dX10_findBest_79 rfl ?_
                          refine g_dup C dX10_findBest_80 rfl ?_
                          refine gf_X10_207 (z := (o : Int)) C dX10_findBest_81 rfl hP7.2.1.2 ?_
                          refine g_iconst (z := 1) C dX10_findBest_84 rfl ?_
                          refine g_iadd C dX10_findBest_85 ?_
                          refine g_pc (pc' := 86) rfl ?_
                          refine gp_X10_207 C dX10_findBest_86 rfl ?_
                          refine g_goto (tgt := 66) C dX10_findBest_89 (by decide) ?_
                          exact g_loc [0, 1] (by rfl) (ih66 (o + 1) (sI q7 105 25 ((o : Int) + 1)) (by omega) (by omega) ((rI_j (by decide)).trans hP7.2.1.1) (by rw [rI_s]; omega) ((hF6.tr hF7.sc).t (by unfold SX; omega)) (((PTa.up (by rw [tC_c (by omega)]; exact hP7.2.2.2)) : PTa q7 w (16 * s + o + 1)).fr (sI_ne (by decide)) rfl (sI_ne (by decide)) (sI_ne (by decide))) (fun u h1 h2 => hP7.2.2.1 u h1 h2))
                    exact g_loc [0, 1] (by rfl) (lp66 _ 0 (sI q4 105 25 0) (Nat.lt_succ_self _) (by omega) ((rI_j (by decide)).trans h24) rI_s (hF4.t (by unfold SX; omega)) (hP4.fr (sI_ne (by decide)) rfl (sI_ne (by decide)) (sI_ne (by decide))) hT4)
              exact g_loc [0, 1] (by rfl) (lp52 _ 1 (sI q2 105 24 1) (Nat.lt_succ_self _) ⟨by omega, by omega⟩ rI_s (hF2.t (by unfold SX; omega)) (hP2.fr (sI_ne (by decide)) rfl (sI_ne (by decide)) (sI_ne (by decide))) (fun u h1 h2 => hT u h1 (by omega)))
            · refine g_aload_n C dX10_findBest_30 rfl ?_
              refine gf_X10_55 C dX10_findBest_31 rfl ?_
              refine g_iload_n C dX10_findBest_34 rfl ?_
              refine g_aload_n C dX10_findBest_35 rfl ?_
              refine g_iload_n C dX10_findBest_36 rfl ?_
              refine gc_X10_201 C dX10_findBest_37 rfl (c_X10_thoughtOf hI (Ml M) q2 hM2 hW (s := s) hx1b (by omega)) (by decide) (Nat.le_of_ble_eq_true rfl) (fun z q3 ⟨hz, hG⟩ => ?_)
              subst z
              refine g_pc (pc' := 40) rfl ?_
              refine g_fast (n := s) (N := 32) C dX10_findBest_40 rfl rfl (by omega) (by omega) (by decide) ?_
              refine g_iinc (q := 1) (v := (x1 + 1)) (L' := [(1, .int (iZ (x1 + 1))), (0, .ref (κ.2.1 105))]) C dX10_findBest_41 rfl rfl (by decide) rfl ?_
              refine g_goto (tgt := 24) C dX10_findBest_44 (by decide) ?_
              exact g_loc [1, 0] (by rfl) (ih24 (s + 1) (x1 + 1) (sF q3 125 s (tho w s)) (by omega) (by omega) ⟨by omega, by omega⟩ ((hF2.tr hG.hc).f (by unfold SC; omega)) (hP2.fr (by show q3.1 127 = _; exact (hG.1 127 (by decide) (by unfold HM; omega)).1) (by rw [sF_ne (by decide)]; exact (hG.1 126 (by decide) (by unfold HM; omega)).2.1) (by show q3.1 128 = _; exact (hG.1 128 (by decide) (by unfold HM; omega)).1) (by show q3.1 129 = _; exact (hG.1 129 (by decide) (by unfold HM; omega)).1)) (fun u h1 h2 => by rcases Nat.lt_or_ge u s with g | g; (rw [rF_j (by omega), (hG.1 125 (by decide) (by unfold HM; omega)).2.1]; exact hT u h1 g); (rw [show u = s by omega]; exact rF_s)))
        exact g_loc [1, 0] (by rfl) (lp24 _ 1 1 q (Nat.lt_succ_self _) rfl ⟨by omega, by omega⟩ hF (fun u hu => ⟨by rw [hN u (by omega)]; split; (rw [tC_lo (by omega)]; rfl); rfl, fun e => absurd (by split; (rw [tC_lo (by omega)]; rfl); rfl) e⟩) (fun u h1 h2 => absurd h2 (by omega)))
      · refine g_aload_n C dX10_findBest_9 rfl ?_
        refine gf_X10_62 C dX10_findBest_10 rfl ?_
        refine g_iload_n C dX10_findBest_13 rfl ?_
        refine g_iconst (z := (-1)) C dX10_findBest_14 rfl ?_
        refine g_iast (n := k) (N := 512) C dX10_findBest_15 rfl rfl (by omega) (by omega) (by decide) ?_
        refine g_pc (pc' := 16) rfl ?_
        refine g_iinc (q := 1) (v := (x1 + 1)) (L' := [(1, .int (iZ (x1 + 1))), (0, .ref (κ.2.1 105))]) C dX10_findBest_16 rfl rfl (by decide) rfl ?_
        refine g_goto (tgt := 2) C dX10_findBest_19 (by decide) ?_
        exact g_loc [1, 0] (by rfl) (ih2 (k + 1) (x1 + 1) (sI q 127 k (-1)) (by omega) (by omega) (by omega) (hF.a (by decide) (by unfold SC; omega)) (fun u hu => by rcases Nat.lt_or_ge u k with g | g; (rw [rI_j (by omega)]; exact hN u g); (rw [show u = k by omega]; exact rI_s)))
  exact g_loc [1, 0] (by rfl) (lp2 _ 0 0 σ (Nat.lt_succ_self _) rfl (by omega) Fm.rf (fun u hu => absurd hu (Nat.not_lt_zero u)))
set_option maxHeartbeats 4000000 in
set_option maxRecDepth 100000 in
theorem c_X10_cost {κ : Kp} (hI : Ij κ) (l : Launch) (σ : St) {V : Vw} (hM : MV σ V) (hO : OKV V) {s o : Int} (hs : R32 s) (ho : R32 o) : CtI κ l 9 yX10_cost cX10_cost 3 .int [.ref (κ.2.1 105), .int (iZ s), .int (iZ o)] σ (fun z σ' => z = (aCost V s o).1 ∧ MV σ' (aCost V s o).2 ∧ Fr YC σ σ') := by
  refine Ct.ofG (own := RX10) hI (by decide +kernel) rfl (Nat.le_of_ble_eq_true rfl) rfl ?_
  intro M C hMl
  refine g_iload_n C dX10_cost_0 rfl ?_
  refine gc_X10_267 C dX10_cost_1 (c_X10_isSet hI (Ml M) σ (v := s) (by unfold R32; omega)) (by decide) (Nat.le_of_ble_eq_true rfl) (fun z σ9 ⟨hz, hσ⟩ => ?_)
  subst z
  subst σ9
  refine g_ifb_eq (tgt := 14) C dX10_cost_4 (by decide) (fun h1 => ?_) (fun h1 => ?_)
  · refine g_aload_n C dX10_cost_14 rfl ?_
    refine g_bipush (z := (-6)) C dX10_cost_15 rfl ?_
    refine gc_X10_274 C dX10_cost_17 rfl (c_X10_no hI (Ml M) σ (y := 6) (v := (-6)) (by first | rfl | omega) (by decide)) (by decide) (Nat.le_of_ble_eq_true rfl) (fun z σ9 ⟨hz, hσ⟩ => ?_)
    subst z
    subst σ9
    refine g_bipush (z := 10) C dX10_cost_20 rfl ?_
    refine g_pc (pc' := 22) rfl ?_
    refine g_isub C dX10_cost_22 ?_
    exact g_ireturn C dX10_cost_23 (by rw [show aCost V s o = rfT 6 V by unfold aCost; (first | rw [if_pos (by omega)] | rw [if_neg (by omega), if_pos (by omega)] | rw [if_neg (by omega), if_neg (by omega)])]; exact ⟨rfl, hM.ref (by omega), YC.ref⟩)
  · refine g_iload_n C dX10_cost_7 rfl ?_
    refine gc_X10_271 C dX10_cost_8 (c_X10_isOrder hI (Ml M) σ (v := o) (by unfold R32; omega)) (by decide) (Nat.le_of_ble_eq_true rfl) (fun z σ9 ⟨hz, hσ⟩ => ?_)
    subst z
    subst σ9
    refine g_ifb_ne (tgt := 24) C dX10_cost_11 (by decide) (fun h2 => ?_) (fun h2 => ?_)
    · refine g_aload_n C dX10_cost_24 rfl ?_
      refine gc_X10_277 C dX10_cost_25 rfl (c_X10_findBest hI (Ml M) σ hM.1 hO.1) (by decide) (Nat.le_of_ble_eq_true rfl) (fun s1 ⟨hK, hF⟩ => ?_)
      have hM1 := hM.scr hF
      have hcell : PKm s1 (16 * s.toNat + (o + 1).toNat) (TT (vW V) s.toNat (o + 1).toNat) := by have h9 := hK (16 * s.toNat + (o + 1).toNat) (by omega); rwa [tC_c (by omega)] at h9
      have hTP := (TT_PO hO.1 s.toNat s.toNat (Nat.le_refl _) (by omega) (by omega)).1 (o + 1).toNat (by omega)
      refine g_aload_n C dX10_cost_28 rfl ?_
      refine g_pc (pc' := 29) rfl ?_
      refine g_iload_n C dX10_cost_29 rfl ?_
      refine g_iload_n C dX10_cost_30 rfl ?_
      refine g_iconst (z := 1) C dX10_cost_31 rfl ?_
      refine g_iadd C dX10_cost_32 ?_
      refine gc_X10_213 C dX10_cost_33 rfl (c_X10_isBest hI (Ml M) s1 (s := s.toNat) (o := (o + 1).toNat) (by omega) (by omega) (by omega) (by omega) hcell (PO_W hTP)) (by decide) (Nat.le_of_ble_eq_true rfl) (fun z σ9 ⟨hz, hσ⟩ => ?_)
      subst z
      subst σ9
      refine g_ifb_eq (tgt := 53) C dX10_cost_36 (by decide) (fun h3 => ?_) (fun h3 => ?_)
      · refine g_iconst (z := (-1)) C dX10_cost_53 rfl ?_
        exact g_ireturn C dX10_cost_54 (by rw [show aCost V s o = (-1, V) by unfold aCost; rw [if_neg (by omega), if_pos (by omega)]]; exact ⟨rfl, hM1, hF.scr⟩)
      · refine g_pc (pc' := 39) rfl ?_
        refine g_aload_n C dX10_cost_39 rfl ?_
        refine g_iload_n C dX10_cost_40 rfl ?_
        refine g_iload_n C dX10_cost_41 rfl ?_
        refine g_iconst (z := 1) C dX10_cost_42 rfl ?_
        refine g_iadd C dX10_cost_43 ?_
        refine gc_X10_216 C dX10_cost_44 rfl (c_X10_best hI (Ml M) s1 (s := s.toNat) (o := (o + 1).toNat) (by omega) (by omega) (by omega) (by omega) hcell (by assumption)) (by decide) (Nat.le_of_ble_eq_true rfl) (fun z σ9 ⟨hz, hσ⟩ => ?_)
        subst z
        subst σ9
        refine gc_X10_258 C dX10_cost_47 (c_Jxf58ca_floatToIntBits_5c35a hI (Ml M) s1 (FN.of (PO.fb hTP (by assumption)))) (by decide) (Nat.le_of_ble_eq_true rfl) (fun z2 σ9 ⟨hz2, hσ⟩ => ?_)
        subst σ9
        refine g_goto (tgt := 54) C dX10_cost_50 (by decide) ?_
        refine g_pc (pc' := 54) rfl ?_
        exact g_ireturn C dX10_cost_54 (by rw [show aCost V s o = (((zK (TT (vW V) s.toNat (o + 1).toNat)).toNat : Int), V) by unfold aCost; rw [if_neg (by omega), if_neg (by assumption)]]; exact ⟨hz2, hM1, hF.scr⟩)
    · refine g_aload_n C dX10_cost_14 rfl ?_
      refine g_bipush (z := (-6)) C dX10_cost_15 rfl ?_
      refine gc_X10_274 C dX10_cost_17 rfl (c_X10_no hI (Ml M) σ (y := 6) (v := (-6)) (by first | rfl | omega) (by decide)) (by decide) (Nat.le_of_ble_eq_true rfl) (fun z σ9 ⟨hz, hσ⟩ => ?_)
      subst z
      subst σ9
      refine g_bipush (z := 10) C dX10_cost_20 rfl ?_
      refine g_isub C dX10_cost_22 ?_
      exact g_ireturn C dX10_cost_23 (by rw [show aCost V s o = rfT 6 V by unfold aCost; (first | rw [if_pos (by omega)] | rw [if_neg (by omega), if_pos (by omega)] | rw [if_neg (by omega), if_neg (by omega)])]; exact ⟨rfl, hM.ref (by omega), YC.ref⟩)

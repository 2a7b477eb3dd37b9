/-! THE MODEL: items, the whole text -/
def mR (n i : Nat) (x : Int) : Nat := n - i + (if x = 0 then 0 else 1)
theorem mR_1 {n i j : Nat} (hj : i ≤ j) (hn : j < n) : mR n (j + 1) 1 < mR n i 1 := by unfold mR; rw [if_neg (by decide)]; omega
theorem mR_0 {n i j : Nat} (hj : i ≤ j) : mR n j 0 < mR n i 1 := by unfold mR; rw [if_pos rfl, if_neg (by decide)]; omega
set_option maxHeartbeats 4000000 in
set_option maxRecDepth 100000 in
theorem c_X10_readsItem {κ : Kp} (hI : Ij κ) (l : Launch) (σ : St) {w : Wv} (hM : MW σ w) {x n : Nat} {f : Nat → Int} (hS : SHx σ x f n) {i : Nat} {L : List (Nat → Nat)} {r : Rd} (hr : σ.1 105 51 = (i : Int)) (hT : TLk σ L (rp r) 0 0 0 0 0) (hI0 : TI w L r) (hA : At w f n r i) (hst0 : rst r = 0) : CtI κ l 4 yX10_readsItem cX10_readsItem 3 .boolean [.ref (κ.2.1 105)] σ (fun z σ' => Fm SRd TRd σ σ' ∧ ((z = 0 ∧ ∃ j : Nat, FT w f n j ∧ σ'.1 105 51 = (j : Int) ∧ j ≤ n) ∨ (z = 1 ∧ ∃ (t : Nat) (r1 : Rd) (i1 : Nat) (L1 : List (Nat → Nat)), σ'.1 105 51 = (i1 : Int) ∧ i ≤ i1 ∧ TLk σ' L1 (rp (endR r1)) 0 0 0 0 0 ∧ TI w L1 (endR r1) ∧ ES w f n t r1 i1 ∧ rit r1 = rit r ∧ ¬ (i1 < n ∧ f i1 = 47)))) := by
  refine Ct.ofG (own := RX10) hI (by decide +kernel) rfl (Nat.le_of_ble_eq_true rfl) rfl ?_
  intro M C hMl
  have hin := hA.1
  have hn160 := hS.2.2.1
  refine g_aload_n C dX10_readsItem_0 rfl ?_
  refine g_bipush (z := 116) C dX10_readsItem_1 rfl ?_
  refine gc_X10_354 C dX10_readsItem_3 rfl (c_X10_reads hI (Ml M) σ hS hr hA.1 (c := 116) (by unfold R32; omega)) (by decide) (Nat.le_of_ble_eq_true rfl) (fun z s1 ⟨hz, hF1, hr1a, hr1b⟩ => ?_)
  subst z
  refine g_ifb_eq (tgt := 23) C dX10_readsItem_6 (by decide) (fun h1 => ?_) (fun h1 => ?_)
  · refine g_iconst (z := 0) C dX10_readsItem_23 rfl ?_
    exact g_zreturn C dX10_readsItem_24 (by omega) ⟨hF1.rd, Or.inl ⟨rfl, i, hA.t_no hst0 (by assumption), hr1b (by assumption), hA.1⟩⟩
  · have hc1 : i < n ∧ f i = 116 := by assumption
    have hA1 := hA.t hst0 hc1
    have hr1 := hr1a hc1
    have hS1 := hS.fm hF1.rd
    refine g_aload_n C dX10_readsItem_9 rfl ?_
    refine g_pc (pc' := 10) rfl ?_
    refine gc_X10_341 C dX10_readsItem_10 rfl (c_X10_sign hI (Ml M) s1 hS1 hr1 (show i + 1 ≤ n by omega)) (by decide) (Nat.le_of_ble_eq_true rfl) (fun z1 σ9 ⟨hz1, hσ⟩ => ?_)
    subst σ9
    have hrz1 : R32 z1 := by rw [hz1]; exact hS1.s _
    refine g_bipush (z := 48) C dX10_readsItem_13 rfl ?_
    refine g_bipush (z := 52) C dX10_readsItem_15 rfl ?_
    refine gc_X10_145 C dX10_readsItem_17 (c_X10_isIn hI (Ml M) s1 (v := z1) (a := 48) (b := 52) (by unfold R32; omega) (by unfold R32; omega) (by unfold R32; omega)) (by decide) (Nat.le_of_ble_eq_true rfl) (fun z σ9 ⟨hz, hσ⟩ => ?_)
    subst z
    subst σ9
    refine g_ifb_ne (tgt := 25) C dX10_readsItem_20 (by decide) (fun h2 => ?_) (fun h2 => ?_)
    · have hdd : i + 1 < n ∧ 48 ≤ f (i + 1) ∧ f (i + 1) ≤ 52 := (sgn_d (by decide)).mp (by rw [← hz1]; assumption)
      have hsz : sgn f n (i + 1) = f (i + 1) := if_pos hdd.1
      have hA2 := hA1.d rfl hdd
      refine g_aload_n C dX10_readsItem_25 rfl ?_
      refine gc_X10_341 C dX10_readsItem_26 rfl (c_X10_sign hI (Ml M) s1 hS1 hr1 (show i + 1 ≤ n by omega)) (by decide) (Nat.le_of_ble_eq_true rfl) (fun z2 σ9 ⟨hz2, hσ⟩ => ?_)
      subst σ9
      have hrz2 : R32 z2 := by rw [hz2]; exact hS1.s _
      refine g_bipush (z := 48) C dX10_readsItem_29 rfl ?_
      refine g_pc (pc' := 31) rfl ?_
      refine g_isub C dX10_readsItem_31 ?_
      obtain ⟨t, hzt⟩ : ∃ t : Nat, z2 - 48 = (t : Int) := ⟨(f (i + 1) - 48).toNat, by omega⟩
      refine g_int (z' := (t : Int)) hzt ?_
      refine g_istore_n (L' := [(1, .int (iZ (t : Int))), (0, .ref (κ.2.1 105))]) C dX10_readsItem_32 rfl (by decide) rfl ?_
      refine g_aload_n C dX10_readsItem_33 rfl ?_
      refine g_dup C dX10_readsItem_34 rfl ?_
      refine gf_X10_335 (z := ((i + 1 : Nat) : Int)) C dX10_readsItem_35 rfl hr1 ?_
      refine g_iconst (z := 1) C dX10_readsItem_38 rfl ?_
      refine g_iadd C dX10_readsItem_39 ?_
      refine gp_X10_335 C dX10_readsItem_40 rfl ?_
      refine g_pc (pc' := 43) rfl ?_
      refine g_aload_n C dX10_readsItem_43 rfl ?_
      refine g_bipush (z := 58) C dX10_readsItem_44 rfl ?_
      refine gc_X10_354 C dX10_readsItem_46 rfl (c_X10_reads hI (Ml M) (sI s1 105 51 (((i + 1 : Nat) : Int) + 1)) (hS1.fm (Fm.rf.t (Or.inl rfl))) (show _ = ((i + 2 : Nat) : Int) by rw [rI_s]; omega) (show i + 2 ≤ n by omega) (c := 58) (by unfold R32; omega)) (by decide) (Nat.le_of_ble_eq_true rfl) (fun z s2 ⟨hz, hF2, hr2a, hr2b⟩ => ?_)
      subst z
      refine g_ifb_ne (tgt := 54) C dX10_readsItem_49 (by decide) (fun h3 => ?_) (fun h3 => ?_)
      · have hc2 : (i + 2) < n ∧ f ((i + 2)) = 58 := by assumption
        have hA3 := hA2.c rfl hc2
        have ht5 : t < 5 := by omega
        refine g_iconst (z := 1) C dX10_readsItem_54 rfl ?_
        refine g_istore_n (L' := [(2, .int (iZ 1)), (1, .int (iZ (t : Int))), (0, .ref (κ.2.1 105))]) C dX10_readsItem_55 rfl (by decide) rfl ?_
        have lp56 : ∀ (fz9 : Nat) (x2 : Int) (rb : Rd) (ib : Nat) (Lb : List (Nat → Nat)) (q : St), (mR n ib x2 < fz9) → ((x2 = 1 ∧ At w f n rb ib ∧ (rst rb = 3 ∧ rcol rb = 0 ∧ rtab rb = t) ∧ TI w Lb rb ∧ TLk q Lb (rp rb) 0 0 0 0 0) ∨ (x2 = 0 ∧ ES w f n t rb ib ∧ TI w Lb (endR rb) ∧ TLk q Lb (rp (endR rb)) 0 0 0 0 0 ∧ ¬ (ib < n ∧ f ib = 47))) → (rit rb = rit r) → (q.1 105 51 = (ib : Int)) → (Fm SRd TRd σ q) → (i ≤ ib ∧ ib ≤ n) → G M κ 3 (En M κ (qI κ (fun z σ' => Fm SRd TRd σ σ' ∧ ((z = 0 ∧ ∃ j : Nat, FT w f n j ∧ σ'.1 105 51 = (j : Int) ∧ j ≤ n) ∨ (z = 1 ∧ ∃ (t : Nat) (r1 : Rd) (i1 : Nat) (L1 : List (Nat → Nat)), σ'.1 105 51 = (i1 : Int) ∧ i ≤ i1 ∧ TLk σ' L1 (rp (endR r1)) 0 0 0 0 0 ∧ TI w L1 (endR r1) ∧ ES w f n t r1 i1 ∧ rit r1 = rit r ∧ ¬ (i1 < n ∧ f i1 = 47)))))) 56 [(0, .ref (κ.2.1 105)), (1, .int (iZ (t : Int))), (2, .int (iZ x2))] [] q := by
          intro fz9
          induction fz9 with
          | zero => intro x2 rb ib Lb q hm0; exact absurd hm0 (Nat.not_lt_zero _)
          | succ fz9 ih56 =>
            intro x2 rb ib Lb q hm56 hx hrit hrq hFq hii
            have hxr : x2 = 1 ∨ x2 = 0 := hx.imp (fun e => e.1) (fun e => e.1)
            have hSq := hS.fm hFq
            have hMq := hM.scr hFq.rsc
            refine g_iload_n C dX10_readsItem_56 rfl ?_
            refine g_if_eq (tgt := 80) C dX10_readsItem_57 (by decide) (by unfold R32; omega) (fun h4 => ?_) (fun h4 => ?_)
            · refine g_pc (pc' := 80) rfl ?_
              refine g_iconst (z := 1) C dX10_readsItem_80 rfl ?_
              exact g_zreturn C dX10_readsItem_81 (by omega) ⟨hFq, Or.inr ⟨rfl, by obtain ⟨-, g1, g2, g3, g4⟩ := hx.resolve_left (fun e => by omega); exact ⟨t, rb, ib, Lb, hrq, hii.1, g3, g2, g1, hrit, g4⟩⟩⟩
            · obtain ⟨hx1, hAq, hr3q, hIq, hTq⟩ := hx.resolve_right (fun e => by omega)
              refine g_aload_n C dX10_readsItem_60 rfl ?_
              refine g_iload_n C dX10_readsItem_61 rfl ?_
              refine gc_X10_357 C dX10_readsItem_62 rfl (c_X10_readsLine hI (Ml M) q hMq hSq hrq hTq hIq hAq hr3q ht5 rfl) (by decide) (Nat.le_of_ble_eq_true rfl) (fun zl s3 ⟨hFl, hPl⟩ => ?_)
              have hzl : zl = 0 ∨ zl = 1 := hPl.imp (fun e => e.1) (fun e => e.1)
              refine g_if_ne (tgt := 70) C dX10_readsItem_65 (by decide) (by unfold R32; omega) (fun h5 => ?_) (fun h5 => ?_)
              · obtain ⟨-, r1, i1, L1, hrl, hle, hTl1, hI1, hE1, hrit1⟩ := hPl.resolve_left (fun e => by omega)
                refine g_aload_n C dX10_readsItem_70 rfl ?_
                refine g_bipush (z := 47) C dX10_readsItem_71 rfl ?_
                refine g_pc (pc' := 73) rfl ?_
                refine gc_X10_354 C dX10_readsItem_73 rfl (c_X10_reads hI (Ml M) s3 (hSq.fm hFl) hrl hE1.1.1 (c := 47) (by unfold R32; omega)) (by decide) (Nat.le_of_ble_eq_true rfl) (fun z s4 ⟨hz, hF4, hr4a, hr4b⟩ => ?_)
                subst z
                refine g_istore_n (L' := [(2, .int (iZ (bZ (i1 < n ∧ f i1 = 47)))), (0, .ref (κ.2.1 105)), (1, .int (iZ (t : Int)))]) C dX10_readsItem_76 rfl (by decide) rfl ?_
                obtain ⟨r6, i6, hx6, hrit6, hr6, hii6, hm6⟩ : ∃ (r6 : Rd) (i6 : Nat), (((bZ (i1 < n ∧ f i1 = 47)) = 1 ∧ At w f n r6 i6 ∧ (rst r6 = 3 ∧ rcol r6 = 0 ∧ rtab r6 = t) ∧ TI w L1 r6 ∧ TLk s4 L1 (rp r6) 0 0 0 0 0) ∨ ((bZ (i1 < n ∧ f i1 = 47)) = 0 ∧ ES w f n t r6 i6 ∧ TI w L1 (endR r6) ∧ TLk s4 L1 (rp (endR r6)) 0 0 0 0 0 ∧ ¬ (i6 < n ∧ f i6 = 47))) ∧ rit r6 = rit r ∧ s4.1 105 51 = (i6 : Int) ∧ (i ≤ i6 ∧ i6 ≤ n) ∧ mR n i6 (bZ (i1 < n ∧ f i1 = 47)) < mR n ib 1 := by
                  by_cases hP : i1 < n ∧ f i1 = 47
                  · refine ⟨rset (rset (endR r1) 2 0) 0 3, i1 + 1, Or.inl ⟨bZ_t hP, hE1.sl hP, ⟨rfl, rfl, hE1.2.2.1⟩, hI1, hTl1.fm hF4⟩, hrit1.trans hrit, hr4a hP, ⟨by omega, by omega⟩, ?_⟩; rw [bZ_t hP]; exact mR_1 hle hP.1
                  · refine ⟨r1, i1, Or.inr ⟨bZ_f hP, hE1, hI1, hTl1.fm hF4, hP⟩, hrit1.trans hrit, hr4b hP, ⟨by omega, hE1.1.1⟩, ?_⟩; rw [bZ_f hP]; exact mR_0 hle
                refine g_goto (tgt := 56) C dX10_readsItem_77 (by decide) ?_
                exact g_loc [1, 2, 0] (by rfl) (ih56 (bZ (i1 < n ∧ f i1 = 47)) r6 i6 L1 s4 (Nat.lt_of_lt_of_le hm6 (Nat.le_of_lt_succ (by rw [← hx1]; exact hm56))) hx6 hrit6 hr6 ((hFq.tr hFl).tr hF4.rd) hii6)
              · refine g_iconst (z := 0) C dX10_readsItem_68 rfl ?_
                exact g_zreturn C dX10_readsItem_69 (by omega) ⟨hFq.tr hFl, Or.inl (by obtain ⟨-, e⟩ := hPl.resolve_right (fun e => by omega); exact ⟨rfl, e⟩)⟩
        exact g_loc [2, 1, 0] (by rfl) (lp56 _ 1 (rset (rset (rset (rset (rset r 0 1) 1 (f (i + 1) - 48).toNat) 0 2) 2 0) 0 3) (i + 3) L s2 (Nat.lt_succ_self _) (Or.inl ⟨rfl, hA3, ⟨rfl, rfl, by show (f (i + 1) - 48).toNat = t; omega⟩, hI0, hT.fm ((hF1.t rfl).tr hF2)⟩) rfl (hr2a hc2) (((hF1.t rfl).tr hF2).rd) ⟨by omega, by omega⟩)
      · refine g_iconst (z := 0) C dX10_readsItem_52 rfl ?_
        exact g_zreturn C dX10_readsItem_53 (by omega) ⟨((hF1.t rfl).tr hF2).rd, Or.inl ⟨rfl, i + 2, hA2.c_no rfl (by assumption), hr2b (by assumption), by omega⟩⟩
    · refine g_iconst (z := 0) C dX10_readsItem_23 rfl ?_
      refine g_pc (pc' := 24) rfl ?_
      exact g_zreturn C dX10_readsItem_24 (by omega) ⟨hF1.rd, Or.inl ⟨rfl, i + 1, hA1.d_no rfl (fun e => absurd ((sgn_d (by decide)).mpr e) (by rw [← hz1]; assumption)), hr1, by omega⟩⟩
set_option maxHeartbeats 4000000 in
set_option maxRecDepth 100000 in
theorem c_X10_readsAll {κ : Kp} (hI : Ij κ) (l : Launch) (σ : St) {w : Wv} (hM : MW σ w) {x n : Nat} {f : Nat → Int} (hS : SHx σ x f n) (hW : OKW w) : CtI κ l 5 yX10_readsAll cX10_readsAll 3 .int [.ref (κ.2.1 105)] σ (fun z σ' => Fm SRd TRd σ σ' ∧ ((z = -1 ∧ ∃ j : Nat, FT w f n j ∧ σ'.1 105 51 = (j : Int) ∧ j ≤ n) ∨ (∃ (r1 : Rd) (L1 : List (Nat → Nat)), z = (rit r1 : Int) ∧ rit r1 ≤ 161 ∧ rtext w f n = .inr r1 ∧ TI w L1 r1 ∧ TLk σ' L1 (rp r1) 0 0 0 0 0))) := by
  refine Ct.ofG (own := RX10) hI (by decide +kernel) rfl (Nat.le_of_ble_eq_true rfl) rfl ?_
  intro M C hMl
  refine g_aload_n C dX10_readsAll_0 rfl ?_
  refine g_iconst (z := 0) C dX10_readsAll_1 rfl ?_
  refine gp_X10_335 C dX10_readsAll_2 rfl ?_
  refine g_aload_n C dX10_readsAll_5 rfl ?_
  refine g_iconst (z := 0) C dX10_readsAll_6 rfl ?_
  refine gp_X10_348 C dX10_readsAll_7 rfl ?_
  refine g_iconst (z := 0) C dX10_readsAll_10 rfl ?_
  refine g_pc (pc' := 11) rfl ?_
  refine g_istore_n (L' := [(1, .int (iZ 0)), (0, .ref (κ.2.1 105))]) C dX10_readsAll_11 rfl (by decide) rfl ?_
  have lp12 : ∀ (fz9 : Nat) (t : Nat) (x1 : Int) (q : St), (5 - t < fz9) → (x1 = (t : Int)) → (t ≤ 5) → (Fm SRd TRd σ q) → (q.1 105 51 = 0) → (q.1 105 53 = 0) → (∀ u, u < t → q.1 156 u = 0) → G M κ 3 (En M κ (qI κ (fun z σ' => Fm SRd TRd σ σ' ∧ ((z = -1 ∧ ∃ j : Nat, FT w f n j ∧ σ'.1 105 51 = (j : Int) ∧ j ≤ n) ∨ (∃ (r1 : Rd) (L1 : List (Nat → Nat)), z = (rit r1 : Int) ∧ rit r1 ≤ 161 ∧ rtext w f n = .inr r1 ∧ TI w L1 r1 ∧ TLk σ' L1 (rp r1) 0 0 0 0 0))))) 12 [(0, .ref (κ.2.1 105)), (1, .int (iZ x1))] [] q := by
    intro fz9
    induction fz9 with
    | zero => intro t x1 q hm0; exact absurd hm0 (Nat.not_lt_zero _)
    | succ fz9 ih12 =>
      intro t x1 q hm12 hx1 ht5 hF hq51 hq53 hqz
      refine g_iload_n C dX10_readsAll_12 rfl ?_
      refine g_iconst (z := 5) C dX10_readsAll_13 rfl ?_
      refine g_icmp_ge (tgt := 30) C dX10_readsAll_14 (by decide) (by unfold R32; omega) (fun h1 => ?_) (fun h1 => ?_)
      · refine g_iconst (z := 0) C dX10_readsAll_30 rfl ?_
        refine g_istore_n (L' := [(1, .int (iZ 0)), (0, .ref (κ.2.1 105))]) C dX10_readsAll_31 rfl (by decide) rfl ?_
        refine g_iconst (z := 1) C dX10_readsAll_32 rfl ?_
        refine g_istore_n (L' := [(2, .int (iZ 1)), (1, .int (iZ 0)), (0, .ref (κ.2.1 105))]) C dX10_readsAll_33 rfl (by decide) rfl ?_
        have lp34 : ∀ (fz9 : Nat) (x1 : Int) (x2 : Int) (rb : Rd) (ib : Nat) (Lb : List (Nat → Nat)) (q2 : St), (mR n ib x2 < fz9) → ((x2 = 1 ∧ At w f n rb ib ∧ rst rb = 0 ∧ TI w Lb rb ∧ TLk q2 Lb (rp rb) 0 0 0 0 0 ∧ x1 = (rit rb : Int)) ∨ (x2 = 0 ∧ (∃ t, ES w f n t rb ib) ∧ TI w Lb (endR rb) ∧ TLk q2 Lb (rp (endR rb)) 0 0 0 0 0 ∧ (¬ (ib < n ∧ f ib = 47) ∧ ¬ (ib < n ∧ f ib = 59)) ∧ x1 = (rit rb : Int) + 1)) → (q2.1 105 51 = (ib : Int)) → (Fm SRd TRd σ q2) → (ib ≤ n) → G M κ 3 (En M κ (qI κ (fun z σ' => Fm SRd TRd σ σ' ∧ ((z = -1 ∧ ∃ j : Nat, FT w f n j ∧ σ'.1 105 51 = (j : Int) ∧ j ≤ n) ∨ (∃ (r1 : Rd) (L1 : List (Nat → Nat)), z = (rit r1 : Int) ∧ rit r1 ≤ 161 ∧ rtext w f n = .inr r1 ∧ TI w L1 r1 ∧ TLk σ' L1 (rp r1) 0 0 0 0 0))))) 34 [(0, .ref (κ.2.1 105)), (1, .int (iZ x1)), (2, .int (iZ x2))] [] q2 := by
          intro fz9
          induction fz9 with
          | zero => intro x1 x2 rb ib Lb q2 hm0; exact absurd hm0 (Nat.not_lt_zero _)
          | succ fz9 ih34 =>
            intro x1 x2 rb ib Lb q2 hm34 hx hrq hFq hin
            have hxr : x2 = 1 ∨ x2 = 0 := hx.imp (fun e => e.1) (fun e => e.1)
            have hSq := hS.fm hFq
            have hMq := hM.scr hFq.rsc
            have hn160 := hS.2.2.1
            have hx8 := hS.2.1
            refine g_pc (pc' := 34) rfl ?_
            refine g_iload_n C dX10_readsAll_34 rfl ?_
            refine g_if_eq (tgt := 60) C dX10_readsAll_35 (by decide) (by unfold R32; omega) (fun h2 => ?_) (fun h2 => ?_)
            · refine g_aload_n C dX10_readsAll_60 rfl ?_
              refine gf_X10_335 (z := (ib : Int)) C dX10_readsAll_61 rfl hrq ?_
              refine g_aload_n C dX10_readsAll_64 rfl ?_
              refine gf_X10_104 C dX10_readsAll_65 rfl ?_
              refine g_aload_n C dX10_readsAll_68 rfl ?_
              refine gf_X10_338 (z := (x : Int)) C dX10_readsAll_69 rfl hSq.1 ?_
              refine g_pc (pc' := 72) rfl ?_
              refine g_iaz (n := x) (N := 8) (v := (n : Int)) C dX10_readsAll_72 rfl rfl (by omega) (by omega) (by decide) hSq.2.2.2.1 ?_
              refine g_icmp_ne (tgt := 80) C dX10_readsAll_73 (by decide) (by unfold R32; omega) (fun h3 => ?_) (fun h3 => ?_)
              · refine g_iconst (z := (-1)) C dX10_readsAll_80 rfl ?_
                exact g_ireturn C dX10_readsAll_81 ⟨hFq, Or.inl (by obtain ⟨-, ⟨tt, g1⟩, g2, g3, ⟨g4, g5⟩, g6⟩ := hx.resolve_left (fun e => by omega); exact ⟨rfl, ib, g1.no g4 g5 (by omega), hrq, hin⟩)⟩
              · refine g_iload_n C dX10_readsAll_76 rfl ?_
                refine g_goto (tgt := 81) C dX10_readsAll_77 (by decide) ?_
                exact g_ireturn C dX10_readsAll_81 ⟨hFq, Or.inr (by obtain ⟨-, ⟨tt, g1⟩, g2, g3, ⟨g4, g5⟩, g6⟩ := hx.resolve_left (fun e => by omega); obtain rfl : ib = n := (by omega); exact ⟨rset (endR rb) 4 (rit rb + 1), Lb, g6, by have := g1.1.2.1; show rit rb + 1 ≤ 161; omega, g1.1.ok ⟨g1.2.1.1, g1.2.2.2⟩, g2, g3⟩)⟩
            · obtain ⟨hxe, hAq, hst0, hIq, hTq, hx1e⟩ := hx.resolve_right (fun e => by omega)
              refine g_aload_n C dX10_readsAll_38 rfl ?_
              refine g_pc (pc' := 39) rfl ?_
              refine gc_X10_360 C dX10_readsAll_39 rfl (c_X10_readsItem hI (Ml M) q2 hMq hSq hrq hTq hIq hAq hst0) (by decide) (Nat.le_of_ble_eq_true rfl) (fun zi s3 ⟨hFi, hPi⟩ => ?_)
              have hzi : zi = 0 ∨ zi = 1 := hPi.imp (fun e => e.1) (fun e => e.1)
              refine g_if_ne (tgt := 47) C dX10_readsAll_42 (by decide) (by unfold R32; omega) (fun h4 => ?_) (fun h4 => ?_)
              · obtain ⟨-, tt, r1, i1, L1, hrl, hle, hTl1, hI1, hE1, hrit1, hn47⟩ := hPi.resolve_left (fun e => by omega)
                refine g_iinc (q := 1) (v := (x1 + 1)) (L' := [(1, .int (iZ (x1 + 1))), (0, .ref (κ.2.1 105)), (2, .int (iZ x2))]) C dX10_readsAll_47 rfl rfl (by decide) rfl ?_
                refine g_aload_n C dX10_readsAll_50 rfl ?_
                refine g_bipush (z := 59) C dX10_readsAll_51 rfl ?_
                refine gc_X10_354 C dX10_readsAll_53 rfl (c_X10_reads hI (Ml M) s3 (hSq.fm hFi) hrl hE1.1.1 (c := 59) (by unfold R32; omega)) (by decide) (Nat.le_of_ble_eq_true rfl) (fun z s4 ⟨hz, hF4, hr4a, hr4b⟩ => ?_)
                subst z
                refine g_istore_n (L' := [(2, .int (iZ (bZ (i1 < n ∧ f i1 = 59)))), (1, .int (iZ (x1 + 1))), (0, .ref (κ.2.1 105))]) C dX10_readsAll_56 rfl (by decide) rfl ?_
                obtain ⟨r6, i6, hx6, hr6, hii6, hm6⟩ : ∃ (r6 : Rd) (i6 : Nat), (((bZ (i1 < n ∧ f i1 = 59)) = 1 ∧ At w f n r6 i6 ∧ rst r6 = 0 ∧ TI w L1 r6 ∧ TLk s4 L1 (rp r6) 0 0 0 0 0 ∧ (x1 + 1) = (rit r6 : Int)) ∨ ((bZ (i1 < n ∧ f i1 = 59)) = 0 ∧ (∃ t, ES w f n t r6 i6) ∧ TI w L1 (endR r6) ∧ TLk s4 L1 (rp (endR r6)) 0 0 0 0 0 ∧ (¬ (i6 < n ∧ f i6 = 47) ∧ ¬ (i6 < n ∧ f i6 = 59)) ∧ (x1 + 1) = (rit r6 : Int) + 1)) ∧ s4.1 105 51 = (i6 : Int) ∧ i6 ≤ n ∧ mR n i6 (bZ (i1 < n ∧ f i1 = 59)) < mR n ib 1 := by
                  by_cases hP : i1 < n ∧ f i1 = 59
                  · refine ⟨rset (rset (endR r1) 4 (rit r1 + 1)) 0 0, i1 + 1, Or.inl ⟨bZ_t hP, hE1.se hP, rfl, hI1, hTl1.fm hF4, by show x1 + 1 = ((rit r1 + 1 : Nat) : Int); omega⟩, hr4a hP, by omega, ?_⟩; rw [bZ_t hP]; exact mR_1 hle hP.1
                  · refine ⟨r1, i1, Or.inr ⟨bZ_f hP, ⟨tt, hE1⟩, hI1, hTl1.fm hF4, ⟨hn47, hP⟩, by omega⟩, hr4b hP, hE1.1.1, ?_⟩; rw [bZ_f hP]; exact mR_0 hle
                refine g_goto (tgt := 34) C dX10_readsAll_57 (by decide) ?_
                exact g_loc [2, 1, 0] (by rfl) (ih34 (x1 + 1) (bZ (i1 < n ∧ f i1 = 59)) r6 i6 L1 s4 (Nat.lt_of_lt_of_le hm6 (Nat.le_of_lt_succ (by rw [← hxe]; exact hm34))) hx6 hr6 ((hFq.tr hFi).tr hF4.rd) hii6)
              · refine g_pc (pc' := 45) rfl ?_
                refine g_iconst (z := (-1)) C dX10_readsAll_45 rfl ?_
                exact g_ireturn C dX10_readsAll_46 ⟨hFq.tr hFi, Or.inl (by obtain ⟨-, e⟩ := hPi.resolve_right (fun e => by omega); exact ⟨rfl, e⟩)⟩
        exact g_loc [2, 1, 0] (by rfl) (lp34 _ 0 1 rd0 0 [] q (Nat.lt_succ_self _) (Or.inl ⟨rfl, ⟨Nat.zero_le _, Nat.le_refl _, rfl⟩, rfl, TI.st hW, ⟨hq53, fun u hu => absurd hu (Nat.not_lt_zero u), fun u hu => hqz u (by omega), fun e => absurd e (by decide), fun e => absurd e (by decide), fun e => absurd e (by decide), fun e => absurd e (by decide)⟩, rfl⟩) hq51 hF (Nat.zero_le _))
      · refine g_aload_n C dX10_readsAll_17 rfl ?_
        refine gf_X10_132 C dX10_readsAll_18 rfl ?_
        refine g_iload_n C dX10_readsAll_21 rfl ?_
        refine g_iconst (z := 0) C dX10_readsAll_22 rfl ?_
        refine g_iast (n := t) (N := 5) C dX10_readsAll_23 rfl rfl (by omega) (by omega) (by decide) ?_
        refine g_iinc (q := 1) (v := (x1 + 1)) (L' := [(1, .int (iZ (x1 + 1))), (0, .ref (κ.2.1 105))]) C dX10_readsAll_24 rfl rfl (by decide) rfl ?_
        refine g_pc (pc' := 27) rfl ?_
        refine g_goto (tgt := 12) C dX10_readsAll_27 (by decide) ?_
        exact g_loc [1, 0] (by rfl) (ih12 (t + 1) (x1 + 1) (sI q 156 t 0) (by omega) (by omega) (by omega) (hF.a (by decide) (by unfold SRd; omega)) ((rI_k (by decide)).trans hq51) ((rI_k (by decide)).trans hq53) (fun u hu => by rcases Nat.lt_or_ge u t with k | k; (rw [rI_j (by omega)]; exact hqz u k); (rw [show u = t by omega, rI_s])))
  exact g_loc [1, 0] (by rfl) (lp12 _ 0 0 (sI (sI σ 105 51 0) 105 53 0) (Nat.lt_succ_self _) rfl (Nat.zero_le _) ((Fm.rf.t (Or.inl rfl)).t (Or.inr rfl)) ((rI_j (by decide)).trans rI_s) rI_s (fun u hu => absurd hu (Nat.not_lt_zero u)))

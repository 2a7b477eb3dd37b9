/-! MATCHES: the rows from a step on -/
theorem dropL {L : List Nat} {s : Nat} (h : s < L.length) : L.drop s = gL L s :: L.drop (s + 1) := by
  rw [List.drop_eq_getElem_cons h]
  unfold gL
  rw [List.getElem?_eq_getElem h]
  rfl
theorem gL_drop {L : List Nat} {s j : Nat} (hs : s ≤ j) (hj : j < L.length) : gL L j ∈ L.drop s := by
  refine List.mem_iff_getElem?.mpr ⟨j - s, ?_⟩
  rw [List.getElem?_drop, show s + (j - s) = j by omega]
  unfold gL
  rw [List.getElem?_eq_getElem hj]
  rfl
def sN1 (par : Nat → Nat → Nat → Nat → Bool) (L : List Nat) (s : Nat) (F : Nat → Nat → Bool) (i : Nat) : Nat := if F (gL L s) i = true then cN par (L.drop (s + 1)) (nF par (gL L s) i F) else 0
theorem cN_s {par : Nat → Nat → Nat → Nat → Bool} {L : List Nat} {s : Nat} {F : Nat → Nat → Bool} (h : s < L.length) : cN par (L.drop s) F = nsum 16 (sN1 par L s F) := by
  rw [dropL h]; rfl
theorem sN1_le {par : Nat → Nat → Nat → Nat → Bool} {L : List Nat} {s : Nat} {F : Nat → Nat → Bool} (hs : 1 ≤ s) (hl : L.length ≤ 5) (i : Nat) : sN1 par L s F i ≤ 4096 := by
  unfold sN1
  split
  · refine Nat.le_trans cN_le ?_
    refine Nat.le_trans (Nat.pow_le_pow_right (by decide) (show (L.drop (s + 1)).length ≤ 3 by rw [List.length_drop]; omega)) (by decide)
  · exact Nat.zero_le _
theorem sN1_sum {par : Nat → Nat → Nat → Nat → Bool} {L : List Nat} {s : Nat} {F : Nat → Nat → Bool} (hs : 1 ≤ s) (hl : L.length ≤ 5) (i : Nat) : nsum i (sN1 par L s F) ≤ i * 4096 := nsum_le (fun j _ => sN1_le hs hl j)
theorem low.rf {s : Nat} {σ : St} : low s σ σ := fun _ _ => rfl
theorem low.tr {s : Nat} {σ τ ρ : St} (h : low s σ τ) (h' : low s τ ρ) : low s σ ρ := fun q hq => (h' q hq).trans (h q hq)
theorem low.mono {s s' : Nat} {σ τ : St} (h : low s' σ τ) (hs : s ≤ s') : low s σ τ := fun q hq => h q (by omega)
theorem cN_last {par : Nat → Nat → Nat → Nat → Bool} {L : List Nat} {s m : Nat} {F : Nat → Nat → Bool} (h : s + 1 = L.length) (hm : MK m (F (gL L s))) : cN par (L.drop s) F = tbN m := by
  rw [cN_s (by omega)]
  unfold tbN
  refine nsum_cong (fun i hi => ?_)
  unfold sN1
  rw [hm.2 i hi, List.drop_eq_nil_of_le (show L.length ≤ s + 1 by omega)]
  rfl
theorem sN1_dead {par : Nat → Nat → Nat → Nat → Bool} {pm : Nat → Nat → Nat → Nat} {L : List Nat} {s i : Nat} {mf : Nat → Nat} {F : Nat → Nat → Bool} (hK : FKs L s mf F) (hL : LOK L) (hs : s < L.length) (hi : i < 16) (hA : PA pm par) (h : ∃ j, s < j ∧ j < L.length ∧ nM pm (gL L s) i mf (gL L j) = 0) : sN1 par L s F i = 0 := by
  obtain ⟨j, h1, h2, h3⟩ := h
  unfold sN1
  split
  · exact cN_dead (gL_drop (by omega) h2) (fun k hk => ((hK.n hL hs hi hA) j (by omega) h2).zero.mp h3 k hk)
  · rfl
def RF (σ : St) (L : List Nat) (s : Nat) (par : Nat → Nat → Nat → Nat → Bool) (F : Nat → Nat → Bool) (z : Int) (σ' : St) : Prop := z = (cN par (L.drop s) F : Int) ∧ Fr NC σ σ' ∧ low s σ σ'
set_option maxHeartbeats 4000000 in
set_option maxRecDepth 100000 in
theorem rowsFrom_s {κ : Kp} (hI : Ij κ) (l : Launch) (σ : St) {L : List Nat} (hL : LOK L) {pm : Nat → Nat → Nat → Nat} {par : Nat → Nat → Nat → Nat → Bool} (hA : PA pm par) {s : Nat} (hM : MS σ L) (hP : PS σ pm) {zs : Int} (hzs : zs = (s : Int)) (hs1 : 1 ≤ s) (hs : s ≤ L.length) {mf : Nat → Nat} {F : Nat → Nat → Bool} (hR : FR σ L s mf) (hK : FKs L s mf F) {d k : Nat} (hd : 1 ≤ d) (hih : ∀ (σ : St) {s : Nat} {zs : Int} {mf : Nat → Nat} {F : Nat → Nat → Bool}, MS σ L → PS σ pm → zs = (s : Int) → 1 ≤ s → s ≤ L.length → FR σ L s mf → FKs L s mf F → L.length - s < k → CtI κ l d yX1_rowsFrom cX1_rowsFrom 5 .int [.ref (κ.2.1 98), .int (iZ zs)] σ (RF σ L s par F)) (hk : L.length - s ≤ k) : CtI κ l (d + 1) yX1_rowsFrom cX1_rowsFrom 5 .int [.ref (κ.2.1 98), .int (iZ zs)] σ (RF σ L s par F) := by
  refine Ct.ofG (own := RX1) hI (by decide +kernel) rfl (Nat.le_of_ble_eq_true rfl) rfl ?_
  intro M C hMl
  subst hMl
  have hl5 := hL.1
  refine g_iload_n C dX1_rowsFrom_0 rfl ?_
  refine g_aload_n C dX1_rowsFrom_1 rfl ?_
  refine gf_X1_15 (z := (L.length : Int)) C dX1_rowsFrom_2 rfl hM.1 ?_
  refine g_icmp_lt (tgt := 10) C dX1_rowsFrom_5 (by decide) (by unfold R32; omega) (fun h1 => ?_) (fun h1 => ?_)
  · have hsL : s < L.length := by omega
    have hgs := hL.2 s hsL
    have hms := hK s (Nat.le_refl _) hsL
    have hms1 := hms.1
    refine g_aload_n C dX1_rowsFrom_10 rfl ?_
    refine gf_X1_19 C dX1_rowsFrom_11 rfl ?_
    refine g_iload_n C dX1_rowsFrom_14 rfl ?_
    refine g_pc (pc' := 15) rfl ?_
    refine g_iconst (z := 5) C dX1_rowsFrom_15 rfl ?_
    refine g_imul C dX1_rowsFrom_16 ?_
    refine g_aload_n C dX1_rowsFrom_17 rfl ?_
    refine gf_X1_9 C dX1_rowsFrom_18 rfl ?_
    refine g_iload_n C dX1_rowsFrom_21 rfl ?_
    refine g_iaz (n := s) (N := 5) (v := (gL L s : Int)) C dX1_rowsFrom_22 rfl rfl (by omega) (by omega) (by decide) (hM.2 s (by omega)) ?_
    refine g_iadd C dX1_rowsFrom_23 ?_
    refine g_iaz (n := ((s * 5) + (gL L s))) (N := 25) (v := (mf (gL L s) : Int)) C dX1_rowsFrom_24 rfl rfl (by omega) (by omega) (by decide) (hR s (Nat.le_refl _) hsL) ?_
    refine g_pc (pc' := 25) rfl ?_
    refine g_istore_n (L' := [(2, .int (iZ (mf (gL L s) : Int))), (0, .ref (κ.2.1 98)), (1, .int (iZ zs))]) C dX1_rowsFrom_25 rfl (by decide) rfl ?_
    refine g_iload_n C dX1_rowsFrom_26 rfl ?_
    refine g_aload_n C dX1_rowsFrom_27 rfl ?_
    refine gf_X1_15 (z := (L.length : Int)) C dX1_rowsFrom_28 rfl hM.1 ?_
    refine g_iconst (z := 1) C dX1_rowsFrom_31 rfl ?_
    refine g_isub C dX1_rowsFrom_32 ?_
    refine g_icmp_ne (tgt := 41) C dX1_rowsFrom_33 (by decide) (by unfold R32; omega) (fun h2 => ?_) (fun h2 => ?_)
    · refine g_iconst (z := 0) C dX1_rowsFrom_41 rfl ?_
      refine g_pc (pc' := 42) rfl ?_
      refine g_istore_n (L' := [(3, .int (iZ 0)), (2, .int (iZ (mf (gL L s) : Int))), (0, .ref (κ.2.1 98)), (1, .int (iZ zs))]) C dX1_rowsFrom_42 rfl (by decide) rfl ?_
      refine g_iconst (z := 0) C dX1_rowsFrom_43 rfl ?_
      refine g_istore (L' := [(4, .int (iZ 0)), (3, .int (iZ 0)), (2, .int (iZ (mf (gL L s) : Int))), (0, .ref (κ.2.1 98)), (1, .int (iZ zs))]) C dX1_rowsFrom_44 (by decide) rfl ?_
      have lp46 : ∀ (fz9 : Nat) (i : Nat) (x3 : Int) (x4 : Int) (q : St), (16 - i < fz9) → (x3 = ((nsum i (sN1 par L s F)) : Int)) → (x4 = (i : Int)) → (i ≤ 16) → (Fr NC σ q) → (low s σ q) → G M κ 5 (En M κ (qI κ (RF σ L s par F))) 46 [(0, .ref (κ.2.1 98)), (1, .int (iZ zs)), (2, .int (iZ (mf (gL L s) : Int))), (3, .int (iZ x3)), (4, .int (iZ x4))] [] q := by
        intro fz9
        induction fz9 with
        | zero => intro i x3 x4 q hm0; exact absurd hm0 (Nat.not_lt_zero _)
        | succ fz9 ih46 =>
          intro i x3 x4 q hm46 hx3 hx4 hi hF hl
          have hMq := hM.fr hF (by unfold NC; omega) (by unfold NC; omega)
          have hPq := hP.fr hF (by unfold NC; omega)
          have hRq := hR.low hL hl
          have hb := sN1_sum (par := par) (F := F) hs1 hl5 i
          have hbs : nsum (i + 1) (sN1 par L s F) = nsum i (sN1 par L s F) + sN1 par L s F i := rfl
          refine g_iload C dX1_rowsFrom_46 rfl ?_
          refine g_bipush (z := 16) C dX1_rowsFrom_48 rfl ?_
          refine g_icmp_ge (tgt := 95) C dX1_rowsFrom_50 (by decide) (by unfold R32; omega) (fun h3 => ?_) (fun h3 => ?_)
          · refine g_iload_n C dX1_rowsFrom_95 rfl ?_
            exact g_ireturn C dX1_rowsFrom_96 ⟨by rw [hx3, cN_s hsL, show i = 16 by omega], hF, hl⟩
          · refine g_pc (pc' := 53) rfl ?_
            refine g_iload_n C dX1_rowsFrom_53 rfl ?_
            refine g_ldc (z := 100000) C dX1_rowsFrom_54 wq_569 ?_
            refine g_icmp_gt (tgt := 95) C dX1_rowsFrom_56 (by decide) (by unfold R32; omega) (fun h4 => ?_) (fun h4 => ?_)
            · refine g_iload_n C dX1_rowsFrom_95 rfl ?_
              exact g_ireturn C dX1_rowsFrom_96 ⟨by rw [hx3, cN_s hsL, show i = 16 by omega], hF, hl⟩
            · refine g_iload_n C dX1_rowsFrom_59 rfl ?_
              refine g_iload C dX1_rowsFrom_60 rfl ?_
              refine g_ishr C dX1_rowsFrom_62 ?_
              refine g_pc (pc' := 63) rfl ?_
              refine g_iconst (z := 1) C dX1_rowsFrom_63 rfl ?_
              refine g_iand C dX1_rowsFrom_64 ?_
              refine g_raw (bit_raw (s := mf (gL L s)) (t := i) rfl hx4 (by omega) (by omega)) ?_
              have hb01 := bitv_01 (mf (gL L s)) i
              refine g_iconst (z := 1) C dX1_rowsFrom_65 rfl ?_
              refine g_icmp_ne (tgt := 89) C dX1_rowsFrom_66 (by decide) (by unfold R32; omega) (fun h5 => ?_) (fun h5 => ?_)
              · have hFi : F (gL L s) i = false := by rw [← hms.2 i (by omega), tb_bitv]; exact decide_eq_false (by omega)
                have h0 : sN1 par L s F i = 0 := by unfold sN1; rw [hFi]; rfl
                refine g_iinc (q := 4) (v := (x4 + 1)) (L' := [(4, .int (iZ (x4 + 1))), (0, .ref (κ.2.1 98)), (1, .int (iZ zs)), (2, .int (iZ (mf (gL L s) : Int))), (3, .int (iZ x3))]) C dX1_rowsFrom_89 rfl rfl (by decide) rfl ?_
                refine g_goto (tgt := 46) C dX1_rowsFrom_92 (by decide) ?_
                exact g_loc [1, 2, 3, 4, 0] (by rfl) (ih46 (i + 1) x3 (x4 + 1) q (by omega) (by rw [hbs, h0]; omega) (by omega) (by omega) hF hl)
              · have hFi : F (gL L s) i = true := by rw [← hms.2 i (by omega), tb_bitv]; exact decide_eq_true (by omega)
                refine g_aload_n C dX1_rowsFrom_69 rfl ?_
                refine g_iload_n C dX1_rowsFrom_70 rfl ?_
                refine g_pc (pc' := 71) rfl ?_
                refine g_iload C dX1_rowsFrom_71 rfl ?_
                refine gc_X1_44 C dX1_rowsFrom_73 rfl (c_X1_narrow hI (Ml M) q hMq hL hPq hA (s := s) (i := i) hzs hx4 hsL (by omega) hRq hK) (by omega) (Nat.le_of_ble_eq_true rfl) (fun zw σ1 ⟨hF1, hl1, hz1⟩ => ?_)
                refine g_if_eq (tgt := 89) C dX1_rowsFrom_76 (by decide) (by unfold R32; omega) (fun h6 => ?_) (fun h6 => ?_)
                · have h0 : sN1 par L s F i = 0 := by rcases hz1 with hz1 | hz1; exact sN1_dead hK hL hsL (by omega) hA hz1.2; exact absurd hz1.1 (by omega)
                  refine g_iinc (q := 4) (v := (x4 + 1)) (L' := [(4, .int (iZ (x4 + 1))), (0, .ref (κ.2.1 98)), (1, .int (iZ zs)), (2, .int (iZ (mf (gL L s) : Int))), (3, .int (iZ x3))]) C dX1_rowsFrom_89 rfl rfl (by decide) rfl ?_
                  refine g_goto (tgt := 46) C dX1_rowsFrom_92 (by decide) ?_
                  exact g_loc [1, 2, 3, 4, 0] (by rfl) (ih46 (i + 1) x3 (x4 + 1) σ1 (by omega) (by rw [hbs, h0]; omega) (by omega) (by omega) (hF.tr hF1) (hl.tr hl1))
                · refine g_iload_n C dX1_rowsFrom_79 rfl ?_
                  refine g_aload_n C dX1_rowsFrom_80 rfl ?_
                  refine g_iload_n C dX1_rowsFrom_81 rfl ?_
                  refine g_pc (pc' := 82) rfl ?_
                  refine g_iconst (z := 1) C dX1_rowsFrom_82 rfl ?_
                  refine g_iadd C dX1_rowsFrom_83 ?_
                  refine gc_X1_48 C dX1_rowsFrom_84 (hih σ1 (s := s + 1) (zs := (zs + 1)) (mf := nM pm (gL L s) i mf) (F := nF par (gL L s) i F) (hMq.fr hF1 (by unfold NC; omega) (by unfold NC; omega)) (hPq.fr hF1 (by unfold NC; omega)) (by omega) (by omega) (by omega) (by rcases hz1 with hz1 | hz1; exact absurd hz1.1 (by omega); exact hz1.2) (hK.n hL hsL (by omega) hA) (by omega)) (by omega) (Nat.le_of_ble_eq_true rfl) (fun zr σ2 ⟨hz2, hF2, hl2⟩ => ?_)
                  have h0 : sN1 par L s F i = cN par (L.drop (s + 1)) (nF par (gL L s) i F) := by unfold sN1; rw [if_pos hFi]
                  refine g_iadd C dX1_rowsFrom_87 ?_
                  refine g_istore_n (L' := [(3, .int (iZ (x3 + zr))), (0, .ref (κ.2.1 98)), (1, .int (iZ zs)), (2, .int (iZ (mf (gL L s) : Int))), (4, .int (iZ x4))]) C dX1_rowsFrom_88 rfl (by decide) rfl ?_
                  refine g_iinc (q := 4) (v := (x4 + 1)) (L' := [(4, .int (iZ (x4 + 1))), (3, .int (iZ (x3 + zr))), (0, .ref (κ.2.1 98)), (1, .int (iZ zs)), (2, .int (iZ (mf (gL L s) : Int)))]) C dX1_rowsFrom_89 rfl rfl (by decide) rfl ?_
                  refine g_goto (tgt := 46) C dX1_rowsFrom_92 (by decide) ?_
                  exact g_loc [2, 3, 4, 1, 0] (by rfl) (ih46 (i + 1) (x3 + zr) (x4 + 1) σ2 (by omega) (by rw [hbs, h0]; omega) (by omega) (by omega) ((hF.tr hF1).tr hF2) ((hl.tr hl1).tr (hl2.mono (Nat.le_succ _))))
      exact g_loc [3, 4, 2, 1, 0] (by rfl) (lp46 _ 0 0 0 σ (Nat.lt_succ_self _) rfl rfl (by omega) Fr.rf low.rf)
    · refine g_iload_n C dX1_rowsFrom_36 rfl ?_
      refine g_pc (pc' := 37) rfl ?_
      refine gc_X1_108 C dX1_rowsFrom_37 (c_J6_bitCount_0f7a4 hI (Ml M) σ (m := mf (gL L s)) rfl hms1) (by omega) (Nat.le_of_ble_eq_true rfl) (fun z σ1 ⟨hz, hσ⟩ => ?_)
      subst σ1
      exact g_ireturn C dX1_rowsFrom_40 ⟨by rw [hz, cN_last (by omega) hms], Fr.rf, low.rf⟩
  · refine g_iconst (z := 1) C dX1_rowsFrom_8 rfl ?_
    exact g_ireturn C dX1_rowsFrom_9 ⟨by rw [List.drop_eq_nil_of_le (show L.length ≤ s by omega)]; rfl, Fr.rf, low.rf⟩
theorem rowsFrom_k {κ : Kp} (hI : Ij κ) (l : Launch) {L : List Nat} (hL : LOK L) {pm : Nat → Nat → Nat → Nat} {par : Nat → Nat → Nat → Nat → Bool} (hA : PA pm par) : ∀ (k d : Nat) (σ : St) {s : Nat} (hM : MS σ L) (hP : PS σ pm) {zs : Int} (hzs : zs = (s : Int)) (hs1 : 1 ≤ s) (hs : s ≤ L.length) {mf : Nat → Nat} {F : Nat → Nat → Bool} (hR : FR σ L s mf) (hK : FKs L s mf F), L.length - s < k → k ≤ d → CtI κ l (d + 1) yX1_rowsFrom cX1_rowsFrom 5 .int [.ref (κ.2.1 98), .int (iZ zs)] σ (RF σ L s par F)
  | 0, _, _, _, _, _, _, _, _, _, _, _, _, _, h, _ => absurd h (Nat.not_lt_zero _)
  | k + 1, 0, _, _, _, _, _, _, _, _, _, _, _, _, _, h => absurd h (by omega)
  | k + 1, d + 1, σ, s, hM, hP, zs, hzs, hs1, hs, mf, F, hR, hK, h, hd => rowsFrom_s hI l σ hL hA hM hP hzs hs1 hs hR hK (d := d + 1) (k := k) (by omega) (fun σ' s' zs' mf' F' g1 g2 g3 g4 g5 g6 g7 g8 => rowsFrom_k hI l hL hA k d σ' g1 g2 g3 g4 g5 g6 g7 g8 (by omega)) (by omega)
theorem c_X1_rowsFrom {κ : Kp} (hI : Ij κ) (l : Launch) {L : List Nat} (hL : LOK L) {pm : Nat → Nat → Nat → Nat} {par : Nat → Nat → Nat → Nat → Bool} (hA : PA pm par) (σ : St) {s : Nat} (hM : MS σ L) (hP : PS σ pm) {zs : Int} (hzs : zs = (s : Int)) (hs1 : 1 ≤ s) (hs : s ≤ L.length) {mf : Nat → Nat} {F : Nat → Nat → Bool} (hR : FR σ L s mf) (hK : FKs L s mf F) : CtI κ l 7 yX1_rowsFrom cX1_rowsFrom 5 .int [.ref (κ.2.1 98), .int (iZ zs)] σ (RF σ L s par F) := rowsFrom_k hI l hL hA 6 6 σ hM hP hzs hs1 hs hR hK (by have := hL.1; omega) (Nat.le_refl _)

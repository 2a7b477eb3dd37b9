/-! THE MODEL: nodes -/
theorem t_pair {w : Wv} (hW : OKW w) {k : Nat} (hv : tV w k) (h : 1 ≤ zW (tC w k) ∧ zW (tC w k) ≤ 3) : ∃ a b o1 o2 i : Nat, (1 ≤ a ∧ 1 ≤ b ∧ a + b = k / 16 ∧ a &&& (k / 16) = a) ∧ (o1 < 16 ∧ o2 < 16) ∧ (kL w k = some (16 * a + o1) ∧ kR w k = some (16 * b + o2)) ∧ (zL (tC w k) = ((16 * a + o1 : Nat) : Int) ∧ zR (tC w k) = ((16 * b + o2 : Nat) : Int)) ∧ (zJ (tC w k) = (i : Int) ∧ i < wnj w) ∧ zS (tC w k) = 1 + zS (tC w (16 * a + o1)) + zS (tC w (16 * b + o2)) ∧ ((zW (tC w k) = 1 ∧ o1 = 0 ∧ o2 = 0) ∨ (zW (tC w k) = 2 ∧ o1 = k % 16 ∧ o2 = 0) ∨ (zW (tC w k) = 3 ∧ o1 = mO w a i ∧ o2 = mO w b i)) := by
  rcases t_way hW hv with e | e | e
  · omega
  · omega
  · exact e
theorem abt_0 {w : Wv} {k : Nat} (h : zW (tC w k) = 0) : abt (nodD w k) = (leastT (k / 16) : Int) := by
  show (if zW (tC w k) = 0 then (leastT (((k / 16 : Nat) : Int)).toNat : Int) else _) = _
  rw [if_pos h, Int.toNat_natCast]
theorem abt_4 {w : Wv} {k : Nat} (h : zW (tC w k) = 4) : abt (nodD w k) = ((k % 16 : Nat) : Int) - 1 := by
  show (if zW (tC w k) = 0 then _ else if zW (tC w k) = 4 then ((k % 16 : Nat) : Int) - 1 else _) = _
  rw [if_neg (by omega), if_pos h]
theorem abt_x {w : Wv} {k : Nat} (h : zW (tC w k) = 1 ∨ zW (tC w k) = 2) : abt (nodD w k) = -1 := by
  show (if zW (tC w k) = 0 then _ else if zW (tC w k) = 4 then _ else if zW (tC w k) = 3 then _ else (-1 : Int)) = _
  rw [if_neg (by omega), if_neg (by omega), if_neg (by omega)]
theorem abt_3 {w : Wv} {k b o2 i : Nat} (h : zW (tC w k) = 3) (hr : zR (tC w k) = ((16 * b + o2 : Nat) : Int)) (ho : o2 < 16) (hj : zJ (tC w k) = (i : Int)) : abt (nodD w k) = (wpl w b i : Int) := by
  show (if zW (tC w k) = 0 then _ else if zW (tC w k) = 4 then _ else if zW (tC w k) = 3 then (if zR (tC w k) = -1 then (-1 : Int) else (wpl w (zR (tC w k) / 16).toNat (zJ (tC w k)).toNat : Int)) else _) = _
  rw [if_neg (by omega), if_neg (by omega), if_pos h, if_neg (by omega), hj, Int.toNat_natCast, show (zR (tC w k) / 16).toNat = b by omega]
def NdM (σ : St) (w : Wv) (D : List Nat) : Prop := σ.1 105 35 = (D.length : Int) ∧ ∀ u, u < D.length → σ.1 132 u = nodD w (gL D u) 0 ∧ σ.1 133 u = nodD w (gL D u) 1 ∧ σ.1 134 u = nodD w (gL D u) 2 + 1 ∧ σ.1 135 u = nodD w (gL D u) 3 ∧ σ.1 136 u = nodD w (gL D u) 4 ∧ σ.1 138 u = abt (nodD w (gL D u))
def SNo (k : Nat) : Prop := 132 ≤ k ∧ k ≤ 138 ∧ k ≠ 137
def TNo (j : Nat) : Prop := j = 35
theorem NdM.put {σ : St} {w : Wv} {D : List Nat} (h : NdM σ w D) {k : Nat} {v0 v1 v2 v3 v4 v5 n : Int} (e0 : v0 = nodD w k 0) (e1 : v1 = nodD w k 1) (e2 : v2 = nodD w k 2 + 1) (e3 : v3 = nodD w k 3) (e4 : v4 = nodD w k 4) (e5 : v5 = abt (nodD w k)) (hn : n = (D.length : Int) + 1) : NdM (sI (sI (sI (sI (sI (sI (sI σ 132 D.length v0) 133 D.length v1) 134 D.length v2) 135 D.length v3) 136 D.length v4) 138 D.length v5) 105 35 n) w (D ++ [k]) := by
  refine ⟨by rw [rI_s, List.length_append, List.length_singleton]; omega, fun u hu => ?_⟩
  rw [List.length_append, List.length_singleton] at hu
  have r0 : ∀ q, (sI (sI (sI (sI (sI (sI (sI σ 132 D.length v0) 133 D.length v1) 134 D.length v2) 135 D.length v3) 136 D.length v4) 138 D.length v5) 105 35 n).1 132 q = (sI σ 132 D.length v0).1 132 q := fun q => by rw [rI_k (by decide), rI_k (by decide), rI_k (by decide), rI_k (by decide), rI_k (by decide), rI_k (by decide)]
  have r1 : ∀ q, (sI (sI (sI (sI (sI (sI (sI σ 132 D.length v0) 133 D.length v1) 134 D.length v2) 135 D.length v3) 136 D.length v4) 138 D.length v5) 105 35 n).1 133 q = (sI (sI σ 132 D.length v0) 133 D.length v1).1 133 q := fun q => by rw [rI_k (by decide), rI_k (by decide), rI_k (by decide), rI_k (by decide), rI_k (by decide)]
  have r2 : ∀ q, (sI (sI (sI (sI (sI (sI (sI σ 132 D.length v0) 133 D.length v1) 134 D.length v2) 135 D.length v3) 136 D.length v4) 138 D.length v5) 105 35 n).1 134 q = (sI (sI (sI σ 132 D.length v0) 133 D.length v1) 134 D.length v2).1 134 q := fun q => by rw [rI_k (by decide), rI_k (by decide), rI_k (by decide), rI_k (by decide)]
  have r3 : ∀ q, (sI (sI (sI (sI (sI (sI (sI σ 132 D.length v0) 133 D.length v1) 134 D.length v2) 135 D.length v3) 136 D.length v4) 138 D.length v5) 105 35 n).1 135 q = (sI (sI (sI (sI σ 132 D.length v0) 133 D.length v1) 134 D.length v2) 135 D.length v3).1 135 q := fun q => by rw [rI_k (by decide), rI_k (by decide), rI_k (by decide)]
  have r4 : ∀ q, (sI (sI (sI (sI (sI (sI (sI σ 132 D.length v0) 133 D.length v1) 134 D.length v2) 135 D.length v3) 136 D.length v4) 138 D.length v5) 105 35 n).1 136 q = (sI (sI (sI (sI (sI σ 132 D.length v0) 133 D.length v1) 134 D.length v2) 135 D.length v3) 136 D.length v4).1 136 q := fun q => by rw [rI_k (by decide), rI_k (by decide)]
  have r5 : ∀ q, (sI (sI (sI (sI (sI (sI (sI σ 132 D.length v0) 133 D.length v1) 134 D.length v2) 135 D.length v3) 136 D.length v4) 138 D.length v5) 105 35 n).1 138 q = (sI (sI (sI (sI (sI (sI σ 132 D.length v0) 133 D.length v1) 134 D.length v2) 135 D.length v3) 136 D.length v4) 138 D.length v5).1 138 q := fun q => by rw [rI_k (by decide)]
  rw [r0, r1, r2, r3, r4, r5]
  rcases Nat.lt_or_ge u D.length with g | g
  · obtain ⟨a0, a1, a2, a3, a4, a5⟩ := h.2 u g
    rw [gL_l g]
    refine ⟨?_, ?_, ?_, ?_, ?_, ?_⟩
    · rw [rI_j (by omega)]; exact a0
    · rw [rI_j (by omega), rI_k (by decide)]; exact a1
    · rw [rI_j (by omega), rI_k (by decide), rI_k (by decide)]; exact a2
    · rw [rI_j (by omega), rI_k (by decide), rI_k (by decide), rI_k (by decide)]; exact a3
    · rw [rI_j (by omega), rI_k (by decide), rI_k (by decide), rI_k (by decide), rI_k (by decide)]; exact a4
    · rw [rI_j (by omega), rI_k (by decide), rI_k (by decide), rI_k (by decide), rI_k (by decide), rI_k (by decide)]; exact a5
  · have e : u = D.length := by omega
    subst e
    rw [gL_r, rI_s, rI_s, rI_s, rI_s, rI_s, rI_s]
    exact ⟨e0, e1, e2, e3, e4, e5⟩
theorem NdM.fm {σ τ : St} {w : Wv} {D : List Nat} {S T : Nat → Prop} (h : NdM σ w D) (g : Fm S T σ τ) (hS : ∀ k, 132 ≤ k → k ≤ 138 → k ≠ 137 → ¬ S k) (hT : ¬ T 35) : NdM τ w D := by
  unfold NdM
  rw [(g.1 132 (by decide) (hS 132 (by decide) (by decide) (by decide))).1, (g.1 133 (by decide) (hS 133 (by decide) (by decide) (by decide))).1, (g.1 134 (by decide) (hS 134 (by decide) (by decide) (by decide))).1, (g.1 135 (by decide) (hS 135 (by decide) (by decide) (by decide))).1, (g.1 136 (by decide) (hS 136 (by decide) (by decide) (by decide))).1, (g.1 138 (by decide) (hS 138 (by decide) (by decide) (by decide))).1, g.2 35 hT]
  exact h
set_option maxHeartbeats 4000000 in
set_option maxRecDepth 100000 in
theorem c_X10_aboutOf {κ : Kp} (hI : Ij κ) (l : Launch) (σ : St) {w : Wv} (hM : MW σ w) (hW : OKW w) (hK : KA σ w) {k : Nat} {zk : Int} (hzk : zk = (k : Int)) (hv : tV w k) : CtI κ l 2 yX10_aboutOf cX10_aboutOf 4 .int [.ref (κ.2.1 105), .int (iZ zk)] σ (fun z σ' => z = abt (nodD w k) ∧ σ' = σ) := by
  refine Ct.ofG (own := RX10) hI (by decide +kernel) rfl (Nat.le_of_ble_eq_true rfl) rfl ?_
  intro M C hMl
  have hk512 := hv.1
  have hck := hK k hk512.2
  have hti := t_info hW hv
  refine g_iload_n C dX10_aboutOf_0 rfl ?_
  refine g_bipush (z := 16) C dX10_aboutOf_1 rfl ?_
  refine g_idiv C dX10_aboutOf_3 (by omega) ?_
  refine g_istore_n (L' := [(2, .int (iZ (zk / 16))), (0, .ref (κ.2.1 105)), (1, .int (iZ zk))]) C dX10_aboutOf_4 rfl (by decide) rfl ?_
  refine g_aload_n C dX10_aboutOf_5 rfl ?_
  refine gf_X10_62 C dX10_aboutOf_6 rfl ?_
  refine g_iload_n C dX10_aboutOf_9 rfl ?_
  refine g_pc (pc' := 10) rfl ?_
  refine g_iaz (n := k) (N := 512) (v := (zW (tC w k))) C dX10_aboutOf_10 rfl rfl (by omega) (by omega) (by decide) hck.1 ?_
  refine g_istore_n (L' := [(3, .int (iZ (zW (tC w k)))), (2, .int (iZ (zk / 16))), (0, .ref (κ.2.1 105)), (1, .int (iZ zk))]) C dX10_aboutOf_11 rfl (by decide) rfl ?_
  refine g_iload_n C dX10_aboutOf_12 rfl ?_
  refine g_if_ne (tgt := 21) C dX10_aboutOf_13 (by decide) (by unfold R32; omega) (fun h1 => ?_) (fun h1 => ?_)
  · refine g_iload_n C dX10_aboutOf_21 rfl ?_
    refine g_iconst (z := 4) C dX10_aboutOf_22 rfl ?_
    refine g_icmp_ne (tgt := 33) C dX10_aboutOf_23 (by decide) (by unfold R32; omega) (fun h2 => ?_) (fun h2 => ?_)
    · refine g_iload_n C dX10_aboutOf_33 rfl ?_
      refine g_pc (pc' := 34) rfl ?_
      refine g_iconst (z := 3) C dX10_aboutOf_34 rfl ?_
      refine g_icmp_ne (tgt := 61) C dX10_aboutOf_35 (by decide) (by unfold R32; omega) (fun h3 => ?_) (fun h3 => ?_)
      · refine g_iconst (z := (-1)) C dX10_aboutOf_61 rfl ?_
        exact g_ireturn C dX10_aboutOf_62 ⟨by rw [abt_x (by omega)], rfl⟩
      · obtain ⟨a, b, o1, o2, i, ⟨a1, a2, a3, a4⟩, ⟨b1, b2⟩, -, ⟨d1, d2⟩, ⟨j1, j2⟩, -, ww⟩ := t_pair hW hv (by omega)
        have hat := aOf_t (by omega) d1 b1
        refine g_aload_n C dX10_aboutOf_38 rfl ?_
        refine g_aload_n C dX10_aboutOf_39 rfl ?_
        refine gf_X10_68 C dX10_aboutOf_40 rfl ?_
        refine g_iload_n C dX10_aboutOf_43 rfl ?_
        refine g_pc (pc' := 44) rfl ?_
        refine g_iaz (n := k) (N := 512) (v := (zJ (tC w k))) C dX10_aboutOf_44 rfl rfl (by omega) (by omega) (by decide) ((hck.2 hv.2).2.2) ?_
        refine g_iload_n C dX10_aboutOf_45 rfl ?_
        refine g_aload_n C dX10_aboutOf_46 rfl ?_
        refine gf_X10_65 C dX10_aboutOf_47 rfl ?_
        refine g_iload_n C dX10_aboutOf_50 rfl ?_
        refine g_iaz (n := k) (N := 512) (v := (aOf (tC w k))) C dX10_aboutOf_51 rfl rfl (by omega) (by omega) (by decide) ((hck.2 hv.2).2.1) ?_
        refine g_iconst (z := (-1)) C dX10_aboutOf_52 rfl ?_
        refine g_ixor C dX10_aboutOf_53 ?_
        refine g_pc (pc' := 54) rfl ?_
        refine g_iand C dX10_aboutOf_54 ?_
        refine g_raw (sub_raw (s := k / 16) (a := a) (by omega) hat (by omega) (by omega) a4) ?_
        rw [show k / 16 - a = b by omega]
        refine gc_X10_223 C dX10_aboutOf_55 rfl (c_X10_placeIn hI (Ml M) σ hM hW (j := i) (s := b) j1 rfl j2 (by omega)) (by decide) (Nat.le_of_ble_eq_true rfl) (fun z σ9 ⟨hz, hσ⟩ => ?_)
        subst σ9
        refine g_goto (tgt := 62) C dX10_aboutOf_58 (by decide) ?_
        exact g_ireturn C dX10_aboutOf_62 ⟨hz.trans (abt_3 (by assumption) d2 b2 j1).symm, rfl⟩
    · refine g_iload_n C dX10_aboutOf_26 rfl ?_
      refine g_bipush (z := 16) C dX10_aboutOf_27 rfl ?_
      refine g_irem C dX10_aboutOf_29 (by omega) ?_
      refine g_iconst (z := 1) C dX10_aboutOf_30 rfl ?_
      refine g_pc (pc' := 31) rfl ?_
      refine g_isub C dX10_aboutOf_31 ?_
      exact g_ireturn C dX10_aboutOf_32 ⟨by rw [abt_4 (by assumption)]; omega, rfl⟩
  · refine g_iload_n C dX10_aboutOf_16 rfl ?_
    have hwo := rd_one (w := w) (s := k / 16) (o := k % 16) (by omega) (by omega) (by assumption)
    refine gc_X10_236 C dX10_aboutOf_17 (c_X10_onlyOf hI (Ml M) σ (s := k / 16) (by omega) (by omega) (by omega)) (by decide) (Nat.le_of_ble_eq_true rfl) (fun z σ9 ⟨hz, hσ⟩ => ?_)
    subst σ9
    rw [if_pos hwo] at hz
    exact g_ireturn C dX10_aboutOf_20 ⟨hz.trans (abt_0 (by assumption)).symm, rfl⟩
set_option maxHeartbeats 4000000 in
set_option maxRecDepth 100000 in
theorem c_X10_putsNode {κ : Kp} (hI : Ij κ) (l : Launch) (σ : St) {w : Wv} (hM : MW σ w) (hW : OKW w) (hK : KA σ w) {k : Nat} {zk : Int} (hzk : zk = (k : Int)) (hv : tV w k) {D : List Nat} (hD : NdM σ w D) (hDl : D.length < 64) : CtV κ l 3 yX10_putsNode cX10_putsNode 2 [.ref (κ.2.1 105), .int (iZ zk)] σ (fun σ' => NdM σ' w (D ++ [k]) ∧ Fm SNo TNo σ σ') := by
  refine Ct.ofG (own := RX10) hI (by decide +kernel) rfl (Nat.le_of_ble_eq_true rfl) rfl ?_
  intro M C hMl
  have hk512 := hv.1
  have hck := hK k hk512.2
  have hti := t_info hW hv
  refine g_aload_n C dX10_putsNode_0 rfl ?_
  refine gf_X10_71 C dX10_putsNode_1 rfl ?_
  refine g_aload_n C dX10_putsNode_4 rfl ?_
  refine gf_X10_255 (z := (D.length : Int)) C dX10_putsNode_5 rfl hD.1 ?_
  refine g_aload_n C dX10_putsNode_8 rfl ?_
  refine gf_X10_62 C dX10_putsNode_9 rfl ?_
  refine g_iload_n C dX10_putsNode_12 rfl ?_
  refine g_pc (pc' := 13) rfl ?_
  refine g_iaz (n := k) (N := 512) (v := (zW (tC w k))) C dX10_putsNode_13 rfl rfl (by omega) (by omega) (by decide) hck.1 ?_
  refine g_iast (n := D.length) (N := 64) C dX10_putsNode_14 rfl rfl (by omega) (by omega) (by decide) ?_
  refine g_aload_n C dX10_putsNode_15 rfl ?_
  refine gf_X10_74 C dX10_putsNode_16 rfl ?_
  refine g_aload_n C dX10_putsNode_19 rfl ?_
  refine gf_X10_255 (z := (D.length : Int)) C dX10_putsNode_20 rfl ((rI_k (by decide)).trans hD.1) ?_
  refine g_iload_n C dX10_putsNode_23 rfl ?_
  refine g_bipush (z := 16) C dX10_putsNode_24 rfl ?_
  refine g_pc (pc' := 26) rfl ?_
  refine g_idiv C dX10_putsNode_26 (by omega) ?_
  refine g_iast (n := D.length) (N := 64) C dX10_putsNode_27 rfl rfl (by omega) (by omega) (by decide) ?_
  refine g_aload_n C dX10_putsNode_28 rfl ?_
  refine gf_X10_77 C dX10_putsNode_29 rfl ?_
  refine g_aload_n C dX10_putsNode_32 rfl ?_
  refine gf_X10_255 (z := (D.length : Int)) C dX10_putsNode_33 rfl ((rI_k (by decide)).trans ((rI_k (by decide)).trans hD.1)) ?_
  refine g_iload_n C dX10_putsNode_36 rfl ?_
  refine g_bipush (z := 16) C dX10_putsNode_37 rfl ?_
  refine g_pc (pc' := 39) rfl ?_
  refine g_irem C dX10_putsNode_39 (by omega) ?_
  refine g_iast (n := D.length) (N := 64) C dX10_putsNode_40 rfl rfl (by omega) (by omega) (by decide) ?_
  refine g_aload_n C dX10_putsNode_41 rfl ?_
  refine gf_X10_80 C dX10_putsNode_42 rfl ?_
  refine g_aload_n C dX10_putsNode_45 rfl ?_
  refine gf_X10_255 (z := (D.length : Int)) C dX10_putsNode_46 rfl ((rI_k (by decide)).trans ((rI_k (by decide)).trans ((rI_k (by decide)).trans hD.1))) ?_
  refine g_aload_n C dX10_putsNode_49 rfl ?_
  refine gf_X10_59 C dX10_putsNode_50 rfl ?_
  refine g_pc (pc' := 53) rfl ?_
  refine g_iload_n C dX10_putsNode_53 rfl ?_
  refine g_faz (n := k) (N := 512) (v := (zK (tC w k))) C dX10_putsNode_54 rfl rfl (by omega) (by omega) (by decide) ((hck.2 hv.2).1) ?_
  refine gc_X10_258 C dX10_putsNode_55 (c_Jxf58ca_floatToIntBits_5c35a hI (Ml M) (sI (sI (sI σ 132 D.length (zW (tC w k))) 133 D.length (zk / 16)) 134 D.length (zk % 16)) hti.1) (by decide) (Nat.le_of_ble_eq_true rfl) (fun z2 σ9 ⟨hz2, hσ⟩ => ?_)
  subst σ9
  refine g_iast (n := D.length) (N := 64) C dX10_putsNode_58 rfl rfl (by omega) (by omega) (by decide) ?_
  refine g_aload_n C dX10_putsNode_59 rfl ?_
  refine gf_X10_83 C dX10_putsNode_60 rfl ?_
  refine g_aload_n C dX10_putsNode_63 rfl ?_
  refine gf_X10_255 (z := (D.length : Int)) C dX10_putsNode_64 rfl ((rI_k (by decide)).trans ((rI_k (by decide)).trans ((rI_k (by decide)).trans ((rI_k (by decide)).trans hD.1)))) ?_
  refine g_pc (pc' := 67) rfl ?_
  refine g_aload_n C dX10_putsNode_67 rfl ?_
  refine gf_X10_68 C dX10_putsNode_68 rfl ?_
  refine g_iload_n C dX10_putsNode_71 rfl ?_
  refine g_iaz (n := k) (N := 512) (v := (zJ (tC w k))) C dX10_putsNode_72 rfl rfl (by omega) (by omega) (by decide) ((rI_k (by decide)).trans ((rI_k (by decide)).trans ((rI_k (by decide)).trans ((rI_k (by decide)).trans ((hck.2 hv.2).2.2))))) ?_
  refine g_iast (n := D.length) (N := 64) C dX10_putsNode_73 rfl rfl (by omega) (by omega) (by decide) ?_
  refine g_aload_n C dX10_putsNode_74 rfl ?_
  refine gf_X10_89 C dX10_putsNode_75 rfl ?_
  refine g_aload_n C dX10_putsNode_78 rfl ?_
  refine g_pc (pc' := 79) rfl ?_
  refine gf_X10_255 (z := (D.length : Int)) C dX10_putsNode_79 rfl ((rI_k (by decide)).trans ((rI_k (by decide)).trans ((rI_k (by decide)).trans ((rI_k (by decide)).trans ((rI_k (by decide)).trans hD.1))))) ?_
  refine g_aload_n C dX10_putsNode_82 rfl ?_
  refine g_iload_n C dX10_putsNode_83 rfl ?_
  refine gc_X10_264 C dX10_putsNode_84 rfl (c_X10_aboutOf hI (Ml M) (sI (sI (sI (sI (sI σ 132 D.length (zW (tC w k))) 133 D.length (zk / 16)) 134 D.length (zk % 16)) 135 D.length z2) 136 D.length (zJ (tC w k))) (hM.fm ((((((Fm.rf (S := SNo) (T := TNo)).a (by decide) (by unfold SNo; omega)).a (by decide) (by unfold SNo; omega)).a (by decide) (by unfold SNo; omega)).a (by decide) (by unfold SNo; omega)).a (by decide) (by unfold SNo; omega)) (fun k _ _ e => by unfold SNo at e; omega) (fun j _ _ e => by unfold TNo at e; omega)) hW (hK.fm ((((((Fm.rf (S := SNo) (T := TNo)).a (by decide) (by unfold SNo; omega)).a (by decide) (by unfold SNo; omega)).a (by decide) (by unfold SNo; omega)).a (by decide) (by unfold SNo; omega)).a (by decide) (by unfold SNo; omega)) (fun k _ _ e => by unfold SNo at e; omega)) hzk hv) (by decide) (Nat.le_of_ble_eq_true rfl) (fun z3 σ9 ⟨hz3, hσ⟩ => ?_)
  subst σ9
  refine g_iast (n := D.length) (N := 64) C dX10_putsNode_87 rfl rfl (by omega) (by omega) (by decide) ?_
  refine g_aload_n C dX10_putsNode_88 rfl ?_
  refine g_dup C dX10_putsNode_89 rfl ?_
  refine gf_X10_255 (z := (D.length : Int)) C dX10_putsNode_90 rfl ((rI_k (by decide)).trans ((rI_k (by decide)).trans ((rI_k (by decide)).trans ((rI_k (by decide)).trans ((rI_k (by decide)).trans ((rI_k (by decide)).trans hD.1)))))) ?_
  refine g_pc (pc' := 93) rfl ?_
  refine g_iconst (z := 1) C dX10_putsNode_93 rfl ?_
  refine g_iadd C dX10_putsNode_94 ?_
  refine gp_X10_255 C dX10_putsNode_95 rfl ?_
  exact g_return C dX10_putsNode_98 ⟨hD.put rfl (by show _ = ((k / 16 : Nat) : Int); omega) (by show _ = ((k % 16 : Nat) : Int) - 1 + 1; omega) hz2 rfl hz3 rfl, ((((((Fm.rf (S := SNo) (T := TNo)).a (by decide) (by unfold SNo; omega)).a (by decide) (by unfold SNo; omega)).a (by decide) (by unfold SNo; omega)).a (by decide) (by unfold SNo; omega)).a (by decide) (by unfold SNo; omega)).a (by decide) (by unfold SNo; omega) |>.t rfl⟩
def SSz (k : Nat) : Prop := k = 137
theorem sz_step {w : Wv} (hW : OKW w) {L : List Nat} {p : Nat} (hv : tV w (gL L p)) (hc : chOK w L p) : (zW (tC w (gL L p)) = 0 ∧ zS (tC w (gL L p)) = 1) ∨ (zW (tC w (gL L p)) = 4 ∧ p + 1 < L.length ∧ zS (tC w (gL L p)) = 1 + zS (tC w (gL L (p + 1)))) ∨ ((1 ≤ zW (tC w (gL L p)) ∧ zW (tC w (gL L p)) ≤ 3) ∧ (p + 1 < L.length ∧ p + 1 + zS (tC w (gL L (p + 1))) < L.length) ∧ zS (tC w (gL L p)) = 1 + zS (tC w (gL L (p + 1))) + zS (tC w (gL L (p + 1 + zS (tC w (gL L (p + 1))))))) := by
  rcases t_way hW hv with ⟨w0, -, -, -, ws⟩ | ⟨w0, wl0, -, ws⟩ | ⟨a, b, o1, o2, i, -, -, ⟨c1, c2⟩, -, -, ws, ww⟩
  · exact Or.inl ⟨w0, ws⟩
  · obtain ⟨g1, g2⟩ := hc.1 _ wl0
    exact Or.inr (Or.inl ⟨w0, g1, by rw [g2]; exact ws⟩)
  · obtain ⟨g1, g2⟩ := hc.1 _ c1
    obtain ⟨g3, g4⟩ := hc.2 _ _ c1 c2
    exact Or.inr (Or.inr ⟨by omega, ⟨g1, by rw [g2]; exact g3⟩, by rw [g2, g4]; exact ws⟩)
set_option maxHeartbeats 4000000 in
set_option maxRecDepth 100000 in
theorem c_X10_findSizes {κ : Kp} (hI : Ij κ) (l : Launch) (σ : St) {w : Wv} (hW : OKW w) {D : List Nat} (hD : NdM σ w D) (hDl : D.length ≤ 18) (hv : ∀ x, x ∈ D → tV w x) (hc : ∀ p, p < D.length → chOK w D p) : CtV κ l 1 yX10_findSizes cX10_findSizes 3 [.ref (κ.2.1 105)] σ (fun σ' => (∀ u, u < D.length → σ'.1 137 u = (zS (tC w (gL D u)) : Int)) ∧ Fm SSz NoT σ σ') := by
  refine Ct.ofG (own := RX10) hI (by decide +kernel) rfl (Nat.le_of_ble_eq_true rfl) rfl ?_
  intro M C hMl
  refine g_aload_n C dX10_findSizes_0 rfl ?_
  refine gf_X10_255 (z := (D.length : Int)) C dX10_findSizes_1 rfl hD.1 ?_
  refine g_iconst (z := 1) C dX10_findSizes_4 rfl ?_
  refine g_isub C dX10_findSizes_5 ?_
  refine g_istore_n (L' := [(1, .int (iZ ((D.length : Int) - 1))), (0, .ref (κ.2.1 105))]) C dX10_findSizes_6 rfl (by decide) rfl ?_
  have lp7 : ∀ (fz9 : Nat) (m : Nat) (x1 : Int) (q : St), (m < fz9) → (x1 = (m : Int) - 1) → (m ≤ D.length) → (Fm SSz NoT σ q) → (∀ u, m ≤ u → u < D.length → q.1 137 u = (zS (tC w (gL D u)) : Int)) → G M κ 3 (En M κ (qV κ (fun σ' => (∀ u, u < D.length → σ'.1 137 u = (zS (tC w (gL D u)) : Int)) ∧ Fm SSz NoT σ σ'))) 7 [(0, .ref (κ.2.1 105)), (1, .int (iZ x1))] [] q := by
    intro fz9
    induction fz9 with
    | zero => intro m x1 q hm0; exact absurd hm0 (Nat.not_lt_zero _)
    | succ fz9 ih7 =>
      intro m x1 q hm7 hx1 hm hF hZ
      have hDq := hD.fm hF (fun k _ _ _ e => by unfold SSz at e; omega) (fun e => e)
      refine g_iload_n C dX10_findSizes_7 rfl ?_
      refine g_if_lt (tgt := 71) C dX10_findSizes_8 (by decide) (by unfold R32; omega) (fun h1 => ?_) (fun h1 => ?_)
      · refine g_pc (pc' := 71) rfl ?_
        exact g_return C dX10_findSizes_71 ⟨fun u hu => hZ u (by omega) hu, hF⟩
      · have hvm := hv _ (gL_mem (L := D) (i := m - 1) (by omega))
        have hst := sz_step hW hvm (hc (m - 1) (by omega))
        rw [show m - 1 + 1 = m by omega] at hst
        have hti := (t_info hW hvm).2.2.2.2
        refine g_iconst (z := 1) C dX10_findSizes_11 rfl ?_
        refine g_istore_n (L' := [(2, .int (iZ 1)), (0, .ref (κ.2.1 105)), (1, .int (iZ x1))]) C dX10_findSizes_12 rfl (by decide) rfl ?_
        refine g_aload_n C dX10_findSizes_13 rfl ?_
        refine gf_X10_71 C dX10_findSizes_14 rfl ?_
        refine g_iload_n C dX10_findSizes_17 rfl ?_
        refine g_iaz (n := (m - 1)) (N := 64) (v := (zW (tC w (gL D (m - 1))))) C dX10_findSizes_18 rfl rfl (by omega) (by omega) (by decide) ((hDq.2 (m - 1) (by omega)).1) ?_
        refine g_if_eq (tgt := 33) C dX10_findSizes_19 (by decide) (by unfold R32; omega) (fun h2 => ?_) (fun h2 => ?_)
        · refine g_pc (pc' := 33) rfl ?_
          refine g_aload_n C dX10_findSizes_33 rfl ?_
          refine gf_X10_71 C dX10_findSizes_34 rfl ?_
          refine g_iload_n C dX10_findSizes_37 rfl ?_
          refine g_iaz (n := (m - 1)) (N := 64) (v := (zW (tC w (gL D (m - 1))))) C dX10_findSizes_38 rfl rfl (by omega) (by omega) (by decide) ((hDq.2 (m - 1) (by omega)).1) ?_
          refine g_iconst (z := 1) C dX10_findSizes_39 rfl ?_
          refine g_iconst (z := 3) C dX10_findSizes_40 rfl ?_
          refine gc_X10_145 C dX10_findSizes_41 (c_X10_isIn hI (Ml M) q (v := (zW (tC w (gL D (m - 1))))) (a := 1) (b := 3) (by unfold R32; omega) (by unfold R32; omega) (by unfold R32; omega)) (by decide) (Nat.le_of_ble_eq_true rfl) (fun z σ9 ⟨hz, hσ⟩ => ?_)
          subst z
          subst σ9
          refine g_ifb_eq (tgt := 58) C dX10_findSizes_44 (by decide) (fun h3 => ?_) (fun h3 => ?_)
          · refine g_pc (pc' := 58) rfl ?_
            refine g_aload_n C dX10_findSizes_58 rfl ?_
            refine gf_X10_86 C dX10_findSizes_59 rfl ?_
            refine g_iload_n C dX10_findSizes_62 rfl ?_
            refine g_iload_n C dX10_findSizes_63 rfl ?_
            refine g_iast (n := (m - 1)) (N := 64) C dX10_findSizes_64 rfl rfl (by omega) (by omega) (by decide) ?_
            refine g_iinc (q := 2) (v := (x1 + (-1))) (L' := [(1, .int (iZ (x1 + (-1)))), (2, .int (iZ 1)), (0, .ref (κ.2.1 105))]) C dX10_findSizes_65 rfl rfl (by decide) rfl ?_
            refine g_goto (tgt := 7) C dX10_findSizes_68 (by decide) ?_
            exact g_loc [2, 0] (by rfl) (ih7 (m - 1) (x1 + (-1)) (sI q 137 (m - 1) 1) (by omega) (by omega) (by omega) (hF.a (by decide) rfl) (fun u h1 h2 => by rcases Nat.lt_or_ge u m with g | g; (rw [show u = m - 1 by omega, rI_s]; omega); (rw [rI_j (by omega)]; exact hZ u g h2)))
          · refine g_iload_n C dX10_findSizes_47 rfl ?_
            refine g_pc (pc' := 48) rfl ?_
            refine g_aload_n C dX10_findSizes_48 rfl ?_
            refine gf_X10_86 C dX10_findSizes_49 rfl ?_
            refine g_iload_n C dX10_findSizes_52 rfl ?_
            refine g_iload_n C dX10_findSizes_53 rfl ?_
            refine g_iadd C dX10_findSizes_54 ?_
            refine g_iaz (n := (m + (zS (tC w (gL D m))))) (N := 64) (v := (zS (tC w (gL D (m + (zS (tC w (gL D m)))))) : Int)) C dX10_findSizes_55 rfl rfl (by omega) (by omega) (by decide) (hZ (m + (zS (tC w (gL D m)))) (by omega) (by omega)) ?_
            refine g_iadd C dX10_findSizes_56 ?_
            refine g_istore_n (L' := [(2, .int (iZ (1 + (zS (tC w (gL D (m + (zS (tC w (gL D m)))))) : Int)))), (0, .ref (κ.2.1 105)), (1, .int (iZ x1))]) C dX10_findSizes_57 rfl (by decide) rfl ?_
            refine g_pc (pc' := 58) rfl ?_
            refine g_aload_n C dX10_findSizes_58 rfl ?_
            refine gf_X10_86 C dX10_findSizes_59 rfl ?_
            refine g_iload_n C dX10_findSizes_62 rfl ?_
            refine g_iload_n C dX10_findSizes_63 rfl ?_
            refine g_iast (n := (m - 1)) (N := 64) C dX10_findSizes_64 rfl rfl (by omega) (by omega) (by decide) ?_
            refine g_iinc (q := 2) (v := (x1 + (-1))) (L' := [(1, .int (iZ (x1 + (-1)))), (2, .int (iZ (1 + (zS (tC w (gL D (m + (zS (tC w (gL D m)))))) : Int)))), (0, .ref (κ.2.1 105))]) C dX10_findSizes_65 rfl rfl (by decide) rfl ?_
            refine g_goto (tgt := 7) C dX10_findSizes_68 (by decide) ?_
            exact g_loc [2, 0] (by rfl) (ih7 (m - 1) (x1 + (-1)) (sI q 137 (m - 1) (1 + (zS (tC w (gL D (m + (zS (tC w (gL D m)))))) : Int))) (by omega) (by omega) (by omega) (hF.a (by decide) rfl) (fun u h1 h2 => by rcases Nat.lt_or_ge u m with g | g; (rw [show u = m - 1 by omega, rI_s]; omega); (rw [rI_j (by omega)]; exact hZ u g h2)))
        · refine g_iload_n C dX10_findSizes_22 rfl ?_
          refine g_pc (pc' := 23) rfl ?_
          refine g_aload_n C dX10_findSizes_23 rfl ?_
          refine gf_X10_86 C dX10_findSizes_24 rfl ?_
          refine g_iload_n C dX10_findSizes_27 rfl ?_
          refine g_iconst (z := 1) C dX10_findSizes_28 rfl ?_
          refine g_iadd C dX10_findSizes_29 ?_
          refine g_iaz (n := m) (N := 64) (v := ((zS (tC w (gL D m))) : Int)) C dX10_findSizes_30 rfl rfl (by omega) (by omega) (by decide) (hZ m (Nat.le_refl _) (by omega)) ?_
          refine g_iadd C dX10_findSizes_31 ?_
          refine g_istore_n (L' := [(2, .int (iZ (1 + ((zS (tC w (gL D m))) : Int)))), (0, .ref (κ.2.1 105)), (1, .int (iZ x1))]) C dX10_findSizes_32 rfl (by decide) rfl ?_
          refine g_pc (pc' := 33) rfl ?_
          refine g_aload_n C dX10_findSizes_33 rfl ?_
          refine gf_X10_71 C dX10_findSizes_34 rfl ?_
          refine g_iload_n C dX10_findSizes_37 rfl ?_
          refine g_iaz (n := (m - 1)) (N := 64) (v := (zW (tC w (gL D (m - 1))))) C dX10_findSizes_38 rfl rfl (by omega) (by omega) (by decide) ((hDq.2 (m - 1) (by omega)).1) ?_
          refine g_iconst (z := 1) C dX10_findSizes_39 rfl ?_
          refine g_iconst (z := 3) C dX10_findSizes_40 rfl ?_
          refine gc_X10_145 C dX10_findSizes_41 (c_X10_isIn hI (Ml M) q (v := (zW (tC w (gL D (m - 1))))) (a := 1) (b := 3) (by unfold R32; omega) (by unfold R32; omega) (by unfold R32; omega)) (by decide) (Nat.le_of_ble_eq_true rfl) (fun z σ9 ⟨hz, hσ⟩ => ?_)
          subst z
          subst σ9
          refine g_ifb_eq (tgt := 58) C dX10_findSizes_44 (by decide) (fun h4 => ?_) (fun h4 => ?_)
          · refine g_pc (pc' := 58) rfl ?_
            refine g_aload_n C dX10_findSizes_58 rfl ?_
            refine gf_X10_86 C dX10_findSizes_59 rfl ?_
            refine g_iload_n C dX10_findSizes_62 rfl ?_
            refine g_iload_n C dX10_findSizes_63 rfl ?_
            refine g_iast (n := (m - 1)) (N := 64) C dX10_findSizes_64 rfl rfl (by omega) (by omega) (by decide) ?_
            refine g_iinc (q := 2) (v := (x1 + (-1))) (L' := [(1, .int (iZ (x1 + (-1)))), (2, .int (iZ (1 + ((zS (tC w (gL D m))) : Int)))), (0, .ref (κ.2.1 105))]) C dX10_findSizes_65 rfl rfl (by decide) rfl ?_
            refine g_goto (tgt := 7) C dX10_findSizes_68 (by decide) ?_
            exact g_loc [2, 0] (by rfl) (ih7 (m - 1) (x1 + (-1)) (sI q 137 (m - 1) (1 + ((zS (tC w (gL D m))) : Int))) (by omega) (by omega) (by omega) (hF.a (by decide) rfl) (fun u h1 h2 => by rcases Nat.lt_or_ge u m with g | g; (rw [show u = m - 1 by omega, rI_s]; omega); (rw [rI_j (by omega)]; exact hZ u g h2)))
          · refine g_iload_n C dX10_findSizes_47 rfl ?_
            refine g_pc (pc' := 48) rfl ?_
            refine g_aload_n C dX10_findSizes_48 rfl ?_
            refine gf_X10_86 C dX10_findSizes_49 rfl ?_
            refine g_iload_n C dX10_findSizes_52 rfl ?_
            refine g_iload_n C dX10_findSizes_53 rfl ?_
            refine g_iadd C dX10_findSizes_54 ?_
            refine g_iaz (n := (m + (zS (tC w (gL D m))))) (N := 64) (v := (zS (tC w (gL D (m + (zS (tC w (gL D m)))))) : Int)) C dX10_findSizes_55 rfl rfl (by omega) (by omega) (by decide) (hZ (m + (zS (tC w (gL D m)))) (by omega) (by omega)) ?_
            refine g_iadd C dX10_findSizes_56 ?_
            refine g_istore_n (L' := [(2, .int (iZ ((1 + ((zS (tC w (gL D m))) : Int)) + (zS (tC w (gL D (m + (zS (tC w (gL D m)))))) : Int)))), (0, .ref (κ.2.1 105)), (1, .int (iZ x1))]) C dX10_findSizes_57 rfl (by decide) rfl ?_
            refine g_pc (pc' := 58) rfl ?_
            refine g_aload_n C dX10_findSizes_58 rfl ?_
            refine gf_X10_86 C dX10_findSizes_59 rfl ?_
            refine g_iload_n C dX10_findSizes_62 rfl ?_
            refine g_iload_n C dX10_findSizes_63 rfl ?_
            refine g_iast (n := (m - 1)) (N := 64) C dX10_findSizes_64 rfl rfl (by omega) (by omega) (by decide) ?_
            refine g_iinc (q := 2) (v := (x1 + (-1))) (L' := [(1, .int (iZ (x1 + (-1)))), (2, .int (iZ ((1 + ((zS (tC w (gL D m))) : Int)) + (zS (tC w (gL D (m + (zS (tC w (gL D m)))))) : Int)))), (0, .ref (κ.2.1 105))]) C dX10_findSizes_65 rfl rfl (by decide) rfl ?_
            refine g_goto (tgt := 7) C dX10_findSizes_68 (by decide) ?_
            exact g_loc [2, 0] (by rfl) (ih7 (m - 1) (x1 + (-1)) (sI q 137 (m - 1) ((1 + ((zS (tC w (gL D m))) : Int)) + (zS (tC w (gL D (m + (zS (tC w (gL D m)))))) : Int))) (by omega) (by omega) (by omega) (hF.a (by decide) rfl) (fun u h1 h2 => by rcases Nat.lt_or_ge u m with g | g; (rw [show u = m - 1 by omega, rI_s]; omega); (rw [rI_j (by omega)]; exact hZ u g h2)))
  exact g_loc [1, 0] (by rfl) (lp7 _ D.length ((D.length : Int) - 1) σ (Nat.lt_succ_self _) rfl (Nat.le_refl _) Fm.rf (fun u h1 h2 => absurd h2 (by omega)))

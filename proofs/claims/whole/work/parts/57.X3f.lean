/-! THE PLANNER: all nodes -/
def LQ (i : Nat) (z : Int) (σ σ' : St) : Prop := Fr XO σ σ' ∧ (∀ j, (j ≠ i ∨ z = -1) → σ'.1 97 j = σ.1 97 j) ∧ (z ≠ -1 → i < 18 → σ'.1 97 i = z)
theorem LQ_of {i : Nat} {z : Int} {σ σ' : St} (h : σ' = if z ≠ -1 ∧ i < 18 then sI σ 97 i z else σ) : LQ i z σ σ' := by
  subst h
  split
  · rename_i e
    refine ⟨Fr.rf.sI rfl, fun j hj => rI_j (hj.elim id (fun q => absurd q e.1)), fun _ _ => rI_s⟩
  · rename_i e
    exact ⟨Fr.rf, fun _ _ => rfl, fun h1 h2 => absurd ⟨h1, h2⟩ e⟩
/-- a pair's right cell and its join -/
def cRt (w : Wv) (k : Nat) : Prop := zR (tC w k) = -1 ∨ ∃ b jj : Nat, zR (tC w k) / 16 = (b : Int) ∧ b < 32 ∧ zJ (tC w k) = (jj : Int) ∧ jj < wnj w
/-- what a cell with a way tells -/
theorem t_info {w : Wv} (hW : OKW w) {k : Nat} (hv : tV w k) : FN (zK (tC w k)) ∧ (-1 ≤ zL (tC w k) ∧ zL (tC w k) < 512) ∧ (-1 ≤ zR (tC w k) ∧ zR (tC w k) < 512) ∧ cRt w k ∧ (1 ≤ zS (tC w k) ∧ zS (tC w k) ≤ 18) ∧ (0 ≤ zW (tC w k) ∧ zW (tC w k) ≤ 4) ∧ (-1 ≤ zJ (tC w k) ∧ zJ (tC w k) ≤ 7) := by
  obtain ⟨⟨h1, h2⟩, h3⟩ := hv
  have hp := ((TT_PO hW (k / 16) (k / 16) (Nat.le_refl _) (by omega) (by omega)).1 (k % 16) (by omega)).resolve_left h3
  have h5 := (kT_5 ⟨k / 16, by omega⟩).1
  dsimp only at h5
  obtain ⟨p1, p2, p3, p4, p5, p6⟩ := hp
  refine ⟨FN.of p2, p5, p6, ?_, ⟨p3.1, ?_⟩, p1, p4⟩
  · rcases TT_CW hW (s := k / 16) (o := k % 16) (by omega) (by omega) (by omega) with e | e | e | e
    · exact absurd e h3
    · exact Or.inl e.2.2.1
    · exact Or.inl e.2.1.2.1
    · obtain ⟨a, b, o1, o2, i, ⟨a1, a2, a3, -⟩, ⟨b1, b2⟩, ⟨c1, c2⟩, ⟨d1, d2⟩, -⟩ := e
      refine Or.inr ⟨b, i, ?_, by omega, d1, d2⟩
      unfold tC
      rw [c2]; omega
  · have := p3.2
    show zS (TT w (k / 16) (k % 16)) ≤ 18
    split at this <;> omega
theorem kL_some {w : Wv} {k l : Nat} (h : kL w k = some l) : zL (tC w k) ≠ -1 ∧ l = (zL (tC w k)).toNat := by
  unfold kL at h
  split at h
  · exact absurd h (by simp)
  · rename_i e; injection h with h; exact ⟨e, h.symm⟩
theorem kR_some {w : Wv} {k l : Nat} (h : kR w k = some l) : zR (tC w k) ≠ -1 ∧ l = (zR (tC w k)).toNat := by
  unfold kR at h
  split at h
  · exact absurd h (by simp)
  · rename_i e; injection h with h; exact ⟨e, h.symm⟩
def szl (w : Wv) (k : Nat) : Nat := match kL w k with | none => 0 | some l => zS (tC w l)
def Wr (w : Wv) (L : List Nat) (i j : Nat) : Prop := j = 0 ∨ ∃ p, p < i ∧ (chL w L p j ∨ chR w L p j)
theorem laid_step {w : Wv} (hW : OKW w) {L : List Nat} {i : Nat} {q1 q2 q3 : St} (hv : tV w (gL L i)) (hc : chOK w L i) (hn : L.length ≤ 18) (h : ∀ j, j < L.length → Wr w L i j → q1.1 97 j = (gL L j : Int)) (hl : LQ (i + 1) (zL (tC w (gL L i))) q1 q2) (hr : LQ (i + 1 + szl w (gL L i)) (zR (tC w (gL L i))) q2 q3) : ∀ j, j < L.length → Wr w L (i + 1) j → q3.1 97 j = (gL L j : Int) := by
  obtain ⟨-, rl, rr, -⟩ := t_info hW hv
  intro j hj hw
  by_cases cA : j = i + 1 + szl w (gL L i) ∧ zR (tC w (gL L i)) ≠ -1
  · have hk : kR w (gL L i) = some (zR (tC w (gL L i))).toNat := if_neg cA.2
    rcases t_ch hW hv with ⟨-, e2, -⟩ | ⟨l, -, e2, -⟩ | ⟨l, r, e1, e2, -⟩
    · rw [hk] at e2; exact absurd e2 (by simp)
    · rw [hk] at e2; exact absurd e2 (by simp)
    · have hs : szl w (gL L i) = zS (tC w l) := by unfold szl; rw [e1]
      obtain ⟨g1, g2⟩ := hc.2 l r e1 e2
      rw [hk] at e2; injection e2 with e2
      have h9 := hr.2.2 cA.2 (by omega)
      rw [← cA.1] at h9
      rw [h9, cA.1, hs, g2]
      omega
  · have e3 : q3.1 97 j = q2.1 97 j := hr.2.1 j (by
      by_cases e : j = i + 1 + szl w (gL L i)
      · exact Or.inr (Classical.byContradiction (fun q => cA ⟨e, q⟩))
      · exact Or.inl e)
    rw [e3]
    by_cases cB : j = i + 1 ∧ zL (tC w (gL L i)) ≠ -1
    · have hk : kL w (gL L i) = some (zL (tC w (gL L i))).toNat := if_neg cB.2
      obtain ⟨g1, g2⟩ := hc.1 _ hk
      have h9 := hl.2.2 cB.2 (by omega)
      rw [← cB.1] at h9
      rw [h9, cB.1, g2]
      omega
    · have e2 : q2.1 97 j = q1.1 97 j := hl.2.1 j (by
        by_cases e : j = i + 1
        · exact Or.inr (Classical.byContradiction (fun q => cB ⟨e, q⟩))
        · exact Or.inl e)
      rw [e2]
      refine h j hj (hw.imp id (fun ⟨p, h1, h2⟩ => ⟨p, ?_, h2⟩))
      rcases Nat.lt_or_ge p i with k | k
      · exact k
      · have hpi : p = i := by omega
        subst hpi
        rcases h2 with ⟨l, e1, e2⟩ | ⟨l, r, e1, e4, e5⟩
        · exact absurd ⟨e2, (kL_some e1).1⟩ cB
        · refine absurd ⟨?_, (kR_some e4).1⟩ cA
          unfold szl; rw [e1]; exact e5
theorem szl_R {w : Wv} (hW : OKW w) {σ : St} {k : Nat} (hv : tV w k) (hA : ∀ l, kL w k = some l → PK σ l (tC w l)) : szR σ (zL (tC w k)) (szl w k) := by
  obtain ⟨-, rl, -⟩ := t_info hW hv
  unfold szl
  rcases t_ch hW hv with ⟨e1, -⟩ | ⟨l, e1, -, v1, -⟩ | ⟨l, r, e1, -, ⟨v1, -⟩, -⟩
  · rw [e1]
    refine Or.inl ⟨?_, rfl⟩
    unfold kL at e1
    split at e1
    · assumption
    · exact absurd e1 (by simp)
  · have h9 := kL_some e1
    rw [e1]
    exact szR_k (hA l e1) v1 (by omega)
  · have h9 := kL_some e1
    rw [e1]
    exact szR_k (hA l e1) v1 (by omega)
theorem szl_18 {w : Wv} (hW : OKW w) {k : Nat} (hv : tV w k) : szl w k ≤ 18 := by
  unfold szl
  rcases t_ch hW hv with ⟨e1, -⟩ | ⟨l, e1, -, v1, -⟩ | ⟨l, r, e1, -, ⟨v1, -⟩, -⟩
  · rw [e1]; exact Nat.zero_le _
  · rw [e1]; exact (t_info hW v1).2.2.2.2.1.2
  · rw [e1]; exact (t_info hW v1).2.2.2.2.1.2
def LO (k : Nat) : Prop := k = 97 ∨ (58 ≤ k ∧ k ≤ 75)
theorem PK.lo {σ τ : St} {k : Nat} {c : Cel} (h : PK σ k c) (g : Fr LO σ τ) : PK τ k c := by
  unfold PK
  rw [g.1 91 (by unfold LO; omega), g.2.1 92 (by unfold LO; omega), g.1 93 (by unfold LO; omega), g.1 94 (by unfold LO; omega), g.1 95 (by unfold LO; omega), g.1 96 (by unfold LO; omega)]
  exact h
theorem XW.frL {σ σ' : St} {w : Wv} (h : XW 0 σ w) (hF : Fr LO σ σ') : XW 0 σ' w := h.fr hF (fun k _ hk e => by unfold LO at e; omega)
set_option maxHeartbeats 4000000 in
set_option maxRecDepth 100000 in
theorem c_X3_layOut {κ : Kp} (hI : Ij κ) (l : Launch) (σ : St) {w : Wv} (hX : XW 0 σ w) (hW : OKW w) {k : Nat} {zk : Int} (hzk : zk = (k : Int)) (hv : tV w k) {L : List Nat} (hL : PL w k = L) (hA : ∀ x, x ∈ L → PK σ x (tC w x)) : CtI κ l 3 yX3_layOut cX3_layOut 6 .int [.ref (κ.2.1 89), .int (iZ zk), .ref (κ.2.1 78)] σ (fun z σ' => z = (zS (tC w k) : Int) ∧ (∀ u, u < zS (tC w k) → ∀ j, j < 7 → σ'.1 (58 + u) j = nodD w (gL L u) j) ∧ Fr LO σ σ') := by
  refine Ct.ofG (own := RX3) hI (by decide +kernel) rfl (Nat.le_of_ble_eq_true rfl) rfl ?_
  intro M C hMl
  have hkk := hA k (by rw [← hL, PL_eq hW hv]; exact List.mem_cons_self ..)
  have hi0 := t_info hW hv
  have hlen := PL_len hW hv
  have hL0 := PL_hd hW hv
  have hk512 := hv.1
  have hmem := PL_mem hW hv
  have hch := PL_ch hW hv
  have hpar := PL_par hW hv
  rw [hL] at hlen hL0 hmem hch hpar
  refine g_aload_n C dX3_layOut_0 rfl ?_
  refine gf_X3_31 C dX3_layOut_1 rfl ?_
  refine g_iload_n C dX3_layOut_4 rfl ?_
  refine g_iaz (n := k) (N := 512) (v := (zS (tC w k) : Int)) C dX3_layOut_5 rfl rfl (by omega) (by omega) (by decide) ((hkk.2 hv.2).2.2.2.2) ?_
  refine g_bipush (z := 18) C dX3_layOut_6 rfl ?_
  refine gm_X3_121 C dX3_layOut_8 (by unfold R32; omega) (by decide) (Nat.le_of_ble_eq_true rfl) ?_
  refine g_istore_n (L' := [(3, .int (iZ (min (zS (tC w k) : Int) 18))), (0, .ref (κ.2.1 89)), (1, .int (iZ zk)), (2, .ref (κ.2.1 78))]) C dX3_layOut_11 rfl (by decide) rfl ?_
  refine g_pc (pc' := 12) rfl ?_
  refine g_aload_n C dX3_layOut_12 rfl ?_
  refine g_iconst (z := 0) C dX3_layOut_13 rfl ?_
  refine g_iload_n C dX3_layOut_14 rfl ?_
  refine gc_X3_126 C dX3_layOut_15 rfl (c_X3_lay hI (Ml M) σ (i := 0) (zk := zk) (by omega) (by omega) (by unfold R32; omega)) (by decide) (Nat.le_of_ble_eq_true rfl) (fun σ1 hσl0 => ?_)
  have hl0 : LQ 0 zk σ σ1 := LQ_of hσl0
  refine g_iconst (z := 0) C dX3_layOut_18 rfl ?_
  refine g_istore (L' := [(4, .int (iZ 0)), (3, .int (iZ (min (zS (tC w k) : Int) 18))), (0, .ref (κ.2.1 89)), (1, .int (iZ zk)), (2, .ref (κ.2.1 78))]) C dX3_layOut_19 (by decide) rfl ?_
  have lp21 : ∀ (fz9 : Nat) (i : Nat) (x4 : Int) (q : St), (L.length - i < fz9) → (x4 = (i : Int)) → (i ≤ L.length) → (Fr LO σ q) → (∀ j, j < L.length → Wr w L i j → q.1 97 j = (gL L j : Int)) → (∀ u, u < i → ∀ j, j < 7 → q.1 (58 + u) j = nodD w (gL L u) j) → G M κ 6 (En M κ (qI κ (fun z σ' => z = (zS (tC w k) : Int) ∧ (∀ u, u < zS (tC w k) → ∀ j, j < 7 → σ'.1 (58 + u) j = nodD w (gL L u) j) ∧ Fr LO σ σ'))) 21 [(0, .ref (κ.2.1 89)), (1, .int (iZ zk)), (2, .ref (κ.2.1 78)), (3, .int (iZ (min (zS (tC w k) : Int) 18))), (4, .int (iZ x4))] [] q := by
    intro fz9
    induction fz9 with
    | zero => intro i x4 q hm0; exact absurd hm0 (Nat.not_lt_zero _)
    | succ fz9 ih21 =>
      intro i x4 q hm21 hx4 hi hFq hD hN
      refine g_iload C dX3_layOut_21 rfl ?_
      refine g_iload_n C dX3_layOut_23 rfl ?_
      refine g_pc (pc' := 24) rfl ?_
      refine g_icmp_ge (tgt := 94) C dX3_layOut_24 (by decide) (by unfold R32; omega) (fun h1 => ?_) (fun h1 => ?_)
      · refine g_iload_n C dX3_layOut_94 rfl ?_
        exact g_ireturn C dX3_layOut_95 ⟨by omega, fun u hu j hj => hN u (by omega) j hj, hFq⟩
      · have hwi : Wr w L i i := by rcases Nat.eq_zero_or_pos i with e | e; exact Or.inl e; exact Or.inr (hpar i e (by omega))
        have hmx := gL_mem (L := L) (i := i) (by omega)
        have hvx := hmem _ hmx
        have hcx := hch i (by omega)
        have hAx := hA _ hmx
        have hinf := t_info hW hvx
        have hx512 := hvx.1
        have hs18 := szl_18 hW hvx
        refine g_aload_n C dX3_layOut_27 rfl ?_
        refine gf_X3_34 C dX3_layOut_28 rfl ?_
        refine g_iload C dX3_layOut_31 rfl ?_
        refine g_iaz (n := i) (N := 18) (v := (gL L i : Int)) C dX3_layOut_33 rfl rfl (by omega) (by omega) (by decide) (hD i (by omega) hwi) ?_
        refine g_istore (L' := [(5, .int (iZ (gL L i : Int))), (0, .ref (κ.2.1 89)), (1, .int (iZ zk)), (2, .ref (κ.2.1 78)), (3, .int (iZ (min (zS (tC w k) : Int) 18))), (4, .int (iZ x4))]) C dX3_layOut_34 (by decide) rfl ?_
        refine g_pc (pc' := 36) rfl ?_
        refine g_aload_n C dX3_layOut_36 rfl ?_
        refine g_iload C dX3_layOut_37 rfl ?_
        refine g_aload_n C dX3_layOut_39 rfl ?_
        refine g_iload C dX3_layOut_40 rfl ?_
        have hkz2 : kd (58 + i) = 2 := kd_node i (by omega)
        refine g_aald (n := i) (N := 18) (c := 24) (r := (58 + i)) C dX3_layOut_42 rfl (by decide) rfl (by decide) rfl (by omega) (by omega) (by decide) (rf_24 _ _ rfl) ?_
        refine gc_X3_130 C dX3_layOut_43 rfl (c_X3_describe hI (Ml M) q (hX.frL hFq) hW (k := (gL L i)) (i := i) rfl (by omega) hvx (hAx.lo hFq) hinf.1 hinf.2.2.1 hinf.2.2.2.1) (by decide) (Nat.le_of_ble_eq_true rfl) (fun q1 ⟨hNd, hFd⟩ => ?_)
        have hF1 : Fr LO σ q1 := hFq.tr (hFd.mono (fun k e => by unfold LO; omega))
        have hA1 := hAx.lo hF1
        have hD1 : ∀ j, j < L.length → Wr w L i j → q1.1 97 j = (gL L j : Int) := fun j h1 h2 => by rw [hFd.1 97 (by omega)]; exact hD j h1 h2
        refine g_aload_n C dX3_layOut_46 rfl ?_
        refine g_iload C dX3_layOut_47 rfl ?_
        refine g_pc (pc' := 49) rfl ?_
        refine g_iconst (z := 1) C dX3_layOut_49 rfl ?_
        refine g_iadd C dX3_layOut_50 ?_
        refine g_aload_n C dX3_layOut_51 rfl ?_
        refine gf_X3_22 C dX3_layOut_52 rfl ?_
        refine g_iload C dX3_layOut_55 rfl ?_
        refine g_iaz (n := (gL L i)) (N := 512) (v := (zL (tC w (gL L i)))) C dX3_layOut_57 rfl rfl (by omega) (by omega) (by decide) ((hA1.2 hvx.2).2.1) ?_
        refine gc_X3_126 C dX3_layOut_58 rfl (c_X3_lay hI (Ml M) q1 (i := (i + 1)) (zk := (zL (tC w (gL L i)))) (by omega) (by omega) (by unfold R32; omega)) (by decide) (Nat.le_of_ble_eq_true rfl) (fun q2 hσl1 => ?_)
        have hl1 : LQ (i + 1) (zL (tC w (gL L i))) q1 q2 := LQ_of hσl1
        have hF2 : Fr LO σ q2 := hF1.tr (hl1.1.mono (fun k e => Or.inl e))
        have hA2 := hAx.lo hF2
        refine g_aload_n C dX3_layOut_61 rfl ?_
        refine g_pc (pc' := 62) rfl ?_
        refine g_iload C dX3_layOut_62 rfl ?_
        refine g_iconst (z := 1) C dX3_layOut_64 rfl ?_
        refine g_iadd C dX3_layOut_65 ?_
        refine g_aload_n C dX3_layOut_66 rfl ?_
        refine g_aload_n C dX3_layOut_67 rfl ?_
        refine gf_X3_22 C dX3_layOut_68 rfl ?_
        refine g_iload C dX3_layOut_71 rfl ?_
        refine g_iaz (n := (gL L i)) (N := 512) (v := (zL (tC w (gL L i)))) C dX3_layOut_73 rfl rfl (by omega) (by omega) (by decide) ((hA2.2 hvx.2).2.1) ?_
        refine g_pc (pc' := 74) rfl ?_
        refine gc_X3_118 C dX3_layOut_74 rfl (c_X3_sizeOf hI (Ml M) q2 (szl_R hW hvx (fun l hl => (hA l (by have h9 := hcx.1 l hl; rw [← h9.2]; exact gL_mem h9.1)).lo hF2))) (by decide) (Nat.le_of_ble_eq_true rfl) (fun z σ9 ⟨hz, hσ⟩ => ?_)
        subst z
        subst σ9
        refine g_iadd C dX3_layOut_77 ?_
        refine g_aload_n C dX3_layOut_78 rfl ?_
        refine gf_X3_25 C dX3_layOut_79 rfl ?_
        refine g_iload C dX3_layOut_82 rfl ?_
        refine g_iaz (n := (gL L i)) (N := 512) (v := (zR (tC w (gL L i)))) C dX3_layOut_84 rfl rfl (by omega) (by omega) (by decide) ((hA2.2 hvx.2).2.2.1) ?_
        refine gc_X3_126 C dX3_layOut_85 rfl (c_X3_lay hI (Ml M) q2 (i := (i + 1 + szl w (gL L i))) (zk := (zR (tC w (gL L i)))) (by omega) (by omega) (by unfold R32; omega)) (by decide) (Nat.le_of_ble_eq_true rfl) (fun q3 hσl2 => ?_)
        have hl2 : LQ (i + 1 + szl w (gL L i)) (zR (tC w (gL L i))) q2 q3 := LQ_of hσl2
        have hF3 : Fr LO σ q3 := hF2.tr (hl2.1.mono (fun k e => Or.inl e))
        refine g_iinc (q := 5) (v := (x4 + 1)) (L' := [(4, .int (iZ (x4 + 1))), (5, .int (iZ (gL L i : Int))), (0, .ref (κ.2.1 89)), (1, .int (iZ zk)), (2, .ref (κ.2.1 78)), (3, .int (iZ (min (zS (tC w k) : Int) 18)))]) C dX3_layOut_88 rfl rfl (by decide) rfl ?_
        refine g_pc (pc' := 91) rfl ?_
        refine g_goto (tgt := 21) C dX3_layOut_91 (by decide) ?_
        exact g_loc [2, 3, 4, 5, 0] (by rfl) (ih21 (i + 1) (x4 + 1) q3 (by omega) (by omega) (by omega) hF3 (laid_step hW hvx hcx (by omega) hD1 hl1 hl2) (fun u hu j hj => by rw [hl2.1.1 (58 + u) (by unfold XO; omega), hl1.1.1 (58 + u) (by unfold XO; omega)]; rcases Nat.lt_or_ge u i with k9 | k9; (rw [hFd.1 (58 + u) (by omega)]; exact hN u k9 j hj); (rw [show u = i by omega]; exact hNd j hj)))
  exact g_loc [2, 3, 4, 1, 0] (by rfl) (lp21 _ 0 0 σ1 (Nat.lt_succ_self _) rfl (Nat.zero_le _) (hl0.1.mono (fun k e => Or.inl e)) (fun j hj hw => by rcases hw with e | ⟨p, h1, _⟩; (rw [e, hl0.2.2 (by omega) (by decide), hL0]; exact hzk); exact absurd h1 (Nat.not_lt_zero _)) (fun u hu => absurd hu (Nat.not_lt_zero _)))

/-! the whole's view stays in bounds -/
theorem OKW.ws {w w' : Wv} (h : OKW w) (e1 : ∀ t, t < 5 → wl w' t ≤ wl w t ∧ (0 < wb w' t ∧ wb w' t ≤ 8) ∧ wst w' t ≤ 3 ∧ ∀ i c, wv w' t i c = wv w t i c) (e2 : wnf w' ≤ wnf w ∧ ∀ f, wfp w' f = wfp w f ∧ wfs w' f = wfs w f ∧ wfv w' f = wfv w f) (e3 : wnj w' ≤ wnj w ∧ ∀ j, wja w' j = wja w j ∧ wjb w' j = wjb w j) : OKW w' := by
  refine ⟨fun t ht => ?_, ⟨Nat.le_trans e2.1 h.2.1.1, fun f hf => ?_⟩, ⟨Nat.le_trans e3.1 h.2.2.1, fun j hj => ?_⟩⟩
  · obtain ⟨a1, a2, a3, a4⟩ := e1 t ht
    have hb := h.1 t ht
    exact ⟨Nat.le_trans a1 hb.1, a2, a3, fun i hi c hc => by rw [a4]; exact hb.2.2.2 i (by omega) c hc⟩
  · obtain ⟨a1, a2, a3⟩ := e2.2 f
    rw [a1, a2, a3]; exact h.2.1.2 f (by omega)
  · obtain ⟨a1, a2⟩ := e3.2 j
    rw [a1, a2]; exact h.2.2.2 j (by omega)
theorem k_row {V : Vw} (hO : OKV V) (x so n : Int) : OKV (aRow V x so n).2 := by
  unfold aRow
  repeat' split
  all_goals first | exact hO | exact hO.shelf (by decide) (fun _ => ⟨by omega, by omega⟩) (fun e => absurd e (by decide))
theorem k_set {V : Vw} (hO : OKV V) (x i : Int) (v : Int64) : OKV (aSet V x i v).2 := by
  unfold aSet
  split
  · exact hO
  · rename_i h0
    have h9 : wnr V x = 0 := by omega
    have h8 := wnr_0 hO h9
    have h7 := (hO.2.2.1 x.toNat (by omega)).2.1 h8.2
    split
    · exact hO
    · exact hO.shelf (by decide) (fun _ => h7) (fun e => absurd e (by decide))
theorem k_copy {V : Vw} (hO : OKV V) (x y i j n : Int) : OKV (aCopy V x y i j n).2 := by
  unfold aCopy
  split
  · exact hO
  · split
    · exact hO
    · split
      · exact hO
      · have h6 := hO.2.2.1 y.toNat (by omega)
        have h7 : sK (vSh V) y.toNat = 1 := by omega
        split
        · exact hO
        · split
          · exact hO
          · exact hO.shelf (by decide) (fun _ => h6.2.1 h7) (fun e => absurd e (by decide))
theorem k_show {V : Vw} (hO : OKV V) (x nd : Int) : OKV (aShow V x nd).2 := by
  unfold aShow
  split
  · exact hO
  · split
    · exact hO.shelf (by decide) (fun e => absurd e (by decide)) (fun e => absurd e (by decide))
    · exact hO.shelf (by decide) (fun e => absurd e (by decide)) (fun _ => hO.2.2.2.1.2 nd.toNat (by omega))
theorem k_says {V : Vw} (hO : OKV V) (x a : Int) : OKV (aSays V x a).2 := by
  unfold aSays
  repeat' split
  all_goals exact hO
theorem k_line {V : Vw} (hO : OKV V) (t a b c : Int) : OKV (aLine V t a b c).2 := by
  unfold aLine
  repeat' split
  all_goals first | exact hO | exact hO.world (hO.1.add (by omega) ⟨by omega, by omega, by omega⟩)
theorem k_empty {V : Vw} (hO : OKV V) (t : Int) : OKV (aEmpty V t).2 := by
  unfold aEmpty
  split
  · exact hO
  · refine hO.world (hO.1.ws (fun u hu => ⟨?_, ?_, ?_, fun i c => ?_⟩) ⟨?_, fun f => ⟨?_, ?_, ?_⟩⟩ ⟨?_, fun j => ⟨?_, ?_⟩⟩)
    · by_cases e : u = t.toNat <;> simp [wl, wset, e]
    · have := (hO.1.1 u hu).2.1; simpa [wb, wset] using this
    · have := (hO.1.1 u hu).2.2.1; simpa [wst, wset] using this
    · simp [wv, wset]
    · simp [wnf, wset]
    · simp [wfp, wset]
    · simp [wfs, wset]
    · simp [wfv, wset]
    · simp [wnj, wset]
    · simp [wja, wset]
    · simp [wjb, wset]
theorem k_tableOf {V : Vw} (hO : OKV V) (t a : Int) : OKV (aTableOf V t a).2 := by
  unfold aTableOf
  repeat' split
  all_goals exact hO
theorem k_lineOf {V : Vw} (hO : OKV V) (t i c : Int) : OKV (aLineOf V t i c).2 := by
  unfold aLineOf
  repeat' split
  all_goals exact hO
theorem k_filter {V : Vw} (hO : OKV V) (p s v : Int) : OKV (aFilter V p s v).2 := by
  unfold aFilter
  repeat' split
  all_goals first | exact hO | exact hO.world (hO.1.addF (by omega) ⟨by omega, by omega, by omega⟩)
theorem k_join {V : Vw} (hO : OKV V) (p q : Int) : OKV (aJoin V p q).2 := by
  unfold aJoin
  repeat' split
  all_goals first | exact hO | exact hO.world (hO.1.addJ (by omega) ⟨by omega, by omega, by omega⟩)
theorem k_clear {V : Vw} (hO : OKV V) : OKV (aClear V).2 := by
  refine hO.world (hO.1.ws (fun u hu => ⟨?_, ?_, ?_, fun i c => ?_⟩) ⟨?_, fun f => ⟨?_, ?_, ?_⟩⟩ ⟨?_, fun j => ⟨?_, ?_⟩⟩)
  · simp [wl, wset]
  · have := (hO.1.1 u hu).2.1; simpa [wb, wset] using this
  · have := (hO.1.1 u hu).2.2.1; simpa [wst, wset] using this
  · simp [wv, wset]
  · simp [wnf, wset]
  · simp [wfp, wset]
  · simp [wfs, wset]
  · simp [wfv, wset]
  · simp [wnj, wset]
  · simp [wja, wset]
  · simp [wjb, wset]
theorem k_filterOf {V : Vw} (hO : OKV V) (f a : Int) : OKV (aFilterOf V f a).2 := by
  unfold aFilterOf
  repeat' split
  all_goals exact hO
theorem k_joinOf {V : Vw} (hO : OKV V) (j a : Int) : OKV (aJoinOf V j a).2 := by
  unfold aJoinOf
  repeat' split
  all_goals exact hO
theorem k_seed {V : Vw} (hO : OKV V) (v : Int) : OKV (aSeed V v).2 := hO.world (hO.1.seed v)
theorem k_image {V : Vw} (hO : OKV V) : OKV (aImage V).2 := ⟨hO.1, ⟨Nat.le_refl 1, fun _ => hO.1⟩, hO.2.2⟩
theorem k_restore {V : Vw} (hO : OKV V) : OKV (aRestore V).2 := by
  unfold aRestore
  split
  · exact hO
  · exact hO.world (hO.2.1.2 (by have := hO.2.1.1; omega))
theorem k_nodeOf {V : Vw} (hO : OKV V) (i a : Int) : OKV (aNodeOf V i a).2 := by
  unfold aNodeOf
  repeat' split
  all_goals exact hO
theorem k_drawn {V : Vw} (hO : OKV V) (n : Int) : OKV (aDrawn V n).2 := by
  unfold aDrawn
  split
  · exact hO
  · exact hO.world (drN_OK hO.1 _)
theorem k_put {V : Vw} (hO : OKV V) (t a v : Int) : OKV (aPut V t a v).2 := by
  unfold aPut
  split
  · exact hO
  · split
    · exact hO
    · split
      · split
        · refine hO.world (hO.1.ws (fun u hu => ⟨?_, ?_, ?_, fun i c => ?_⟩) ⟨?_, fun f => ⟨?_, ?_, ?_⟩⟩ ⟨?_, fun j => ⟨?_, ?_⟩⟩)
          · simp [wl, wset]
          · have := (hO.1.1 u hu).2.1
            by_cases e : u = t.toNat
            · simp [wb, wset, e]; omega
            · simpa [wb, wset, e] using this
          · have := (hO.1.1 u hu).2.2.1; simpa [wst, wset] using this
          · simp [wv, wset]
          · simp [wnf, wset]
          · simp [wfp, wset]
          · simp [wfs, wset]
          · simp [wfv, wset]
          · simp [wnj, wset]
          · simp [wja, wset]
          · simp [wjb, wset]
        · exact hO
      · split
        · refine hO.world (hO.1.ws (fun u hu => ⟨?_, ?_, ?_, fun i c => ?_⟩) ⟨?_, fun f => ⟨?_, ?_, ?_⟩⟩ ⟨?_, fun j => ⟨?_, ?_⟩⟩)
          · simp [wl, wset]
          · have := (hO.1.1 u hu).2.1; simpa [wb, wset] using this
          · have := (hO.1.1 u hu).2.2.1
            by_cases e : u = t.toNat
            · simp [wst, wset, e]; omega
            · simpa [wst, wset, e] using this
          · simp [wv, wset]
          · simp [wnf, wset]
          · simp [wfp, wset]
          · simp [wfs, wset]
          · simp [wfv, wset]
          · simp [wnj, wset]
          · simp [wja, wset]
          · simp [wjb, wset]
        · exact hO
theorem k_bucket {V : Vw} (hO : OKV V) (p b a : Int) : OKV (aBucket V p b a).2 := by
  unfold aBucket
  repeat' split
  all_goals exact hO
theorem k_different {V : Vw} (hO : OKV V) (p : Int) : OKV (aDifferent V p).2 := by
  unfold aDifferent
  split <;> exact hO
theorem k_judge {V : Vw} (hO : OKV V) (x n : Int) : OKV (aJudge V x n).2 := by
  unfold aJudge
  repeat' split
  all_goals exact hO
theorem k_share {V : Vw} (hO : OKV V) (p s v : Int) : OKV (aShare V p s v).2 := by
  unfold aShare
  repeat' split
  all_goals exact hO
theorem k_joinShare {V : Vw} (hO : OKV V) (j : Int) : OKV (aJoinShare V j).2 := by
  unfold aJoinShare
  split <;> exact hO
theorem k_thought {V : Vw} (hO : OKV V) (s : Int) : OKV (aThought V s).2 := by
  unfold aThought
  split <;> exact hO
theorem k_sorting {V : Vw} (hO : OKV V) (s : Int) : OKV (aSorting V s).2 := by
  unfold aSorting
  split <;> exact hO
theorem k_really {V : Vw} (hO : OKV V) (s : Int) : OKV (aReally V s).2 := by
  unfold aReally
  repeat' split
  all_goals exact hO
theorem k_sum {V : Vw} (hO : OKV V) (s p : Int) : OKV (aSum V s p).2 := by
  unfold aSum
  repeat' split
  all_goals exact hO
theorem k_wrongBy {V : Vw} (hO : OKV V) (s : Int) : OKV (aWrongBy V s).2 := by
  unfold aWrongBy
  repeat' split
  all_goals exact hO
theorem k_cost {V : Vw} (hO : OKV V) (s o : Int) : OKV (aCost V s o).2 := by
  unfold aCost
  repeat' split
  all_goals exact hO
theorem wpl_14 {w : Wv} (hW : OKW w) {s j : Nat} (hj : j < wnj w) : wpl w s j ≤ 14 := by
  have := hW.2.2.2 j hj
  unfold wpl
  split <;> omega
theorem nodD_OK {w : Wv} (hW : OKW w) {k : Nat} (hv : tV w k) : NOK (nodD w k) := by
  obtain ⟨-, -, -, -, h5, h6, h7⟩ := t_info hW hv
  have h1 := hv.1.1
  have h2 := hv.1.2
  refine ⟨h6, ⟨?_, ?_⟩, ⟨?_, ?_⟩, h7, ?_, ?_⟩
  · show (0 : Int) ≤ ((k / 16 : Nat) : Int); omega
  · show ((k / 16 : Nat) : Int) < 32; omega
  · show (-1 : Int) ≤ ((k % 16 : Nat) : Int) - 1; omega
  · show ((k % 16 : Nat) : Int) - 1 ≤ 14; omega
  · show (-1 : Int) ≤ (if zR (tC w k) = -1 then -1 else (wpl w (zR (tC w k) / 16).toNat (zJ (tC w k)).toNat : Int)) ∧ (if zR (tC w k) = -1 then -1 else (wpl w (zR (tC w k) / 16).toNat (zJ (tC w k)).toNat : Int)) ≤ 14
    by_cases e : zR (tC w k) = -1
    · rw [if_pos e]; omega
    · rw [if_neg e]
      have hj : (zJ (tC w k)).toNat < wnj w := by
        have hr : kR w k ≠ none := by
          unfold kR
          rw [if_neg e]
          exact fun q => by cases q
        rcases t_way hW hv with ⟨-, -, x, -⟩ | ⟨-, -, x, -⟩ | ⟨a, b, o1, o2, i, -, -, -, -, ⟨j1, j2⟩, -⟩
        · exact absurd x hr
        · exact absurd x hr
        · omega
      have := wpl_14 hW (s := (zR (tC w k) / 16).toNat) hj
      omega
  · show (1 : Int) ≤ (zS (tC w k) : Int) ∧ (zS (tC w k) : Int) ≤ 18; omega
theorem k_plan {V : Vw} (hO : OKV V) (s o : Int) : OKV (aPlan V s o).2 := by
  unfold aPlan
  split
  · exact hO
  · split
    · exact hO
    · rename_i h0 hz
      have hk : tC (vW V) (16 * s.toNat + (o + 1).toNat) = TT (vW V) s.toNat (o + 1).toNat := tC_c (by omega)
      have hv : tV (vW V) (16 * s.toNat + (o + 1).toNat) := ⟨⟨by omega, by omega⟩, by rw [hk]; exact hz⟩
      have h18 := (t_info hO.1 hv).2.2.2.2.1
      rw [hk] at h18
      refine ⟨hO.1, hO.2.1, hO.2.2.1, ⟨h18.2, fun i hi => ?_⟩, hO.2.2.2.2⟩
      refine nodD_OK hO.1 (PL_mem hO.1 hv _ (gL_mem ?_))
      rw [PL_len hO.1 hv, hk]; exact hi

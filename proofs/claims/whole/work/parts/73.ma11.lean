/-! THE MODEL: plans -/
def Stk (σ : St) (L : List Nat) : Prop := σ.1 105 36 = (L.length : Int) ∧ ∀ i, i < L.length → σ.1 139 i = ((gL L.reverse i / 16 : Nat) : Int) ∧ σ.1 140 i = ((gL L.reverse i % 16 : Nat) : Int)
def SOp (k : Nat) : Prop := k = 139 ∨ k = 140
def TOp (j : Nat) : Prop := j = 36
theorem Stk.push {σ : St} {L : List Nat} (h : Stk σ L) {x : Nat} {a b n : Int} (ha : a = ((x / 16 : Nat) : Int)) (hb : b = ((x % 16 : Nat) : Int)) (hn : n = (L.length : Int) + 1) : Stk (sI (sI (sI σ 139 L.length a) 140 L.length b) 105 36 n) (x :: L) := by
  have e1 : ∀ q, (sI (sI (sI σ 139 L.length a) 140 L.length b) 105 36 n).1 139 q = if q = L.length then a else σ.1 139 q := fun q => by
    by_cases e : q = L.length
    · rw [rI_k (by decide), rI_k (by decide), e, rI_s, if_pos rfl]
    · rw [rI_k (by decide), rI_k (by decide), rI_j e, if_neg e]
  have e2 : ∀ q, (sI (sI (sI σ 139 L.length a) 140 L.length b) 105 36 n).1 140 q = if q = L.length then b else σ.1 140 q := fun q => by
    by_cases e : q = L.length
    · rw [rI_k (by decide), e, rI_s, if_pos rfl]
    · rw [rI_k (by decide), rI_j e, rI_k (by decide), if_neg e]
  refine ⟨by rw [rI_s, List.length_cons, hn]; omega, fun i hi => ?_⟩
  rw [List.length_cons] at hi
  rw [e1, e2, List.reverse_cons]
  rcases Nat.lt_or_ge i L.length with k | k
  · rw [if_neg (by omega), if_neg (by omega), gL_l (by rw [List.length_reverse]; exact k)]; exact h.2 i k
  · have e : i = L.length := by omega
    subst e
    have g : gL (L.reverse ++ [x]) L.length = x := by have := gL_r (L := L.reverse) (t := x); rwa [List.length_reverse] at this
    rw [if_pos rfl, if_pos rfl, g]
    exact ⟨ha, hb⟩
theorem Stk.pop {σ : St} {L : List Nat} {x : Nat} (h : Stk σ (x :: L)) {n : Int} (hn : n = (L.length : Int)) : Stk (sI σ 105 36 n) L ∧ σ.1 139 L.length = ((x / 16 : Nat) : Int) ∧ σ.1 140 L.length = ((x % 16 : Nat) : Int) := by
  have g : gL (x :: L).reverse L.length = x := by have := gL_r (L := L.reverse) (t := x); rw [List.length_reverse] at this; rwa [List.reverse_cons]
  have h2 := h.2 L.length (by rw [List.length_cons]; omega)
  rw [g] at h2
  refine ⟨⟨by rw [rI_s]; exact hn, fun i hi => ?_⟩, h2⟩
  rw [rI_k (by decide), rI_k (by decide)]
  have h3 := h.2 i (by rw [List.length_cons]; omega)
  rwa [List.reverse_cons, gL_l (by rw [List.length_reverse]; exact hi)] at h3
theorem Stk.fm {σ τ : St} {L : List Nat} {S T : Nat → Prop} (h : Stk σ L) (g : Fm S T σ τ) (h1 : ¬ S 139) (h2 : ¬ S 140) (h3 : ¬ T 36) : Stk τ L := by
  unfold Stk
  rw [(g.1 139 (by decide) h1).1, (g.1 140 (by decide) h2).1, g.2 36 h3]
  exact h
/-- all best ways stand -/
def KA (σ : St) (w : Wv) : Prop := ∀ k, k < 512 → PKm σ k (tC w k)
theorem KA.fm {σ τ : St} {w : Wv} {S T : Nat → Prop} (h : KA σ w) (g : Fm S T σ τ) (hS : ∀ k, 126 ≤ k → k ≤ 129 → ¬ S k) : KA τ w := fun k hk => (h k hk).fr (by rw [(g.1 127 (by decide) (hS 127 (by decide) (by decide))).1]) (by rw [(g.1 126 (by decide) (hS 126 (by decide) (by decide))).2.1]) (by rw [(g.1 128 (by decide) (hS 128 (by decide) (by decide))).1]) (by rw [(g.1 129 (by decide) (hS 129 (by decide) (by decide))).1])
theorem prR_w {w : Wv} {T : Nat → Nat → Cel} {s : Nat} : ∀ n o, zW (prR w T s n o) ≠ 0
  | 0, _ => (show (-1 : Int) ≠ 0 by decide)
  | n + 1, o => by
    have ih := prR_w (w := w) (T := T) (s := s) n o
    rw [prR]
    have ad : ∀ c n : Cel, zW c ≠ 0 → zW n ≠ 0 → zW (addP c n) ≠ 0 := fun c n h1 h2 => by unfold addP; split; exact h2; exact h1
    split
    · unfold stP s3R s2R s1R
      have a1 : zW (if o = 0 then addP (prR w T s n o) (hC w T n (s - n) (jB w n (s - n))) else prR w T s n o) ≠ 0 := by
        split
        · exact ad _ _ ih (show (1 : Int) ≠ 0 by decide)
        · exact ih
      have a2 : zW (if o < 16 ∧ inO n o then addP (if o = 0 then addP (prR w T s n o) (hC w T n (s - n) (jB w n (s - n))) else prR w T s n o) (lC w T n (s - n) (jB w n (s - n)) o) else (if o = 0 then addP (prR w T s n o) (hC w T n (s - n) (jB w n (s - n))) else prR w T s n o)) ≠ 0 := by
        split
        · exact ad _ _ a1 (show (2 : Int) ≠ 0 by decide)
        · exact a1
      split
      · exact ad _ _ a2 (show (3 : Int) ≠ 0 by decide)
      · exact a2
    · exact ih
theorem rd_one {w : Wv} {s o : Nat} (h1 : 1 ≤ s) (h2 : s ≤ 31) (h : zW (TT w s o) = 0) : s &&& (s - 1) = 0 := by
  refine Classical.byContradiction (fun e => ?_)
  rw [congrFun (TT_eq (w := w) h1 h2) o] at h
  have hb : zW (baR w (TT w) s o) ≠ 0 := by unfold baR; rw [if_neg e]; exact prR_w s o
  unfold soR at h
  split at h
  · unfold addP at h
    split at h
    · exact absurd h (show (4 : Int) ≠ 0 by decide)
    · exact hb h
  · exact hb h
/-- a cell's way and its children -/
theorem t_way {w : Wv} (hW : OKW w) {k : Nat} (hv : tV w k) : (zW (tC w k) = 0 ∧ kL w k = none ∧ kR w k = none ∧ (k / 16) &&& (k / 16 - 1) = 0 ∧ zS (tC w k) = 1) ∨ (zW (tC w k) = 4 ∧ kL w k = some (16 * (k / 16) + 0) ∧ kR w k = none ∧ zS (tC w k) = 1 + zS (tC w (16 * (k / 16) + 0))) ∨ ∃ a b o1 o2 i : Nat, (1 ≤ a ∧ 1 ≤ b ∧ a + b = k / 16 ∧ a &&& (k / 16) = a) ∧ (o1 < 16 ∧ o2 < 16) ∧ (kL w k = some (16 * a + o1) ∧ kR w k = some (16 * b + o2)) ∧ (zL (tC w k) = ((16 * a + o1 : Nat) : Int) ∧ zR (tC w k) = ((16 * b + o2 : Nat) : Int)) ∧ (zJ (tC w k) = (i : Int) ∧ i < wnj w) ∧ zS (tC w k) = 1 + zS (tC w (16 * a + o1)) + zS (tC w (16 * b + o2)) ∧ ((zW (tC w k) = 1 ∧ o1 = 0 ∧ o2 = 0) ∨ (zW (tC w k) = 2 ∧ o1 = k % 16 ∧ o2 = 0) ∨ (zW (tC w k) = 3 ∧ o1 = mO w a i ∧ o2 = mO w b i)) := by
  obtain ⟨⟨h1, h2⟩, h3⟩ := hv
  rcases TT_CW hW (s := k / 16) (o := k % 16) (by omega) (by omega) (by omega) with e | e | e | e
  · exact absurd e h3
  · exact Or.inl ⟨e.1, if_pos e.2.1, if_pos e.2.2.1, rd_one (by omega) (by omega) e.1, e.2.2.2.2⟩
  · obtain ⟨⟨e0, e1⟩, ⟨e2, e3, -⟩, e4, e5⟩ := e
    refine Or.inr (Or.inl ⟨e0, ?_, if_pos e3, by rw [tC_c (by omega)]; exact e5⟩)
    unfold kL tC
    rw [e2, if_neg (by omega)]; rfl
  · obtain ⟨a, b, o1, o2, i, a1, b1, ⟨c1, c2⟩, d1, -, e5, e6⟩ := e
    refine Or.inr (Or.inr ⟨a, b, o1, o2, i, a1, b1, ⟨?_, ?_⟩, ⟨c1, c2⟩, d1, by rw [tC_c b1.1, tC_c b1.2]; exact e5, e6⟩)
    · unfold kL tC
      rw [c1, if_neg (by omega)]; rfl
    · unfold kR tC
      rw [c2, if_neg (by omega)]; rfl
theorem aOf_t {w : Wv} {k : Nat} (h : 1 ≤ zW (tC w k) ∧ zW (tC w k) ≤ 3) {a o1 : Nat} (hl : zL (tC w k) = ((16 * a + o1 : Nat) : Int)) (ho : o1 < 16) : aOf (tC w k) = (a : Int) := by
  unfold aOf
  rw [if_neg (by omega), hl]; omega
set_option maxHeartbeats 4000000 in
set_option maxRecDepth 100000 in
theorem c_X10_opens {κ : Kp} (hI : Ij κ) (l : Launch) (σ : St) {L : List Nat} (hS : Stk σ L) (hl : L.length < 64) {x : Nat} {a b : Int} (ha : a = ((x / 16 : Nat) : Int)) (hb : b = ((x % 16 : Nat) : Int)) : CtV κ l 0 yX10_opens cX10_opens 3 [.ref (κ.2.1 105), .int (iZ a), .int (iZ b)] σ (fun σ' => Stk σ' (x :: L) ∧ Fm SOp TOp σ σ') := by
  refine Ct.ofG (own := RX10) hI (by decide +kernel) rfl (Nat.le_of_ble_eq_true rfl) rfl ?_
  intro M C hMl
  refine g_aload_n C dX10_opens_0 rfl ?_
  refine gf_X10_92 C dX10_opens_1 rfl ?_
  refine g_aload_n C dX10_opens_4 rfl ?_
  refine gf_X10_248 (z := (L.length : Int)) C dX10_opens_5 rfl hS.1 ?_
  refine g_iload_n C dX10_opens_8 rfl ?_
  refine g_iast (n := L.length) (N := 64) C dX10_opens_9 rfl rfl (by omega) (by omega) (by decide) ?_
  refine g_aload_n C dX10_opens_10 rfl ?_
  refine g_pc (pc' := 11) rfl ?_
  refine gf_X10_95 C dX10_opens_11 rfl ?_
  refine g_aload_n C dX10_opens_14 rfl ?_
  refine gf_X10_248 (z := (L.length : Int)) C dX10_opens_15 rfl ((rI_k (by decide)).trans hS.1) ?_
  refine g_iload_n C dX10_opens_18 rfl ?_
  refine g_iast (n := L.length) (N := 64) C dX10_opens_19 rfl rfl (by omega) (by omega) (by decide) ?_
  refine g_aload_n C dX10_opens_20 rfl ?_
  refine g_dup C dX10_opens_21 rfl ?_
  refine gf_X10_248 (z := (L.length : Int)) C dX10_opens_22 rfl ((rI_k (by decide)).trans ((rI_k (by decide)).trans hS.1)) ?_
  refine g_pc (pc' := 25) rfl ?_
  refine g_iconst (z := 1) C dX10_opens_25 rfl ?_
  refine g_iadd C dX10_opens_26 ?_
  refine gp_X10_248 C dX10_opens_27 rfl ?_
  exact g_return C dX10_opens_30 ⟨hS.push ha hb rfl, ((Fm.rf.a (by decide) (Or.inl rfl)).a (by decide) (Or.inr rfl)).t rfl⟩
def chs (w : Wv) (k : Nat) : List Nat := (match kL w k with | none => [] | some l => [l]) ++ (match kR w k with | none => [] | some r => [r])
set_option maxHeartbeats 4000000 in
set_option maxRecDepth 100000 in
theorem opensBelow_p {κ : Kp} (hI : Ij κ) (l : Launch) (σ : St) {w : Wv} (hM : MW σ w) (hW : OKW w) (hK : KA σ w) {k : Nat} {zk : Int} (hzk : zk = (k : Int)) (hv : tV w k) {L : List Nat} (hS : Stk σ L) (hl : L.length ≤ 40) (hpa : 1 ≤ zW (tC w k) ∧ zW (tC w k) ≤ 3) {a b o1 o2 i : Nat} (ha1 : 1 ≤ a ∧ 1 ≤ b ∧ a + b = k / 16 ∧ a &&& (k / 16) = a) (hb1 : o1 < 16 ∧ o2 < 16) (d1 : zL (tC w k) = ((16 * a + o1 : Nat) : Int)) (j1 : zJ (tC w k) = (i : Int)) (j2 : i < wnj w) (ww : (zW (tC w k) = 1 ∧ o1 = 0 ∧ o2 = 0) ∨ (zW (tC w k) = 2 ∧ o1 = k % 16 ∧ o2 = 0) ∨ (zW (tC w k) = 3 ∧ o1 = mO w a i ∧ o2 = mO w b i)) : CtV κ l 2 yX10_opensBelow cX10_opensBelow 7 [.ref (κ.2.1 105), .int (iZ zk)] σ (fun σ' => Stk σ' ((16 * a + o1) :: (16 * b + o2) :: L) ∧ Fm SOp TOp σ σ') := by
  refine Ct.ofG (own := RX10) hI (by decide +kernel) rfl (Nat.le_of_ble_eq_true rfl) rfl ?_
  intro M C hMl
  have hk512 := hv.1
  have hck := hK k hk512.2
  have hti := t_info hW hv
  refine g_iload_n C dX10_opensBelow_0 rfl ?_
  refine g_bipush (z := 16) C dX10_opensBelow_1 rfl ?_
  refine g_idiv C dX10_opensBelow_3 (by omega) ?_
  refine g_istore_n (L' := [(2, .int (iZ (zk / 16))), (0, .ref (κ.2.1 105)), (1, .int (iZ zk))]) C dX10_opensBelow_4 rfl (by decide) rfl ?_
  refine g_iload_n C dX10_opensBelow_5 rfl ?_
  refine g_bipush (z := 16) C dX10_opensBelow_6 rfl ?_
  refine g_irem C dX10_opensBelow_8 (by omega) ?_
  refine g_pc (pc' := 9) rfl ?_
  refine g_istore_n (L' := [(3, .int (iZ (zk % 16))), (2, .int (iZ (zk / 16))), (0, .ref (κ.2.1 105)), (1, .int (iZ zk))]) C dX10_opensBelow_9 rfl (by decide) rfl ?_
  refine g_aload_n C dX10_opensBelow_10 rfl ?_
  refine gf_X10_65 C dX10_opensBelow_11 rfl ?_
  refine g_iload_n C dX10_opensBelow_14 rfl ?_
  refine g_iaz (n := k) (N := 512) (v := (aOf (tC w k))) C dX10_opensBelow_15 rfl rfl (by omega) (by omega) (by decide) ((hck.2 hv.2).2.1) ?_
  refine g_istore (L' := [(4, .int (iZ (aOf (tC w k)))), (3, .int (iZ (zk % 16))), (2, .int (iZ (zk / 16))), (0, .ref (κ.2.1 105)), (1, .int (iZ zk))]) C dX10_opensBelow_16 (by decide) rfl ?_
  refine g_iload_n C dX10_opensBelow_18 rfl ?_
  refine g_iload C dX10_opensBelow_19 rfl ?_
  refine g_pc (pc' := 21) rfl ?_
  refine g_iconst (z := (-1)) C dX10_opensBelow_21 rfl ?_
  refine g_ixor C dX10_opensBelow_22 ?_
  refine g_iand C dX10_opensBelow_23 ?_
  have hat := aOf_t hpa d1 hb1.1
  have hma : mO w a (i : Int) = wpl w a i + 1 := rfl
  have hmb : mO w b (i : Int) = wpl w b i + 1 := rfl
  refine g_raw (sub_raw (s := k / 16) (a := a) (by omega) hat (by omega) (by omega) ha1.2.2.2) ?_
  rw [show k / 16 - a = b by omega]
  refine g_istore (L' := [(5, .int (iZ ((b : Nat) : Int))), (4, .int (iZ (aOf (tC w k)))), (3, .int (iZ (zk % 16))), (2, .int (iZ (zk / 16))), (0, .ref (κ.2.1 105)), (1, .int (iZ zk))]) C dX10_opensBelow_24 (by decide) rfl ?_
  refine g_aload_n C dX10_opensBelow_26 rfl ?_
  refine gf_X10_68 C dX10_opensBelow_27 rfl ?_
  refine g_iload_n C dX10_opensBelow_30 rfl ?_
  refine g_iaz (n := k) (N := 512) (v := (zJ (tC w k))) C dX10_opensBelow_31 rfl rfl (by omega) (by omega) (by decide) ((hck.2 hv.2).2.2) ?_
  refine g_pc (pc' := 32) rfl ?_
  refine g_istore (L' := [(6, .int (iZ (zJ (tC w k)))), (5, .int (iZ ((b : Nat) : Int))), (4, .int (iZ (aOf (tC w k)))), (3, .int (iZ (zk % 16))), (2, .int (iZ (zk / 16))), (0, .ref (κ.2.1 105)), (1, .int (iZ zk))]) C dX10_opensBelow_32 (by decide) rfl ?_
  refine g_aload_n C dX10_opensBelow_34 rfl ?_
  refine gf_X10_62 C dX10_opensBelow_35 rfl ?_
  refine g_iload_n C dX10_opensBelow_38 rfl ?_
  refine g_iaz (n := k) (N := 512) (v := (zW (tC w k))) C dX10_opensBelow_39 rfl rfl (by omega) (by omega) (by decide) hck.1 ?_
  have hs1 : (zW (tC w k)) < 1 ∨ 4 < (zW (tC w k)) ∨ (zW (tC w k)) = 1 ∨ (zW (tC w k)) = 2 ∨ (zW (tC w k)) = 3 ∨ (zW (tC w k)) = 4 := by omega
  rcases hs1 with hs1 | hs1 | hs1 | hs1 | hs1 | hs1
  · exfalso; omega
  · exfalso; omega
  · refine g_int (z' := 1) hs1 ?_
    refine g_tsw (tgt := 72) C dX10_opensBelow_40 (by decide) (by decide) rfl (by decide) ?_
    refine g_aload_n C dX10_opensBelow_72 rfl ?_
    refine g_iload C dX10_opensBelow_73 rfl ?_
    refine g_pc (pc' := 75) rfl ?_
    refine g_iconst (z := 0) C dX10_opensBelow_75 rfl ?_
    refine gc_X10_251 C dX10_opensBelow_76 rfl (c_X10_opens hI (Ml M) σ hS (by first | omega | (rw [List.length_cons]; omega)) (x := 16 * b + o2) (by omega) (by omega)) (by decide) (Nat.le_of_ble_eq_true rfl) (fun s1 ⟨hSs1, hFs1⟩ => ?_)
    refine g_aload_n C dX10_opensBelow_79 rfl ?_
    refine g_iload C dX10_opensBelow_80 rfl ?_
    refine g_iconst (z := 0) C dX10_opensBelow_82 rfl ?_
    refine gc_X10_251 C dX10_opensBelow_83 rfl (c_X10_opens hI (Ml M) s1 hSs1 (by first | omega | (rw [List.length_cons]; omega)) (x := 16 * a + o1) (by omega) (by omega)) (by decide) (Nat.le_of_ble_eq_true rfl) (fun s2 ⟨hSs2, hFs2⟩ => ?_)
    refine g_goto (tgt := 150) C dX10_opensBelow_86 (by decide) ?_
    exact g_return C dX10_opensBelow_150 ⟨hSs2, hFs1.tr hFs2⟩
  · refine g_int (z' := 2) hs1 ?_
    refine g_tsw (tgt := 89) C dX10_opensBelow_40 (by decide) (by decide) rfl (by decide) ?_
    refine g_pc (pc' := 89) rfl ?_
    refine g_aload_n C dX10_opensBelow_89 rfl ?_
    refine g_iload C dX10_opensBelow_90 rfl ?_
    refine g_iconst (z := 0) C dX10_opensBelow_92 rfl ?_
    refine gc_X10_251 C dX10_opensBelow_93 rfl (c_X10_opens hI (Ml M) σ hS (by first | omega | (rw [List.length_cons]; omega)) (x := 16 * b + o2) (by omega) (by omega)) (by decide) (Nat.le_of_ble_eq_true rfl) (fun s1 ⟨hSs1, hFs1⟩ => ?_)
    refine g_aload_n C dX10_opensBelow_96 rfl ?_
    refine g_iload C dX10_opensBelow_97 rfl ?_
    refine g_iload_n C dX10_opensBelow_99 rfl ?_
    refine gc_X10_251 C dX10_opensBelow_100 rfl (c_X10_opens hI (Ml M) s1 hSs1 (by first | omega | (rw [List.length_cons]; omega)) (x := 16 * a + o1) (by omega) (by omega)) (by decide) (Nat.le_of_ble_eq_true rfl) (fun s2 ⟨hSs2, hFs2⟩ => ?_)
    refine g_pc (pc' := 103) rfl ?_
    refine g_goto (tgt := 150) C dX10_opensBelow_103 (by decide) ?_
    exact g_return C dX10_opensBelow_150 ⟨hSs2, hFs1.tr hFs2⟩
  · refine g_int (z' := 3) hs1 ?_
    refine g_tsw (tgt := 106) C dX10_opensBelow_40 (by decide) (by decide) rfl (by decide) ?_
    refine g_aload_n C dX10_opensBelow_106 rfl ?_
    refine g_iload C dX10_opensBelow_107 rfl ?_
    refine g_aload_n C dX10_opensBelow_109 rfl ?_
    refine g_iload C dX10_opensBelow_110 rfl ?_
    refine g_iload C dX10_opensBelow_112 rfl ?_
    refine gc_X10_223 C dX10_opensBelow_114 rfl (c_X10_placeIn hI (Ml M) σ hM hW (j := i) (s := b) j1 rfl j2 (by omega)) (by decide) (Nat.le_of_ble_eq_true rfl) (fun z σ9 ⟨hz, hσ⟩ => ?_)
    subst z
    subst σ9
    refine g_pc (pc' := 117) rfl ?_
    refine g_iconst (z := 1) C dX10_opensBelow_117 rfl ?_
    refine g_iadd C dX10_opensBelow_118 ?_
    refine gc_X10_251 C dX10_opensBelow_119 rfl (c_X10_opens hI (Ml M) σ hS (by first | omega | (rw [List.length_cons]; omega)) (x := 16 * b + o2) (by omega) (by omega)) (by decide) (Nat.le_of_ble_eq_true rfl) (fun s1 ⟨hSs1, hFs1⟩ => ?_)
    refine g_aload_n C dX10_opensBelow_122 rfl ?_
    refine g_iload C dX10_opensBelow_123 rfl ?_
    refine g_aload_n C dX10_opensBelow_125 rfl ?_
    refine g_iload C dX10_opensBelow_126 rfl ?_
    refine g_iload C dX10_opensBelow_128 rfl ?_
    refine g_pc (pc' := 130) rfl ?_
    refine gc_X10_223 C dX10_opensBelow_130 rfl (c_X10_placeIn hI (Ml M) s1 (hM.fm hFs1 (fun k _ _ e => by unfold SOp at e; omega) (fun j _ _ e => by unfold TOp at e; omega)) hW (j := i) (s := a) j1 hat j2 (by omega)) (by decide) (Nat.le_of_ble_eq_true rfl) (fun z σ9 ⟨hz, hσ⟩ => ?_)
    subst z
    subst σ9
    refine g_iconst (z := 1) C dX10_opensBelow_133 rfl ?_
    refine g_iadd C dX10_opensBelow_134 ?_
    refine gc_X10_251 C dX10_opensBelow_135 rfl (c_X10_opens hI (Ml M) s1 hSs1 (by first | omega | (rw [List.length_cons]; omega)) (x := 16 * a + o1) (by omega) (by omega)) (by decide) (Nat.le_of_ble_eq_true rfl) (fun s2 ⟨hSs2, hFs2⟩ => ?_)
    refine g_goto (tgt := 150) C dX10_opensBelow_138 (by decide) ?_
    exact g_return C dX10_opensBelow_150 ⟨hSs2, hFs1.tr hFs2⟩
  · exfalso; omega
set_option maxHeartbeats 4000000 in
set_option maxRecDepth 100000 in
theorem opensBelow_s {κ : Kp} (hI : Ij κ) (l : Launch) (σ : St) {w : Wv} (hM : MW σ w) (hW : OKW w) (hK : KA σ w) {k : Nat} {zk : Int} (hzk : zk = (k : Int)) (hv : tV w k) {L : List Nat} (hS : Stk σ L) (hl : L.length ≤ 40) (h4 : zW (tC w k) = 4) : CtV κ l 2 yX10_opensBelow cX10_opensBelow 7 [.ref (κ.2.1 105), .int (iZ zk)] σ (fun σ' => Stk σ' ((16 * (k / 16) + 0) :: L) ∧ Fm SOp TOp σ σ') := by
  refine Ct.ofG (own := RX10) hI (by decide +kernel) rfl (Nat.le_of_ble_eq_true rfl) rfl ?_
  intro M C hMl
  have hk512 := hv.1
  have hck := hK k hk512.2
  have hti := t_info hW hv
  refine g_iload_n C dX10_opensBelow_0 rfl ?_
  refine g_bipush (z := 16) C dX10_opensBelow_1 rfl ?_
  refine g_idiv C dX10_opensBelow_3 (by omega) ?_
  refine g_istore_n (L' := [(2, .int (iZ (zk / 16))), (0, .ref (κ.2.1 105)), (1, .int (iZ zk))]) C dX10_opensBelow_4 rfl (by decide) rfl ?_
  refine g_iload_n C dX10_opensBelow_5 rfl ?_
  refine g_bipush (z := 16) C dX10_opensBelow_6 rfl ?_
  refine g_irem C dX10_opensBelow_8 (by omega) ?_
  refine g_pc (pc' := 9) rfl ?_
  refine g_istore_n (L' := [(3, .int (iZ (zk % 16))), (2, .int (iZ (zk / 16))), (0, .ref (κ.2.1 105)), (1, .int (iZ zk))]) C dX10_opensBelow_9 rfl (by decide) rfl ?_
  refine g_aload_n C dX10_opensBelow_10 rfl ?_
  refine gf_X10_65 C dX10_opensBelow_11 rfl ?_
  refine g_iload_n C dX10_opensBelow_14 rfl ?_
  refine g_iaz (n := k) (N := 512) (v := (aOf (tC w k))) C dX10_opensBelow_15 rfl rfl (by omega) (by omega) (by decide) ((hck.2 hv.2).2.1) ?_
  refine g_istore (L' := [(4, .int (iZ (aOf (tC w k)))), (3, .int (iZ (zk % 16))), (2, .int (iZ (zk / 16))), (0, .ref (κ.2.1 105)), (1, .int (iZ zk))]) C dX10_opensBelow_16 (by decide) rfl ?_
  refine g_iload_n C dX10_opensBelow_18 rfl ?_
  refine g_iload C dX10_opensBelow_19 rfl ?_
  refine g_pc (pc' := 21) rfl ?_
  refine g_iconst (z := (-1)) C dX10_opensBelow_21 rfl ?_
  refine g_ixor C dX10_opensBelow_22 ?_
  refine g_iand C dX10_opensBelow_23 ?_
  refine g_istore (L' := [(5, .int ((iZ (zk / 16)) &&& ((iZ (aOf (tC w k))) ^^^ (iZ (-1))))), (4, .int (iZ (aOf (tC w k)))), (3, .int (iZ (zk % 16))), (2, .int (iZ (zk / 16))), (0, .ref (κ.2.1 105)), (1, .int (iZ zk))]) C dX10_opensBelow_24 (by decide) rfl ?_
  refine g_aload_n C dX10_opensBelow_26 rfl ?_
  refine gf_X10_68 C dX10_opensBelow_27 rfl ?_
  refine g_iload_n C dX10_opensBelow_30 rfl ?_
  refine g_iaz (n := k) (N := 512) (v := (zJ (tC w k))) C dX10_opensBelow_31 rfl rfl (by omega) (by omega) (by decide) ((hck.2 hv.2).2.2) ?_
  refine g_pc (pc' := 32) rfl ?_
  refine g_istore (L' := [(6, .int (iZ (zJ (tC w k)))), (5, .int ((iZ (zk / 16)) &&& ((iZ (aOf (tC w k))) ^^^ (iZ (-1))))), (4, .int (iZ (aOf (tC w k)))), (3, .int (iZ (zk % 16))), (2, .int (iZ (zk / 16))), (0, .ref (κ.2.1 105)), (1, .int (iZ zk))]) C dX10_opensBelow_32 (by decide) rfl ?_
  refine g_aload_n C dX10_opensBelow_34 rfl ?_
  refine gf_X10_62 C dX10_opensBelow_35 rfl ?_
  refine g_iload_n C dX10_opensBelow_38 rfl ?_
  refine g_iaz (n := k) (N := 512) (v := (zW (tC w k))) C dX10_opensBelow_39 rfl rfl (by omega) (by omega) (by decide) hck.1 ?_
  have hs1 : (zW (tC w k)) < 1 ∨ 4 < (zW (tC w k)) ∨ (zW (tC w k)) = 1 ∨ (zW (tC w k)) = 2 ∨ (zW (tC w k)) = 3 ∨ (zW (tC w k)) = 4 := by omega
  rcases hs1 with hs1 | hs1 | hs1 | hs1 | hs1 | hs1
  · exfalso; omega
  · exfalso; omega
  · exfalso; omega
  · exfalso; omega
  · exfalso; omega
  · refine g_int (z' := 4) hs1 ?_
    refine g_tsw (tgt := 141) C dX10_opensBelow_40 (by decide) (by decide) rfl (by decide) ?_
    refine g_aload_n C dX10_opensBelow_141 rfl ?_
    refine g_iload_n C dX10_opensBelow_142 rfl ?_
    refine g_pc (pc' := 143) rfl ?_
    refine g_iconst (z := 0) C dX10_opensBelow_143 rfl ?_
    refine gc_X10_251 C dX10_opensBelow_144 rfl (c_X10_opens hI (Ml M) σ hS (by first | omega | (rw [List.length_cons]; omega)) (x := 16 * (k / 16) + 0) (by omega) (by omega)) (by decide) (Nat.le_of_ble_eq_true rfl) (fun s1 ⟨hSs1, hFs1⟩ => ?_)
    refine g_goto (tgt := 150) C dX10_opensBelow_147 (by decide) ?_
    exact g_return C dX10_opensBelow_150 ⟨hSs1, hFs1⟩
set_option maxHeartbeats 4000000 in
set_option maxRecDepth 100000 in
theorem opensBelow_r {κ : Kp} (hI : Ij κ) (l : Launch) (σ : St) {w : Wv} (hM : MW σ w) (hW : OKW w) (hK : KA σ w) {k : Nat} {zk : Int} (hzk : zk = (k : Int)) (hv : tV w k) {L : List Nat} (hS : Stk σ L) (hl : L.length ≤ 40) (h4 : zW (tC w k) = 0) : CtV κ l 2 yX10_opensBelow cX10_opensBelow 7 [.ref (κ.2.1 105), .int (iZ zk)] σ (fun σ' => Stk σ' L ∧ Fm SOp TOp σ σ') := by
  refine Ct.ofG (own := RX10) hI (by decide +kernel) rfl (Nat.le_of_ble_eq_true rfl) rfl ?_
  intro M C hMl
  have hk512 := hv.1
  have hck := hK k hk512.2
  have hti := t_info hW hv
  refine g_iload_n C dX10_opensBelow_0 rfl ?_
  refine g_bipush (z := 16) C dX10_opensBelow_1 rfl ?_
  refine g_idiv C dX10_opensBelow_3 (by omega) ?_
  refine g_istore_n (L' := [(2, .int (iZ (zk / 16))), (0, .ref (κ.2.1 105)), (1, .int (iZ zk))]) C dX10_opensBelow_4 rfl (by decide) rfl ?_
  refine g_iload_n C dX10_opensBelow_5 rfl ?_
  refine g_bipush (z := 16) C dX10_opensBelow_6 rfl ?_
  refine g_irem C dX10_opensBelow_8 (by omega) ?_
  refine g_pc (pc' := 9) rfl ?_
  refine g_istore_n (L' := [(3, .int (iZ (zk % 16))), (2, .int (iZ (zk / 16))), (0, .ref (κ.2.1 105)), (1, .int (iZ zk))]) C dX10_opensBelow_9 rfl (by decide) rfl ?_
  refine g_aload_n C dX10_opensBelow_10 rfl ?_
  refine gf_X10_65 C dX10_opensBelow_11 rfl ?_
  refine g_iload_n C dX10_opensBelow_14 rfl ?_
  refine g_iaz (n := k) (N := 512) (v := (aOf (tC w k))) C dX10_opensBelow_15 rfl rfl (by omega) (by omega) (by decide) ((hck.2 hv.2).2.1) ?_
  refine g_istore (L' := [(4, .int (iZ (aOf (tC w k)))), (3, .int (iZ (zk % 16))), (2, .int (iZ (zk / 16))), (0, .ref (κ.2.1 105)), (1, .int (iZ zk))]) C dX10_opensBelow_16 (by decide) rfl ?_
  refine g_iload_n C dX10_opensBelow_18 rfl ?_
  refine g_iload C dX10_opensBelow_19 rfl ?_
  refine g_pc (pc' := 21) rfl ?_
  refine g_iconst (z := (-1)) C dX10_opensBelow_21 rfl ?_
  refine g_ixor C dX10_opensBelow_22 ?_
  refine g_iand C dX10_opensBelow_23 ?_
  refine g_istore (L' := [(5, .int ((iZ (zk / 16)) &&& ((iZ (aOf (tC w k))) ^^^ (iZ (-1))))), (4, .int (iZ (aOf (tC w k)))), (3, .int (iZ (zk % 16))), (2, .int (iZ (zk / 16))), (0, .ref (κ.2.1 105)), (1, .int (iZ zk))]) C dX10_opensBelow_24 (by decide) rfl ?_
  refine g_aload_n C dX10_opensBelow_26 rfl ?_
  refine gf_X10_68 C dX10_opensBelow_27 rfl ?_
  refine g_iload_n C dX10_opensBelow_30 rfl ?_
  refine g_iaz (n := k) (N := 512) (v := (zJ (tC w k))) C dX10_opensBelow_31 rfl rfl (by omega) (by omega) (by decide) ((hck.2 hv.2).2.2) ?_
  refine g_pc (pc' := 32) rfl ?_
  refine g_istore (L' := [(6, .int (iZ (zJ (tC w k)))), (5, .int ((iZ (zk / 16)) &&& ((iZ (aOf (tC w k))) ^^^ (iZ (-1))))), (4, .int (iZ (aOf (tC w k)))), (3, .int (iZ (zk % 16))), (2, .int (iZ (zk / 16))), (0, .ref (κ.2.1 105)), (1, .int (iZ zk))]) C dX10_opensBelow_32 (by decide) rfl ?_
  refine g_aload_n C dX10_opensBelow_34 rfl ?_
  refine gf_X10_62 C dX10_opensBelow_35 rfl ?_
  refine g_iload_n C dX10_opensBelow_38 rfl ?_
  refine g_iaz (n := k) (N := 512) (v := (zW (tC w k))) C dX10_opensBelow_39 rfl rfl (by omega) (by omega) (by decide) hck.1 ?_
  have hs1 : (zW (tC w k)) < 1 ∨ 4 < (zW (tC w k)) ∨ (zW (tC w k)) = 1 ∨ (zW (tC w k)) = 2 ∨ (zW (tC w k)) = 3 ∨ (zW (tC w k)) = 4 := by omega
  rcases hs1 with hs1 | hs1 | hs1 | hs1 | hs1 | hs1
  · refine g_tswd (tgt := 150) C dX10_opensBelow_40 (by unfold R32; omega) (by omega) (by decide) ?_
    exact g_return C dX10_opensBelow_150 ⟨hS, Fm.rf⟩
  · exfalso; omega
  · exfalso; omega
  · exfalso; omega
  · exfalso; omega
  · exfalso; omega
theorem c_X10_opensBelow {κ : Kp} (hI : Ij κ) (l : Launch) (σ : St) {w : Wv} (hM : MW σ w) (hW : OKW w) (hK : KA σ w) {k : Nat} {zk : Int} (hzk : zk = (k : Int)) (hv : tV w k) {L : List Nat} (hS : Stk σ L) (hl : L.length ≤ 40) : CtV κ l 2 yX10_opensBelow cX10_opensBelow 7 [.ref (κ.2.1 105), .int (iZ zk)] σ (fun σ' => Stk σ' (chs w k ++ L) ∧ Fm SOp TOp σ σ') := by
  unfold chs
  rcases t_way hW hv with ⟨w0, wl0, wr0, wo, ws⟩ | ⟨w0, wl0, wr0, ws⟩ | ⟨a, b, o1, o2, i, ⟨a1, a2, a3, a4⟩, ⟨b1, b2⟩, ⟨c1, c2⟩, ⟨d1, d2⟩, ⟨j1, j2⟩, ws, ww⟩
  · rw [wl0, wr0]
    exact opensBelow_r hI l σ hM hW hK hzk hv hS hl w0
  · rw [wl0, wr0]
    exact opensBelow_s hI l σ hM hW hK hzk hv hS hl w0
  · rw [c1, c2]
    exact opensBelow_p hI l σ hM hW hK hzk hv hS hl (by omega) ⟨a1, a2, a3, a4⟩ ⟨b1, b2⟩ d1 j1 j2 ww

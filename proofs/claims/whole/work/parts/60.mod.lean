/-! THE MODEL's view: the same view of a state, at the model's own cells -/
def abt (f : Nat → Int) : Int := if f 0 = 0 then (leastT (f 1).toNat : Int) else if f 0 = 4 then f 2 else if f 0 = 3 then f 5 else -1
def MW (σ : St) (w : Wv) : Prop := (∀ t, t < 5 → σ.1 107 t = (wl w t : Int) ∧ σ.1 109 t = (wb w t : Int) ∧ σ.1 110 t = (wst w t : Int) - 1 ∧ ∀ i, i < wl w t → ∀ c, c < 3 → σ.1 108 (48 * t + (i * 3 + c)) = (wv w t i c : Int)) ∧
  (σ.1 105 10 = (wnf w : Int) ∧ ∀ f, f < wnf w → σ.1 111 f = (wfp w f : Int) ∧ σ.1 112 f = (wfs w f : Int) ∧ σ.1 113 f = (wfv w f : Int)) ∧
  (σ.1 105 11 = (wnj w : Int) ∧ ∀ j, j < wnj w → σ.1 114 j = (wja w j : Int) ∧ σ.1 115 j = (wjb w j : Int)) ∧ σ.1 105 12 = wsd w
def MKe (σ : St) (w : Wv) : Prop := (∀ t, t < 5 → σ.1 161 t = (wl w t : Int) ∧ σ.1 161 (245 + t) = (wb w t : Int) ∧ σ.1 161 (250 + t) = (wst w t : Int) - 1 ∧ ∀ i, i < wl w t → ∀ c, c < 3 → σ.1 161 (5 + (48 * t + (i * 3 + c))) = (wv w t i c : Int)) ∧
  (σ.1 161 295 = (wnf w : Int) ∧ ∀ f, f < wnf w → σ.1 161 (255 + f) = (wfp w f : Int) ∧ σ.1 161 (263 + f) = (wfs w f : Int) ∧ σ.1 161 (271 + f) = (wfv w f : Int)) ∧
  (σ.1 161 296 = (wnj w : Int) ∧ ∀ j, j < wnj w → σ.1 161 (279 + j) = (wja w j : Int) ∧ σ.1 161 (287 + j) = (wjb w j : Int)) ∧ σ.1 161 297 = wsd w
def MI (σ : St) (m : Nat × Wv) : Prop := σ.1 105 56 = (m.1 : Int) ∧ (m.1 = 1 → MKe σ m.2)
def MSh (σ : St) (h : Sh) : Prop := ∀ s, s < 8 → (sK h s = 0 → σ.1 146 s = 0) ∧ (sK h s = 1 → σ.1 146 s = 100 + (sO h s : Int) ∧ σ.1 147 s = (sN h s : Int) ∧ ∀ i, i < sN h s → σ.2.2 151 (160 * s + i) = sE h s i) ∧ (sK h s = 2 → σ.1 146 s = 200 + sD h s 0 ∧ σ.1 148 s = sD h s 3 ∧ σ.1 149 s = sD h s 4 ∧ σ.1 150 s = abt (sD h s))
def MN (σ : St) (p : Nat × (Nat → Nat → Int)) : Prop := σ.1 105 35 = (p.1 : Int) ∧ ∀ i, i < p.1 → σ.1 132 i = p.2 i 0 ∧ σ.1 133 i = p.2 i 1 ∧ σ.1 134 i = p.2 i 2 + 1 ∧ σ.1 135 i = p.2 i 3 ∧ σ.1 136 i = p.2 i 4 ∧ σ.1 137 i = p.2 i 6 ∧ σ.1 138 i = abt (p.2 i)
def MRe (σ : St) (q : Int × (Nat → Int)) : Prop := σ.1 105 52 = q.1 ∧ ∀ y, y < 8 → σ.1 106 y = q.2 y
def MV (σ : St) (V : Vw) : Prop := MW σ (vW V) ∧ MI σ V.2.1 ∧ MSh σ (vSh V) ∧ MN σ V.2.2.2.1 ∧ MRe σ V.2.2.2.2
def YC (k : Nat) : Prop := 105 ≤ k
/-- arrays of S and the model's own slots of T alone change -/
def Fm (S T : Nat → Prop) (σ σ' : St) : Prop := (∀ k, k ≠ 105 → ¬ S k → σ'.1 k = σ.1 k ∧ σ'.2.1 k = σ.2.1 k ∧ σ'.2.2 k = σ.2.2 k) ∧ ∀ j, ¬ T j → σ'.1 105 j = σ.1 105 j
theorem Fm.rf {S T : Nat → Prop} {σ : St} : Fm S T σ σ := ⟨fun _ _ _ => ⟨rfl, rfl, rfl⟩, fun _ _ => rfl⟩
theorem Fm.tr {S T : Nat → Prop} {σ τ ρ : St} (h : Fm S T σ τ) (g : Fm S T τ ρ) : Fm S T σ ρ := ⟨fun k h1 h2 => ⟨(g.1 k h1 h2).1.trans (h.1 k h1 h2).1, (g.1 k h1 h2).2.1.trans (h.1 k h1 h2).2.1, (g.1 k h1 h2).2.2.trans (h.1 k h1 h2).2.2⟩, fun j hj => (g.2 j hj).trans (h.2 j hj)⟩
theorem Fm.mono {S T S' T' : Nat → Prop} {σ τ : St} (h : Fm S T σ τ) (hS : ∀ k, S k → S' k) (hT : ∀ k, T k → T' k) : Fm S' T' σ τ := ⟨fun k h1 h2 => h.1 k h1 (fun e => h2 (hS k e)), fun j hj => h.2 j (fun e => hj (hT j e))⟩
theorem sI_ne {σ : St} {k j k' : Nat} {v : Int} (h : k' ≠ k) : (sI σ k j v).1 k' = σ.1 k' := by funext q; exact rI_k h
theorem sF_ne {σ : St} {k j k' : Nat} {v : UInt32} (h : k' ≠ k) : (sF σ k j v).2.1 k' = σ.2.1 k' := by funext q; exact rF_k h
theorem sL_ne {σ : St} {k j k' : Nat} {v : Int64} (h : k' ≠ k) : (sL σ k j v).2.2 k' = σ.2.2 k' := by funext q; exact rL_k h
theorem Fm.a {S T : Nat → Prop} {σ τ : St} (h : Fm S T σ τ) {k j : Nat} {v : Int} (hk : k ≠ 105) (hS : S k) : Fm S T σ (sI τ k j v) := ⟨fun q h1 h2 => ⟨(sI_ne (fun (e : q = k) => h2 (by rw [e]; exact hS))).trans (h.1 q h1 h2).1, (h.1 q h1 h2).2⟩, fun q hq => (rI_k (fun e => hk e.symm)).trans (h.2 q hq)⟩
theorem Fm.f {S T : Nat → Prop} {σ τ : St} (h : Fm S T σ τ) {k j : Nat} {v : UInt32} (hS : S k) : Fm S T σ (sF τ k j v) := ⟨fun q h1 h2 => ⟨(h.1 q h1 h2).1, (sF_ne (fun (e : q = k) => h2 (by rw [e]; exact hS))).trans (h.1 q h1 h2).2.1, (h.1 q h1 h2).2.2⟩, h.2⟩
theorem Fm.l {S T : Nat → Prop} {σ τ : St} (h : Fm S T σ τ) {k j : Nat} {v : Int64} (hS : S k ∨ k = 105) : Fm S T σ (sL τ k j v) := ⟨fun q h1 h2 => ⟨(h.1 q h1 h2).1, (h.1 q h1 h2).2.1, (sL_ne (fun (e : q = k) => hS.elim (fun s => h2 (by rw [e]; exact s)) (fun s => h1 (e.trans s)))).trans (h.1 q h1 h2).2.2⟩, h.2⟩
theorem Fm.t {S T : Nat → Prop} {σ τ : St} (h : Fm S T σ τ) {j : Nat} {v : Int} (hT : T j) : Fm S T σ (sI τ 105 j v) := ⟨fun q h1 h2 => ⟨(sI_ne h1).trans (h.1 q h1 h2).1, (h.1 q h1 h2).2⟩, fun q hq => (rI_j (fun (e : q = j) => hq (by rw [e]; exact hT))).trans (h.2 q hq)⟩
theorem Fm.toY {S T : Nat → Prop} {σ τ : St} (h : Fm S T σ τ) (hS : ∀ k, S k → 105 ≤ k) : Fr YC σ τ := ⟨fun k hk => (h.1 k (fun e => hk (by unfold YC; omega)) (fun e => hk (hS k e))).1, fun k hk => (h.1 k (fun e => hk (by unfold YC; omega)) (fun e => hk (hS k e))).2.1, fun k hk => (h.1 k (fun e => hk (by unfold YC; omega)) (fun e => hk (hS k e))).2.2⟩
/-! frames of the pieces -/
theorem MW.fm {S T : Nat → Prop} {σ σ' : St} {w : Wv} (h : MW σ w) (g : Fm S T σ σ') (hS : ∀ k, 107 ≤ k → k ≤ 115 → ¬ S k) (hT : ∀ j, 10 ≤ j → j ≤ 12 → ¬ T j) : MW σ' w := by
  unfold MW
  rw [(g.1 107 (by decide) (hS 107 (by decide) (by decide))).1, (g.1 108 (by decide) (hS 108 (by decide) (by decide))).1, (g.1 109 (by decide) (hS 109 (by decide) (by decide))).1, (g.1 110 (by decide) (hS 110 (by decide) (by decide))).1, (g.1 111 (by decide) (hS 111 (by decide) (by decide))).1, (g.1 112 (by decide) (hS 112 (by decide) (by decide))).1, (g.1 113 (by decide) (hS 113 (by decide) (by decide))).1, (g.1 114 (by decide) (hS 114 (by decide) (by decide))).1, (g.1 115 (by decide) (hS 115 (by decide) (by decide))).1,
    g.2 10 (hT 10 (by decide) (by decide)), g.2 11 (hT 11 (by decide) (by decide)), g.2 12 (hT 12 (by decide) (by decide))]
  exact h
theorem MI.fm {S T : Nat → Prop} {σ σ' : St} {m : Nat × Wv} (h : MI σ m) (g : Fm S T σ σ') (hS : ¬ S 161) (hT : ¬ T 56) : MI σ' m := by
  unfold MI MKe
  rw [(g.1 161 (by decide) hS).1, g.2 56 hT]
  exact h
theorem MSh.fm {S T : Nat → Prop} {σ σ' : St} {x : Sh} (h : MSh σ x) (g : Fm S T σ σ') (hS : ∀ k, 146 ≤ k → k ≤ 151 → ¬ S k) : MSh σ' x := by
  unfold MSh
  rw [(g.1 146 (by decide) (hS 146 (by decide) (by decide))).1, (g.1 147 (by decide) (hS 147 (by decide) (by decide))).1, (g.1 148 (by decide) (hS 148 (by decide) (by decide))).1, (g.1 149 (by decide) (hS 149 (by decide) (by decide))).1, (g.1 150 (by decide) (hS 150 (by decide) (by decide))).1, (g.1 151 (by decide) (hS 151 (by decide) (by decide))).2.2]
  exact h
theorem MN.fm {S T : Nat → Prop} {σ σ' : St} {x : Nat × (Nat → Nat → Int)} (h : MN σ x) (g : Fm S T σ σ') (hS : ∀ k, 132 ≤ k → k ≤ 138 → ¬ S k) (hT : ¬ T 35) : MN σ' x := by
  unfold MN
  rw [(g.1 132 (by decide) (hS 132 (by decide) (by decide))).1, (g.1 133 (by decide) (hS 133 (by decide) (by decide))).1, (g.1 134 (by decide) (hS 134 (by decide) (by decide))).1, (g.1 135 (by decide) (hS 135 (by decide) (by decide))).1, (g.1 136 (by decide) (hS 136 (by decide) (by decide))).1, (g.1 137 (by decide) (hS 137 (by decide) (by decide))).1, (g.1 138 (by decide) (hS 138 (by decide) (by decide))).1, g.2 35 hT]
  exact h
theorem MRe.fm {S T : Nat → Prop} {σ σ' : St} {q : Int × (Nat → Int)} (h : MRe σ q) (g : Fm S T σ σ') (hS : ¬ S 106) (hT : ¬ T 52) : MRe σ' q := by
  unfold MRe
  rw [(g.1 106 (by decide) hS).1, g.2 52 hT]
  exact h
/-- scratch: arrays and slots that tell nothing -/
def SC (k : Nat) : Prop := (119 ≤ k ∧ k ≤ 129) ∨ k = 139 ∨ k = 140 ∨ k = 143 ∨ (152 ≤ k ∧ k ≤ 156)
def SX (j : Nat) : Prop := j = 18 ∨ j = 24 ∨ j = 25 ∨ j = 36 ∨ j = 38 ∨ j = 51 ∨ j = 53 ∨ j = 54 ∨ j = 57 ∨ j = 58
theorem MV.scr {σ σ' : St} {V : Vw} (h : MV σ V) (g : Fm SC SX σ σ') : MV σ' V := ⟨h.1.fm g (fun k _ _ e => by unfold SC at e; omega) (fun k _ _ e => by unfold SX at e; omega), h.2.1.fm g (fun e => by unfold SC at e; omega) (fun e => by unfold SX at e; omega), h.2.2.1.fm g (fun k _ _ e => by unfold SC at e; omega), h.2.2.2.1.fm g (fun k _ _ e => by unfold SC at e; omega) (fun e => by unfold SX at e; omega), h.2.2.2.2.fm g (fun e => by unfold SC at e; omega) (fun e => by unfold SX at e; omega)⟩
theorem MW.scr {σ σ' : St} {w : Wv} (h : MW σ w) (g : Fm SC SX σ σ') : MW σ' w := h.fm g (fun k _ _ e => by unfold SC at e; omega) (fun k _ _ e => by unfold SX at e; omega)
theorem Fm.scr {σ σ' : St} (g : Fm SC SX σ σ') : Fr YC σ σ' := g.toY (fun k e => by unfold SC at e; omega)
/-- the world alone changes -/
def SW (k : Nat) : Prop := SC k ∨ (107 ≤ k ∧ k ≤ 115)
def SWt (j : Nat) : Prop := SX j ∨ (10 ≤ j ∧ j ≤ 12)
theorem MV.wor {σ σ' : St} {V : Vw} {w : Wv} (h : MV σ V) (g : Fm SW SWt σ σ') (hw : MW σ' w) : MV σ' (w, V.2) := ⟨hw, h.2.1.fm g (fun e => by unfold SW SC at e; omega) (fun e => by unfold SWt SX at e; omega), h.2.2.1.fm g (fun k _ _ e => by unfold SW SC at e; omega), h.2.2.2.1.fm g (fun k _ _ e => by unfold SW SC at e; omega) (fun e => by unfold SWt SX at e; omega), h.2.2.2.2.fm g (fun e => by unfold SW SC at e; omega) (fun e => by unfold SWt SX at e; omega)⟩
theorem Fm.wor {σ σ' : St} (g : Fm SW SWt σ σ') : Fr YC σ σ' := g.toY (fun k e => by unfold SW SC at e; omega)
/-- refusals -/
theorem MV.ref {σ : St} {V : Vw} (h : MV σ V) {y : Nat} (hy : y < 8) : MV (sI σ 106 y (σ.1 106 y + 1)) (vRef V y) := by
  have g : Fm (fun k => k = 106) (fun _ => False) σ (sI σ 106 y (σ.1 106 y + 1)) := Fm.rf.a (by decide) rfl
  refine ⟨h.1.fm g (fun k _ _ e => by omega) (fun _ _ _ e => e), h.2.1.fm g (by decide) (fun e => e), h.2.2.1.fm g (fun k _ _ e => by omega), h.2.2.2.1.fm g (fun k _ _ e => by omega) (fun e => e), ?_, fun q hq => ?_⟩
  · rw [rI_k (by decide)]; exact h.2.2.2.2.1
  · by_cases hqy : q = y
    · subst hqy
      rw [rI_s, h.2.2.2.2.2 q hq]
      exact (if_pos rfl).symm
    · rw [rI_j hqy, h.2.2.2.2.2 q hq]
      exact (if_neg hqy).symm
theorem YC.ref {σ : St} {y : Nat} {v : Int} : Fr YC σ (sI σ 106 y v) := Fr.rf.sI (by unfold YC; omega)
/-! the model's world as a class's world -/
def vst (σ : St) : St := (fun k j => if k = 0 then (if j = 4 then σ.1 105 10 else if j = 7 then σ.1 105 11 else if j = 8 then σ.1 105 12 else 0) else if k = 1 then 0 else if k = 12 then σ.1 111 j else if k = 13 then σ.1 112 j else if k = 14 then σ.1 113 j else if k = 15 then σ.1 114 j else if k = 16 then σ.1 115 j else if k % 2 = 0 then (if j = 1 then σ.1 107 (k / 2 - 1) else if j = 2 then σ.1 109 (k / 2 - 1) else if j = 3 then σ.1 110 (k / 2 - 1) else 0) else (if j < 48 then σ.1 108 (48 * ((k - 3) / 2) + j) else 0), σ.2)
theorem t5 {P : Nat → Prop} (h0 : P 0) (h1 : P 1) (h2 : P 2) (h3 : P 3) (h4 : P 4) : ∀ t, t < 5 → P t := fun t ht => by
  have : t = 0 ∨ t = 1 ∨ t = 2 ∨ t = 3 ∨ t = 4 := by omega
  rcases this with e | e | e | e | e <;> subst e <;> assumption
theorem vst_r (σ : St) : ∀ t, t < 5 → (vst σ).1 (0 + 2 + 2 * t) 1 = σ.1 107 t ∧ (vst σ).1 (0 + 2 + 2 * t) 2 = σ.1 109 t ∧ (vst σ).1 (0 + 2 + 2 * t) 3 = σ.1 110 t ∧ ∀ j, j < 48 → (vst σ).1 (0 + 3 + 2 * t) j = σ.1 108 (48 * t + j) :=
  t5 ⟨rfl, rfl, rfl, fun _ h => if_pos h⟩ ⟨rfl, rfl, rfl, fun _ h => if_pos h⟩ ⟨rfl, rfl, rfl, fun _ h => if_pos h⟩ ⟨rfl, rfl, rfl, fun _ h => if_pos h⟩ ⟨rfl, rfl, rfl, fun _ h => if_pos h⟩
theorem MW.X {σ : St} {w : Wv} (h : MW σ w) (hW : ∀ t, t < 5 → wl w t ≤ 16) : XW 0 (vst σ) w := by
  refine ⟨fun t ht => ?_, h.2.1, h.2.2.1, h.2.2.2⟩
  obtain ⟨a1, a2, a3, a4⟩ := vst_r σ t ht
  obtain ⟨b1, b2, b3, b4⟩ := h.1 t ht
  exact ⟨a1.trans b1, a2.trans b2, a3.trans b3, fun i hi c hc => (a4 _ (by have := hW t ht; omega)).trans (b4 i hi c hc)⟩
theorem MW.of {σ : St} {w : Wv} (h : XW 0 (vst σ) w) (hW : ∀ t, t < 5 → wl w t ≤ 16) : MW σ w := by
  refine ⟨fun t ht => ?_, h.2.1, h.2.2.1, h.2.2.2⟩
  obtain ⟨a1, a2, a3, a4⟩ := vst_r σ t ht
  obtain ⟨b1, b2, b3, b4⟩ := h.1 t ht
  exact ⟨a1.symm.trans b1, a2.symm.trans b2, a3.symm.trans b3, fun i hi c hc => (a4 _ (by have := hW t ht; omega)).symm.trans (b4 i hi c hc)⟩
theorem XW.e1 {σ σ' : St} {w : Wv} (h : XW 0 σ w) (e : ∀ k j, k ≤ 16 → σ'.1 k j = σ.1 k j) : XW 0 σ' w := by
  refine ⟨fun t ht => ?_, ⟨?_, fun f hf => ?_⟩, ⟨?_, fun j hj => ?_⟩, ?_⟩
  · obtain ⟨b1, b2, b3, b4⟩ := h.1 t ht
    exact ⟨(e _ _ (by omega)).trans b1, (e _ _ (by omega)).trans b2, (e _ _ (by omega)).trans b3, fun i hi c hc => (e _ _ (by omega)).trans (b4 i hi c hc)⟩
  · exact (e _ _ (by omega)).trans h.2.1.1
  · obtain ⟨a1, a2, a3⟩ := h.2.1.2 f hf
    exact ⟨(e _ _ (by omega)).trans a1, (e _ _ (by omega)).trans a2, (e _ _ (by omega)).trans a3⟩
  · exact (e _ _ (by omega)).trans h.2.2.1.1
  · obtain ⟨a1, a2⟩ := h.2.2.1.2 j hj
    exact ⟨(e _ _ (by omega)).trans a1, (e _ _ (by omega)).trans a2⟩
  · exact (e _ _ (by omega)).trans h.2.2.2
theorem sI_1 {σ : St} {k j a b : Nat} {v : Int} : (sI σ k j v).1 a b = if a = k ∧ b = j then v else σ.1 a b := rfl
set_option maxHeartbeats 2000000 in
theorem vst_l {σ : St} {t : Nat} {v : Int} (ht : t < 5) : ∀ k j, k ≤ 16 → (vst (sI σ 107 t v)).1 k j = (sI (vst σ) (0 + 2 + 2 * t) 1 v).1 k j := fun k j hk => by
  have : k = 0 ∨ k = 1 ∨ k = 2 ∨ k = 3 ∨ k = 4 ∨ k = 5 ∨ k = 6 ∨ k = 7 ∨ k = 8 ∨ k = 9 ∨ k = 10 ∨ k = 11 ∨ k = 12 ∨ k = 13 ∨ k = 14 ∨ k = 15 ∨ k = 16 := by omega
  rcases this with e | e | e | e | e | e | e | e | e | e | e | e | e | e | e | e | e <;> subst e <;> simp [vst, sI_1]
  all_goals (repeat' split)
  all_goals first | rfl | omega | (exfalso; omega)
set_option maxHeartbeats 2000000 in
theorem vst_b {σ : St} {t : Nat} {v : Int} (ht : t < 5) : ∀ k j, k ≤ 16 → (vst (sI σ 109 t v)).1 k j = (sI (vst σ) (0 + 2 + 2 * t) 2 v).1 k j := fun k j hk => by
  have : k = 0 ∨ k = 1 ∨ k = 2 ∨ k = 3 ∨ k = 4 ∨ k = 5 ∨ k = 6 ∨ k = 7 ∨ k = 8 ∨ k = 9 ∨ k = 10 ∨ k = 11 ∨ k = 12 ∨ k = 13 ∨ k = 14 ∨ k = 15 ∨ k = 16 := by omega
  rcases this with e | e | e | e | e | e | e | e | e | e | e | e | e | e | e | e | e <;> subst e <;> simp [vst, sI_1]
  all_goals (repeat' split)
  all_goals first | rfl | omega | (exfalso; omega)
set_option maxHeartbeats 2000000 in
theorem vst_s {σ : St} {t : Nat} {v : Int} (ht : t < 5) : ∀ k j, k ≤ 16 → (vst (sI σ 110 t v)).1 k j = (sI (vst σ) (0 + 2 + 2 * t) 3 v).1 k j := fun k j hk => by
  have : k = 0 ∨ k = 1 ∨ k = 2 ∨ k = 3 ∨ k = 4 ∨ k = 5 ∨ k = 6 ∨ k = 7 ∨ k = 8 ∨ k = 9 ∨ k = 10 ∨ k = 11 ∨ k = 12 ∨ k = 13 ∨ k = 14 ∨ k = 15 ∨ k = 16 := by omega
  rcases this with e | e | e | e | e | e | e | e | e | e | e | e | e | e | e | e | e <;> subst e <;> simp [vst, sI_1]
  all_goals (repeat' split)
  all_goals first | rfl | omega | (exfalso; omega)
set_option maxHeartbeats 2000000 in
theorem vst_v {σ : St} {t q : Nat} {v : Int} (ht : t < 5) (hq : q < 48) : ∀ k j, k ≤ 16 → (vst (sI σ 108 (48 * t + q) v)).1 k j = (sI (vst σ) (0 + 2 + 2 * t + 1) q v).1 k j := fun k j hk => by
  have : k = 0 ∨ k = 1 ∨ k = 2 ∨ k = 3 ∨ k = 4 ∨ k = 5 ∨ k = 6 ∨ k = 7 ∨ k = 8 ∨ k = 9 ∨ k = 10 ∨ k = 11 ∨ k = 12 ∨ k = 13 ∨ k = 14 ∨ k = 15 ∨ k = 16 := by omega
  rcases this with e | e | e | e | e | e | e | e | e | e | e | e | e | e | e | e | e <;> subst e <;> simp [vst, sI_1]
  all_goals (repeat' split)
  all_goals first | rfl | omega | (exfalso; omega)
set_option maxHeartbeats 2000000 in
theorem vst_fp {σ : St} {q : Nat} {v : Int} : ∀ k j, k ≤ 16 → (vst (sI σ 111 q v)).1 k j = (sI (vst σ) (0 + 12) q v).1 k j := fun k j hk => by
  have : k = 0 ∨ k = 1 ∨ k = 2 ∨ k = 3 ∨ k = 4 ∨ k = 5 ∨ k = 6 ∨ k = 7 ∨ k = 8 ∨ k = 9 ∨ k = 10 ∨ k = 11 ∨ k = 12 ∨ k = 13 ∨ k = 14 ∨ k = 15 ∨ k = 16 := by omega
  rcases this with e | e | e | e | e | e | e | e | e | e | e | e | e | e | e | e | e <;> subst e <;> simp [vst, sI_1]
  all_goals (repeat' split)
  all_goals first | rfl | omega | (exfalso; omega)
set_option maxHeartbeats 2000000 in
theorem vst_fs {σ : St} {q : Nat} {v : Int} : ∀ k j, k ≤ 16 → (vst (sI σ 112 q v)).1 k j = (sI (vst σ) (0 + 13) q v).1 k j := fun k j hk => by
  have : k = 0 ∨ k = 1 ∨ k = 2 ∨ k = 3 ∨ k = 4 ∨ k = 5 ∨ k = 6 ∨ k = 7 ∨ k = 8 ∨ k = 9 ∨ k = 10 ∨ k = 11 ∨ k = 12 ∨ k = 13 ∨ k = 14 ∨ k = 15 ∨ k = 16 := by omega
  rcases this with e | e | e | e | e | e | e | e | e | e | e | e | e | e | e | e | e <;> subst e <;> simp [vst, sI_1]
  all_goals (repeat' split)
  all_goals first | rfl | omega | (exfalso; omega)
set_option maxHeartbeats 2000000 in
theorem vst_fv {σ : St} {q : Nat} {v : Int} : ∀ k j, k ≤ 16 → (vst (sI σ 113 q v)).1 k j = (sI (vst σ) (0 + 14) q v).1 k j := fun k j hk => by
  have : k = 0 ∨ k = 1 ∨ k = 2 ∨ k = 3 ∨ k = 4 ∨ k = 5 ∨ k = 6 ∨ k = 7 ∨ k = 8 ∨ k = 9 ∨ k = 10 ∨ k = 11 ∨ k = 12 ∨ k = 13 ∨ k = 14 ∨ k = 15 ∨ k = 16 := by omega
  rcases this with e | e | e | e | e | e | e | e | e | e | e | e | e | e | e | e | e <;> subst e <;> simp [vst, sI_1]
  all_goals (repeat' split)
  all_goals first | rfl | omega | (exfalso; omega)
set_option maxHeartbeats 2000000 in
theorem vst_ja {σ : St} {q : Nat} {v : Int} : ∀ k j, k ≤ 16 → (vst (sI σ 114 q v)).1 k j = (sI (vst σ) (0 + 15) q v).1 k j := fun k j hk => by
  have : k = 0 ∨ k = 1 ∨ k = 2 ∨ k = 3 ∨ k = 4 ∨ k = 5 ∨ k = 6 ∨ k = 7 ∨ k = 8 ∨ k = 9 ∨ k = 10 ∨ k = 11 ∨ k = 12 ∨ k = 13 ∨ k = 14 ∨ k = 15 ∨ k = 16 := by omega
  rcases this with e | e | e | e | e | e | e | e | e | e | e | e | e | e | e | e | e <;> subst e <;> simp [vst, sI_1]
  all_goals (repeat' split)
  all_goals first | rfl | omega | (exfalso; omega)
set_option maxHeartbeats 2000000 in
theorem vst_jb {σ : St} {q : Nat} {v : Int} : ∀ k j, k ≤ 16 → (vst (sI σ 115 q v)).1 k j = (sI (vst σ) (0 + 16) q v).1 k j := fun k j hk => by
  have : k = 0 ∨ k = 1 ∨ k = 2 ∨ k = 3 ∨ k = 4 ∨ k = 5 ∨ k = 6 ∨ k = 7 ∨ k = 8 ∨ k = 9 ∨ k = 10 ∨ k = 11 ∨ k = 12 ∨ k = 13 ∨ k = 14 ∨ k = 15 ∨ k = 16 := by omega
  rcases this with e | e | e | e | e | e | e | e | e | e | e | e | e | e | e | e | e <;> subst e <;> simp [vst, sI_1]
  all_goals (repeat' split)
  all_goals first | rfl | omega | (exfalso; omega)
set_option maxHeartbeats 2000000 in
theorem vst_nf {σ : St} {v : Int} : ∀ k j, k ≤ 16 → (vst (sI σ 105 10 v)).1 k j = (sI (vst σ) 0 4 v).1 k j := fun k j hk => by
  have : k = 0 ∨ k = 1 ∨ k = 2 ∨ k = 3 ∨ k = 4 ∨ k = 5 ∨ k = 6 ∨ k = 7 ∨ k = 8 ∨ k = 9 ∨ k = 10 ∨ k = 11 ∨ k = 12 ∨ k = 13 ∨ k = 14 ∨ k = 15 ∨ k = 16 := by omega
  rcases this with e | e | e | e | e | e | e | e | e | e | e | e | e | e | e | e | e <;> subst e <;> simp [vst, sI_1]
  all_goals (repeat' split)
  all_goals first | rfl | omega | (exfalso; omega)
set_option maxHeartbeats 2000000 in
theorem vst_nj {σ : St} {v : Int} : ∀ k j, k ≤ 16 → (vst (sI σ 105 11 v)).1 k j = (sI (vst σ) 0 7 v).1 k j := fun k j hk => by
  have : k = 0 ∨ k = 1 ∨ k = 2 ∨ k = 3 ∨ k = 4 ∨ k = 5 ∨ k = 6 ∨ k = 7 ∨ k = 8 ∨ k = 9 ∨ k = 10 ∨ k = 11 ∨ k = 12 ∨ k = 13 ∨ k = 14 ∨ k = 15 ∨ k = 16 := by omega
  rcases this with e | e | e | e | e | e | e | e | e | e | e | e | e | e | e | e | e <;> subst e <;> simp [vst, sI_1]
  all_goals (repeat' split)
  all_goals first | rfl | omega | (exfalso; omega)
set_option maxHeartbeats 2000000 in
theorem vst_sd {σ : St} {v : Int} : ∀ k j, k ≤ 16 → (vst (sI σ 105 12 v)).1 k j = (sI (vst σ) 0 8 v).1 k j := fun k j hk => by
  have : k = 0 ∨ k = 1 ∨ k = 2 ∨ k = 3 ∨ k = 4 ∨ k = 5 ∨ k = 6 ∨ k = 7 ∨ k = 8 ∨ k = 9 ∨ k = 10 ∨ k = 11 ∨ k = 12 ∨ k = 13 ∨ k = 14 ∨ k = 15 ∨ k = 16 := by omega
  rcases this with e | e | e | e | e | e | e | e | e | e | e | e | e | e | e | e | e <;> subst e <;> simp [vst, sI_1]
  all_goals (repeat' split)
  all_goals first | rfl | omega | (exfalso; omega)
/-- chains of changes -/
def Vq (τ ρ : St) : Prop := ∀ k j, k ≤ 16 → τ.1 k j = ρ.1 k j
theorem Vq.sI {τ ρ : St} (h : Vq τ ρ) {a b : Nat} {v : Int} : Vq (sI τ a b v) (sI ρ a b v) := fun k j hk => by
  show (if k = a ∧ j = b then v else τ.1 k j) = (if k = a ∧ j = b then v else ρ.1 k j)
  rw [h k j hk]
theorem Vq.tr {τ ρ π : St} (h : Vq τ ρ) (g : Vq ρ π) : Vq τ π := fun k j hk => (h k j hk).trans (g k j hk)

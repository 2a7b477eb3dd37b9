/-! THE VIEW of the whole: the world, the image, the shelves, the plan, the fault and the refusals; what each call answers and leaves -/
abbrev Sh : Type := (Nat → Nat → Nat) × (Nat → Nat → Int64) × (Nat → Nat → Int)
abbrev Vw : Type := Wv × (Nat × Wv) × Sh × (Nat × (Nat → Nat → Int)) × (Int × (Nat → Int))
def vW (V : Vw) : Wv := V.1
def vHas (V : Vw) : Nat := V.2.1.1
def vIm (V : Vw) : Wv := V.2.1.2
def vSh (V : Vw) : Sh := V.2.2.1
def vP (V : Vw) : Nat := V.2.2.2.1.1
def vD (V : Vw) (i j : Nat) : Int := V.2.2.2.1.2 i j
def vF (V : Vw) : Int := V.2.2.2.2.1
def vR (V : Vw) (y : Nat) : Int := V.2.2.2.2.2 y
def sK (h : Sh) (s : Nat) : Nat := h.1 s 0
def sO (h : Sh) (s : Nat) : Nat := h.1 s 1
def sN (h : Sh) (s : Nat) : Nat := h.1 s 2
def sE (h : Sh) (s i : Nat) : Int64 := h.2.1 s i
def sD (h : Sh) (s j : Nat) : Int := h.2.2 s j
/-- a node's seven slots -/
def NOK (f : Nat → Int) : Prop := (0 ≤ f 0 ∧ f 0 ≤ 4) ∧ (0 ≤ f 1 ∧ f 1 < 32) ∧ (-1 ≤ f 2 ∧ f 2 ≤ 14) ∧ (-1 ≤ f 4 ∧ f 4 ≤ 7) ∧ (-1 ≤ f 5 ∧ f 5 ≤ 14) ∧ (1 ≤ f 6 ∧ f 6 ≤ 18)
def OKV (V : Vw) : Prop := OKW (vW V) ∧ (vHas V ≤ 1 ∧ (vHas V = 1 → OKW (vIm V))) ∧ (∀ s, s < 8 → sK (vSh V) s ≤ 2 ∧ (sK (vSh V) s = 1 → sO (vSh V) s ≤ 3 ∧ sN (vSh V) s ≤ 160) ∧ (sK (vSh V) s = 2 → NOK (sD (vSh V) s))) ∧ (vP V ≤ 18 ∧ ∀ i, i < vP V → NOK (vD V i)) ∧ R32 (vF V)
def XS (σ : St) (h : Sh) : Prop := ∀ s, s < 8 → σ.1 (34 + 3 * s) 0 = (sK h s : Int) ∧ (0 ≤ σ.1 (34 + 3 * s) 1 ∧ σ.1 (34 + 3 * s) 1 ≤ 3) ∧ (sK h s = 1 → σ.1 (34 + 3 * s) 1 = (sO h s : Int) ∧ σ.1 (34 + 3 * s) 2 = (sN h s : Int) ∧ ∀ i, i < sN h s → σ.2.2 (34 + 3 * s + 1) i = sE h s i) ∧ (sK h s = 2 → ∀ j, j < 7 → σ.1 (34 + 3 * s + 2) j = sD h s j)
def XN (σ : St) (p : Nat × (Nat → Nat → Int)) : Prop := σ.1 76 9 = (p.1 : Int) ∧ ∀ i, i < p.1 → ∀ j, j < 7 → σ.1 (58 + i) j = p.2 i j
def XI (σ : St) (m : Nat × Wv) : Prop := σ.1 76 2 = (m.1 : Int) ∧ (m.1 = 1 → XW 17 σ m.2)
def XR (σ : St) (q : Int × (Nat → Int)) : Prop := σ.1 76 10 = q.1 ∧ ∀ y, y < 8 → σ.1 79 y = q.2 y
def XV (σ : St) (V : Vw) : Prop := XW 0 σ (vW V) ∧ XI σ V.2.1 ∧ XS σ (vSh V) ∧ XN σ V.2.2.2.1 ∧ XR σ V.2.2.2.2
def XC (k : Nat) : Prop := k ≤ 104
theorem XS.fr {σ σ' : St} {h : Sh} {S : Nat → Prop} (hx : XS σ h) (hF : Fr S σ σ') (hS : ∀ k, 34 ≤ k → k ≤ 57 → ¬ S k) : XS σ' h := fun s hs => by
  have e1 := hF.1 (34 + 3 * s) (hS _ (by omega) (by omega))
  have e2 := hF.1 (34 + 3 * s + 2) (hS _ (by omega) (by omega))
  have e3 := hF.2.2 (34 + 3 * s + 1) (hS _ (by omega) (by omega))
  rw [e1, e2, e3]
  exact hx s hs
theorem XN.fr {σ σ' : St} {p : Nat × (Nat → Nat → Int)} {S : Nat → Prop} (hx : XN σ p) (hF : Fr S σ σ') (hp : p.1 ≤ 18) (hS : ∀ k, 58 ≤ k → k ≤ 76 → ¬ S k) : XN σ' p := ⟨by rw [hF.1 76 (hS _ (by omega) (by omega))]; exact hx.1, fun i hi j hj => by rw [hF.1 (58 + i) (hS _ (by omega) (by omega))]; exact hx.2 i hi j hj⟩
theorem XI.fr {σ σ' : St} {m : Nat × Wv} {S : Nat → Prop} (hx : XI σ m) (hF : Fr S σ σ') (hS : ∀ k, (17 ≤ k ∧ k ≤ 33) ∨ k = 76 → ¬ S k) : XI σ' m := ⟨by rw [hF.1 76 (hS _ (by omega))]; exact hx.1, fun h1 => (hx.2 h1).fr hF (fun k h2 h3 => hS k (by omega))⟩
theorem XR.fr {σ σ' : St} {q : Int × (Nat → Int)} {S : Nat → Prop} (hx : XR σ q) (hF : Fr S σ σ') (hS : ∀ k, k = 76 ∨ k = 79 → ¬ S k) : XR σ' q := ⟨by rw [hF.1 76 (hS _ (by omega))]; exact hx.1, fun y hy => by rw [hF.1 79 (hS _ (by omega))]; exact hx.2 y hy⟩
/-- the world alone changes (and cells from 80 on) -/
theorem XV.world {σ σ' : St} {V : Vw} {w' : Wv} {S : Nat → Prop} (hX : XV σ V) (hO : OKV V) (hF : Fr S σ σ') (hS : ∀ k, 17 ≤ k → k ≤ 79 → ¬ S k) (hw : XW 0 σ' w') : XV σ' (w', V.2) := ⟨hw, hX.2.1.fr hF (fun k hk => hS k (by omega) (by omega)), hX.2.2.1.fr hF (fun k h1 h2 => hS k (by omega) (by omega)), hX.2.2.2.1.fr hF hO.2.2.2.1.1 (fun k h1 h2 => hS k (by omega) (by omega)), hX.2.2.2.2.fr hF (fun k hk => hS k (by omega) (by omega))⟩
theorem OKV.world {V : Vw} {w' : Wv} (hO : OKV V) (hw : OKW w') : OKV (w', V.2) := ⟨hw, hO.2⟩
/-- scratch alone changes -/
theorem XV.scratch {σ σ' : St} {V : Vw} {S : Nat → Prop} (hX : XV σ V) (hO : OKV V) (hF : Fr S σ σ') (hS : ∀ k, k ≤ 79 → ¬ S k) : XV σ' V := XV.world (w' := vW V) hX hO hF (fun k _ h => hS k h) (hX.1.fr hF (fun k _ h => hS k (by omega)))
/-- refusals -/
def vRef (V : Vw) (y : Nat) : Vw := (V.1, V.2.1, V.2.2.1, V.2.2.2.1, (vF V, fun q => if q = y then vR V y + 1 else vR V q))
def rfs (y : Nat) (V : Vw) : Int × Vw := (-(y : Int), vRef V y)
def rfT (y : Nat) (V : Vw) : Int × Vw := (-(y : Int) - 10, vRef V y)
theorem OKV.ref {V : Vw} (h : OKV V) (y : Nat) : OKV (vRef V y) := h
theorem XV.ref {σ : St} {V : Vw} (h : XV σ V) (hO : OKV V) {y : Nat} (hy : y < 8) : XV (sI σ 79 y (σ.1 79 y + 1)) (vRef V y) := by
  have hF : Fr (fun k => k = 79) σ (sI σ 79 y (σ.1 79 y + 1)) := Fr.rf.sI rfl
  refine ⟨h.1.fr hF (fun k _ hk e => by omega), h.2.1.fr hF (fun k hk e => by omega), h.2.2.1.fr hF (fun k _ hk e => by omega), h.2.2.2.1.fr hF hO.2.2.2.1.1 (fun k _ hk e => by omega), ?_, fun q hq => ?_⟩
  · rw [rI_k (by omega)]; exact h.2.2.2.2.1
  · by_cases hqy : q = y
    · subst hqy
      rw [rI_s, h.2.2.2.2.2 q hq]
      exact (if_pos rfl).symm
    · rw [rI_j hqy, h.2.2.2.2.2 q hq]
      exact (if_neg hqy).symm
theorem XC.ref {σ : St} {y : Nat} {v : Int} : Fr XC σ (sI σ 79 y v) := Fr.rf.sI (by unfold XC; omega)
/-- what keeps a shelf from being read as a row -/
def wnr (V : Vw) (x : Int) : Nat := if 0 ≤ x ∧ x < 8 then (if sK (vSh V) x.toNat = 2 then 2 else if sK (vSh V) x.toNat = 0 then 3 else 0) else 1
theorem wnr_le (V : Vw) (x : Int) : wnr V x ≤ 3 := by unfold wnr; repeat' split
                                                      all_goals omega
theorem wnr_0 {V : Vw} {x : Int} (hO : OKV V) (h : wnr V x = 0) : (0 ≤ x ∧ x < 8) ∧ sK (vSh V) x.toNat = 1 := by
  unfold wnr at h
  split at h
  · rename_i hx
    have := (hO.2.2.1 x.toNat (by omega)).1
    split at h
    · omega
    · split at h
      · omega
      · exact ⟨hx, by omega⟩
  · omega
def hset (h : Sh) (s k o n : Nat) (e : Nat → Int64) (d : Nat → Int) : Sh := (fun a j => if a = s then (if j = 0 then k else if j = 1 then o else n) else h.1 a j, fun a i => if a = s then e i else h.2.1 a i, fun a j => if a = s then d j else h.2.2 a j)
def vSet (V : Vw) (h : Sh) : Vw := (V.1, V.2.1, h, V.2.2.2)
def aRow (V : Vw) (x so n : Int) : Int × Vw := if ¬ (0 ≤ x ∧ x < 8) then rfs 1 V else if n < 0 then rfs 4 V else if ¬ (0 ≤ so ∧ so < 4) then rfs 6 V else if 160 < n then rfs 7 V else (1, vSet V (hset (vSh V) x.toNat 1 so.toNat n.toNat (fun _ => 0) (sD (vSh V) x.toNat)))
def aSet (V : Vw) (x i : Int) (v : Int64) : Int × Vw := if wnr V x ≠ 0 then rfs (wnr V x) V else if ¬ (0 ≤ i ∧ i < (sN (vSh V) x.toNat : Int)) then rfs 5 V else (1, vSet V (hset (vSh V) x.toNat 1 (sO (vSh V) x.toNat) (sN (vSh V) x.toNat) (fun q => if q = i.toNat then lowb (sO (vSh V) x.toNat : Int) v else sE (vSh V) x.toNat q) (sD (vSh V) x.toNat)))
def aElement (V : Vw) (x i : Int) : Int64 := if (0 ≤ x ∧ x < 8) ∧ sK (vSh V) x.toNat = 1 ∧ (0 ≤ i ∧ i < (sN (vSh V) x.toNat : Int)) then sE (vSh V) x.toNat i.toNat else 0
def aShow (V : Vw) (x nd : Int) : Int × Vw := if ¬ (0 ≤ x ∧ x < 8) ∨ (nd ≠ -1 ∧ ¬ (0 ≤ nd ∧ nd < (vP V : Int))) then rfs 1 V else if nd = -1 then (0, vSet V (hset (vSh V) x.toNat 0 0 0 (fun _ => 0) (fun _ => 0))) else (1, vSet V (hset (vSh V) x.toNat 2 0 0 (fun _ => 0) (vD V nd.toNat)))
def aHolds (V : Vw) (x : Int) : Int := if ¬ (0 ≤ x ∧ x < 8) then -1 else if sK (vSh V) x.toNat = 0 then -1 else if sK (vSh V) x.toNat = 1 then 100 + (sO (vSh V) x.toNat : Int) else 200 + sD (vSh V) x.toNat 0
def aSays (V : Vw) (x a : Int) : Int × Vw := if ¬ (0 ≤ x ∧ x < 8) ∨ ¬ (0 ≤ a ∧ a < 5) then rfs 1 V else if sK (vSh V) x.toNat = 1 then rfs 2 V else if sK (vSh V) x.toNat = 0 then rfs 3 V else if ¬ ((a = 0 ∨ (a = 1 ∧ sD (vSh V) x.toNat 0 = 0) ∨ (a = 2 ∧ 1 ≤ sD (vSh V) x.toNat 0 ∧ sD (vSh V) x.toNat 0 ≤ 3) ∨ (a = 3 ∧ sD (vSh V) x.toNat 0 = 3) ∨ (a = 4 ∧ sD (vSh V) x.toNat 0 = 4))) then rfs 2 V
  else (if a = 0 then sD (vSh V) x.toNat 3 else if a = 1 then (leastT (sD (vSh V) x.toNat 1).toNat : Int) else if a = 2 then sD (vSh V) x.toNat 4 else if a = 3 then sD (vSh V) x.toNat 5 else sD (vSh V) x.toNat 2, V)
def aLine (V : Vw) (t a b c : Int) : Int × Vw := if ¬ (0 ≤ t ∧ t < 5) then rfs 1 V else if ¬ (0 ≤ a ∧ a < 100) ∨ ¬ (0 ≤ b ∧ b < 100) ∨ ¬ (0 ≤ c ∧ c < 100) then rfs 6 V else if 16 ≤ wl (vW V) t.toNat then rfs 7 V else ((wl (vW V) t.toNat : Int), (wAdd (vW V) t.toNat a.toNat b.toNat c.toNat, V.2))
def aEmpty (V : Vw) (t : Int) : Int × Vw := if ¬ (0 ≤ t ∧ t < 5) then rfs 1 V else ((wl (vW V) t.toNat : Int), (wset (vW V) 0 t.toNat 0 0, V.2))
def aTableOf (V : Vw) (t a : Int) : Int × Vw := if ¬ (0 ≤ t ∧ t < 5) then rfs 1 V else if a = 0 then ((wl (vW V) t.toNat : Int), V) else if a = 1 then ((wb (vW V) t.toNat : Int), V) else if a = 2 then ((wst (vW V) t.toNat : Int), V) else rfs 5 V
def aLineOf (V : Vw) (t i c : Int) : Int × Vw := if ¬ (0 ≤ t ∧ t < 5) then rfs 1 V else if ¬ (0 ≤ i ∧ i < (wl (vW V) t.toNat : Int)) ∨ ¬ (0 ≤ c ∧ c < 3) then rfs 5 V else ((wv (vW V) t.toNat i.toNat c.toNat : Int), V)
def aFilter (V : Vw) (p s v : Int) : Int × Vw := if ¬ (0 ≤ p ∧ p < 15) then rfs 1 V else if ¬ (0 ≤ s ∧ s < 3) ∨ ¬ (0 ≤ v ∧ v < 100) then rfs 6 V else if 8 ≤ wnf (vW V) then rfs 7 V else ((wnf (vW V) : Int), (wAddF (vW V) p.toNat s.toNat v.toNat, V.2))
def aJoin (V : Vw) (p q : Int) : Int × Vw := if ¬ (0 ≤ p ∧ p < 15) ∨ ¬ (0 ≤ q ∧ q < 15) then rfs 1 V else if p / 3 = q / 3 then rfs 6 V else if 8 ≤ wnj (vW V) then rfs 7 V else ((wnj (vW V) : Int), (wAddJ (vW V) (min p q).toNat (max p q).toNat, V.2))
def aClear (V : Vw) : Int × Vw := ((wnf (vW V) : Int) + (wnj (vW V) : Int), (wset (wset (vW V) 4 0 0 0) 8 0 0 0, V.2))
def aFilterOf (V : Vw) (f a : Int) : Int × Vw := if ¬ (0 ≤ f ∧ f < (wnf (vW V) : Int)) then rfs 5 V else if a = 0 then ((wfp (vW V) f.toNat : Int), V) else if a = 1 then ((wfs (vW V) f.toNat : Int), V) else if a = 2 then ((wfv (vW V) f.toNat : Int), V) else rfs 5 V
def aJoinOf (V : Vw) (j a : Int) : Int × Vw := if ¬ (0 ≤ j ∧ j < (wnj (vW V) : Int)) ∨ ¬ (0 ≤ a ∧ a < 2) then rfs 5 V else if a = 0 then ((wja (vW V) j.toNat : Int), V) else ((wjb (vW V) j.toNat : Int), V)
def aSeed (V : Vw) (v : Int) : Int × Vw := (wsd (vW V), (wseed (vW V) v, V.2))
def aImage (V : Vw) : Int × Vw := ((wsum (vW V) 5 : Int), (V.1, (1, vW V), V.2.2))
def aRestore (V : Vw) : Int × Vw := if vHas V = 0 then rfs 6 V else ((wsum (vIm V) 5 : Int), (vIm V, V.2))
def aStatus (V : Vw) (a : Int) : Int := if 10 < a ∧ a ≤ 17 then vR V (a - 10).toNat else if a = 0 then (wsum (vW V) 5 : Int) else if a = 1 then (wnf (vW V) : Int) else if a = 2 then (wnj (vW V) : Int) else if a = 3 then (vP V : Int) else if a = 4 then wsd (vW V) else -1
def aNodeOf (V : Vw) (i a : Int) : Int × Vw := if ¬ (0 ≤ i ∧ i < (vP V : Int)) then rfs 5 V else if a = 0 then (vD V i.toNat 0, V) else if a = 1 then (vD V i.toNat 1, V) else if a = 2 then (vD V i.toNat 2 + 1, V) else if a = 3 then (vD V i.toNat 3, V) else if a = 4 then (vD V i.toNat 4 + 1, V) else if a = 5 then (vD V i.toNat 6, V) else rfs 5 V
def drN (w : Wv) : Nat → Wv × Nat
  | 0 => (w, 0)
  | n + 1 => (wDraw (drN w n).1, (drN w n).2 + (if wl (drN w n).1 (wdT (drN w n).1) < 16 then 1 else 0))
def aDrawn (V : Vw) (n : Int) : Int × Vw := if n < 1 ∨ 40 < n then rfs 6 V else (((drN (vW V) n.toNat).2 : Int), ((drN (vW V) n.toNat).1, V.2))
def aPut (V : Vw) (t a v : Int) : Int × Vw := if ¬ (0 ≤ t ∧ t < 5) then rfT 1 V else if ¬ (0 ≤ a ∧ a < 2) then rfT 5 V else if a = 0 then (if 1 ≤ v ∧ v ≤ 8 then ((wb (vW V) t.toNat : Int), (wset (vW V) 2 t.toNat 0 v.toNat, V.2)) else rfT 6 V) else (if v = -1 ∨ (0 ≤ v ∧ v < 3) then ((wst (vW V) t.toNat : Int) - 1, (wset (vW V) 3 t.toNat 0 (v + 1).toNat, V.2)) else rfT 6 V)

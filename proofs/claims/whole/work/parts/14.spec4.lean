/-! SPEC of what changes a world -/
def wset (w : Wv) (f x y v : Nat) : Wv := (fun a b c => if a = f ∧ b = x ∧ c = y then v else w.1 a b c, w.2)
def wseed (w : Wv) (s : Int) : Wv := (w.1, s)
def wpl (w : Wv) (s j : Nat) : Nat := if bitv s (wja w j / 3) = 1 then wja w j else wjb w j
def wsum (w : Wv) : Nat → Nat
  | 0 => 0
  | t + 1 => wsum w t + wl w t
theorem wsum_le {w : Wv} (h : OKW w) : ∀ t, t ≤ 5 → wsum w t ≤ 16 * t
  | 0, _ => Nat.le_refl _
  | t + 1, ht => by have := wsum_le h t (by omega); have := (h.1 t (by omega)).1; unfold wsum; omega
def wAdd (w : Wv) (t a b c : Nat) : Wv := if wl w t < 16 then wset (wset (wset (wset w 1 t (wl w t * 3) a) 1 t (wl w t * 3 + 1) b) 1 t (wl w t * 3 + 2) c) 0 t 0 (wl w t + 1) else w
def drw (s : Int) : Int := s * 1103515245 + 12345
def dvl (s : Int) (n : Nat) : Nat := (iZ s).toBitVec.toNat / 65536 % n
theorem dvl_lt (s : Int) {n : Nat} (h : 0 < n) : dvl s n < n := Nat.mod_lt _ h
theorem ush_raw (s : Int) : ((iZ s).toUInt32 >>> ((iZ 16).toUInt32 &&& Int32.toUInt32 31)).toInt32 = iZ (((iZ s).toBitVec.toNat / 65536 : Nat) : Int) := by
  have h := pk_ushr (iZ s) (iZ 16) 16 (by decide)
  have hlt : (iZ s).toBitVec.toNat < 2 ^ 32 := (iZ s).toBitVec.isLt
  have h2 := pk_tn (n := (iZ s).toBitVec.toNat / 65536) (by omega)
  apply Int32.toBitVec_inj.mp
  apply BitVec.eq_of_toNat_eq
  rw [h]
  exact h2.symm
theorem XW.congr {b : Nat} {σ : St} {w w' : Wv} (h : XW b σ w) (h1 : ∀ t, t < 5 → wl w' t = wl w t ∧ wb w' t = wb w t ∧ wst w' t = wst w t ∧ ∀ i, i < wl w t → ∀ c, c < 3 → wv w' t i c = wv w t i c) (h2 : wnf w' = wnf w ∧ ∀ f, f < wnf w → wfp w' f = wfp w f ∧ wfs w' f = wfs w f ∧ wfv w' f = wfv w f) (h3 : wnj w' = wnj w ∧ ∀ j, j < wnj w → wja w' j = wja w j ∧ wjb w' j = wjb w j) (h4 : wsd w' = wsd w) : XW b σ w' := by
  refine ⟨fun t ht => ?_, ⟨?_, fun f hf => ?_⟩, ⟨?_, fun j hj => ?_⟩, ?_⟩
  · obtain ⟨a1, a2, a3, a4⟩ := h1 t ht
    obtain ⟨b1, b2, b3, b4⟩ := h.1 t ht
    rw [a1, a2, a3]
    exact ⟨b1, b2, b3, fun i hi c hc => by rw [a4 i hi c hc]; exact b4 i hi c hc⟩
  · rw [h2.1]; exact h.2.1.1
  · rw [h2.1] at hf
    obtain ⟨a1, a2, a3⟩ := h2.2 f hf
    rw [a1, a2, a3]; exact h.2.1.2 f hf
  · rw [h3.1]; exact h.2.2.1.1
  · rw [h3.1] at hj
    obtain ⟨a1, a2⟩ := h3.2 j hj
    rw [a1, a2]; exact h.2.2.1.2 j hj
  · rw [h4]; exact h.2.2.2
/-- a new seed -/
theorem XW.seed {b : Nat} {σ : St} {w : Wv} (h : XW b σ w) (s : Int) : XW b (sI σ b 8 s) (wseed w s) := by
  refine ⟨fun t ht => ?_, ⟨?_, fun f hf => ?_⟩, ⟨?_, fun j hj => ?_⟩, rI_s⟩
  · obtain ⟨b1, b2, b3, b4⟩ := h.1 t ht
    refine ⟨?_, ?_, ?_, fun i hi c hc => ?_⟩
    · rw [rI_k (by omega)]; exact b1
    · rw [rI_k (by omega)]; exact b2
    · rw [rI_k (by omega)]; exact b3
    · rw [rI_k (by omega)]; exact b4 i hi c hc
  · rw [rI_j (by omega)]; exact h.2.1.1
  · rw [rI_k (by omega), rI_k (by omega), rI_k (by omega)]; exact h.2.1.2 f hf
  · rw [rI_j (by omega)]; exact h.2.2.1.1
  · rw [rI_k (by omega), rI_k (by omega)]; exact h.2.2.1.2 j hj
theorem OKW.seed {w : Wv} (h : OKW w) (s : Int) : OKW (wseed w s) := h
/-- a line more -/
theorem XW.add {b : Nat} {σ : St} {w : Wv} (h : XW b σ w) {t : Nat} (ht : t < 5) (x y z : Nat) : XW b (tAdd σ (b + 2 + 2 * t) (wl w t) x y z) (wAdd w t x y z) := by
  unfold tAdd wAdd
  by_cases hl : wl w t < 16
  · rw [if_pos hl, if_pos hl]
    refine ⟨fun u hu => ?_, ⟨?_, fun f hf => ?_⟩, ⟨?_, fun j hj => ?_⟩, ?_⟩
    · obtain ⟨b1, b2, b3, b4⟩ := h.1 u hu
      by_cases hut : u = t
      · subst hut
        refine ⟨?_, ?_, ?_, fun i hi c hc => ?_⟩
        · rw [rI_s]; simp [wl, wset]
        · rw [rI_j (by omega), rI_k (by omega), rI_k (by omega), rI_k (by omega), b2]; simp [wb, wset]
        · rw [rI_j (by omega), rI_k (by omega), rI_k (by omega), rI_k (by omega), b3]; simp [wst, wset]
        · have e0 : wl (wset (wset (wset (wset w 1 u (wl w u * 3) x) 1 u (wl w u * 3 + 1) y) 1 u (wl w u * 3 + 2) z) 0 u 0 (wl w u + 1)) u = wl w u + 1 := by simp [wl, wset]
          rw [e0] at hi
          rw [rI_k (by omega)]
          have cell : b + 2 + 2 * u + 1 = b + 3 + 2 * u := by omega
          rw [cell]
          rcases (show i < wl w u ∨ (i = wl w u ∧ c = 0) ∨ (i = wl w u ∧ c = 1) ∨ (i = wl w u ∧ c = 2) by omega) with q | ⟨q, rfl⟩ | ⟨q, rfl⟩ | ⟨q, rfl⟩
          · rw [rI_j (by omega), rI_j (by omega), rI_j (by omega), b4 i q c hc]
            have n0 : ¬ i * 3 + c = wl w u * 3 := by omega
            have n1 : ¬ i * 3 + c = wl w u * 3 + 1 := by omega
            have n2 : ¬ i * 3 + c = wl w u * 3 + 2 := by omega
            simp [wv, wset, n0, n1, n2]
          · rw [q, rI_j (by omega), rI_j (by omega)]; refine (rI_s (j := wl w u * 3)).trans ?_; simp [wv, wset]
          · rw [q, rI_j (by omega), rI_s]; simp [wv, wset]
          · rw [q, rI_s]; simp [wv, wset]
      · have d1 : ¬ b + 2 + 2 * u = b + 2 + 2 * t := by omega
        refine ⟨?_, ?_, ?_, fun i hi c hc => ?_⟩
        · rw [rI_k (by omega), rI_k (by omega), rI_k (by omega), rI_k (by omega), b1]; simp [wl, wset, hut]
        · rw [rI_k (by omega), rI_k (by omega), rI_k (by omega), rI_k (by omega), b2]; simp [wb, wset]
        · rw [rI_k (by omega), rI_k (by omega), rI_k (by omega), rI_k (by omega), b3]; simp [wst, wset]
        · have e0 : wl (wset (wset (wset (wset w 1 t (wl w t * 3) x) 1 t (wl w t * 3 + 1) y) 1 t (wl w t * 3 + 2) z) 0 t 0 (wl w t + 1)) u = wl w u := by simp [wl, wset, hut]
          rw [e0] at hi
          rw [rI_k (by omega), rI_k (by omega), rI_k (by omega), rI_k (by omega), b4 i hi c hc]; simp [wv, wset, hut]
    · rw [rI_k (by omega), rI_k (by omega), rI_k (by omega), rI_k (by omega), h.2.1.1]; simp [wnf, wset]
    · have e0 : wnf (wset (wset (wset (wset w 1 t (wl w t * 3) x) 1 t (wl w t * 3 + 1) y) 1 t (wl w t * 3 + 2) z) 0 t 0 (wl w t + 1)) = wnf w := by simp [wnf, wset]
      rw [e0] at hf
      obtain ⟨a1, a2, a3⟩ := h.2.1.2 f hf
      refine ⟨?_, ?_, ?_⟩
      · rw [rI_k (by omega), rI_k (by omega), rI_k (by omega), rI_k (by omega), a1]; simp [wfp, wset]
      · rw [rI_k (by omega), rI_k (by omega), rI_k (by omega), rI_k (by omega), a2]; simp [wfs, wset]
      · rw [rI_k (by omega), rI_k (by omega), rI_k (by omega), rI_k (by omega), a3]; simp [wfv, wset]
    · rw [rI_k (by omega), rI_k (by omega), rI_k (by omega), rI_k (by omega), h.2.2.1.1]; simp [wnj, wset]
    · have e0 : wnj (wset (wset (wset (wset w 1 t (wl w t * 3) x) 1 t (wl w t * 3 + 1) y) 1 t (wl w t * 3 + 2) z) 0 t 0 (wl w t + 1)) = wnj w := by simp [wnj, wset]
      rw [e0] at hj
      obtain ⟨a1, a2⟩ := h.2.2.1.2 j hj
      refine ⟨?_, ?_⟩
      · rw [rI_k (by omega), rI_k (by omega), rI_k (by omega), rI_k (by omega), a1]; simp [wja, wset]
      · rw [rI_k (by omega), rI_k (by omega), rI_k (by omega), rI_k (by omega), a2]; simp [wjb, wset]
    · rw [rI_k (by omega), rI_k (by omega), rI_k (by omega), rI_k (by omega), h.2.2.2]; simp [wsd, wset]
  · rw [if_neg hl, if_neg hl]
    exact h
theorem OKW.add {w : Wv} (h : OKW w) {t : Nat} (ht : t < 5) {x y z : Nat} (hx : x ≤ 99 ∧ y ≤ 99 ∧ z ≤ 99) : OKW (wAdd w t x y z) := by
  unfold wAdd
  by_cases hl : wl w t < 16
  · rw [if_pos hl]
    refine ⟨fun u hu => ?_, ⟨?_, fun f hf => ?_⟩, ⟨?_, fun j hj => ?_⟩⟩
    · obtain ⟨b1, b2, b3, b4⟩ := h.1 u hu
      by_cases hut : u = t
      · subst hut
        refine ⟨?_, ?_, ?_, fun i hi c hc => ?_⟩
        · simp [wl, wset]; unfold wl at hl; omega
        · simpa [wb, wset] using b2
        · simpa [wst, wset] using b3
        · have e0 : wl (wset (wset (wset (wset w 1 u (wl w u * 3) x) 1 u (wl w u * 3 + 1) y) 1 u (wl w u * 3 + 2) z) 0 u 0 (wl w u + 1)) u = wl w u + 1 := by simp [wl, wset]
          rw [e0] at hi
          rcases (show i < wl w u ∨ (i = wl w u ∧ c = 0) ∨ (i = wl w u ∧ c = 1) ∨ (i = wl w u ∧ c = 2) by omega) with q | ⟨q, rfl⟩ | ⟨q, rfl⟩ | ⟨q, rfl⟩
          · have n0 : ¬ i * 3 + c = wl w u * 3 := by omega
            have n1 : ¬ i * 3 + c = wl w u * 3 + 1 := by omega
            have n2 : ¬ i * 3 + c = wl w u * 3 + 2 := by omega
            have := b4 i q c hc
            simpa [wv, wset, n0, n1, n2] using this
          · simpa [wv, wset, q] using hx.1
          · simpa [wv, wset, q] using hx.2.1
          · simpa [wv, wset, q] using hx.2.2
      · refine ⟨?_, ?_, ?_, fun i hi c hc => ?_⟩
        · simpa [wl, wset, hut] using b1
        · simpa [wb, wset] using b2
        · simpa [wst, wset] using b3
        · have e0 : wl (wset (wset (wset (wset w 1 t (wl w t * 3) x) 1 t (wl w t * 3 + 1) y) 1 t (wl w t * 3 + 2) z) 0 t 0 (wl w t + 1)) u = wl w u := by simp [wl, wset, hut]
          rw [e0] at hi
          have := b4 i hi c hc
          simpa [wv, wset, hut] using this
    · simpa [wnf, wset] using h.2.1.1
    · have e0 : wnf (wset (wset (wset (wset w 1 t (wl w t * 3) x) 1 t (wl w t * 3 + 1) y) 1 t (wl w t * 3 + 2) z) 0 t 0 (wl w t + 1)) = wnf w := by simp [wnf, wset]
      rw [e0] at hf
      simpa [wfp, wfs, wfv, wset] using h.2.1.2 f hf
    · simpa [wnj, wset] using h.2.2.1
    · have e0 : wnj (wset (wset (wset (wset w 1 t (wl w t * 3) x) 1 t (wl w t * 3 + 1) y) 1 t (wl w t * 3 + 2) z) 0 t 0 (wl w t + 1)) = wnj w := by simp [wnj, wset]
      rw [e0] at hj
      simpa [wja, wjb, wset] using h.2.2.2 j hj
  · rw [if_neg hl]
    exact h
/-- a filter more, a join more -/
def wAddF (w : Wv) (p s v : Nat) : Wv := wset (wset (wset (wset w 5 (wnf w) 0 p) 6 (wnf w) 0 s) 7 (wnf w) 0 v) 4 0 0 (wnf w + 1)
def wAddJ (w : Wv) (a b : Nat) : Wv := wset (wset (wset w 9 (wnj w) 0 a) 10 (wnj w) 0 b) 8 0 0 (wnj w + 1)
def aFil (σ : St) (b n : Nat) (p s v : Int) : St := sI (sI (sI (sI σ (b + 12) n p) (b + 13) n s) (b + 14) n v) b 4 ((n : Int) + 1)
def aJoi (σ : St) (b n : Nat) (x y : Int) : St := sI (sI (sI σ (b + 15) n x) (b + 16) n y) b 7 ((n : Int) + 1)
theorem XW.addF {b : Nat} {σ : St} {w : Wv} (h : XW b σ w) (p s v : Nat) : XW b (aFil σ b (wnf w) p s v) (wAddF w p s v) := by
  unfold aFil wAddF
  refine ⟨fun u hu => ?_, ⟨?_, fun f hf => ?_⟩, ⟨?_, fun j hj => ?_⟩, ?_⟩
  · obtain ⟨b1, b2, b3, b4⟩ := h.1 u hu
    refine ⟨?_, ?_, ?_, fun i hi c hc => ?_⟩
    · rw [rI_k (by omega), rI_k (by omega), rI_k (by omega), rI_k (by omega), b1]; simp [wl, wset]
    · rw [rI_k (by omega), rI_k (by omega), rI_k (by omega), rI_k (by omega), b2]; simp [wb, wset]
    · rw [rI_k (by omega), rI_k (by omega), rI_k (by omega), rI_k (by omega), b3]; simp [wst, wset]
    · have e0 : wl (wset (wset (wset (wset w 5 (wnf w) 0 p) 6 (wnf w) 0 s) 7 (wnf w) 0 v) 4 0 0 (wnf w + 1)) u = wl w u := by simp [wl, wset]
      rw [e0] at hi
      rw [rI_k (by omega), rI_k (by omega), rI_k (by omega), rI_k (by omega), b4 i hi c hc]; simp [wv, wset]
  · rw [rI_s]; simp [wnf, wset]
  · have e0 : wnf (wset (wset (wset (wset w 5 (wnf w) 0 p) 6 (wnf w) 0 s) 7 (wnf w) 0 v) 4 0 0 (wnf w + 1)) = wnf w + 1 := by simp [wnf, wset]
    rw [e0] at hf
    by_cases hfn : f = wnf w
    · subst hfn
      refine ⟨?_, ?_, ?_⟩
      · rw [rI_k (by omega), rI_k (by omega), rI_k (by omega), rI_s]; simp [wfp, wset]
      · rw [rI_k (by omega), rI_k (by omega), rI_s]; simp [wfs, wset]
      · rw [rI_k (by omega), rI_s]; simp [wfv, wset]
    · obtain ⟨a1, a2, a3⟩ := h.2.1.2 f (by omega)
      refine ⟨?_, ?_, ?_⟩
      · rw [rI_k (by omega), rI_k (by omega), rI_k (by omega), rI_j hfn, a1]; simp [wfp, wset, hfn]
      · rw [rI_k (by omega), rI_k (by omega), rI_j hfn, rI_k (by omega), a2]; simp [wfs, wset, hfn]
      · rw [rI_k (by omega), rI_j hfn, rI_k (by omega), rI_k (by omega), a3]; simp [wfv, wset, hfn]
  · rw [rI_j (by omega), rI_k (by omega), rI_k (by omega), rI_k (by omega), h.2.2.1.1]; simp [wnj, wset]
  · have e0 : wnj (wset (wset (wset (wset w 5 (wnf w) 0 p) 6 (wnf w) 0 s) 7 (wnf w) 0 v) 4 0 0 (wnf w + 1)) = wnj w := by simp [wnj, wset]
    rw [e0] at hj
    obtain ⟨a1, a2⟩ := h.2.2.1.2 j hj
    refine ⟨?_, ?_⟩
    · rw [rI_k (by omega), rI_k (by omega), rI_k (by omega), rI_k (by omega), a1]; simp [wja, wset]
    · rw [rI_k (by omega), rI_k (by omega), rI_k (by omega), rI_k (by omega), a2]; simp [wjb, wset]
  · rw [rI_j (by omega), rI_k (by omega), rI_k (by omega), rI_k (by omega), h.2.2.2]; simp [wsd, wset]
theorem OKW.addF {w : Wv} (h : OKW w) {p s v : Nat} (hn : wnf w < 8) (hp : p ≤ 14 ∧ s ≤ 2 ∧ v ≤ 99) : OKW (wAddF w p s v) := by
  unfold wAddF
  refine ⟨fun u hu => ?_, ⟨?_, fun f hf => ?_⟩, ⟨?_, fun j hj => ?_⟩⟩
  · obtain ⟨b1, b2, b3, b4⟩ := h.1 u hu
    refine ⟨by simpa [wl, wset] using b1, by simpa [wb, wset] using b2, by simpa [wst, wset] using b3, fun i hi c hc => ?_⟩
    have e0 : wl (wset (wset (wset (wset w 5 (wnf w) 0 p) 6 (wnf w) 0 s) 7 (wnf w) 0 v) 4 0 0 (wnf w + 1)) u = wl w u := by simp [wl, wset]
    rw [e0] at hi
    simpa [wv, wset] using b4 i hi c hc
  · simp [wnf, wset]; unfold wnf at hn; omega
  · have e0 : wnf (wset (wset (wset (wset w 5 (wnf w) 0 p) 6 (wnf w) 0 s) 7 (wnf w) 0 v) 4 0 0 (wnf w + 1)) = wnf w + 1 := by simp [wnf, wset]
    rw [e0] at hf
    by_cases hfn : f = wnf w
    · subst hfn; simpa [wfp, wfs, wfv, wset] using hp
    · simpa [wfp, wfs, wfv, wset, hfn] using h.2.1.2 f (by omega)
  · simpa [wnj, wset] using h.2.2.1
  · have e0 : wnj (wset (wset (wset (wset w 5 (wnf w) 0 p) 6 (wnf w) 0 s) 7 (wnf w) 0 v) 4 0 0 (wnf w + 1)) = wnj w := by simp [wnj, wset]
    rw [e0] at hj
    simpa [wja, wjb, wset] using h.2.2.2 j hj
theorem XW.addJ {b : Nat} {σ : St} {w : Wv} (h : XW b σ w) (x y : Nat) : XW b (aJoi σ b (wnj w) x y) (wAddJ w x y) := by
  unfold aJoi wAddJ
  refine ⟨fun u hu => ?_, ⟨?_, fun f hf => ?_⟩, ⟨?_, fun j hj => ?_⟩, ?_⟩
  · obtain ⟨b1, b2, b3, b4⟩ := h.1 u hu
    refine ⟨?_, ?_, ?_, fun i hi c hc => ?_⟩
    · rw [rI_k (by omega), rI_k (by omega), rI_k (by omega), b1]; simp [wl, wset]
    · rw [rI_k (by omega), rI_k (by omega), rI_k (by omega), b2]; simp [wb, wset]
    · rw [rI_k (by omega), rI_k (by omega), rI_k (by omega), b3]; simp [wst, wset]
    · have e0 : wl (wset (wset (wset w 9 (wnj w) 0 x) 10 (wnj w) 0 y) 8 0 0 (wnj w + 1)) u = wl w u := by simp [wl, wset]
      rw [e0] at hi
      rw [rI_k (by omega), rI_k (by omega), rI_k (by omega), b4 i hi c hc]; simp [wv, wset]
  · rw [rI_j (by omega), rI_k (by omega), rI_k (by omega), h.2.1.1]; simp [wnf, wset]
  · have e0 : wnf (wset (wset (wset w 9 (wnj w) 0 x) 10 (wnj w) 0 y) 8 0 0 (wnj w + 1)) = wnf w := by simp [wnf, wset]
    rw [e0] at hf
    obtain ⟨a1, a2, a3⟩ := h.2.1.2 f hf
    refine ⟨?_, ?_, ?_⟩
    · rw [rI_k (by omega), rI_k (by omega), rI_k (by omega), a1]; simp [wfp, wset]
    · rw [rI_k (by omega), rI_k (by omega), rI_k (by omega), a2]; simp [wfs, wset]
    · rw [rI_k (by omega), rI_k (by omega), rI_k (by omega), a3]; simp [wfv, wset]
  · rw [rI_s]; simp [wnj, wset]
  · have e0 : wnj (wset (wset (wset w 9 (wnj w) 0 x) 10 (wnj w) 0 y) 8 0 0 (wnj w + 1)) = wnj w + 1 := by simp [wnj, wset]
    rw [e0] at hj
    by_cases hjn : j = wnj w
    · subst hjn
      refine ⟨?_, ?_⟩
      · rw [rI_k (by omega), rI_k (by omega), rI_s]; simp [wja, wset]
      · rw [rI_k (by omega), rI_s]; simp [wjb, wset]
    · obtain ⟨a1, a2⟩ := h.2.2.1.2 j (by omega)
      refine ⟨?_, ?_⟩
      · rw [rI_k (by omega), rI_k (by omega), rI_j hjn, a1]; simp [wja, wset, hjn]
      · rw [rI_k (by omega), rI_j hjn, rI_k (by omega), a2]; simp [wjb, wset, hjn]
  · rw [rI_j (by omega), rI_k (by omega), rI_k (by omega), h.2.2.2]; simp [wsd, wset]
theorem OKW.addJ {w : Wv} (h : OKW w) {x y : Nat} (hn : wnj w < 8) (hp : x ≤ 14 ∧ y ≤ 14 ∧ x / 3 < y / 3) : OKW (wAddJ w x y) := by
  unfold wAddJ
  refine ⟨fun u hu => ?_, ⟨?_, fun f hf => ?_⟩, ⟨?_, fun j hj => ?_⟩⟩
  · obtain ⟨b1, b2, b3, b4⟩ := h.1 u hu
    refine ⟨by simpa [wl, wset] using b1, by simpa [wb, wset] using b2, by simpa [wst, wset] using b3, fun i hi c hc => ?_⟩
    have e0 : wl (wset (wset (wset w 9 (wnj w) 0 x) 10 (wnj w) 0 y) 8 0 0 (wnj w + 1)) u = wl w u := by simp [wl, wset]
    rw [e0] at hi
    simpa [wv, wset] using b4 i hi c hc
  · simpa [wnf, wset] using h.2.1.1
  · have e0 : wnf (wset (wset (wset w 9 (wnj w) 0 x) 10 (wnj w) 0 y) 8 0 0 (wnj w + 1)) = wnf w := by simp [wnf, wset]
    rw [e0] at hf
    simpa [wfp, wfs, wfv, wset] using h.2.1.2 f hf
  · simp [wnj, wset]; unfold wnj at hn; omega
  · have e0 : wnj (wset (wset (wset w 9 (wnj w) 0 x) 10 (wnj w) 0 y) 8 0 0 (wnj w + 1)) = wnj w + 1 := by simp [wnj, wset]
    rw [e0] at hj
    by_cases hjn : j = wnj w
    · subst hjn; simpa [wja, wjb, wset] using hp
    · simpa [wja, wjb, wset, hjn] using h.2.2.2 j (by omega)

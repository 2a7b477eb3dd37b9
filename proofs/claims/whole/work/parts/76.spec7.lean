/-! THE MODEL's rows: one after the other -/
def pJ (w : Wv) (s : Nat) (a : Nat → Nat) (t : Nat) : Nat → Bool
  | 0 => true
  | j + 1 => pJ w s a t j && (if wjb w j / 3 = t ∧ bitv s (wja w j / 3) = 1 then eqL w (wja w j) (wjb w j) (a (wja w j / 3)) (a t) else true)
theorem pJ_1 {w : Wv} {s t j : Nat} {a : Nat → Nat} : ∀ {n : Nat}, pJ w s a t n = true → j < n → wjb w j / 3 = t → bitv s (wja w j / 3) = 1 → eqL w (wja w j) (wjb w j) (a (wja w j / 3)) (a t) = true
  | 0, _, h, _, _ => absurd h (Nat.not_lt_zero _)
  | n + 1, h, hj, e1, e2 => by
    rw [pJ] at h
    have h' := Bool.and_eq_true _ _ ▸ h
    rcases Nat.lt_or_ge j n with k | k
    · exact pJ_1 h'.1 k e1 e2
    · have : j = n := by omega
      subst this
      have h2 := h'.2
      rwa [if_pos ⟨e1, e2⟩] at h2
theorem pJ_c {w : Wv} {s t : Nat} {a b : Nat → Nat} : ∀ {n : Nat}, (∀ j, j < n → wja w j / 3 < wjb w j / 3) → (∀ u, u ≤ t → bitv s u = 1 ∨ u = t → a u = b u) → pJ w s a t n = pJ w s b t n
  | 0, _, _ => rfl
  | n + 1, hj, h => by
    rw [pJ, pJ, pJ_c (fun j hn => hj j (by omega)) h]
    congr 1
    split
    · rename_i e
      have := hj n (by omega)
      rw [h (wja w n / 3) (by omega) (Or.inl e.2), h t (Nat.le_refl _) (Or.inr rfl)]
    · rfl
theorem jO_1 {w : Wv} {s j : Nat} {a : Nat → Nat} : ∀ {n : Nat}, jO w s a n = true → j < n → bitv s (wja w j / 3) = 1 ∧ bitv s (wjb w j / 3) = 1 → eqL w (wja w j) (wjb w j) (a (wja w j / 3)) (a (wjb w j / 3)) = true
  | 0, _, h, _ => absurd h (Nat.not_lt_zero _)
  | n + 1, h, hj, e => by
    rw [jO] at h
    have h' := Bool.and_eq_true _ _ ▸ h
    rcases Nat.lt_or_ge j n with k | k
    · exact jO_1 h'.1 k e
    · have : j = n := by omega
      subst this
      have h2 := h'.2
      rwa [if_pos e] at h2
theorem pJ_f {w : Wv} {s t : Nat} {a : Nat → Nat} : ∀ {n : Nat}, pJ w s a t n = false → ∃ j, j < n ∧ wjb w j / 3 = t ∧ bitv s (wja w j / 3) = 1 ∧ eqL w (wja w j) (wjb w j) (a (wja w j / 3)) (a t) = false
  | 0, h => absurd h (by simp [pJ])
  | n + 1, h => by
    rw [pJ] at h
    cases hp : pJ w s a t n with
    | false => obtain ⟨j, h1, h2⟩ := pJ_f hp; exact ⟨j, by omega, h2⟩
    | true =>
      rw [hp, Bool.true_and] at h
      split at h
      · rename_i e; exact ⟨n, by omega, e.1, e.2, h⟩
      · exact absurd h (by simp)
/-! the members in their order -/
theorem ms_len : ∀ s : Fin 32, (memS s.val).length ≤ 5 ∧ (1 ≤ s.val → 1 ≤ (memS s.val).length) := by decide +kernel
theorem ms_all : ∀ s : Fin 32, ∀ p : Fin 5, p.val < (memS s.val).length → gL (memS s.val) p.val < 5 ∧ bitv s.val (gL (memS s.val) p.val) = 1 ∧ ∀ q : Fin 5, q.val < (memS s.val).length → (p.val < q.val → gL (memS s.val) p.val < gL (memS s.val) q.val) := by decide +kernel
theorem ms_has : ∀ s : Fin 32, ∀ t : Fin 5, bitv s.val t.val = 1 → ∃ p : Fin 5, p.val < (memS s.val).length ∧ gL (memS s.val) p.val = t.val := by decide +kernel
def nxF (s : Nat) : Nat → Nat → Nat
  | 0, k => k
  | f + 1, k => if k < 5 ∧ bitv s k ≠ 1 then nxF s f (k + 1) else k
def pvF (s : Nat) : Nat → Int
  | 0 => -1
  | k + 1 => if bitv s k = 1 then (k : Int) else pvF s k
theorem nx_all : ∀ s : Fin 32, (1 ≤ s.val → nxF s.val 5 0 = gL (memS s.val) 0) ∧ ∀ p : Fin 5, p.val < (memS s.val).length → nxF s.val (5 - (gL (memS s.val) p.val + 1)) (gL (memS s.val) p.val + 1) = (if p.val + 1 < (memS s.val).length then gL (memS s.val) (p.val + 1) else 5) ∧ pvF s.val (gL (memS s.val) p.val) = (if p.val = 0 then -1 else (gL (memS s.val) (p.val - 1) : Int)) := by decide +kernel
theorem ms_lt {s p q : Nat} (hs : s < 32) (hp : p < q) (hq : q < (memS s).length) : gL (memS s) p < gL (memS s) q := by
  have hl := (ms_len ⟨s, hs⟩).1
  dsimp only at hl
  exact (ms_all ⟨s, hs⟩ ⟨p, by omega⟩ (show p < (memS s).length by omega)).2.2 ⟨q, by omega⟩ hq hp
theorem ms_b {s p : Nat} (hs : s < 32) (hp : p < (memS s).length) : gL (memS s) p < 5 ∧ bitv s (gL (memS s) p) = 1 := by
  have hl := (ms_len ⟨s, hs⟩).1
  dsimp only at hl
  have := ms_all ⟨s, hs⟩ ⟨p, by omega⟩ hp
  exact ⟨this.1, this.2.1⟩
theorem ms_d {s p u : Nat} (hs : s < 32) (h : u ∈ (memS s).drop (p + 1)) (hp : p < (memS s).length) : gL (memS s) p < u := by
  obtain ⟨i, hi⟩ := List.mem_iff_getElem?.mp h
  rw [List.getElem?_drop] at hi
  have hlt : p + 1 + i < (memS s).length := by
    rcases Nat.lt_or_ge (p + 1 + i) (memS s).length with k | k
    · exact k
    · rw [List.getElem?_eq_none k] at hi; exact absurd hi (by simp)
  have e : gL (memS s) (p + 1 + i) = u := by unfold gL; rw [hi]; rfl
  rw [← e]
  exact ms_lt hs (by omega) hlt
/-- what is still to come at a level, in all -/
def LV (s : Nat) (g : (Nat → Nat) → Nat) (a : Nat → Nat) (p : Nat) : Nat → Nat → Nat
  | 0, _ => 0
  | f + 1, i => rS ((memS s).drop (p + 1)) g (upL a (gL (memS s) p) i) + LV s g a p f (i + 1)
def LU (s : Nat) (g : (Nat → Nat) → Nat) (a : Nat → Nat) : Nat → Nat
  | 0 => 0
  | p + 1 => LU s g a p + LV s g a p (16 - (a (gL (memS s) p) + 1)) (a (gL (memS s) p) + 1)
def TOT (s : Nat) (g : (Nat → Nat) → Nat) (a : Nat → Nat) (p i : Nat) : Nat := LU s g a p + LV s g a p (16 - i) i
theorem LV_sum {s p : Nat} {g : (Nat → Nat) → Nat} {a : Nat → Nat} : ∀ {f i : Nat}, LV s g a p f i + nsum i (fun j => rS ((memS s).drop (p + 1)) g (upL a (gL (memS s) p) j)) = nsum (i + f) (fun j => rS ((memS s).drop (p + 1)) g (upL a (gL (memS s) p) j))
  | 0, i => by rw [LV, Nat.zero_add]; rfl
  | f + 1, i => by
    have ih := LV_sum (s := s) (p := p) (g := g) (a := a) (f := f) (i := i + 1)
    rw [LV, show i + (f + 1) = i + 1 + f by omega, ← ih, nsum]
    omega
theorem TOT_0 {s : Nat} {g : (Nat → Nat) → Nat} {a : Nat → Nat} (hl : 1 ≤ (memS s).length) : TOT s g a 0 0 = rS (memS s) g a := by
  have h := LV_sum (s := s) (p := 0) (g := g) (a := a) (f := 16) (i := 0)
  have e : memS s = gL (memS s) 0 :: (memS s).drop (0 + 1) := by rw [← dropL (by omega)]; rfl
  unfold TOT
  rw [LU, Nat.zero_add]
  rw [e, rS]
  rw [Nat.zero_add] at h
  rw [show 16 - 0 = 16 by rfl]
  have h0 : nsum 0 (fun j => rS ((memS s).drop (0 + 1)) g (upL a (gL (memS s) 0) j)) = 0 := rfl
  rw [h0, Nat.add_zero] at h
  exact h
theorem TOT_i {s p i : Nat} {g : (Nat → Nat) → Nat} {a : Nat → Nat} (hi : i < 16) : TOT s g a p i = rS ((memS s).drop (p + 1)) g (upL a (gL (memS s) p) i) + TOT s g a p (i + 1) := by
  unfold TOT
  rw [show 16 - i = (16 - (i + 1)) + 1 by omega, LV]
  omega
theorem LV_c {s p : Nat} {g : (Nat → Nat) → Nat} {a b : Nat → Nat} (h : ∀ c, c < 16 → rS ((memS s).drop (p + 1)) g (upL a (gL (memS s) p) c) = rS ((memS s).drop (p + 1)) g (upL b (gL (memS s) p) c)) : ∀ {f i : Nat}, i + f ≤ 16 → LV s g a p f i = LV s g b p f i
  | 0, _, _ => rfl
  | f + 1, i, hf => by rw [LV, LV, h i (by omega), LV_c h (by omega)]
/-- what is fixed behind a list is of no matter -/
theorem rS_beh {g : (Nat → Nat) → Nat} : ∀ {ts : List Nat} {a b : Nat → Nat}, (∀ u, u ∉ ts → a u = b u) → rS ts g a = rS ts g b
  | [], a, b, h => congrArg g (funext (fun u => h u (List.not_mem_nil)))
  | t :: ts, a, b, h => nsum_cong (fun i _ => rS_beh (fun u hu => by
      unfold upL
      by_cases e : u = t
      · rw [if_pos e, if_pos e]
      · rw [if_neg e, if_neg e]; exact h u (fun q => (List.mem_cons.mp q).elim e hu)))
theorem ms_md {s p q : Nat} (hq : q < p) (hp : p < (memS s).length) : gL (memS s) p ∈ (memS s).drop (q + 1) := gL_drop (by omega) hp
theorem LU_up {s p i : Nat} {g : (Nat → Nat) → Nat} {a : Nat → Nat} (hs : s < 32) (hp : p < (memS s).length) : ∀ q, q ≤ p → LU s g (upL a (gL (memS s) p) i) q = LU s g a q
  | 0, _ => rfl
  | q + 1, hq => by
    have hlt := ms_lt hs (show q < p by omega) hp
    have e : upL a (gL (memS s) p) i (gL (memS s) q) = a (gL (memS s) q) := by unfold upL; rw [if_neg (by omega)]
    have ev : ∀ c, rS ((memS s).drop (q + 1)) g (upL (upL a (gL (memS s) p) i) (gL (memS s) q) c) = rS ((memS s).drop (q + 1)) g (upL a (gL (memS s) q) c) := fun c => rS_beh (fun u hu => by
      unfold upL
      by_cases e1 : u = gL (memS s) q
      · rw [if_pos e1, if_pos e1]
      · rw [if_neg e1, if_neg e1, if_neg (fun e2 => hu (by rw [e2]; exact ms_md (by omega) hp))])
    rw [LU, LU, LU_up hs hp q (by omega), e]
    congr 1
    rcases Nat.lt_or_ge (a (gL (memS s) q)) 16 with k | k
    · exact LV_c (fun c _ => ev c) (by omega)
    · rw [show 16 - (a (gL (memS s) q) + 1) = 0 by omega]; rfl
theorem TOT_d {s p i : Nat} {g : (Nat → Nat) → Nat} {a : Nat → Nat} (hs : s < 32) (hp : p + 1 < (memS s).length) (hi : i < 16) : TOT s g (upL a (gL (memS s) p) i) (p + 1) 0 = rS ((memS s).drop (p + 1)) g (upL a (gL (memS s) p) i) + TOT s g a p (i + 1) := by
  have e1 := LU_up (g := g) (a := a) (i := i) hs (show p < (memS s).length by omega) p (Nat.le_refl _)
  have e2 : upL a (gL (memS s) p) i (gL (memS s) p) = i := by unfold upL; rw [if_pos rfl]
  have e3 : LV s g (upL a (gL (memS s) p) i) p (16 - (i + 1)) (i + 1) = LV s g a p (16 - (i + 1)) (i + 1) := LV_c (fun c _ => rS_beh (fun u _ => by
    unfold upL
    by_cases e : u = gL (memS s) p
    · rw [if_pos e, if_pos e]
    · rw [if_neg e, if_neg e, if_neg e])) (by omega)
  have e4 : LV s g (upL a (gL (memS s) p) i) (p + 1) 16 0 = rS ((memS s).drop (p + 1)) g (upL a (gL (memS s) p) i) := by
    have h := LV_sum (s := s) (p := p + 1) (g := g) (a := upL a (gL (memS s) p) i) (f := 16) (i := 0)
    have h0 : nsum 0 (fun j => rS ((memS s).drop (p + 1 + 1)) g (upL (upL a (gL (memS s) p) i) (gL (memS s) (p + 1)) j)) = 0 := rfl
    rw [h0, Nat.add_zero, Nat.zero_add] at h
    rw [h, dropL hp]; rfl
  unfold TOT
  rw [LU, e1, e2, e3, show 16 - 0 = 16 by rfl, e4]
  omega
theorem TOT_z {s p i : Nat} {g : (Nat → Nat) → Nat} {a : Nat → Nat} (h : ∀ c, i ≤ c → c < 16 → rS ((memS s).drop (p + 1)) g (upL a (gL (memS s) p) c) = 0) : TOT s g a p i = LU s g a p := by
  unfold TOT
  have : ∀ f j, i ≤ j → j + f ≤ 16 → LV s g a p f j = 0 := fun f => by
    induction f with
    | zero => intro j _ _; rfl
    | succ f ih => intro j h1 h2; rw [LV, h j h1 (by omega), ih (j + 1) (by omega) (by omega)]
  rcases Nat.lt_or_ge i 17 with k | k
  · rw [this (16 - i) i (Nat.le_refl _) (by omega), Nat.add_zero]
  · rw [show 16 - i = 0 by omega]; rfl
/-! what passes at a level -/
def PQ (w : Wv) (s : Nat) (a : Nat → Nat) (q : Nat) : Prop := fM w (wnf w) (gL (memS s) q) (a (gL (memS s) q)) = true ∧ pJ w s a (gL (memS s) q) (wnj w) = true
theorem PQ_up {w : Wv} (hW : OKW w) {s p q i : Nat} {a : Nat → Nat} (hs : s < 32) (hp : p < (memS s).length) (hq : q < p) (h : PQ w s a q) : PQ w s (upL a (gL (memS s) p) i) q := by
  have hlt := ms_lt hs hq hp
  have e : ∀ u, u ≤ gL (memS s) q → upL a (gL (memS s) p) i u = a u := fun u hu => by unfold upL; rw [if_neg (by omega)]
  unfold PQ
  rw [e _ (Nat.le_refl _), pJ_c (b := a) (fun j hj => (hW.2.2.2 j hj).2.2) (fun u hu _ => e u hu)]
  exact h
theorem gR_t {w : Wv} (hW : OKW w) {s : Nat} {a : Nat → Nat} (hs : s < 32) (h : ∀ q, q < (memS s).length → PQ w s a q) : gR w s a = true := by
  have hl := (ms_len ⟨s, hs⟩).1
  dsimp only at hl
  unfold gR
  rw [Bool.and_eq_true]
  refine ⟨List.all_eq_true.mpr (fun t ht => ?_), jO_of (Nat.le_refl _) (fun j hj hc => ?_)⟩
  · obtain ⟨h5, hb⟩ := mem_bit.mp ht
    obtain ⟨p, hp, e⟩ := ms_has ⟨s, hs⟩ ⟨t, h5⟩ hb
    have := (h p.val hp).1
    dsimp only at e
    rwa [e] at this
  · have hjo := hW.2.2.2 j hj
    obtain ⟨p, hp, e⟩ := ms_has ⟨s, hs⟩ ⟨wjb w j / 3, by omega⟩ hc.2
    dsimp only at e
    have := pJ_1 (h p.val hp).2 hj e.symm hc.1
    rwa [e] at this
theorem gR_f {w : Wv} (hW : OKW w) {s p i : Nat} {a b : Nat → Nat} (hs : s < 32) (hp : p < (memS s).length) (h : ¬ (fM w (wnf w) (gL (memS s) p) i = true ∧ pJ w s (upL a (gL (memS s) p) i) (gL (memS s) p) (wnj w) = true)) (hb : ∀ u, u ∉ (memS s).drop (p + 1) → b u = upL a (gL (memS s) p) i u) : gR w s b = false := by
  obtain ⟨h5, hbt⟩ := ms_b hs hp
  have hbe : ∀ u, u ≤ gL (memS s) p → b u = upL a (gL (memS s) p) i u := fun u hu => hb u (fun q => by have := ms_d hs q hp; omega)
  have hbt' : b (gL (memS s) p) = i := by rw [hbe _ (Nat.le_refl _)]; unfold upL; rw [if_pos rfl]
  refine Bool.eq_false_iff.mpr (fun e => h ?_)
  unfold gR at e
  have e' := Bool.and_eq_true _ _ ▸ e
  refine ⟨?_, ?_⟩
  · have := List.all_eq_true.mp e'.1 _ (mem_bit.mpr ⟨h5, hbt⟩)
    rwa [hbt'] at this
  · cases hpj : pJ w s (upL a (gL (memS s) p) i) (gL (memS s) p) (wnj w) with
    | true => rfl
    | false =>
      obtain ⟨j, h1, h2, h3, h4⟩ := pJ_f hpj
      have hjo := hW.2.2.2 j h1
      have := jO_1 e'.2 h1 ⟨h3, by rw [h2]; exact hbt⟩
      rw [h2, hbe _ (by omega), hbe _ (Nat.le_refl _), h4] at this
      exact absurd this (by simp)
theorem rS_fail {w : Wv} (hW : OKW w) {s p i : Nat} {g : (Nat → Nat) → Nat} {a : Nat → Nat} (hg : ∀ b, gR w s b = false → g b = 0) (hs : s < 32) (hp : p < (memS s).length) (h : ¬ (fM w (wnf w) (gL (memS s) p) i = true ∧ pJ w s (upL a (gL (memS s) p) i) (gL (memS s) p) (wnj w) = true)) : rS ((memS s).drop (p + 1)) g (upL a (gL (memS s) p) i) = 0 := rS_0 (fun b hb => hg b (gR_f hW hs hp h hb))

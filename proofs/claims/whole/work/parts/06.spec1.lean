/-! SPEC of the histogram: the sorted values, the buckets by their ends, how many different -/
def updI (f : Nat → Int) (j : Nat) (v : Int) : Nat → Int := fun q => if q = j then v else f q
def aI (σ : St) (k : Nat) (f : Nat → Int) : St := (fun a b => if a = k then f b else σ.1 a b, σ.2)
theorem aI_k {σ : St} {k : Nat} {f : Nat → Int} : (aI σ k f).1 k = f := by funext j; simp [aI]
theorem aI_ne {σ : St} {k k' : Nat} {f : Nat → Int} (h : k' ≠ k) : (aI σ k f).1 k' = σ.1 k' := by funext j; simp [aI, h]
theorem aI_2 {σ : St} {k : Nat} {f : Nat → Int} : (aI σ k f).2 = σ.2 := rfl
theorem sI_aI {σ : St} {k j : Nat} {f : Nat → Int} {v : Int} : sI (aI σ k f) k j v = aI σ k (updI f j v) := by
  unfold sI aI updI
  congr 1
  funext a b
  by_cases ha : a = k
  · by_cases hb : b = j <;> simp [ha, hb]
  · simp [ha]
theorem aI_self {σ : St} {k : Nat} : aI σ k (σ.1 k) = σ := by
  unfold aI
  apply Prod.ext
  · funext a b
    by_cases ha : a = k
    · simp [ha]
    · simp [ha]
  · rfl
theorem sI_a {σ : St} {k j : Nat} {v : Int} : sI σ k j v = aI σ k (updI (σ.1 k) j v) := by
  have h := sI_aI (σ := σ) (k := k) (j := j) (f := σ.1 k) (v := v)
  rw [aI_self] at h
  exact h
theorem updI_s {f : Nat → Int} {j : Nat} {v : Int} : updI f j v j = v := by simp [updI]
theorem updI_n {f : Nat → Int} {j q : Nat} {v : Int} (h : q ≠ j) : updI f j v q = f q := by simp [updI, h]
/-- only cells of a list may differ -/
def Fr (S : Nat → Prop) (σ σ' : St) : Prop := (∀ k, ¬ S k → σ'.1 k = σ.1 k) ∧ (∀ k, ¬ S k → σ'.2.1 k = σ.2.1 k) ∧ (∀ k, ¬ S k → σ'.2.2 k = σ.2.2 k)
theorem Fr.rf {S : Nat → Prop} {σ : St} : Fr S σ σ := ⟨fun _ _ => rfl, fun _ _ => rfl, fun _ _ => rfl⟩
theorem Fr.tr {S : Nat → Prop} {σ σ' σ'' : St} (h : Fr S σ σ') (g : Fr S σ' σ'') : Fr S σ σ'' := ⟨fun k hk => (g.1 k hk).trans (h.1 k hk), fun k hk => (g.2.1 k hk).trans (h.2.1 k hk), fun k hk => (g.2.2 k hk).trans (h.2.2 k hk)⟩
theorem Fr.mono {S T : Nat → Prop} {σ σ' : St} (h : Fr S σ σ') (hST : ∀ k, S k → T k) : Fr T σ σ' := ⟨fun k hk => h.1 k (fun q => hk (hST k q)), fun k hk => h.2.1 k (fun q => hk (hST k q)), fun k hk => h.2.2 k (fun q => hk (hST k q))⟩
theorem Fr.sI {S : Nat → Prop} {σ σ' : St} {k j : Nat} {v : Int} (h : Fr S σ σ') (hk : S k) : Fr S σ (sI σ' k j v) := by
  refine ⟨fun a ha => ?_, h.2.1, h.2.2⟩
  rw [← h.1 a ha]
  funext b
  exact rI_k (fun e => ha (e ▸ hk))
theorem Fr.sF {S : Nat → Prop} {σ σ' : St} {k j : Nat} {v : UInt32} (h : Fr S σ σ') (hk : S k) : Fr S σ (sF σ' k j v) := by
  refine ⟨h.1, fun a ha => ?_, h.2.2⟩
  rw [← h.2.1 a ha]
  funext b
  exact rF_k (fun e => ha (e ▸ hk))
theorem Fr.sL {S : Nat → Prop} {σ σ' : St} {k j : Nat} {v : Int64} (h : Fr S σ σ') (hk : S k) : Fr S σ (sL σ' k j v) := by
  refine ⟨h.1, h.2.1, fun a ha => ?_⟩
  rw [← h.2.2 a ha]
  funext b
  exact rL_k (fun e => ha (e ▸ hk))
theorem Fr.aI {S : Nat → Prop} {σ σ' : St} {k : Nat} {f : Nat → Int} (h : Fr S σ σ') (hk : S k) : Fr S σ (aI σ' k f) := by
  refine ⟨fun a ha => ?_, h.2.1, h.2.2⟩
  rw [← h.1 a ha]
  exact aI_ne (fun e => ha (e ▸ hk))
def insA (v : Int) : Nat → (Nat → Int) → (Nat → Int)
  | 0, s => updI s 0 v
  | p + 1, s => if v < s p then insA v p (updI s (p + 1) (s p)) else updI s (p + 1) v
theorem insA_cong {v : Int} : ∀ {p : Nat} {s s' : Nat → Int}, (∀ j, j < p → s j = s' j) → ∀ j, j ≤ p → insA v p s j = insA v p s' j
  | 0, s, s', h, j, hj => by
    have : j = 0 := by omega
    subst this
    simp [insA, updI]
  | p + 1, s, s', h, j, hj => by
    have hp := h p (by omega)
    unfold insA
    rw [hp]
    by_cases hc : v < s' p
    · rw [if_pos hc, if_pos hc]
      by_cases hjp : j ≤ p
      · exact insA_cong (fun q hq => by rw [updI_n (by omega), updI_n (by omega)]; exact h q (by omega)) j hjp
      · have hj1 : j = p + 1 := by omega
        subst hj1
        have out : ∀ (p : Nat) (f : Nat → Int) (q : Nat), p < q → insA v p f q = f q := by
          intro p
          induction p with
          | zero => intro f q hq; unfold insA; exact updI_n (by omega)
          | succ p ih =>
            intro f q hq
            unfold insA
            by_cases h : v < f p
            · rw [if_pos h, ih _ q (by omega)]; exact updI_n (by omega)
            · rw [if_neg h]; exact updI_n (by omega)
        rw [out p _ _ (by omega), out p _ _ (by omega), updI_s, updI_s]
    · rw [if_neg hc, if_neg hc]
      by_cases hj1 : j = p + 1
      · subst hj1; rw [updI_s, updI_s]
      · rw [updI_n hj1, updI_n hj1]; exact h j (by omega)
theorem insA_rng {v lo hi : Int} (hv : lo ≤ v ∧ v ≤ hi) : ∀ {p : Nat} {s : Nat → Int}, (∀ j, j < p → lo ≤ s j ∧ s j ≤ hi) → ∀ j, j ≤ p → lo ≤ insA v p s j ∧ insA v p s j ≤ hi
  | 0, s, h, j, hj => by
    have : j = 0 := by omega
    subst this
    simpa [insA, updI] using hv
  | p + 1, s, h, j, hj => by
    have hp := h p (by omega)
    unfold insA
    by_cases hc : v < s p
    · rw [if_pos hc]
      by_cases hjp : j ≤ p
      · exact insA_rng hv (fun q hq => by rw [updI_n (by omega)]; exact h q (by omega)) j hjp
      · have hj1 : j = p + 1 := by omega
        subst hj1
        have out : ∀ (p : Nat) (f : Nat → Int) (q : Nat), p < q → insA v p f q = f q := by
          intro p
          induction p with
          | zero => intro f q hq; unfold insA; exact updI_n (by omega)
          | succ p ih =>
            intro f q hq
            unfold insA
            by_cases h : v < f p
            · rw [if_pos h, ih _ q (by omega)]; exact updI_n (by omega)
            · rw [if_neg h]; exact updI_n (by omega)
        rw [out p _ _ (by omega), updI_s]
        exact hp
    · rw [if_neg hc]
      by_cases hj1 : j = p + 1
      · subst hj1; rw [updI_s]; exact hv
      · rw [updI_n hj1]; exact h j (by omega)
/-- the first i values of a column, sorted -/
def srt (c : Nat → Int) : Nat → (Nat → Int)
  | 0 => fun _ => 0
  | i + 1 => insA (c i) i (srt c i)
theorem srt_rng {c : Nat → Int} {lo hi : Int} : ∀ {i : Nat}, (∀ j, j < i → lo ≤ c j ∧ c j ≤ hi) → ∀ j, j < i → lo ≤ srt c i j ∧ srt c i j ≤ hi
  | 0, _, j, hj => absurd hj (Nat.not_lt_zero j)
  | i + 1, h, j, hj => insA_rng (h i (by omega)) (srt_rng (fun q hq => h q (by omega))) j (by omega)
theorem srt_cong {c c' : Nat → Int} : ∀ {i : Nat}, (∀ j, j < i → c j = c' j) → srt c i = srt c' i
  | 0, _ => rfl
  | i + 1, h => by unfold srt; rw [h i (by omega), srt_cong (fun q hq => h q (by omega))]
/-- how many different values from a to b -/
def dif (s : Nat → Int) (a : Nat) : Nat → Nat
  | 0 => 0
  | b + 1 => dif s a b + (if a ≤ b ∧ (b = a ∨ s b ≠ s (b - 1)) then 1 else 0)
theorem dif_le (s : Nat → Int) (a : Nat) : ∀ b, dif s a b ≤ b - a
  | 0 => by simp [dif]
  | b + 1 => by
    have h := dif_le s a b
    unfold dif
    split <;> omega
theorem dif_0 (s : Nat → Int) (a : Nat) : ∀ b, b ≤ a → dif s a b = 0
  | 0, _ => rfl
  | b + 1, h => by
    unfold dif
    rw [dif_0 s a b (by omega), if_neg (by omega)]
theorem dif_mono (s : Nat → Int) (a b : Nat) : ∀ c, b ≤ c → dif s a b ≤ dif s a c
  | 0, h => by have : b = 0 := by omega
               subst this; exact Nat.le_refl _
  | c + 1, h => by
    rcases Nat.lt_or_ge b (c + 1) with q | q
    · have h1 := dif_mono s a b c (by omega)
      have h2 : dif s a c ≤ dif s a (c + 1) := by
        rw [dif]; exact Nat.le_add_right _ _
      omega
    · have : b = c + 1 := by omega
      subst this; exact Nat.le_refl _
theorem dif_pos (s : Nat → Int) (a b : Nat) (h : a < b) : 1 ≤ dif s a b := by
  have h1 := dif_mono s a (a + 1) b h
  have h2 : dif s a (a + 1) = 1 := by
    unfold dif
    rw [dif_0 s a a (Nat.le_refl _), if_pos ⟨Nat.le_refl _, Or.inl rfl⟩]
  omega
theorem dif_cong {s s' : Nat → Int} {a : Nat} : ∀ {b : Nat}, (∀ j, j < b → s j = s' j) → dif s a b = dif s' a b
  | 0, _ => rfl
  | b + 1, h => by
    unfold dif
    rw [dif_cong (fun j hj => h j (by omega)), h b (by omega)]
    by_cases hb : b = 0
    · subst hb; simp [h 0 (by omega)]
    · rw [h (b - 1) (by omega)]
/-- the ends of the buckets: n values, m buckets; how many of the first k have values; which one is the j-th of these -/
def bfr (n m k : Nat) : Nat := k * n / m
def bct (n m : Nat) : Nat → Nat
  | 0 => 0
  | k + 1 => bct n m k + (if bfr n m k < bfr n m (k + 1) then 1 else 0)
def bix (n m : Nat) : Nat → Nat → Nat
  | 0, _ => 0
  | k + 1, j => if bfr n m k < bfr n m (k + 1) ∧ bct n m k = j then k else bix n m k j
theorem bct_le (n m : Nat) : ∀ k, bct n m k ≤ k
  | 0 => Nat.le_refl _
  | k + 1 => by have h := bct_le n m k; unfold bct; split <;> omega
theorem bfr_le (n m k : Nat) (hm : 0 < m) (hk : k ≤ m) : bfr n m k ≤ n := by
  unfold bfr
  apply Nat.div_le_of_le_mul
  exact Nat.mul_le_mul_right n hk
theorem bfr_mono (n m k : Nat) : bfr n m k ≤ bfr n m (k + 1) := by
  unfold bfr
  apply Nat.div_le_div_right
  exact Nat.mul_le_mul_right n (Nat.le_succ k)
theorem bfr_0 (n m : Nat) : bfr n m 0 = 0 := by simp [bfr]
theorem bfr_m (n m : Nat) (hm : 0 < m) : bfr n m m = n := by unfold bfr; exact Nat.mul_div_cancel_left n hm
theorem bix_spec (n m : Nat) : ∀ k j, j < bct n m k → bix n m k j < k ∧ bfr n m (bix n m k j) < bfr n m (bix n m k j + 1)
  | 0, j, h => absurd h (Nat.not_lt_zero j)
  | k + 1, j, h => by
    unfold bix
    by_cases hc : bfr n m k < bfr n m (k + 1) ∧ bct n m k = j
    · rw [if_pos hc]; exact ⟨Nat.lt_succ_self k, hc.1⟩
    · rw [if_neg hc]
      have hj : j < bct n m k := by
        unfold bct at h
        by_cases h2 : bfr n m k < bfr n m (k + 1)
        · rw [if_pos h2] at h
          have : bct n m k ≠ j := fun q => hc ⟨h2, q⟩
          omega
        · rw [if_neg h2] at h; omega
      have := bix_spec n m k j hj
      exact ⟨by omega, this.2⟩
theorem bix_keep (n m k j : Nat) (h : j < bct n m k) : bix n m (k + 1) j = bix n m k j := by
  rw [bix, if_neg (by omega)]
theorem bix_new (n m k : Nat) (h : bfr n m k < bfr n m (k + 1)) : bix n m (k + 1) (bct n m k) = k := by
  rw [bix, if_pos ⟨h, rfl⟩]
/-- the j-th bucket that has values: its two ends -/
def bA (n m j : Nat) : Nat := bfr n m (bix n m m j)
def bB (n m j : Nat) : Nat := bfr n m (bix n m m j + 1)
theorem bAB (n m j : Nat) (hm : 0 < m) (h : j < bct n m m) : bA n m j < bB n m j ∧ bB n m j ≤ n := by
  have h1 := bix_spec n m m j h
  exact ⟨h1.2, bfr_le n m _ hm (by omega)⟩

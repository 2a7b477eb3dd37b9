/-! the reader: a state machine, a sign a step. scalars 0 state, 1 table, 2 column, 3 number, 4 items; pending lines by table; their values -/
abbrev Rd : Type := (Nat → Nat) × (Nat → Nat) × (Nat → Nat → Nat → Nat)
def rst (r : Rd) : Nat := r.1 0
def rtab (r : Rd) : Nat := r.1 1
def rcol (r : Rd) : Nat := r.1 2
def rnum (r : Rd) : Nat := r.1 3
def rit (r : Rd) : Nat := r.1 4
def rp (r : Rd) (t : Nat) : Nat := r.2.1 t
def rv (r : Rd) (t i c : Nat) : Nat := r.2.2 t i c
def rset (r : Rd) (k v : Nat) : Rd := (fun a => if a = k then v else r.1 a, r.2)
def keepR (r : Rd) : Rd := (r.1, r.2.1, fun t i c => if t = rtab r ∧ i = rp r (rtab r) ∧ c = rcol r then rnum r else rv r t i c)
def endR (r : Rd) : Rd := (r.1, fun t => if t = rtab r then rp r t + 1 else rp r t, (keepR r).2.2)
def isDg (c : Int) : Prop := 48 ≤ c ∧ c ≤ 57
def mrk (r : Rd) (c : Int) : Option Rd :=
  if rcol r < 2 then (if c = 44 then some (rset (rset (keepR r) 2 (rcol r + 1)) 0 3) else none)
  else if c = 47 then some (rset (rset (endR r) 2 0) 0 3)
  else if c = 59 then some (rset (rset (endR r) 4 (rit r + 1)) 0 0)
  else none
def stp (w : Wv) (r : Rd) (c : Int) : Option Rd :=
  if rst r = 0 then (if c = 116 then some (rset r 0 1) else none)
  else if rst r = 1 then (if 48 ≤ c ∧ c < 53 then some (rset (rset r 1 (c - 48).toNat) 0 2) else none)
  else if rst r = 2 then (if c = 58 then some (rset (rset r 2 0) 0 3) else none)
  else if rst r = 3 then (if (48 ≤ c ∧ c ≤ 57) ∧ wl w (rtab r) + rp r (rtab r) < 16 then some (rset (rset r 3 (c - 48).toNat) 0 4) else none)
  else if rst r = 4 then (if 48 ≤ c ∧ c ≤ 57 then some (rset (rset r 3 (rnum r * 10 + (c - 48).toNat)) 0 5) else mrk r c)
  else mrk r c
def RC (k : Nat) : Prop := k = 103 ∨ k = 104 ∨ k = 3 ∨ k = 5 ∨ k = 7 ∨ k = 9 ∨ k = 11
def RI (σ : St) (w : Wv) (r : Rd) : Prop := XW 0 σ w ∧ (σ.1 103 2 = (rst r : Int) ∧ (1 < rst r → σ.1 103 3 = (rtab r : Int)) ∧ (2 < rst r → σ.1 103 4 = (rcol r : Int)) ∧ (3 < rst r → σ.1 103 5 = (rnum r : Int)) ∧ σ.1 103 6 = (rit r : Int)) ∧ (∀ t, t < 5 → σ.1 104 t = (rp r t : Int)) ∧
  (∀ t, t < 5 → ∀ i c, c < 3 → (i < rp r t ∨ (3 ≤ rst r ∧ i = rp r t ∧ t = rtab r ∧ c < rcol r)) → σ.1 (3 + 2 * t) ((wl w t + i) * 3 + c) = (rv r t i c : Int) ∧ rv r t i c ≤ 99) ∧
  (rst r ≤ 5 ∧ rtab r < 5 ∧ rcol r ≤ 2 ∧ rnum r ≤ 99 ∧ (rst r = 4 → rnum r ≤ 9)) ∧ (∀ t, t < 5 → wl w t + rp r t ≤ 16) ∧ ((rst r = 4 ∨ rst r = 5) → wl w (rtab r) + rp r (rtab r) < 16)
theorem XW.beyond {σ : St} {w : Wv} (h : XW 0 σ w) {t j : Nat} (ht : t < 5) (hj : wl w t * 3 ≤ j) (v : Int) : XW 0 (sI σ (3 + 2 * t) j v) w := by
  refine ⟨fun u hu => ?_, ⟨?_, fun f hf => ?_⟩, ⟨?_, fun q hq => ?_⟩, ?_⟩
  · obtain ⟨b1, b2, b3, b4⟩ := h.1 u hu
    refine ⟨by rw [rI_k (by omega)]; exact b1, by rw [rI_k (by omega)]; exact b2, by rw [rI_k (by omega)]; exact b3, fun i hi c hc => ?_⟩
    by_cases hut : u = t
    · subst hut
      rw [show 0 + 3 + 2 * u = 3 + 2 * u by omega, rI_j (by omega)]
      have := b4 i hi c hc
      rwa [show 0 + 3 + 2 * u = 3 + 2 * u by omega] at this
    · rw [rI_k (by omega)]; exact b4 i hi c hc
  · rw [rI_k (by omega)]; exact h.2.1.1
  · rw [rI_k (by omega), rI_k (by omega), rI_k (by omega)]; exact h.2.1.2 f hf
  · rw [rI_k (by omega)]; exact h.2.2.1.1
  · rw [rI_k (by omega), rI_k (by omega)]; exact h.2.2.1.2 q hq
  · rw [rI_k (by omega)]; exact h.2.2.2
theorem XW.sI9 {σ : St} {w : Wv} (h : XW 0 σ w) {k j : Nat} {v : Int} (hk : 16 < k) : XW 0 (sI σ k j v) w := h.fr (S := fun q => q = k) (Fr.rf.sI rfl) (fun q _ hq e => by omega)
/-- scalars alone change: states 1, 2, 3 (from a colon), 4, 5 -/
theorem RI.tee {σ : St} {w : Wv} {r : Rd} (h : RI σ w r) (h0 : rst r = 0) : RI (sI σ 103 2 1) w (rset r 0 1) := by
  obtain ⟨a, ⟨b1, b2, b3, b4, b5⟩, c, d, e, f, g⟩ := h
  refine ⟨a.sI9 (by omega), ⟨rI_s, ?_, ?_, ?_, ?_⟩, fun t ht => ?_, fun t ht i k hk hik => ?_, ?_, f, ?_⟩
  · intro q; simp [rst, rset] at q
  · intro q; simp [rst, rset] at q
  · intro q; simp [rst, rset] at q
  · rw [rI_j (by omega)]; exact b5
  · rw [rI_k (by omega)]; exact c t ht
  · rw [rI_k (by omega)]
    refine d t ht i k hk ?_
    rcases hik with q | ⟨q, -⟩
    · exact Or.inl q
    · simp [rst, rset] at q
  · refine ⟨?_, e.2.1, e.2.2.1, e.2.2.2.1, ?_⟩ <;> simp [rst, rset]
  · intro q; simp [rst, rset] at q
theorem RI.tab {σ : St} {w : Wv} {r : Rd} (h : RI σ w r) {n : Nat} (hn : n < 5) : RI (sI (sI σ 103 3 (n : Int)) 103 2 2) w (rset (rset r 1 n) 0 2) := by
  obtain ⟨a, ⟨b1, b2, b3, b4, b5⟩, c, d, e, f, g⟩ := h
  refine ⟨(a.sI9 (by omega)).sI9 (by omega), ⟨rI_s, ?_, ?_, ?_, ?_⟩, fun t ht => ?_, fun t ht i k hk hik => ?_, ?_, f, ?_⟩
  · intro _; rw [rI_j (by omega), rI_s]; simp [rtab, rset]
  · intro q; simp [rst, rset] at q
  · intro q; simp [rst, rset] at q
  · rw [rI_j (by omega), rI_j (by omega)]; exact b5
  · rw [rI_k (by omega), rI_k (by omega)]; exact c t ht
  · rw [rI_k (by omega), rI_k (by omega)]
    refine d t ht i k hk ?_
    rcases hik with q | ⟨q, -⟩
    · exact Or.inl q
    · simp [rst, rset] at q
  · refine ⟨?_, ?_, e.2.2.1, e.2.2.2.1, ?_⟩
    · simp [rst, rset]
    · simpa [rtab, rset] using hn
    · simp [rst, rset]
  · intro q; simp [rst, rset] at q
theorem RI.colon {σ : St} {w : Wv} {r : Rd} (h : RI σ w r) (h2 : rst r = 2) : RI (sI (sI σ 103 4 0) 103 2 3) w (rset (rset r 2 0) 0 3) := by
  obtain ⟨a, ⟨b1, b2, b3, b4, b5⟩, c, d, e, f, g⟩ := h
  refine ⟨(a.sI9 (by omega)).sI9 (by omega), ⟨rI_s, ?_, ?_, ?_, ?_⟩, fun t ht => ?_, fun t ht i k hk hik => ?_, ?_, f, ?_⟩
  · intro _; rw [rI_j (by omega), rI_j (by omega)]; exact b2 (by omega)
  · intro _; rw [rI_j (by omega), rI_s]; simp [rcol, rset]
  · intro q; simp [rst, rset] at q
  · rw [rI_j (by omega), rI_j (by omega)]; exact b5
  · rw [rI_k (by omega), rI_k (by omega)]; exact c t ht
  · rw [rI_k (by omega), rI_k (by omega)]
    refine d t ht i k hk ?_
    rcases hik with q | ⟨-, -, -, q⟩
    · exact Or.inl q
    · simp [rcol, rset] at q
  · refine ⟨?_, e.2.1, ?_, e.2.2.2.1, ?_⟩
    · simp [rst, rset]
    · simp [rcol, rset]
    · simp [rst, rset]
  · intro q; simp [rst, rset] at q
theorem RI.dig {σ : St} {w : Wv} {r : Rd} (h : RI σ w r) {n s : Nat} (hs : s = 4 ∨ s = 5) (h3 : 3 ≤ rst r) (hn : n ≤ 99) (hn4 : s = 4 → n ≤ 9) (hl : wl w (rtab r) + rp r (rtab r) < 16) : RI (sI (sI σ 103 5 (n : Int)) 103 2 s) w (rset (rset r 3 n) 0 s) := by
  obtain ⟨a, ⟨b1, b2, b3, b4, b5⟩, c, d, e, f, g⟩ := h
  refine ⟨(a.sI9 (by omega)).sI9 (by omega), ⟨rI_s, ?_, ?_, ?_, ?_⟩, fun t ht => ?_, fun t ht i k hk hik => ?_, ?_, f, ?_⟩
  · intro _; rw [rI_j (by omega), rI_j (by omega)]; exact b2 (by omega)
  · intro _; rw [rI_j (by omega), rI_j (by omega)]; exact b3 (by omega)
  · intro _; rw [rI_j (by omega), rI_s]; simp [rnum, rset]
  · rw [rI_j (by omega), rI_j (by omega)]; exact b5
  · rw [rI_k (by omega), rI_k (by omega)]; exact c t ht
  · rw [rI_k (by omega), rI_k (by omega)]
    refine d t ht i k hk ?_
    rcases hik with q | ⟨-, q1, q2, q3⟩
    · exact Or.inl q
    · exact Or.inr ⟨h3, q1, q2, q3⟩
  · refine ⟨?_, e.2.1, e.2.2.1, ?_, ?_⟩
    · simp [rst, rset]; omega
    · simpa [rnum, rset] using hn
    · simpa [rst, rnum, rset] using hn4
  · intro _; exact hl
/-- a value is kept in the pending line -/
theorem RI.kept {σ : St} {w : Wv} {r : Rd} (h : RI σ w r) (h4 : rst r = 4 ∨ rst r = 5) : XW 0 (sI σ (3 + 2 * rtab r) ((wl w (rtab r) + rp r (rtab r)) * 3 + rcol r) (rnum r : Int)) w ∧ ∀ t, t < 5 → ∀ i c, c < 3 → (i < rp r t ∨ (i = rp r t ∧ t = rtab r ∧ c < rcol r + 1)) → (sI σ (3 + 2 * rtab r) ((wl w (rtab r) + rp r (rtab r)) * 3 + rcol r) (rnum r : Int)).1 (3 + 2 * t) ((wl w t + i) * 3 + c) = (rv (keepR r) t i c : Int) ∧ rv (keepR r) t i c ≤ 99 := by
  obtain ⟨a, b, c, d, e, f, g⟩ := h
  refine ⟨a.beyond e.2.1 (by omega) _, fun t ht i k hk hik => ?_⟩
  by_cases hx : t = rtab r ∧ i = rp r (rtab r) ∧ k = rcol r
  · obtain ⟨rfl, rfl, rfl⟩ := hx
    rw [rI_s]
    have e1 : rv (keepR r) (rtab r) (rp r (rtab r)) (rcol r) = rnum r := if_pos ⟨rfl, rfl, rfl⟩
    rw [e1]
    exact ⟨rfl, e.2.2.2.1⟩
  · have e1 : rv (keepR r) t i k = rv r t i k := if_neg hx
    rw [e1]
    have hd := d t ht i k hk (by
      rcases hik with q | ⟨q1, q2, q3⟩
      · exact Or.inl q
      · refine Or.inr ⟨by omega, q1, q2, ?_⟩
        have : k ≠ rcol r := fun q => hx ⟨q2, by rw [← q2]; exact q1, q⟩
        omega)
    by_cases ht2 : t = rtab r
    · subst ht2
      rw [rI_j]
      · exact hd
      · have hc2 := e.2.2.1
        intro q
        have : i = rp r (rtab r) ∧ k = rcol r := by omega
        exact hx ⟨rfl, this.1, this.2⟩
    · rw [rI_k (by omega)]
      exact hd
def kepS (σ : St) (w : Wv) (r : Rd) : St := sI σ (3 + 2 * rtab r) ((wl w (rtab r) + rp r (rtab r)) * 3 + rcol r) (rnum r : Int)
theorem RI.comma {σ : St} {w : Wv} {r : Rd} (h : RI σ w r) (h4 : rst r = 4 ∨ rst r = 5) (hc : rcol r < 2) : RI (sI (sI (kepS σ w r) 103 4 ((rcol r : Int) + 1)) 103 2 3) w (rset (rset (keepR r) 2 (rcol r + 1)) 0 3) := by
  obtain ⟨k1, k2⟩ := h.kept h4
  obtain ⟨a, ⟨b1, b2, b3, b4, b5⟩, c, d, e, f, g⟩ := h
  unfold kepS
  refine ⟨(k1.sI9 (by omega)).sI9 (by omega), ⟨rI_s, ?_, ?_, ?_, ?_⟩, fun t ht => ?_, fun t ht i k hk hik => ?_, ?_, f, ?_⟩
  · intro _; rw [rI_j (by omega), rI_j (by omega), rI_k (by omega)]; exact b2 (by omega)
  · intro _; rw [rI_j (by omega), rI_s]; simp [rcol, rset]
  · intro q; simp [rst, rset] at q
  · rw [rI_j (by omega), rI_j (by omega), rI_k (by omega)]; exact b5
  · rw [rI_k (by omega), rI_k (by omega), rI_k (by omega)]; exact c t ht
  · rw [rI_k (by omega), rI_k (by omega)]
    refine k2 t ht i k hk ?_
    rcases hik with q | ⟨-, q1, q2, q3⟩
    · exact Or.inl q
    · exact Or.inr ⟨q1, q2, by simpa [rcol, rset] using q3⟩
  · refine ⟨?_, e.2.1, ?_, e.2.2.2.1, ?_⟩
    · simp [rst, rset]
    · simp [rcol, rset]; unfold rcol at hc; omega
    · simp [rst, rset]
  · intro q; simp [rst, rset] at q
theorem endR_p {r : Rd} {t : Nat} : rp (endR r) t = if t = rtab r then rp r t + 1 else rp r t := rfl
theorem RI.endl {σ : St} {w : Wv} {r : Rd} (h : RI σ w r) (h4 : rst r = 4 ∨ rst r = 5) (hc : rcol r = 2) : XW 0 (sI (kepS σ w r) 104 (rtab r) ((rp r (rtab r) : Int) + 1)) w ∧ (∀ t, t < 5 → (sI (kepS σ w r) 104 (rtab r) ((rp r (rtab r) : Int) + 1)).1 104 t = (rp (endR r) t : Int)) ∧ (∀ t, t < 5 → ∀ i c, c < 3 → i < rp (endR r) t → (sI (kepS σ w r) 104 (rtab r) ((rp r (rtab r) : Int) + 1)).1 (3 + 2 * t) ((wl w t + i) * 3 + c) = (rv (endR r) t i c : Int) ∧ rv (endR r) t i c ≤ 99) ∧ (∀ t, t < 5 → wl w t + rp (endR r) t ≤ 16) := by
  obtain ⟨k1, k2⟩ := h.kept h4
  obtain ⟨a, ⟨b1, b2, b3, b4, b5⟩, c, d, e, f, g⟩ := h
  unfold kepS
  refine ⟨k1.sI9 (by omega), fun t ht => ?_, fun t ht i k hk hik => ?_, fun t ht => ?_⟩
  · rw [endR_p]
    by_cases htr : t = rtab r
    · subst htr; rw [rI_s, if_pos rfl]; omega
    · rw [rI_j htr, rI_k (by omega), if_neg htr]; exact c t ht
  · rw [rI_k (by omega)]
    rw [endR_p] at hik
    refine k2 t ht i k hk ?_
    by_cases htr : t = rtab r
    · rw [if_pos htr] at hik
      rcases Nat.lt_or_ge i (rp r t) with q | q
      · exact Or.inl q
      · exact Or.inr ⟨by omega, htr, by omega⟩
    · rw [if_neg htr] at hik; exact Or.inl hik
  · rw [endR_p]
    have := f t ht
    have := g h4
    split
    · rename_i q; subst q; omega
    · omega
theorem RI.slash {σ : St} {w : Wv} {r : Rd} (h : RI σ w r) (h4 : rst r = 4 ∨ rst r = 5) (hc : rcol r = 2) : RI (sI (sI (sI (kepS σ w r) 104 (rtab r) ((rp r (rtab r) : Int) + 1)) 103 4 0) 103 2 3) w (rset (rset (endR r) 2 0) 0 3) := by
  obtain ⟨k1, k2, k3, k4⟩ := h.endl h4 hc
  obtain ⟨a, ⟨b1, b2, b3, b4, b5⟩, c, d, e, f, g⟩ := h
  refine ⟨(k1.sI9 (by omega)).sI9 (by omega), ⟨rI_s, ?_, ?_, ?_, ?_⟩, fun t ht => ?_, fun t ht i k hk hik => ?_, ?_, k4, ?_⟩
  · intro _; unfold kepS; rw [rI_j (by omega), rI_j (by omega), rI_k (by omega), rI_k (by omega)]; exact b2 (by omega)
  · intro _; rw [rI_j (by omega), rI_s]; simp [rcol, rset]
  · intro q; simp [rst, rset] at q
  · unfold kepS; rw [rI_j (by omega), rI_j (by omega), rI_k (by omega), rI_k (by omega)]; exact b5
  · rw [rI_k (by omega), rI_k (by omega)]; exact k2 t ht
  · rw [rI_k (by omega), rI_k (by omega)]
    refine k3 t ht i k hk ?_
    rcases hik with q | ⟨-, -, -, q⟩
    · exact q
    · simp [rcol, rset] at q
  · refine ⟨?_, e.2.1, ?_, e.2.2.2.1, ?_⟩
    · simp [rst, rset]
    · simp [rcol, rset]
    · simp [rst, rset]
  · intro q; simp [rst, rset] at q
theorem RI.semi {σ : St} {w : Wv} {r : Rd} (h : RI σ w r) (h4 : rst r = 4 ∨ rst r = 5) (hc : rcol r = 2) {s : Nat} (hs : s = 0) : RI (sI (sI (sI (kepS σ w r) 104 (rtab r) ((rp r (rtab r) : Int) + 1)) 103 6 ((rit r : Int) + 1)) 103 2 s) w (rset (rset (endR r) 4 (rit r + 1)) 0 s) := by
  subst hs
  obtain ⟨k1, k2, k3, k4⟩ := h.endl h4 hc
  obtain ⟨a, ⟨b1, b2, b3, b4, b5⟩, c, d, e, f, g⟩ := h
  refine ⟨(k1.sI9 (by omega)).sI9 (by omega), ⟨rI_s, ?_, ?_, ?_, ?_⟩, fun t ht => ?_, fun t ht i k hk hik => ?_, ?_, k4, ?_⟩
  · intro q; simp [rst, rset] at q
  · intro q; simp [rst, rset] at q
  · intro q; simp [rst, rset] at q
  · rw [rI_j (by omega), rI_s]; simp [rit, rset]
  · rw [rI_k (by omega), rI_k (by omega)]; exact k2 t ht
  · rw [rI_k (by omega), rI_k (by omega)]
    refine k3 t ht i k hk ?_
    rcases hik with q | ⟨q, -⟩
    · exact q
    · simp [rst, rset] at q
  · refine ⟨?_, e.2.1, e.2.2.1, e.2.2.2.1, ?_⟩
    · simp [rst, rset]
    · simp [rst, rset]
  · intro q; simp [rst, rset] at q
theorem kep_fr {σ : St} {w : Wv} {r : Rd} (h : rtab r < 5) : Fr RC σ (kepS σ w r) := by
  unfold kepS
  exact Fr.rf.sI (by unfold RC; omega)
set_option maxHeartbeats 4000000 in
set_option maxRecDepth 100000 in
theorem c_X6_isDigit {κ : Kp} (hI : Ij κ) (l : Launch) (σ : St) {x : Int} (hx : R32 x) : CtI κ l 0 yX6_isDigit cX6_isDigit 1 .boolean [.int (iZ x)] σ (fun z σ' => z = bZ (48 ≤ x ∧ x ≤ 57) ∧ σ' = σ) := by
  refine Ct.ofG (own := RX6) hI (by decide +kernel) rfl (Nat.le_of_ble_eq_true rfl) rfl ?_
  intro M C hMl
  refine g_iload_n C dX6_isDigit_0 rfl ?_
  refine g_bipush (z := 48) C dX6_isDigit_1 rfl ?_
  refine g_icmp_lt (tgt := 16) C dX6_isDigit_3 (by decide) (by unfold R32; omega) (fun h1 => ?_) (fun h1 => ?_)
  · refine g_iconst (z := 0) C dX6_isDigit_16 rfl ?_
    exact g_zreturn C dX6_isDigit_17 (by omega) ⟨(bZ_f (by omega)).symm, rfl⟩
  · refine g_iload_n C dX6_isDigit_6 rfl ?_
    refine g_bipush (z := 57) C dX6_isDigit_7 rfl ?_
    refine g_pc (pc' := 9) rfl ?_
    refine g_icmp_gt (tgt := 16) C dX6_isDigit_9 (by decide) (by unfold R32; omega) (fun h2 => ?_) (fun h2 => ?_)
    · refine g_iconst (z := 0) C dX6_isDigit_16 rfl ?_
      exact g_zreturn C dX6_isDigit_17 (by omega) ⟨(bZ_f (by omega)).symm, rfl⟩
    · refine g_iconst (z := 1) C dX6_isDigit_12 rfl ?_
      refine g_goto (tgt := 17) C dX6_isDigit_13 (by decide) ?_
      exact g_zreturn C dX6_isDigit_17 (by omega) ⟨(bZ_t (by omega)).symm, rfl⟩
set_option maxHeartbeats 4000000 in
set_option maxRecDepth 100000 in
theorem c_X6_moves {κ : Kp} (hI : Ij κ) (l : Launch) (σ : St) {m n : Int} (hm : m = 0 ∨ m = 1) : CtI κ l 0 yX6_moves cX6_moves 3 .boolean [.ref (κ.2.1 103), .int (iZ m), .int (iZ n)] σ (fun z σ' => z = m ∧ σ' = sI σ 103 2 (if m = 0 then σ.1 103 2 else n)) := by
  refine Ct.ofG (own := RX6) hI (by decide +kernel) rfl (Nat.le_of_ble_eq_true rfl) rfl ?_
  intro M C hMl
  refine g_aload_n C dX6_moves_0 rfl ?_
  refine g_iload_n C dX6_moves_1 rfl ?_
  refine g_if_eq (tgt := 9) C dX6_moves_2 (by decide) (by unfold R32; omega) (fun h1 => ?_) (fun h1 => ?_)
  · refine g_aload_n C dX6_moves_9 rfl ?_
    refine gf_X6_15 (z := (σ.1 103 2)) C dX6_moves_10 rfl rfl ?_
    refine gp_X6_15 C dX6_moves_13 rfl ?_
    refine g_iload_n C dX6_moves_16 rfl ?_
    refine g_pc (pc' := 17) rfl ?_
    exact g_zreturn C dX6_moves_17 (by omega) ⟨rfl, by first | rw [if_pos (by omega)] | rw [if_neg (by omega)]⟩
  · refine g_iload_n C dX6_moves_5 rfl ?_
    refine g_goto (tgt := 13) C dX6_moves_6 (by decide) ?_
    refine gp_X6_15 C dX6_moves_13 rfl ?_
    refine g_iload_n C dX6_moves_16 rfl ?_
    exact g_zreturn C dX6_moves_17 (by omega) ⟨rfl, by first | rw [if_pos (by omega)] | rw [if_neg (by omega)]⟩
set_option maxHeartbeats 4000000 in
set_option maxRecDepth 100000 in
theorem c_X6_takesTable {κ : Kp} (hI : Ij κ) (l : Launch) (σ : St) {x : Int} (hx : R32 x) : CtI κ l 1 yX6_takesTable cX6_takesTable 2 .boolean [.ref (κ.2.1 103), .int (iZ x)] σ (fun z σ' => (z = 0 ∧ ¬ (48 ≤ x ∧ x < 53) ∧ σ' = σ) ∨ (z = 1 ∧ (48 ≤ x ∧ x < 53) ∧ σ' = sI (sI σ 103 3 (x - 48)) 103 2 2)) := by
  refine Ct.ofG (own := RX6) hI (by decide +kernel) rfl (Nat.le_of_ble_eq_true rfl) rfl ?_
  intro M C hMl
  refine g_iload_n C dX6_takesTable_0 rfl ?_
  refine g_bipush (z := 48) C dX6_takesTable_1 rfl ?_
  refine g_icmp_lt (tgt := 12) C dX6_takesTable_3 (by decide) (by unfold R32; omega) (fun h1 => ?_) (fun h1 => ?_)
  · refine g_iconst (z := 0) C dX6_takesTable_12 rfl ?_
    exact g_zreturn C dX6_takesTable_13 (by omega) (Or.inl ⟨rfl, by omega, rfl⟩)
  · refine g_iload_n C dX6_takesTable_6 rfl ?_
    refine g_bipush (z := 53) C dX6_takesTable_7 rfl ?_
    refine g_pc (pc' := 9) rfl ?_
    refine g_icmp_lt (tgt := 14) C dX6_takesTable_9 (by decide) (by unfold R32; omega) (fun h2 => ?_) (fun h2 => ?_)
    · refine g_aload_n C dX6_takesTable_14 rfl ?_
      refine g_iload_n C dX6_takesTable_15 rfl ?_
      refine g_bipush (z := 48) C dX6_takesTable_16 rfl ?_
      refine g_isub C dX6_takesTable_18 ?_
      refine gp_X6_19 C dX6_takesTable_19 rfl ?_
      refine g_aload_n C dX6_takesTable_22 rfl ?_
      refine g_iconst (z := 1) C dX6_takesTable_23 rfl ?_
      refine g_pc (pc' := 24) rfl ?_
      refine g_iconst (z := 2) C dX6_takesTable_24 rfl ?_
      refine gc_X6_78 C dX6_takesTable_25 rfl (c_X6_moves hI (Ml M) (sI σ 103 3 (x - 48)) (m := 1) (n := 2) (by omega)) (by decide) (Nat.le_of_ble_eq_true rfl) (fun z σ1 ⟨hz, hσ⟩ => ?_)
      subst z
      rw [if_neg (by decide)] at hσ
      subst σ1
      exact g_zreturn C dX6_takesTable_28 (by omega) (Or.inr ⟨rfl, by omega, rfl⟩)
    · refine g_iconst (z := 0) C dX6_takesTable_12 rfl ?_
      exact g_zreturn C dX6_takesTable_13 (by omega) (Or.inl ⟨rfl, by omega, rfl⟩)
set_option maxHeartbeats 4000000 in
set_option maxRecDepth 100000 in
theorem c_X6_takesFirstDigit {κ : Kp} (hI : Ij κ) (l : Launch) (σ : St) {w : Wv} {r : Rd} (hR : RI σ w r) (hW : OKW w) (hs3 : rst r = 3) {x : Int} (hx : R32 x) : CtI κ l 1 yX6_takesFirstDigit cX6_takesFirstDigit 2 .boolean [.ref (κ.2.1 103), .int (iZ x)] σ (fun z σ' => (z = 0 ∧ ¬ ((48 ≤ x ∧ x ≤ 57) ∧ wl w (rtab r) + rp r (rtab r) < 16) ∧ σ' = σ) ∨ (z = 1 ∧ ((48 ≤ x ∧ x ≤ 57) ∧ wl w (rtab r) + rp r (rtab r) < 16) ∧ σ' = sI (sI σ 103 5 (x - 48)) 103 2 4)) := by
  refine Ct.ofG (own := RX6) hI (by decide +kernel) rfl (Nat.le_of_ble_eq_true rfl) rfl ?_
  intro M C hMl
  have hB := hR.2.2.2.2.1
  have hwl := hR.2.2.2.2.2.1 (rtab r) (by omega)
  refine g_iload_n C dX6_takesFirstDigit_0 rfl ?_
  refine gc_X6_88 C dX6_takesFirstDigit_1 (c_X6_isDigit hI (Ml M) σ hx) (by decide) (Nat.le_of_ble_eq_true rfl) (fun z σ1 ⟨hz, hσ⟩ => ?_)
  subst z
  subst σ1
  refine g_ifb_eq (tgt := 37) C dX6_takesFirstDigit_4 (by decide) (fun h1 => ?_) (fun h1 => ?_)
  · refine g_iconst (z := 0) C dX6_takesFirstDigit_37 rfl ?_
    exact g_zreturn C dX6_takesFirstDigit_38 (by omega) (Or.inl ⟨rfl, by omega, rfl⟩)
  · refine g_aload_n C dX6_takesFirstDigit_7 rfl ?_
    refine gf_X6_31 C dX6_takesFirstDigit_8 rfl ?_
    refine g_pc (pc' := 11) rfl ?_
    refine gf_X6_61 C dX6_takesFirstDigit_11 rfl ?_
    refine g_aload_n C dX6_takesFirstDigit_14 rfl ?_
    refine gf_X6_19 (z := (rtab r : Int)) C dX6_takesFirstDigit_15 rfl (hR.2.1.2.1 (by omega)) ?_
    have hkz2 : kd (2 + 2 * (rtab r)) = 5 := kd_tab (rtab r) (by omega)
    refine g_aald (n := (rtab r)) (N := 5) (c := 23) (r := (2 + 2 * (rtab r))) C dX6_takesFirstDigit_18 rfl (by decide) rfl (by decide) rfl (by omega) (by omega) (by decide) (rf_23 _ _ rfl) ?_
    refine gf_X6_67 (z := (wl w (rtab r) : Int)) C dX6_takesFirstDigit_19 hkz2 ((hR.1.1 (rtab r) (by omega)).1) ?_
    refine g_aload_n C dX6_takesFirstDigit_22 rfl ?_
    refine gf_X6_9 C dX6_takesFirstDigit_23 rfl ?_
    refine g_aload_n C dX6_takesFirstDigit_26 rfl ?_
    refine g_pc (pc' := 27) rfl ?_
    refine gf_X6_19 (z := (rtab r : Int)) C dX6_takesFirstDigit_27 rfl (hR.2.1.2.1 (by omega)) ?_
    refine g_iaz (n := (rtab r)) (N := 5) (v := (rp r (rtab r) : Int)) C dX6_takesFirstDigit_30 rfl rfl (by omega) (by omega) (by decide) (hR.2.2.1 (rtab r) (by omega)) ?_
    refine g_iadd C dX6_takesFirstDigit_31 ?_
    refine g_bipush (z := 16) C dX6_takesFirstDigit_32 rfl ?_
    refine g_icmp_lt (tgt := 39) C dX6_takesFirstDigit_34 (by decide) (by unfold R32; omega) (fun h3 => ?_) (fun h3 => ?_)
    · refine g_aload_n C dX6_takesFirstDigit_39 rfl ?_
      refine g_iload_n C dX6_takesFirstDigit_40 rfl ?_
      refine g_bipush (z := 48) C dX6_takesFirstDigit_41 rfl ?_
      refine g_pc (pc' := 43) rfl ?_
      refine g_isub C dX6_takesFirstDigit_43 ?_
      refine gp_X6_25 C dX6_takesFirstDigit_44 rfl ?_
      refine g_aload_n C dX6_takesFirstDigit_47 rfl ?_
      refine g_iconst (z := 1) C dX6_takesFirstDigit_48 rfl ?_
      refine g_iconst (z := 4) C dX6_takesFirstDigit_49 rfl ?_
      refine gc_X6_78 C dX6_takesFirstDigit_50 rfl (c_X6_moves hI (Ml M) (sI σ 103 5 (x - 48)) (m := 1) (n := 4) (by omega)) (by decide) (Nat.le_of_ble_eq_true rfl) (fun z σ1 ⟨hz, hσ⟩ => ?_)
      subst z
      rw [if_neg (by decide)] at hσ
      subst σ1
      exact g_zreturn C dX6_takesFirstDigit_53 (by omega) (Or.inr ⟨rfl, by omega, rfl⟩)
    · refine g_iconst (z := 0) C dX6_takesFirstDigit_37 rfl ?_
      refine g_pc (pc' := 38) rfl ?_
      exact g_zreturn C dX6_takesFirstDigit_38 (by omega) (Or.inl ⟨rfl, by omega, rfl⟩)
set_option maxHeartbeats 4000000 in
set_option maxRecDepth 100000 in
theorem c_X6_takesSecondDigit {κ : Kp} (hI : Ij κ) (l : Launch) (σ : St) {w : Wv} {r : Rd} (hR : RI σ w r) (hW : OKW w) (hs3 : rst r = 4) {x : Int} (hx : R32 x) : CtI κ l 1 yX6_takesSecondDigit cX6_takesSecondDigit 2 .boolean [.ref (κ.2.1 103), .int (iZ x)] σ (fun z σ' => z = 1 ∧ σ' = sI (sI σ 103 5 ((rnum r : Int) * 10 + (x - 48))) 103 2 5) := by
  refine Ct.ofG (own := RX6) hI (by decide +kernel) rfl (Nat.le_of_ble_eq_true rfl) rfl ?_
  intro M C hMl
  have hB := hR.2.2.2.2.1
  have hwl := hR.2.2.2.2.2.1 (rtab r) (by omega)
  refine g_aload_n C dX6_takesSecondDigit_0 rfl ?_
  refine g_aload_n C dX6_takesSecondDigit_1 rfl ?_
  refine gf_X6_25 (z := (rnum r : Int)) C dX6_takesSecondDigit_2 rfl (hR.2.1.2.2.2.1 (by omega)) ?_
  refine g_bipush (z := 10) C dX6_takesSecondDigit_5 rfl ?_
  refine g_imul C dX6_takesSecondDigit_7 ?_
  refine g_iload_n C dX6_takesSecondDigit_8 rfl ?_
  refine g_bipush (z := 48) C dX6_takesSecondDigit_9 rfl ?_
  refine g_pc (pc' := 11) rfl ?_
  refine g_isub C dX6_takesSecondDigit_11 ?_
  refine g_iadd C dX6_takesSecondDigit_12 ?_
  refine gp_X6_25 C dX6_takesSecondDigit_13 rfl ?_
  refine g_aload_n C dX6_takesSecondDigit_16 rfl ?_
  refine g_iconst (z := 1) C dX6_takesSecondDigit_17 rfl ?_
  refine g_iconst (z := 5) C dX6_takesSecondDigit_18 rfl ?_
  refine gc_X6_78 C dX6_takesSecondDigit_19 rfl (c_X6_moves hI (Ml M) (sI σ 103 5 (((rnum r : Int) * 10) + (x - 48))) (m := 1) (n := 5) (by omega)) (by decide) (Nat.le_of_ble_eq_true rfl) (fun z σ1 ⟨hz, hσ⟩ => ?_)
  subst z
  rw [if_neg (by decide)] at hσ
  subst σ1
  exact g_zreturn C dX6_takesSecondDigit_22 (by omega) ⟨rfl, rfl⟩
set_option maxHeartbeats 4000000 in
set_option maxRecDepth 100000 in
theorem c_X6_keepNumber {κ : Kp} (hI : Ij κ) (l : Launch) (σ : St) {w : Wv} {r : Rd} (hR : RI σ w r) (hW : OKW w) (hs4 : rst r = 4 ∨ rst r = 5) : CtV κ l 0 yX6_keepNumber cX6_keepNumber 2 [.ref (κ.2.1 103)] σ (fun σ' => σ' = kepS σ w r) := by
  refine Ct.ofG (own := RX6) hI (by decide +kernel) rfl (Nat.le_of_ble_eq_true rfl) rfl ?_
  intro M C hMl
  have hB := hR.2.2.2.2.1
  have hwl := hR.2.2.2.2.2.1 (rtab r) (by omega)
  have h16 := hR.2.2.2.2.2.2 hs4
  refine g_aload_n C dX6_keepNumber_0 rfl ?_
  refine gf_X6_31 C dX6_keepNumber_1 rfl ?_
  refine gf_X6_61 C dX6_keepNumber_4 rfl ?_
  refine g_aload_n C dX6_keepNumber_7 rfl ?_
  refine gf_X6_19 (z := (rtab r : Int)) C dX6_keepNumber_8 rfl (hR.2.1.2.1 (by omega)) ?_
  have hkz1 : kd (2 + 2 * (rtab r)) = 5 := kd_tab (rtab r) (by omega)
  refine g_aald (n := (rtab r)) (N := 5) (c := 23) (r := (2 + 2 * (rtab r))) C dX6_keepNumber_11 rfl (by decide) rfl (by decide) rfl (by omega) (by omega) (by decide) (rf_23 _ _ rfl) ?_
  refine gf_X6_67 (z := (wl w (rtab r) : Int)) C dX6_keepNumber_12 hkz1 ((hR.1.1 (rtab r) (by omega)).1) ?_
  refine g_pc (pc' := 15) rfl ?_
  refine g_aload_n C dX6_keepNumber_15 rfl ?_
  refine gf_X6_9 C dX6_keepNumber_16 rfl ?_
  refine g_aload_n C dX6_keepNumber_19 rfl ?_
  refine gf_X6_19 (z := (rtab r : Int)) C dX6_keepNumber_20 rfl (hR.2.1.2.1 (by omega)) ?_
  refine g_iaz (n := (rtab r)) (N := 5) (v := (rp r (rtab r) : Int)) C dX6_keepNumber_23 rfl rfl (by omega) (by omega) (by decide) (hR.2.2.1 (rtab r) (by omega)) ?_
  refine g_iadd C dX6_keepNumber_24 ?_
  refine g_istore_n (L' := [(1, .int (iZ ((wl w (rtab r) : Int) + (rp r (rtab r) : Int)))), (0, .ref (κ.2.1 103))]) C dX6_keepNumber_25 rfl (by decide) rfl ?_
  refine g_iload_n C dX6_keepNumber_26 rfl ?_
  refine g_pc (pc' := 27) rfl ?_
  refine g_bipush (z := 16) C dX6_keepNumber_27 rfl ?_
  refine g_icmp_ge (tgt := 60) C dX6_keepNumber_29 (by decide) (by unfold R32; omega) (fun h2 => ?_) (fun h2 => ?_)
  · exfalso; omega
  · refine g_aload_n C dX6_keepNumber_32 rfl ?_
    refine gf_X6_31 C dX6_keepNumber_33 rfl ?_
    refine gf_X6_61 C dX6_keepNumber_36 rfl ?_
    refine g_aload_n C dX6_keepNumber_39 rfl ?_
    refine gf_X6_19 (z := (rtab r : Int)) C dX6_keepNumber_40 rfl (hR.2.1.2.1 (by omega)) ?_
    have hkz3 : kd (2 + 2 * (rtab r)) = 5 := kd_tab (rtab r) (by omega)
    refine g_aald (n := (rtab r)) (N := 5) (c := 23) (r := (2 + 2 * (rtab r))) C dX6_keepNumber_43 rfl (by decide) rfl (by decide) rfl (by omega) (by omega) (by decide) (rf_23 _ _ rfl) ?_
    refine g_pc (pc' := 44) rfl ?_
    refine gf_X6_106 C dX6_keepNumber_44 hkz3 ?_
    refine g_iload_n C dX6_keepNumber_47 rfl ?_
    refine g_iconst (z := 3) C dX6_keepNumber_48 rfl ?_
    refine g_imul C dX6_keepNumber_49 ?_
    refine g_aload_n C dX6_keepNumber_50 rfl ?_
    refine gf_X6_22 (z := (rcol r : Int)) C dX6_keepNumber_51 rfl (hR.2.1.2.2.1 (by omega)) ?_
    refine g_iadd C dX6_keepNumber_54 ?_
    refine g_aload_n C dX6_keepNumber_55 rfl ?_
    refine g_pc (pc' := 56) rfl ?_
    refine gf_X6_25 (z := (rnum r : Int)) C dX6_keepNumber_56 rfl (hR.2.1.2.2.2.1 (by omega)) ?_
    refine g_iast (n := ((((wl w (rtab r)) + (rp r (rtab r))) * 3) + (rcol r))) (N := 48) C dX6_keepNumber_59 (kd5 hkz3).1 (kd5 hkz3).2 (by omega) (by omega) (by decide) ?_
    exact g_return C dX6_keepNumber_60 (by unfold kepS; rw [show 3 + 2 * rtab r = 2 + 2 * rtab r + 1 by omega])
set_option maxHeartbeats 4000000 in
set_option maxRecDepth 100000 in
theorem c_X6_endsValue {κ : Kp} (hI : Ij κ) (l : Launch) (σ : St) {w : Wv} {r : Rd} (hR : RI σ w r) (hW : OKW w) (hs4 : rst r = 4 ∨ rst r = 5) : CtI κ l 1 yX6_endsValue cX6_endsValue 1 .boolean [.ref (κ.2.1 103)] σ (fun z σ' => z = 1 ∧ σ' = sI (sI (kepS σ w r) 103 4 ((rcol r : Int) + 1)) 103 2 3) := by
  refine Ct.ofG (own := RX6) hI (by decide +kernel) rfl (Nat.le_of_ble_eq_true rfl) rfl ?_
  intro M C hMl
  have hB := hR.2.2.2.2.1
  have hwl := hR.2.2.2.2.2.1 (rtab r) (by omega)
  refine g_aload_n C dX6_endsValue_0 rfl ?_
  refine gc_X6_103 C dX6_endsValue_1 rfl (c_X6_keepNumber hI (Ml M) σ hR hW hs4) (by decide) (Nat.le_of_ble_eq_true rfl) (fun σ1 hσ => ?_)
  subst σ1
  refine g_aload_n C dX6_endsValue_4 rfl ?_
  refine g_dup C dX6_endsValue_5 rfl ?_
  refine gf_X6_22 (z := (rcol r : Int)) C dX6_endsValue_6 rfl ((rI_k (by omega)).trans (hR.2.1.2.2.1 (by omega))) ?_
  refine g_iconst (z := 1) C dX6_endsValue_9 rfl ?_
  refine g_iadd C dX6_endsValue_10 ?_
  refine g_pc (pc' := 11) rfl ?_
  refine gp_X6_22 C dX6_endsValue_11 rfl ?_
  refine g_aload_n C dX6_endsValue_14 rfl ?_
  refine g_iconst (z := 1) C dX6_endsValue_15 rfl ?_
  refine g_iconst (z := 3) C dX6_endsValue_16 rfl ?_
  refine gc_X6_78 C dX6_endsValue_17 rfl (c_X6_moves hI (Ml M) (sI (kepS σ w r) 103 4 ((rcol r : Int) + 1)) (m := 1) (n := 3) (by omega)) (by decide) (Nat.le_of_ble_eq_true rfl) (fun z σ1 ⟨hz, hσ⟩ => ?_)
  subst z
  rw [if_neg (by decide)] at hσ
  subst σ1
  exact g_zreturn C dX6_endsValue_20 (by omega) ⟨rfl, rfl⟩
set_option maxHeartbeats 4000000 in
set_option maxRecDepth 100000 in
theorem c_X6_endLine {κ : Kp} (hI : Ij κ) (l : Launch) (σ : St) {w : Wv} {r : Rd} (hR : RI σ w r) (hW : OKW w) (hs4 : rst r = 4 ∨ rst r = 5) : CtV κ l 1 yX6_endLine cX6_endLine 1 [.ref (κ.2.1 103)] σ (fun σ' => σ' = sI (kepS σ w r) 104 (rtab r) ((rp r (rtab r) : Int) + 1)) := by
  refine Ct.ofG (own := RX6) hI (by decide +kernel) rfl (Nat.le_of_ble_eq_true rfl) rfl ?_
  intro M C hMl
  have hB := hR.2.2.2.2.1
  have hwl := hR.2.2.2.2.2.1 (rtab r) (by omega)
  refine g_aload_n C dX6_endLine_0 rfl ?_
  refine gc_X6_103 C dX6_endLine_1 rfl (c_X6_keepNumber hI (Ml M) σ hR hW hs4) (by decide) (Nat.le_of_ble_eq_true rfl) (fun σ1 hσ => ?_)
  subst σ1
  refine g_aload_n C dX6_endLine_4 rfl ?_
  refine gf_X6_9 C dX6_endLine_5 rfl ?_
  refine g_aload_n C dX6_endLine_8 rfl ?_
  refine gf_X6_19 (z := (rtab r : Int)) C dX6_endLine_9 rfl ((rI_k (by omega)).trans (hR.2.1.2.1 (by omega))) ?_
  refine g_dup2 C dX6_endLine_12 rfl rfl ?_
  refine g_pc (pc' := 13) rfl ?_
  refine g_iaz (n := (rtab r)) (N := 5) (v := (rp r (rtab r) : Int)) C dX6_endLine_13 rfl rfl (by omega) (by omega) (by decide) ((rI_k (by omega)).trans (hR.2.2.1 (rtab r) (by omega))) ?_
  refine g_iconst (z := 1) C dX6_endLine_14 rfl ?_
  refine g_iadd C dX6_endLine_15 ?_
  refine g_iast (n := (rtab r)) (N := 5) C dX6_endLine_16 rfl rfl (by omega) (by omega) (by decide) ?_
  exact g_return C dX6_endLine_17 rfl
set_option maxHeartbeats 4000000 in
set_option maxRecDepth 100000 in
theorem c_X6_endItem {κ : Kp} (hI : Ij κ) (l : Launch) (σ : St) {w : Wv} {r : Rd} (hR : RI σ w r) (hW : OKW w) (hs4 : rst r = 4 ∨ rst r = 5) : CtV κ l 2 yX6_endItem cX6_endItem 1 [.ref (κ.2.1 103)] σ (fun σ' => σ' = sI (sI (kepS σ w r) 104 (rtab r) ((rp r (rtab r) : Int) + 1)) 103 6 ((rit r : Int) + 1)) := by
  refine Ct.ofG (own := RX6) hI (by decide +kernel) rfl (Nat.le_of_ble_eq_true rfl) rfl ?_
  intro M C hMl
  have hB := hR.2.2.2.2.1
  have hwl := hR.2.2.2.2.2.1 (rtab r) (by omega)
  refine g_aload_n C dX6_endItem_0 rfl ?_
  refine gc_X6_100 C dX6_endItem_1 rfl (c_X6_endLine hI (Ml M) σ hR hW hs4) (by decide) (Nat.le_of_ble_eq_true rfl) (fun σ1 hσ => ?_)
  subst σ1
  refine g_aload_n C dX6_endItem_4 rfl ?_
  refine g_dup C dX6_endItem_5 rfl ?_
  refine gf_X6_28 (z := (rit r : Int)) C dX6_endItem_6 rfl ((rI_k (by decide)).trans ((rI_k (by omega)).trans hR.2.1.2.2.2.2)) ?_
  refine g_iconst (z := 1) C dX6_endItem_9 rfl ?_
  refine g_iadd C dX6_endItem_10 ?_
  refine g_pc (pc' := 11) rfl ?_
  refine gp_X6_28 C dX6_endItem_11 rfl ?_
  exact g_return C dX6_endItem_14 rfl
set_option maxHeartbeats 4000000 in
set_option maxRecDepth 100000 in
theorem c_X6_takesMark {κ : Kp} (hI : Ij κ) (l : Launch) (σ : St) {w : Wv} {r : Rd} (hR : RI σ w r) (hW : OKW w) (hs4 : rst r = 4 ∨ rst r = 5) {x : Int} (hx : R32 x) : CtI κ l 3 yX6_takesMark cX6_takesMark 2 .boolean [.ref (κ.2.1 103), .int (iZ x)] σ (fun z σ' => Fr RC σ σ' ∧ XW 0 σ' w ∧ ((z = 0 ∧ mrk r x = none) ∨ (z = 1 ∧ ∃ r', mrk r x = some r' ∧ RI σ' w r'))) := by
  refine Ct.ofG (own := RX6) hI (by decide +kernel) rfl (Nat.le_of_ble_eq_true rfl) rfl ?_
  intro M C hMl
  have hB := hR.2.2.2.2.1
  have hwl := hR.2.2.2.2.2.1 (rtab r) (by omega)
  refine g_aload_n C dX6_takesMark_0 rfl ?_
  refine gf_X6_22 (z := (rcol r : Int)) C dX6_takesMark_1 rfl (hR.2.1.2.2.1 (by omega)) ?_
  refine g_iconst (z := 2) C dX6_takesMark_4 rfl ?_
  refine g_icmp_ge (tgt := 27) C dX6_takesMark_5 (by decide) (by unfold R32; omega) (fun h1 => ?_) (fun h1 => ?_)
  · refine g_iload_n C dX6_takesMark_27 rfl ?_
    refine g_bipush (z := 47) C dX6_takesMark_28 rfl ?_
    refine g_icmp_ne (tgt := 49) C dX6_takesMark_30 (by decide) (by unfold R32; omega) (fun h2 => ?_) (fun h2 => ?_)
    · refine g_pc (pc' := 49) rfl ?_
      refine g_iload_n C dX6_takesMark_49 rfl ?_
      refine g_bipush (z := 59) C dX6_takesMark_50 rfl ?_
      refine g_icmp_ne (tgt := 66) C dX6_takesMark_52 (by decide) (by unfold R32; omega) (fun h3 => ?_) (fun h3 => ?_)
      · refine g_iconst (z := 0) C dX6_takesMark_66 rfl ?_
        exact g_zreturn C dX6_takesMark_67 (by omega) ⟨Fr.rf, hR.1, Or.inl ⟨rfl, by unfold mrk; first | rw [if_pos (by omega), if_neg (by omega)] | rw [if_neg (by omega), if_neg (by omega), if_neg (by omega)]⟩⟩
      · refine g_aload_n C dX6_takesMark_55 rfl ?_
        refine gc_X6_58 C dX6_takesMark_56 rfl (c_X6_endItem hI (Ml M) σ hR hW hs4) (by decide) (Nat.le_of_ble_eq_true rfl) (fun σ1 hσ => ?_)
        subst σ1
        refine g_aload_n C dX6_takesMark_59 rfl ?_
        refine g_pc (pc' := 60) rfl ?_
        refine g_iconst (z := 1) C dX6_takesMark_60 rfl ?_
        refine g_iconst (z := 0) C dX6_takesMark_61 rfl ?_
        refine gc_X6_78 C dX6_takesMark_62 rfl (c_X6_moves hI (Ml M) (sI (sI (kepS σ w r) 104 (rtab r) ((rp r (rtab r) : Int) + 1)) 103 6 ((rit r : Int) + 1)) (m := 1) (n := 0) (by omega)) (by decide) (Nat.le_of_ble_eq_true rfl) (fun z σ1 ⟨hz, hσ⟩ => ?_)
        subst z
        rw [if_neg (by decide)] at hσ
        subst σ1
        exact g_zreturn C dX6_takesMark_65 (by omega) ⟨(((kep_fr hB.2.1).sI (by unfold RC; omega)).sI (by unfold RC; omega)).sI (by unfold RC; omega), (hR.semi hs4 (by omega) rfl).1, Or.inr ⟨rfl, _, by unfold mrk; rw [if_neg (by omega), if_neg (by omega), if_pos (by omega)], hR.semi hs4 (by omega) rfl⟩⟩
    · refine g_aload_n C dX6_takesMark_33 rfl ?_
      refine gc_X6_100 C dX6_takesMark_34 rfl (c_X6_endLine hI (Ml M) σ hR hW hs4) (by decide) (Nat.le_of_ble_eq_true rfl) (fun σ1 hσ => ?_)
      subst σ1
      refine g_aload_n C dX6_takesMark_37 rfl ?_
      refine g_iconst (z := 0) C dX6_takesMark_38 rfl ?_
      refine g_pc (pc' := 39) rfl ?_
      refine gp_X6_22 C dX6_takesMark_39 rfl ?_
      refine g_aload_n C dX6_takesMark_42 rfl ?_
      refine g_iconst (z := 1) C dX6_takesMark_43 rfl ?_
      refine g_iconst (z := 3) C dX6_takesMark_44 rfl ?_
      refine gc_X6_78 C dX6_takesMark_45 rfl (c_X6_moves hI (Ml M) (sI (sI (kepS σ w r) 104 (rtab r) ((rp r (rtab r) : Int) + 1)) 103 4 0) (m := 1) (n := 3) (by omega)) (by decide) (Nat.le_of_ble_eq_true rfl) (fun z σ1 ⟨hz, hσ⟩ => ?_)
      subst z
      rw [if_neg (by decide)] at hσ
      subst σ1
      exact g_zreturn C dX6_takesMark_48 (by omega) ⟨(((kep_fr hB.2.1).sI (by unfold RC; omega)).sI (by unfold RC; omega)).sI (by unfold RC; omega), (hR.slash hs4 (by omega)).1, Or.inr ⟨rfl, _, by unfold mrk; rw [if_neg (by omega), if_pos (by omega)], hR.slash hs4 (by omega)⟩⟩
  · refine g_iload_n C dX6_takesMark_8 rfl ?_
    refine g_bipush (z := 44) C dX6_takesMark_9 rfl ?_
    refine g_pc (pc' := 11) rfl ?_
    refine g_icmp_ne (tgt := 25) C dX6_takesMark_11 (by decide) (by unfold R32; omega) (fun h4 => ?_) (fun h4 => ?_)
    · refine g_iconst (z := 0) C dX6_takesMark_25 rfl ?_
      exact g_zreturn C dX6_takesMark_26 (by omega) ⟨Fr.rf, hR.1, Or.inl ⟨rfl, by unfold mrk; first | rw [if_pos (by omega), if_neg (by omega)] | rw [if_neg (by omega), if_neg (by omega), if_neg (by omega)]⟩⟩
    · refine g_aload_n C dX6_takesMark_14 rfl ?_
      refine gc_X6_97 C dX6_takesMark_15 rfl (c_X6_endsValue hI (Ml M) σ hR hW hs4) (by decide) (Nat.le_of_ble_eq_true rfl) (fun z σ1 ⟨hz, hσ⟩ => ?_)
      subst z
      subst σ1
      refine g_if_eq (tgt := 25) C dX6_takesMark_18 (by decide) (by unfold R32; omega) (fun h5 => ?_) (fun h5 => ?_)
      · exfalso; omega
      · refine g_iconst (z := 1) C dX6_takesMark_21 rfl ?_
        refine g_goto (tgt := 26) C dX6_takesMark_22 (by decide) ?_
        refine g_pc (pc' := 26) rfl ?_
        exact g_zreturn C dX6_takesMark_26 (by omega) ⟨((kep_fr hB.2.1).sI (by unfold RC; omega)).sI (by unfold RC; omega), (hR.comma hs4 (by omega)).1, Or.inr ⟨rfl, _, by unfold mrk; rw [if_pos (by omega), if_pos (by omega)], hR.comma hs4 (by omega)⟩⟩

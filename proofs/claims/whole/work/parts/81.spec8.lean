/-! THE MODEL's reader: the same signs, one after the other -/
def At (w : Wv) (f : Nat → Int) (n : Nat) (r : Rd) (i : Nat) : Prop := i ≤ n ∧ rit r ≤ i ∧ rrun w f n 0 rd0 = rrun w f (n - i) i r
def FT (w : Wv) (f : Nat → Int) (n j : Nat) : Prop := rtext w f n = .inl j
theorem At.go {w : Wv} {f : Nat → Int} {n i : Nat} {r r' : Rd} (h : At w f n r i) (hi : i < n) (hs : stp w r (f i) = some r') (ht : rit r' ≤ i + 1) : At w f n r' (i + 1) := by
  refine ⟨hi, ht, ?_⟩
  rw [h.2.2, show n - i = (n - (i + 1)) + 1 by omega]
  simp only [rrun, hs]
theorem At.bad {w : Wv} {f : Nat → Int} {n i : Nat} {r : Rd} (h : At w f n r i) (hs : i < n → stp w r (f i) = none) (he : ¬ ((rst r = 4 ∨ rst r = 5) ∧ rcol r = 2)) : FT w f n i := by
  unfold FT rtext
  rcases Nat.lt_or_ge i n with k | k
  · rw [h.2.2, show n - i = (n - (i + 1)) + 1 by omega]
    simp only [rrun, hs k]
  · have e : i = n := by have := h.1; omega
    subst e
    rw [h.2.2, Nat.sub_self]
    simp only [rrun]
    rw [if_neg he]
theorem At.no {w : Wv} {f : Nat → Int} {n i : Nat} {r : Rd} (h : At w f n r i) (hi : i < n) (hs : stp w r (f i) = none) : FT w f n i := by
  unfold FT rtext
  rw [h.2.2, show n - i = (n - (i + 1)) + 1 by omega]
  simp only [rrun, hs]
theorem At.ok {w : Wv} {f : Nat → Int} {n : Nat} {r : Rd} (h : At w f n r n) (he : (rst r = 4 ∨ rst r = 5) ∧ rcol r = 2) : rtext w f n = .inr (rset (endR r) 4 (rit r + 1)) := by
  unfold rtext
  rw [h.2.2, Nat.sub_self]
  simp only [rrun]
  rw [if_pos he]
def Dg (f : Nat → Int) (n i : Nat) : Prop := i < n ∧ 48 ≤ f i ∧ f i ≤ 57
/-- on a line of table t, at a column -/
def Ln (w : Wv) (f : Nat → Int) (n : Nat) (r0 : Rd) (t c : Nat) (a : Nat → Nat) (r : Rd) (i : Nat) : Prop :=
  At w f n r i ∧ (rtab r = t ∧ rcol r = c ∧ rit r = rit r0) ∧ r.2.1 = r0.2.1 ∧ (∀ u k q, k < rp r0 u → rv r u k q = rv r0 u k q) ∧ ∀ q, q < c → rv r t (rp r0 t) q = a q
def RVp (f : Nat → Int) (n i : Nat) (z : Int) (i' : Nat) : Prop := (¬ Dg f n i ∧ z = -1 ∧ i' = i) ∨ (Dg f n i ∧ ¬ Dg f n (i + 1) ∧ z = f i - 48 ∧ i' = i + 1) ∨ (Dg f n i ∧ Dg f n (i + 1) ∧ z = 10 * (f i - 48) + (f (i + 1) - 48) ∧ i' = i + 2)
theorem RVp.le {f : Nat → Int} {n i i' : Nat} {z : Int} (h : RVp f n i z i') (hi : i ≤ n) : i ≤ i' ∧ i' ≤ n ∧ -1 ≤ z ∧ z ≤ 99 := by
  rcases h with ⟨-, h2, h3⟩ | ⟨⟨h1, g1, g2⟩, -, h2, h3⟩ | ⟨⟨h0, g1, g2⟩, ⟨h1, g3, g4⟩, h2, h3⟩ <;> omega
def vl (r : Rd) (f : Nat → Int) (n i : Nat) : Prop := (rst r = 4 ∨ rst r = 5) ∧ (rst r = 4 → ¬ Dg f n i)
theorem rp_e {r r0 : Rd} (h : r.2.1 = r0.2.1) (t : Nat) : rp r t = rp r0 t := congrFun h t
theorem Ln.val {w : Wv} {f : Nat → Int} {n : Nat} {r0 : Rd} {t c : Nat} {a : Nat → Nat} {r : Rd} {i i' : Nat} {z : Int} (h : Ln w f n r0 t c a r i) (h3 : rst r = 3) (hl : wl w t + rp r0 t < 16) (hv : RVp f n i z i') (hz : 0 ≤ z) : ∃ r1, Ln w f n r0 t c a r1 i' ∧ vl r1 f n i' ∧ rnum r1 = z.toNat := by
  obtain ⟨hA, ⟨e1, e2, e3⟩, e4, e5, e6⟩ := h
  have hl' : wl w (rtab r) + rp r (rtab r) < 16 := by rw [e1, rp_e e4]; exact hl
  have s1 : Dg f n i → stp w r (f i) = some (rset (rset r 3 (f i - 48).toNat) 0 4) := fun hd => by
    unfold stp
    rw [if_neg (by omega), if_neg (by omega), if_neg (by omega), if_pos h3, if_pos ⟨hd.2, hl'⟩]
  rcases hv with ⟨-, h2, -⟩ | ⟨hd, hn, h2, h4⟩ | ⟨hd, hn, h2, h4⟩
  · omega
  · subst h4
    refine ⟨rset (rset r 3 (f i - 48).toNat) 0 4, ⟨hA.go hd.1 (s1 hd) (by have := hA.2.1; show rit r ≤ _; omega), ⟨e1, e2, e3⟩, e4, e5, e6⟩, ⟨Or.inl rfl, fun _ => hn⟩, ?_⟩
    show (f i - 48).toNat = z.toNat
    rw [h2]
  · subst h4
    have hA1 := hA.go hd.1 (s1 hd) (by have := hA.2.1; show rit r ≤ _; omega)
    refine ⟨rset (rset (rset (rset r 3 (f i - 48).toNat) 0 4) 3 ((f i - 48).toNat * 10 + (f (i + 1) - 48).toNat)) 0 5, ⟨hA1.go hn.1 ?_ (by have := hA.2.1; show rit r ≤ _; omega), ⟨e1, e2, e3⟩, e4, e5, e6⟩, ⟨Or.inr rfl, fun q => absurd q (by decide : ¬ (5 : Nat) = 4)⟩, ?_⟩
    · have h40 : rst (rset (rset r 3 (f i - 48).toNat) 0 4) = 4 := rfl
      unfold stp
      rw [if_neg (by omega), if_neg (by omega), if_neg (by omega), if_neg (by omega), if_pos h40, if_pos hn.2]
      rfl
    · show (f i - 48).toNat * 10 + (f (i + 1) - 48).toNat = z.toNat
      have := hd.2
      have := hn.2
      omega
theorem Ln.bad {w : Wv} {f : Nat → Int} {n : Nat} {r0 : Rd} {t c : Nat} {a : Nat → Nat} {r : Rd} {i : Nat} (h : Ln w f n r0 t c a r i) (h3 : rst r = 3) (hb : ¬ Dg f n i ∨ ¬ wl w t + rp r0 t < 16) : FT w f n i := by
  obtain ⟨hA, ⟨e1, e2, e3⟩, e4, e5, e6⟩ := h
  refine hA.bad (fun hi => ?_) (by omega)
  unfold stp
  rw [if_neg (by omega), if_neg (by omega), if_neg (by omega), if_pos h3, if_neg]
  intro e
  rcases hb with k | k
  · exact k ⟨hi, e.1⟩
  · have := e.2; rw [e1, rp_e e4] at this; exact k this
theorem vl.mk {w : Wv} {f : Nat → Int} {n : Nat} {r : Rd} {i : Nat} (h : vl r f n i) (hi : i < n) : stp w r (f i) = mrk r (f i) := by
  unfold stp
  rcases h.1 with k | k
  · rw [if_neg (by omega), if_neg (by omega), if_neg (by omega), if_neg (by omega), if_pos k, if_neg (fun e => h.2 k ⟨hi, e⟩)]
  · rw [if_neg (by omega), if_neg (by omega), if_neg (by omega), if_neg (by omega), if_neg (by omega)]
def upA (a : Nat → Nat) (c v : Nat) : Nat → Nat := fun q => if q = c then v else a q
theorem Ln.comma {w : Wv} {f : Nat → Int} {n : Nat} {r0 : Rd} {t c : Nat} {a : Nat → Nat} {r : Rd} {i : Nat} (h : Ln w f n r0 t c a r i) (hv : vl r f n i) (hc : c < 2) (hi : i < n ∧ f i = 44) : ∃ r1, Ln w f n r0 t (c + 1) (upA a c (rnum r)) r1 (i + 1) ∧ rst r1 = 3 := by
  obtain ⟨hA, ⟨e1, e2, e3⟩, e4, e5, e6⟩ := h
  have ht : rp r t = rp r0 t := rp_e e4 t
  refine ⟨rset (rset (keepR r) 2 (rcol r + 1)) 0 3, ⟨hA.go hi.1 ?_ (by have := hA.2.1; show rit r ≤ _; omega), ⟨e1, by show rcol r + 1 = _; rw [e2], e3⟩, e4, fun u k q hk => ?_, fun q hq => ?_⟩, rfl⟩
  · rw [hv.mk hi.1]
    unfold mrk
    rw [if_pos (by omega), if_pos hi.2]
  · show (if u = rtab r ∧ k = rp r (rtab r) ∧ q = rcol r then rnum r else rv r u k q) = _
    rw [if_neg (fun e => by rw [e.2.1, e.1, rp_e e4] at hk; exact absurd hk (Nat.lt_irrefl _)), e5 u k q hk]
  · show (if t = rtab r ∧ rp r0 t = rp r (rtab r) ∧ q = rcol r then rnum r else rv r t (rp r0 t) q) = _
    unfold upA
    by_cases hqc : q = c
    · rw [if_pos ⟨e1.symm, by rw [e1, ht], by omega⟩, if_pos hqc]
    · rw [if_neg (fun e => hqc (by omega)), if_neg hqc]; exact e6 q (by omega)
theorem Ln.nocomma {w : Wv} {f : Nat → Int} {n : Nat} {r0 : Rd} {t c : Nat} {a : Nat → Nat} {r : Rd} {i : Nat} (h : Ln w f n r0 t c a r i) (hv : vl r f n i) (hc : c < 2) (hi : ¬ (i < n ∧ f i = 44)) : FT w f n i := by
  refine h.1.bad (fun k => ?_) (by have := h.2.1.2.1; omega)
  rw [hv.mk k]
  unfold mrk
  rw [if_pos (by have := h.2.1.2.1; omega), if_neg (fun e => hi ⟨k, e⟩)]
/-- behind a line -/
def ES (w : Wv) (f : Nat → Int) (n t : Nat) (r : Rd) (i : Nat) : Prop := At w f n r i ∧ vl r f n i ∧ rtab r = t ∧ rcol r = 2
theorem ES.sl {w : Wv} {f : Nat → Int} {n t : Nat} {r : Rd} {i : Nat} (h : ES w f n t r i) (hi : i < n ∧ f i = 47) : At w f n (rset (rset (endR r) 2 0) 0 3) (i + 1) := by
  refine h.1.go hi.1 ?_ (by have := h.1.2.1; show rit r ≤ _; omega)
  rw [h.2.1.mk hi.1]
  unfold mrk
  rw [if_neg (by have := h.2.2.2; omega), if_pos hi.2]
theorem ES.se {w : Wv} {f : Nat → Int} {n t : Nat} {r : Rd} {i : Nat} (h : ES w f n t r i) (hi : i < n ∧ f i = 59) : At w f n (rset (rset (endR r) 4 (rit r + 1)) 0 0) (i + 1) := by
  refine h.1.go hi.1 ?_ (by have := h.1.2.1; show rit r + 1 ≤ _; omega)
  rw [h.2.1.mk hi.1]
  unfold mrk
  rw [if_neg (by have := h.2.2.2; omega), if_neg (by omega), if_pos hi.2]
theorem ES.no {w : Wv} {f : Nat → Int} {n t : Nat} {r : Rd} {i : Nat} (h : ES w f n t r i) (h1 : ¬ (i < n ∧ f i = 47)) (h2 : ¬ (i < n ∧ f i = 59)) (hi : i < n) : FT w f n i := by
  refine h.1.no hi ?_
  rw [h.2.1.mk hi]
  unfold mrk
  rw [if_neg (by have := h.2.2.2; omega), if_neg (fun e => h1 ⟨hi, e⟩), if_neg (fun e => h2 ⟨hi, e⟩)]
theorem At.t {w : Wv} {f : Nat → Int} {n i : Nat} {r : Rd} (h : At w f n r i) (h0 : rst r = 0) (hi : i < n ∧ f i = 116) : At w f n (rset r 0 1) (i + 1) := by
  refine h.go hi.1 ?_ (by have := h.2.1; show rit r ≤ _; omega)
  unfold stp
  rw [if_pos h0, if_pos hi.2]
theorem At.t_no {w : Wv} {f : Nat → Int} {n i : Nat} {r : Rd} (h : At w f n r i) (h0 : rst r = 0) (hi : ¬ (i < n ∧ f i = 116)) : FT w f n i := by
  refine h.bad (fun k => ?_) (by omega)
  unfold stp
  rw [if_pos h0, if_neg (fun e => hi ⟨k, e⟩)]
theorem At.d {w : Wv} {f : Nat → Int} {n i : Nat} {r : Rd} (h : At w f n r i) (h0 : rst r = 1) (hi : i < n ∧ 48 ≤ f i ∧ f i ≤ 52) : At w f n (rset (rset r 1 (f i - 48).toNat) 0 2) (i + 1) := by
  refine h.go hi.1 ?_ (by have := h.2.1; show rit r ≤ _; omega)
  unfold stp
  rw [if_neg (by omega), if_pos h0, if_pos (by omega)]
theorem At.d_no {w : Wv} {f : Nat → Int} {n i : Nat} {r : Rd} (h : At w f n r i) (h0 : rst r = 1) (hi : ¬ (i < n ∧ 48 ≤ f i ∧ f i ≤ 52)) : FT w f n i := by
  refine h.bad (fun k => ?_) (by omega)
  unfold stp
  rw [if_neg (by omega), if_pos h0, if_neg (fun e => hi ⟨k, by omega⟩)]
theorem At.c {w : Wv} {f : Nat → Int} {n i : Nat} {r : Rd} (h : At w f n r i) (h0 : rst r = 2) (hi : i < n ∧ f i = 58) : At w f n (rset (rset r 2 0) 0 3) (i + 1) := by
  refine h.go hi.1 ?_ (by have := h.2.1; show rit r ≤ _; omega)
  unfold stp
  rw [if_neg (by omega), if_neg (by omega), if_pos h0, if_pos hi.2]
theorem At.c_no {w : Wv} {f : Nat → Int} {n i : Nat} {r : Rd} (h : At w f n r i) (h0 : rst r = 2) (hi : ¬ (i < n ∧ f i = 58)) : FT w f n i := by
  refine h.bad (fun k => ?_) (by omega)
  unfold stp
  rw [if_neg (by omega), if_neg (by omega), if_pos h0, if_neg (fun e => hi ⟨k, e⟩)]
/-! the lines that were told -/
def gE (L : List (Nat → Nat)) (u : Nat) : Nat → Nat := L[u]?.getD (fun _ => 0)
theorem gE_l {L : List (Nat → Nat)} {i : Nat} {e : Nat → Nat} (h : i < L.length) : gE (L ++ [e]) i = gE L i := by unfold gE; rw [List.getElem?_append_left h]
theorem gE_r {L : List (Nat → Nat)} {e : Nat → Nat} : gE (L ++ [e]) L.length = e := by unfold gE; rw [List.getElem?_append_right (Nat.le_refl _), Nat.sub_self]; rfl
def wTk (w : Wv) (L : List (Nat → Nat)) : Nat → Wv
  | 0 => w
  | k + 1 => wAdd (wTk w L k) (gE L k 0) (gE L k 1) (gE L k 2) (gE L k 3)
theorem wTk_l {w : Wv} {L : List (Nat → Nat)} {e : Nat → Nat} : ∀ {k : Nat}, k ≤ L.length → wTk w (L ++ [e]) k = wTk w L k
  | 0, _ => rfl
  | k + 1, h => by rw [wTk, wTk, wTk_l (by omega), gE_l (by omega)]
def WA (w1 w2 : Wv) : Prop := (∀ t, t < 5 → wl w1 t = wl w2 t ∧ wb w1 t = wb w2 t ∧ wst w1 t = wst w2 t ∧ ∀ i, i < wl w2 t → ∀ c, c < 3 → wv w1 t i c = wv w2 t i c) ∧ (wnf w1 = wnf w2 ∧ ∀ f, wfp w1 f = wfp w2 f ∧ wfs w1 f = wfs w2 f ∧ wfv w1 f = wfv w2 f) ∧ (wnj w1 = wnj w2 ∧ ∀ j, wja w1 j = wja w2 j ∧ wjb w1 j = wjb w2 j) ∧ wsd w1 = wsd w2
theorem MW.ag {σ : St} {w1 w2 : Wv} (h : MW σ w1) (e : WA w1 w2) : MW σ w2 := by
  obtain ⟨a1, a2, a3, a4⟩ := e
  refine ⟨fun t ht => ?_, ⟨by rw [← a2.1]; exact h.2.1.1, fun f hf => ?_⟩, ⟨by rw [← a3.1]; exact h.2.2.1.1, fun j hj => ?_⟩, by rw [← a4]; exact h.2.2.2⟩
  · obtain ⟨b1, b2, b3, b4⟩ := h.1 t ht
    obtain ⟨c1, c2, c3, c4⟩ := a1 t ht
    exact ⟨by rw [← c1]; exact b1, by rw [← c2]; exact b2, by rw [← c3]; exact b3, fun i hi c hc => by rw [← c4 i hi c hc]; exact b4 i (by omega) c hc⟩
  · obtain ⟨b1, b2, b3⟩ := h.2.1.2 f (by omega)
    obtain ⟨c1, c2, c3⟩ := a2.2 f
    rw [← c1, ← c2, ← c3]; exact ⟨b1, b2, b3⟩
  · obtain ⟨b1, b2⟩ := h.2.2.1.2 j (by omega)
    obtain ⟨c1, c2⟩ := a3.2 j
    rw [← c1, ← c2]; exact ⟨b1, b2⟩
theorem OKW.ag {w1 w2 : Wv} (h : OKW w1) (e : WA w1 w2) : OKW w2 := by
  obtain ⟨a1, a2, a3, a4⟩ := e
  refine ⟨fun t ht => ?_, ⟨by rw [← a2.1]; exact h.2.1.1, fun f hf => ?_⟩, ⟨by rw [← a3.1]; exact h.2.2.1, fun j hj => ?_⟩⟩
  · obtain ⟨b1, b2, b3, b4⟩ := h.1 t ht
    obtain ⟨c1, c2, c3, c4⟩ := a1 t ht
    exact ⟨by rw [← c1]; exact b1, by rw [← c2]; exact b2, by rw [← c3]; exact b3, fun i hi c hc => by rw [← c4 i hi c hc]; exact b4 i (by omega) c hc⟩
  · have b := h.2.1.2 f (by omega)
    obtain ⟨c1, c2, c3⟩ := a2.2 f
    rw [← c1, ← c2, ← c3]; exact b
  · have b := h.2.2.2 j (by omega)
    obtain ⟨c1, c2⟩ := a3.2 j
    rw [← c1, ← c2]; exact b
theorem wBring_v {w : Wv} {r : Rd} {t i c : Nat} (ht : t < 5) (hi : i < wl w t + rp r t) (hc : c < 3) : wv (wBring w r) t i c = if i < wl w t then wv w t i c else rv r t (i - wl w t) c := by
  by_cases h : i < wl w t
  · have n0 : ¬ (t < 5 ∧ wl w t * 3 ≤ i * 3 + c ∧ i * 3 + c < (wl w t + rp r t) * 3) := by omega
    rw [if_pos h]
    simp [wv, wBring, n0]
  · have n0 : t < 5 ∧ wl w t * 3 ≤ i * 3 + c ∧ i * 3 + c < (wl w t + rp r t) * 3 := ⟨ht, by omega, by omega⟩
    have n1 : (i * 3 + c) / 3 - wl w t = i - wl w t := by omega
    have n2 : (i * 3 + c) % 3 = c := by omega
    rw [if_neg h]
    simp [wv, wBring, n0, n1, n2]
theorem wAdd_v {w : Wv} {t a b c u i q : Nat} (h : wl w t < 16) (hq : q < 3) : wv (wAdd w t a b c) u i q = if u = t ∧ i = wl w t then (if q = 0 then a else if q = 1 then b else c) else wv w u i q := by
  unfold wAdd
  rw [if_pos h]
  by_cases e : u = t ∧ i = wl w t
  · obtain ⟨e1, e2⟩ := e
    subst e1; subst e2
    rw [if_pos ⟨rfl, rfl⟩]
    have : q = 0 ∨ q = 1 ∨ q = 2 := by omega
    rcases this with k | k | k <;> subst k <;> simp [wv, wset]
  · rw [if_neg e]
    have e' : ∀ z, z < 3 → ¬ (u = t ∧ i * 3 + q = wl w t * 3 + z) := fun z hz k => e ⟨k.1, by omega⟩
    have e0 := e' 0 (by decide)
    have e1 := e' 1 (by decide)
    have e2 := e' 2 (by decide)
    rw [Nat.add_zero] at e0
    simp [wv, wset, e0, e1, e2]
theorem wAdd_o {w : Wv} {t a b c : Nat} : (∀ u, wb (wAdd w t a b c) u = wb w u ∧ wst (wAdd w t a b c) u = wst w u) ∧ (wnf (wAdd w t a b c) = wnf w ∧ ∀ f, wfp (wAdd w t a b c) f = wfp w f ∧ wfs (wAdd w t a b c) f = wfs w f ∧ wfv (wAdd w t a b c) f = wfv w f) ∧ (wnj (wAdd w t a b c) = wnj w ∧ ∀ j, wja (wAdd w t a b c) j = wja w j ∧ wjb (wAdd w t a b c) j = wjb w j) ∧ wsd (wAdd w t a b c) = wsd w := by
  unfold wAdd
  split
  · refine ⟨fun u => ⟨?_, ?_⟩, ⟨?_, fun f => ⟨?_, ?_, ?_⟩⟩, ⟨?_, fun j => ⟨?_, ?_⟩⟩, ?_⟩ <;> simp [wb, wst, wnf, wfp, wfs, wfv, wnj, wja, wjb, wsd, wset]
  · exact ⟨fun u => ⟨rfl, rfl⟩, ⟨rfl, fun f => ⟨rfl, rfl, rfl⟩⟩, ⟨rfl, fun j => ⟨rfl, rfl⟩⟩, rfl⟩
theorem wBring_o {w : Wv} {r : Rd} : (∀ u, wb (wBring w r) u = wb w u ∧ wst (wBring w r) u = wst w u) ∧ (wnf (wBring w r) = wnf w ∧ ∀ f, wfp (wBring w r) f = wfp w f ∧ wfs (wBring w r) f = wfs w f ∧ wfv (wBring w r) f = wfv w f) ∧ (wnj (wBring w r) = wnj w ∧ ∀ j, wja (wBring w r) j = wja w j ∧ wjb (wBring w r) j = wjb w j) ∧ wsd (wBring w r) = wsd w := by
  refine ⟨fun u => ⟨?_, ?_⟩, ⟨?_, fun f => ⟨?_, ?_, ?_⟩⟩, ⟨?_, fun j => ⟨?_, ?_⟩⟩, ?_⟩ <;> simp [wb, wst, wnf, wfp, wfs, wfv, wnj, wja, wjb, wsd, wBring]
def TI (w : Wv) (L : List (Nat → Nat)) (r : Rd) : Prop := (∀ t, t < 5 → wl w t + rp r t ≤ 16) ∧ L.length = rp r 0 + rp r 1 + rp r 2 + rp r 3 + rp r 4 ∧ WA (wTk w L L.length) (wBring w r) ∧ (∀ k, k < L.length → gE L k 0 < 5 ∧ wl (wTk w L k) (gE L k 0) < 16) ∧ ∀ k, k ≤ L.length → OKW (wTk w L k)
def eN (t : Nat) (a : Nat → Nat) (v : Nat) : Nat → Nat := fun q => if q = 0 then t else if q = 1 then a 0 else if q = 2 then a 1 else v
theorem TI.add {w : Wv} {f : Nat → Int} {n t i : Nat} {L : List (Nat → Nat)} {r0 r : Rd} {a : Nat → Nat} (h : TI w L r0) (hL : Ln w f n r0 t 2 a r i) (ht : t < 5) (hl : wl w t + rp r0 t < 16) (ha : a 0 ≤ 99 ∧ a 1 ≤ 99 ∧ rnum r ≤ 99) : TI w (L ++ [eN t a (rnum r)]) (endR r) := by
  obtain ⟨h1, h2, ⟨g1, g2, g3, g4⟩, h4, h5⟩ := h
  obtain ⟨hA, ⟨e1, e2, e3⟩, e4, e5, e6⟩ := hL
  have hrp : ∀ u, rp (endR r) u = if u = t then rp r0 u + 1 else rp r0 u := fun u => by
    show (if u = rtab r then rp r u + 1 else rp r u) = _
    rw [e1, rp_e e4]
  have hwl : wl (wTk w L L.length) t = wl w t + rp r0 t := by rw [(g1 t ht).1, wBring_l ht]
  have hlen : (L ++ [eN t a (rnum r)]).length = L.length + 1 := by rw [List.length_append]; rfl
  have hlast : wTk w (L ++ [eN t a (rnum r)]) (L.length + 1) = wAdd (wTk w L L.length) t (a 0) (a 1) (rnum r) := by
    rw [wTk, wTk_l (Nat.le_refl _), gE_r]; rfl
  refine ⟨fun u hu => ?_, ?_, ?_, fun k hk => ?_, fun k hk => ?_⟩
  · rw [hrp]
    have := h1 u hu
    split
    · rename_i e; rw [e] at this ⊢; omega
    · exact this
  · rw [hlen, hrp, hrp, hrp, hrp, hrp]
    have : t = 0 ∨ t = 1 ∨ t = 2 ∨ t = 3 ∨ t = 4 := by omega
    rcases this with k | k | k | k | k <;> subst k <;> simp <;> omega
  · rw [hlen, hlast]
    obtain ⟨p1, p2, p3, p4⟩ := wAdd_o (w := wTk w L L.length) (t := t) (a := a 0) (b := a 1) (c := rnum r)
    obtain ⟨q1, q2, q3, q4⟩ := wBring_o (w := w) (r := endR r)
    obtain ⟨s1, s2, s3, s4⟩ := wBring_o (w := w) (r := r0)
    refine ⟨fun u hu => ⟨?_, ?_, ?_, fun k hk c hc => ?_⟩, ⟨by rw [p2.1, q2.1, g2.1, s2.1], fun f => ⟨?_, ?_, ?_⟩⟩, ⟨by rw [p3.1, q3.1, g3.1, s3.1], fun j => ⟨?_, ?_⟩⟩, by rw [p4, q4, g4, s4]⟩
    · rw [wAdd_l, wBring_l hu, hrp, hwl]
      by_cases e : u = t
      · rw [if_pos ⟨e, hl⟩, if_pos e, e]; omega
      · rw [if_neg (fun q => e q.1), if_neg e, (g1 u hu).1, wBring_l hu]
    · rw [(p1 u).1, (q1 u).1, (g1 u hu).2.1, (s1 u).1]
    · rw [(p1 u).2, (q1 u).2, (g1 u hu).2.2.1, (s1 u).2]
    · rw [wBring_l hu] at hk
      rw [wAdd_v (by omega) hc, wBring_v hu hk hc, hwl]
      rw [hrp] at hk
      have hrv : rv (endR r) u (k - wl w u) c = if u = t ∧ k - wl w u = rp r0 t ∧ c = 2 then rnum r else rv r u (k - wl w u) c := by
        show (if u = rtab r ∧ k - wl w u = rp r (rtab r) ∧ c = rcol r then rnum r else rv r u (k - wl w u) c) = _
        rw [e1, e2, rp_e e4]
      rw [hrv]
      by_cases e : u = t ∧ k = wl w t + rp r0 t
      · obtain ⟨x1, x2⟩ := e
        subst x1
        have hnk : ¬ k < wl w u := by omega
        rw [if_pos ⟨rfl, x2⟩, if_neg hnk]
        by_cases hc2 : c = 2
        · subst hc2
          rw [if_pos (show u = u ∧ k - wl w u = rp r0 u ∧ 2 = 2 from ⟨rfl, by omega, rfl⟩)]; rfl
        · rw [if_neg (show ¬ (u = u ∧ k - wl w u = rp r0 u ∧ c = 2) from fun q => hc2 q.2.2), show k - wl w u = rp r0 u by omega, e6 c (by omega)]
          have : c = 0 ∨ c = 1 := by omega
          rcases this with q | q <;> subst q <;> rfl
      · rw [if_neg e]
        have hk2 : k < wl w u + rp r0 u := by
          split at hk
          · rename_i x; subst x; omega
          · exact hk
        rw [(g1 u hu).2.2.2 k (by rw [wBring_l hu]; exact hk2) c hc, wBring_v hu hk2 hc]
        split
        · rfl
        · rw [if_neg (fun q => e ⟨q.1, by have h8 := q.2.1; have h9 := q.1; subst h9; omega⟩), e5 _ _ _ (by omega)]
    · rw [(p2.2 f).1, (q2.2 f).1, (g2.2 f).1, (s2.2 f).1]
    · rw [(p2.2 f).2.1, (q2.2 f).2.1, (g2.2 f).2.1, (s2.2 f).2.1]
    · rw [(p2.2 f).2.2, (q2.2 f).2.2, (g2.2 f).2.2, (s2.2 f).2.2]
    · rw [(p3.2 j).1, (q3.2 j).1, (g3.2 j).1, (s3.2 j).1]
    · rw [(p3.2 j).2, (q3.2 j).2, (g3.2 j).2, (s3.2 j).2]
  · rw [hlen] at hk
    rcases Nat.lt_or_ge k L.length with q | q
    · rw [gE_l q, wTk_l (by omega)]; exact h4 k q
    · have : k = L.length := by omega
      subst this
      rw [gE_r, wTk_l (Nat.le_refl _)]
      exact ⟨ht, by show wl _ t < 16; omega⟩
  · rw [hlen] at hk
    rcases Nat.lt_or_ge L.length k with q | q
    · have : k = L.length + 1 := by omega
      subst this
      rw [hlast]
      exact (h5 L.length (Nat.le_refl _)).add ht ha
    · rw [wTk_l q]; exact h5 k q
theorem TI.st {w : Wv} (hW : OKW w) : TI w [] rd0 := by
  refine ⟨fun t ht => (hW.1 t ht).1, rfl, ?_, fun k hk => absurd hk (Nat.not_lt_zero _), fun k hk => ?_⟩
  · obtain ⟨q1, q2, q3, q4⟩ := wBring_o (w := w) (r := rd0)
    refine ⟨fun t ht => ⟨?_, ((q1 t).1).symm, ((q1 t).2).symm, fun i hi c hc => ?_⟩, ⟨q2.1.symm, fun f => ⟨(q2.2 f).1.symm, (q2.2 f).2.1.symm, (q2.2 f).2.2.symm⟩⟩, ⟨q3.1.symm, fun j => ⟨(q3.2 j).1.symm, (q3.2 j).2.symm⟩⟩, q4.symm⟩
    · rw [wBring_l ht]; rfl
    · rw [wBring_l ht] at hi
      rw [wBring_v ht hi hc, if_pos (show i < wl w t from hi)]; rfl
  · have : k = 0 := Nat.le_zero.mp hk
    subst this
    exact hW
theorem TI.le80 {w : Wv} {L : List (Nat → Nat)} {r : Rd} (h : TI w L r) : L.length ≤ 80 := by
  have := h.2.1
  have := h.1 0 (by decide)
  have := h.1 1 (by decide)
  have := h.1 2 (by decide)
  have := h.1 3 (by decide)
  have := h.1 4 (by decide)
  omega
theorem TI.lt80 {w : Wv} {L : List (Nat → Nat)} {r : Rd} (h : TI w L r) {t : Nat} (ht : t < 5) (hl : wl w t + rp r t < 16) : L.length < 80 := by
  have := h.2.1
  have := h.1 0 (by decide)
  have := h.1 1 (by decide)
  have := h.1 2 (by decide)
  have := h.1 3 (by decide)
  have := h.1 4 (by decide)
  have : t = 0 ∨ t = 1 ∨ t = 2 ∨ t = 3 ∨ t = 4 := by omega
  rcases this with k | k | k | k | k <;> subst k <;> omega

/-! ROWS: the spec, sums over the lines of the members in any order -/
def upL (a : Nat → Nat) (t i : Nat) : Nat → Nat := fun u => if u = t then i else a u
def rS : List Nat → ((Nat → Nat) → Nat) → (Nat → Nat) → Nat
  | [], g, a => g a
  | t :: ts, g, a => nsum 16 (fun i => rS ts g (upL a t i))
def memS (s : Nat) : List Nat := (List.range 5).filter (fun t => decide (bitv s t = 1))
/-- the first n joins hold, as far as they lie within the set -/
def jO (w : Wv) (s : Nat) (a : Nat → Nat) : Nat → Bool
  | 0 => true
  | j + 1 => jO w s a j && (if bitv s (wja w j / 3) = 1 ∧ bitv s (wjb w j / 3) = 1 then eqL w (wja w j) (wjb w j) (a (wja w j / 3)) (a (wjb w j / 3)) else true)
def gR (w : Wv) (s : Nat) (a : Nat → Nat) : Bool := (memS s).all (fun t => fM w (wnf w) t (a t)) && jO w s a (wnj w)
def rN (w : Wv) (s : Nat) : Nat := rS (memS s) (fun a => if gR w s a = true then 1 else 0) (fun _ => 0)
def rV (w : Wv) (s p : Nat) : Nat := rS (memS s) (fun a => if gR w s a = true then wv w (p / 3) (a (p / 3)) (p % 3) else 0) (fun _ => 0)
theorem rS_cong {g h : (Nat → Nat) → Nat} : ∀ {ts : List Nat} {a : Nat → Nat}, (∀ b, (∀ u, u ∉ ts → b u = a u) → g b = h b) → rS ts g a = rS ts h a
  | [], a, H => H a (fun _ _ => rfl)
  | t :: ts, a, H => nsum_cong (fun i _ => rS_cong (fun b hb => H b (fun u hu => by
      rw [hb u (fun e => hu (List.mem_cons_of_mem _ e))]
      unfold upL
      rw [if_neg (fun (e : u = t) => hu (by rw [e]; exact List.mem_cons_self ..))])))
theorem rS_0 {g : (Nat → Nat) → Nat} {ts : List Nat} {a : Nat → Nat} (H : ∀ b, (∀ u, u ∉ ts → b u = a u) → g b = 0) : rS ts g a = 0 := by
  rw [rS_cong (h := fun _ => 0) H]
  clear H
  induction ts generalizing a with
  | nil => rfl
  | cons t ts ih => exact nsum_0 (fun i _ => ih)
theorem rS_mul {g : (Nat → Nat) → Nat} {c : Nat} : ∀ {ts : List Nat} {a : Nat → Nat}, rS ts g a * c = rS ts (fun b => g b * c) a
  | [], _ => rfl
  | t :: ts, a => by rw [rS, nsum_mul]; exact nsum_cong (fun i _ => rS_mul)
theorem up_comm {a : Nat → Nat} {t u i k : Nat} (h : t ≠ u) : upL (upL a t i) u k = upL (upL a u k) t i := by
  funext v
  unfold upL
  by_cases h1 : v = u
  · rw [if_pos h1, if_neg (fun e => h (e.symm.trans h1)), if_pos h1]
  · rw [if_neg h1]
    by_cases h2 : v = t
    · rw [if_pos h2, if_pos h2]
    · rw [if_neg h2, if_neg h2, if_neg h1]
theorem rS_perm {g : (Nat → Nat) → Nat} {L L' : List Nat} (h : L.Perm L') : ∀ {a : Nat → Nat}, rS L g a = rS L' g a := by
  induction h with
  | nil => exact rfl
  | cons x _ ih => intro a; exact nsum_cong (fun i _ => ih)
  | swap x y l =>
    intro a
    by_cases hxy : x = y
    · subst hxy; rfl
    · show nsum 16 (fun i => nsum 16 (fun k => rS l g (upL (upL a y i) x k))) = nsum 16 (fun i => nsum 16 (fun k => rS l g (upL (upL a x i) y k)))
      rw [nsum_comm]
      exact nsum_cong (fun i _ => nsum_cong (fun k _ => by rw [up_comm (fun e => hxy e.symm)]))
  | trans _ _ h1 h2 => intro a; exact h1.trans h2
/-- pairs agree -/
def pw (par : Nat → Nat → Nat → Nat → Bool) (a : Nat → Nat) : List Nat → Bool
  | [] => true
  | t :: ts => ts.all (fun o => par t (a t) o (a o)) && pw par a ts
def iL (par : Nat → Nat → Nat → Nat → Bool) (F : Nat → Nat → Bool) (L : List Nat) (a : Nat → Nat) : Nat := if (L.all (fun t => F t (a t)) && pw par a L) = true then 1 else 0
theorem all_and {L : List Nat} {p q : Nat → Bool} : L.all (fun t => p t && q t) = (L.all p && L.all q) := by
  induction L with
  | nil => rfl
  | cons t L ih => rw [List.all_cons, List.all_cons, List.all_cons, ih]; cases p t <;> cases q t <;> simp
theorem iL_cons {par : Nat → Nat → Nat → Nat → Bool} {F : Nat → Nat → Bool} {t : Nat} {ts : List Nat} {a : Nat → Nat} : iL par F (t :: ts) a = if F t (a t) = true then iL par (nF par t (a t) F) ts a else 0 := by
  unfold iL
  by_cases h : F t (a t) = true
  · rw [if_pos h]
    congr 2
    rw [List.all_cons, h, pw]
    unfold nF
    rw [all_and, Bool.true_and, Bool.and_assoc]
  · rw [if_neg h, List.all_cons, Bool.eq_false_iff.mpr h]; rfl
theorem cN_rS {par : Nat → Nat → Nat → Nat → Bool} : ∀ {L : List Nat} {F : Nat → Nat → Bool} {a : Nat → Nat}, L.Nodup → cN par L F = rS L (iL par F L) a
  | [], _, _, _ => rfl
  | t :: ts, F, a, hn => by
    rw [cN, rS]
    refine nsum_cong (fun i _ => ?_)
    have ht := List.nodup_cons.mp hn
    have hu : ∀ b : Nat → Nat, (∀ u, u ∉ ts → b u = upL a t i u) → b t = i := fun b hb => by rw [hb t ht.1]; unfold upL; rw [if_pos rfl]
    by_cases h : F t i = true
    · rw [if_pos h, cN_rS (a := upL a t i) ht.2]
      refine rS_cong (fun b hb => ?_)
      rw [iL_cons, hu b hb, if_pos h]
      rfl
    · rw [if_neg h]
      exact (rS_0 (fun b hb => by rw [iL_cons, hu b hb, if_neg h])).symm
theorem rest_rS {par : Nat → Nat → Nat → Nat → Bool} {t : Nat} {ts : List Nat} {F : Nat → Nat → Bool} {a : Nat → Nat} (hn : (t :: ts).Nodup) (i : Nat) : (if F t i = true then cN par ts (nF par t i F) else 0) = rS ts (iL par F (t :: ts)) (upL a t i) := by
  have ht := List.nodup_cons.mp hn
  have hu : ∀ b : Nat → Nat, (∀ u, u ∉ ts → b u = upL a t i u) → b t = i := fun b hb => by rw [hb t ht.1]; unfold upL; rw [if_pos rfl]
  by_cases h : F t i = true
  · rw [if_pos h, cN_rS (a := upL a t i) ht.2]
    exact rS_cong (fun b hb => by rw [iL_cons, hu b hb, if_pos h])
  · rw [if_neg h]
    exact (rS_0 (fun b hb => by rw [iL_cons, hu b hb, if_neg h])).symm
/-! the pairs of the class are the joins -/
theorem qP_sym {w : Wv} {a b i : Nat} {par : Nat → Nat → Nat → Nat → Bool} (hab : a / 3 ≠ b / 3) (hp : ∀ t x o y, par t x o y = par o y t x) (t x o y : Nat) : qP w a b i 0 par t x o y = qP w a b i 0 par o y t x := by
  unfold qP
  rw [hp t x o y]
  by_cases h1 : t = a / 3 ∧ o = b / 3
  · rw [if_pos h1, if_neg (show ¬ (o = a / 3 ∧ t = b / 3) from fun e => hab (h1.1.symm.trans e.2)), if_pos (show o = b / 3 ∧ t = a / 3 from ⟨h1.2, h1.1⟩)]
  · rw [if_neg h1]
    by_cases h2 : t = b / 3 ∧ o = a / 3
    · rw [if_pos h2, if_pos (show o = a / 3 ∧ t = b / 3 from ⟨h2.2, h2.1⟩)]
    · rw [if_neg h2, if_neg (fun e => h2 ⟨e.2, e.1⟩), if_neg (fun e => h1 ⟨e.2, e.1⟩)]
theorem jA_sym {w : Wv} {s : Nat} : ∀ {n : Nat}, (∀ j, j < n → wja w j / 3 < wjb w j / 3) → ∀ t x o y, jA w s n t x o y = jA w s n o y t x
  | 0, _, _, _, _, _ => rfl
  | n + 1, h, t, x, o, y => by
    rw [jA]
    split
    · exact qP_sym (by have := h n (by omega); omega) (jA_sym (fun j hj => h j (by omega))) t x o y
    · exact jA_sym (fun j hj => h j (by omega)) t x o y
theorem jA_eq {w : Wv} {s : Nat} {x y : Nat} : ∀ {n j : Nat}, (∀ j, j < n → wja w j / 3 < wjb w j / 3) → j < n → bitv s (wja w j / 3) = 1 ∧ bitv s (wjb w j / 3) = 1 → x < wl w (wja w j / 3) → y < wl w (wjb w j / 3) → jA w s n (wja w j / 3) x (wjb w j / 3) y = true → eqL w (wja w j) (wjb w j) x y = true
  | 0, _, _, hj, _, _, _, _ => absurd hj (Nat.not_lt_zero _)
  | n + 1, j, h, hj, hb, hx, hy, e => by
    rcases Nat.lt_or_ge j n with k | k
    · refine jA_eq (fun j hj => h j (by omega)) k hb hx hy ?_
      rw [jA] at e
      split at e
      · unfold qP at e
        exact (Bool.and_eq_true _ _ ▸ e).1
      · exact e
    · have hjn : j = n := by omega
      subst hjn
      rw [jA, if_pos hb] at e
      unfold qP at e
      rw [if_pos ⟨rfl, rfl⟩] at e
      have e2 := (Bool.and_eq_true _ _ ▸ e).2
      rw [show dn w (wjb w j) (wl w (wja w j / 3)) 0 x y = true from decide_eq_true (Or.inl ⟨hx, hy⟩)] at e2
      simpa using e2
theorem jA_of {w : Wv} {s : Nat} {a : Nat → Nat} : ∀ {n : Nat}, jO w s a n = true → ∀ t o, jA w s n t (a t) o (a o) = true
  | 0, _, _, _ => rfl
  | n + 1, h, t, o => by
    rw [jO] at h
    have h' := Bool.and_eq_true _ _ ▸ h
    have ih := jA_of h'.1 t o
    have h2 := h'.2
    rw [jA]
    split
    · rename_i hc
      rw [if_pos hc] at h2
      unfold qP
      rw [ih, Bool.true_and]
      split
      · rename_i h3; rw [h3.1, h3.2, h2]; simp
      · split
        · rename_i h3; rw [h3.1, h3.2, h2]; simp
        · rfl
    · exact ih
theorem jO_of {w : Wv} {s : Nat} {a : Nat → Nat} {m : Nat} : ∀ {n : Nat}, n ≤ m → (∀ j, j < m → bitv s (wja w j / 3) = 1 ∧ bitv s (wjb w j / 3) = 1 → eqL w (wja w j) (wjb w j) (a (wja w j / 3)) (a (wjb w j / 3)) = true) → jO w s a n = true
  | 0, _, _ => rfl
  | n + 1, hm, h => by
    rw [jO, jO_of (by omega) h, Bool.true_and]
    split
    · rename_i hc; exact h n (by omega) hc
    · rfl
theorem pw_all {par : Nat → Nat → Nat → Nat → Bool} {a : Nat → Nat} (hp : ∀ t x o y, par t x o y = par o y t x) : ∀ {L : List Nat}, pw par a L = true → ∀ t, t ∈ L → ∀ o, o ∈ L → t ≠ o → par t (a t) o (a o) = true
  | [], _, _, ht, _, _, _ => absurd ht (List.not_mem_nil)
  | u :: L, h, t, ht, o, ho, hne => by
    rw [pw] at h
    have h' := Bool.and_eq_true _ _ ▸ h
    have hu := List.all_eq_true.mp h'.1
    rcases List.mem_cons.mp ht with e | e
    · rcases List.mem_cons.mp ho with e2 | e2
      · exact absurd (e.trans e2.symm) hne
      · subst e; exact hu o e2
    · rcases List.mem_cons.mp ho with e2 | e2
      · subst e2; rw [hp]; exact hu t e
      · exact pw_all hp h'.2 t e o e2 hne
theorem pw_of {par : Nat → Nat → Nat → Nat → Bool} {a : Nat → Nat} (h : ∀ t o, par t (a t) o (a o) = true) : ∀ {L : List Nat}, pw par a L = true
  | [] => rfl
  | u :: L => by rw [pw, pw_of h, Bool.and_true]; exact List.all_eq_true.mpr (fun o _ => h u o)
theorem mL_perm : ∀ s : Fin 32, ∀ f : Fin 5, bitv s.val f.val = 1 → (mL s.val f.val 5).isPerm (memS s.val) = true ∧ (mL s.val f.val 5).Nodup := by decide +kernel
theorem mL_hd : ∀ s : Fin 32, ∀ f : Fin 5, mL s.val f.val 5 = f.val :: (mL s.val f.val 5).drop 1 := by decide +kernel
theorem mem_bit {s t : Nat} : t ∈ memS s ↔ t < 5 ∧ bitv s t = 1 := by
  unfold memS
  rw [List.mem_filter, List.mem_range, decide_eq_true_eq]
theorem gR_L {w : Wv} {s f : Nat} (hW : OKW w) (hs : s < 32) (hf : f < 5) (hb : bitv s f = 1) (a : Nat → Nat) : iL (jA w s (wnj w)) (fM w (wnf w)) (mL s f 5) a = if gR w s a = true then 1 else 0 := by
  have hp := List.isPerm_iff.mp (mL_perm ⟨s, hs⟩ ⟨f, hf⟩ hb).1
  dsimp only at hp
  have hj := fun j hj => (hW.2.2.2 j hj)
  unfold iL gR
  have e1 : (mL s f 5).all (fun t => fM w (wnf w) t (a t)) = (memS s).all (fun t => fM w (wnf w) t (a t)) := by
    rw [Bool.eq_iff_iff, List.all_eq_true, List.all_eq_true]
    exact ⟨fun h t ht => h t (hp.mem_iff.mpr ht), fun h t ht => h t (hp.mem_iff.mp ht)⟩
  rw [e1]
  by_cases h1 : (memS s).all (fun t => fM w (wnf w) t (a t)) = true
  · rw [h1, Bool.true_and, Bool.true_and]
    have hl : ∀ t, t ∈ memS s → a t < wl w t := fun t ht => by
      have := List.all_eq_true.mp h1 t ht
      unfold fM at this
      exact of_decide_eq_true (Bool.and_eq_true _ _ ▸ this).1
    have e2 : pw (jA w s (wnj w)) a (mL s f 5) = jO w s a (wnj w) := by
      rw [Bool.eq_iff_iff]
      refine ⟨fun h => ?_, fun h => pw_of (jA_of h)⟩
      refine jO_of (Nat.le_refl _) (fun j hjn hc => ?_)
      have hjo := hj j hjn
      have m1 : wja w j / 3 ∈ memS s := mem_bit.mpr ⟨by omega, hc.1⟩
      have m2 : wjb w j / 3 ∈ memS s := mem_bit.mpr ⟨by omega, hc.2⟩
      exact jA_eq (fun j hj' => (hj j hj').2.2) hjn hc (hl _ m1) (hl _ m2) (pw_all (jA_sym (fun j hj' => (hj j hj').2.2)) h _ (hp.mem_iff.mpr m1) _ (hp.mem_iff.mpr m2) (by omega))
    rw [e2]
  · rw [Bool.eq_false_iff.mpr h1]; rfl
theorem rB_rS {w : Wv} {s f : Nat} (hW : OKW w) (hs : s < 32) (hf : f < 5) (hb : bitv s f = 1) (i : Nat) : rB w s f i = rS ((mL s f 5).drop 1) (fun a => if gR w s a = true then 1 else 0) (upL (fun _ => 0) f i) := by
  have hn := (mL_perm ⟨s, hs⟩ ⟨f, hf⟩ hb).2
  have hh := mL_hd ⟨s, hs⟩ ⟨f, hf⟩
  dsimp only at hn hh
  unfold rB sN1
  rw [mL_0]
  rw [hh] at hn
  rw [rest_rS (a := fun _ => 0) hn i, ← hh]
  exact congrArg (fun g => rS _ g _) (funext (fun a => gR_L hW hs hf hb a))
theorem rN_eq {w : Wv} {s f : Nat} (hW : OKW w) (hs : s < 32) (hf : f < 5) (hb : bitv s f = 1) : nsum 16 (rB w s f) = rN w s := by
  have hp := List.isPerm_iff.mp (mL_perm ⟨s, hs⟩ ⟨f, hf⟩ hb).1
  have hh := mL_hd ⟨s, hs⟩ ⟨f, hf⟩
  dsimp only at hp hh
  unfold rN
  rw [← rS_perm hp, hh, rS]
  exact nsum_cong (fun i _ => rB_rS hW hs hf hb i)
theorem rV_eq {w : Wv} {s p : Nat} (hW : OKW w) (hs : s < 32) (hp14 : p ≤ 14) (hb : bitv s (p / 3) = 1) (hl : wl w (p / 3) ≤ 16) : wS w p (rB w s (p / 3)) (wl w (p / 3)) = rV w s p := by
  have hf : p / 3 < 5 := by omega
  have hn := (mL_perm ⟨s, hs⟩ ⟨p / 3, hf⟩ hb).2
  have hp := List.isPerm_iff.mp (mL_perm ⟨s, hs⟩ ⟨p / 3, hf⟩ hb).1
  have hh := mL_hd ⟨s, hs⟩ ⟨p / 3, hf⟩
  dsimp only at hn hp hh
  rw [hh] at hn
  have ht := List.nodup_cons.mp hn
  have e : ∀ i, rB w s (p / 3) i * wv w (p / 3) i (p % 3) = rS ((mL s (p / 3) 5).drop 1) (fun a => if gR w s a = true then wv w (p / 3) (a (p / 3)) (p % 3) else 0) (upL (fun _ => 0) (p / 3) i) := fun i => by
    rw [rB_rS hW hs hf hb, rS_mul]
    refine rS_cong (fun b hb' => ?_)
    have hbi : b (p / 3) = i := by rw [hb' _ ht.1]; unfold upL; rw [if_pos rfl]
    rw [hbi]
    split
    · rw [Nat.one_mul]
    · rw [Nat.zero_mul]
  have e2 : ∀ i, wl w (p / 3) ≤ i → rB w s (p / 3) i = 0 := fun i hi => by
    unfold rB sN1
    rw [mL_0, if_neg]
    unfold fM
    rw [decide_eq_false (by omega)]
    simp
  have e3 : ∀ n, wl w (p / 3) ≤ n → wS w p (rB w s (p / 3)) n = wS w p (rB w s (p / 3)) (wl w (p / 3)) := fun n => by
    induction n with
    | zero => intro h; rw [show wl w (p / 3) = 0 by omega]
    | succ n ih =>
      intro h
      rcases Nat.lt_or_ge n (wl w (p / 3)) with k | k
      · rw [show wl w (p / 3) = n + 1 by omega]
      · rw [← ih k]
        show nsum n _ + rB w s (p / 3) n * wv w (p / 3) n (p % 3) = nsum n _
        rw [e2 n k, Nat.zero_mul]; rfl
  rw [← e3 16 hl]
  unfold rV
  rw [← rS_perm hp, hh, rS]
  exact nsum_cong (fun i _ => e i)
theorem leastT_b : ∀ s : Fin 32, 0 < s.val → leastT s.val < 5 ∧ bitv s.val (leastT s.val) = 1 := by decide +kernel

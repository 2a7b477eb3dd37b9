/-! THE PLANNER: cells are trees; a plan is its cells in their row -/
def CP (w : Wv) (T : Nat → Nat → Cel) (s o : Nat) (c : Cel) : Prop := ∃ a b o1 o2 i : Nat, (1 ≤ a ∧ 1 ≤ b ∧ a + b = s ∧ a &&& s = a) ∧ (o1 < 16 ∧ o2 < 16) ∧ (zL c = ((16 * a + o1 : Nat) : Int) ∧ zR c = ((16 * b + o2 : Nat) : Int)) ∧ (zJ c = (i : Int) ∧ i < wnj w) ∧ (zW (T a o1) ≠ -1 ∧ zW (T b o2) ≠ -1) ∧ zS c = 1 + zS (T a o1) + zS (T b o2) ∧ ((zW c = 1 ∧ o1 = 0 ∧ o2 = 0) ∨ (zW c = 2 ∧ o1 = o ∧ o2 = 0) ∨ (zW c = 3 ∧ o1 = mO w a i ∧ o2 = mO w b i))
def CR (c : Cel) : Prop := zW c = 0 ∧ zL c = -1 ∧ zR c = -1 ∧ zJ c = -1 ∧ zS c = 1
def CS (T : Nat → Nat → Cel) (s o : Nat) (c : Cel) : Prop := (zW c = 4 ∧ 1 ≤ o) ∧ (zL c = ((16 * s + 0 : Nat) : Int) ∧ zR c = -1 ∧ zJ c = -1) ∧ zW (T s 0) ≠ -1 ∧ zS c = 1 + zS (T s 0)
def CW (w : Wv) (T : Nat → Nat → Cel) (s o : Nat) (c : Cel) : Prop := zW c = -1 ∨ CR c ∨ CS T s o c ∨ CP w T s o c
theorem CP_add {w : Wv} {T : Nat → Nat → Cel} {s o : Nat} {c n : Cel} (h : zW c = -1 ∨ CR c ∨ CP w T s o c) (h' : CP w T s o n) : zW (addP c n) = -1 ∨ CR (addP c n) ∨ CP w T s o (addP c n) := by
  unfold addP; split
  · exact Or.inr (Or.inr h')
  · exact h
def RCP (w : Wv) (T : Nat → Nat → Cel) (s : Nat) (R : Nat → Cel) : Prop := ∀ o, o < 16 → zW (R o) = -1 ∨ CR (R o) ∨ CP w T s o (R o)
theorem prR_CP {w : Wv} (hW : OKW w) {s : Nat} (hs : s ≤ 31) : ∀ n, n ≤ s → RCP w (TT w) s (prR w (TT w) s n)
  | 0, _ => fun o _ => Or.inl rfl
  | n + 1, hn => by
    have ih := prR_CP hW hs n (by omega)
    rw [prR]
    split
    · rename_i h
      obtain ⟨hk, hj, hm, hi⟩ := pcn_f hW hs (by omega) h
      obtain ⟨h1, h2, h3, h4, h5⟩ := h
      have hTa := TT_PO hW n n (Nat.le_refl _) h1 (by omega)
      have hTb := TT_PO hW (s - n) (s - n) (Nat.le_refl _) (by omega) (by omega)
      have hji : jB w n (s - n) = (((jB w n (s - n)).toNat : Nat) : Int) := by omega
      have hb : 1 ≤ n ∧ 1 ≤ s - n ∧ n + (s - n) = s ∧ n &&& s = n := ⟨h1, by omega, by omega, h2⟩
      have r1 : RCP w (TT w) s (s1R w (TT w) n (s - n) (jB w n (s - n)) (prR w (TT w) s n)) := fun o ho => by
        unfold s1R; split
        · exact CP_add (ih o ho) ⟨n, s - n, 0, 0, (jB w n (s - n)).toNat, hb, ⟨by omega, by omega⟩, ⟨rfl, rfl⟩, ⟨hji, hj.2.2⟩, ⟨h4, h5⟩, rfl, Or.inl ⟨rfl, rfl, rfl⟩⟩
        · exact ih o ho
      have r2 : RCP w (TT w) s (s2R w (TT w) n (s - n) (jB w n (s - n)) (s1R w (TT w) n (s - n) (jB w n (s - n)) (prR w (TT w) s n)) 16) := fun o ho => by
        unfold s2R; split
        · rename_i e
          exact CP_add (r1 o ho) ⟨n, s - n, o, 0, (jB w n (s - n)).toNat, hb, ⟨ho, by omega⟩, ⟨rfl, rfl⟩, ⟨hji, hj.2.2⟩, ⟨hTa.2 h4 o ho e.2, h5⟩, rfl, Or.inr (Or.inl ⟨rfl, rfl, rfl⟩)⟩
        · exact r1 o ho
      intro o ho
      unfold stP s3R; split
      · exact CP_add (r2 o ho) ⟨n, s - n, mO w n (jB w n (s - n)), mO w (s - n) (jB w n (s - n)), (jB w n (s - n)).toNat, hb, hm, ⟨rfl, rfl⟩, ⟨hji, hj.2.2⟩, ⟨hTa.2 h4 _ hm.1 hi.1, hTb.2 h5 _ hm.2 hi.2⟩, rfl, Or.inr (Or.inr ⟨rfl, by rw [← hji], by rw [← hji]⟩)⟩
      · exact r2 o ho
    · exact ih
theorem baR_CP {w : Wv} (hW : OKW w) {s : Nat} (hs : s ≤ 31) : RCP w (TT w) s (baR w (TT w) s) := by
  unfold baR; split
  · intro o ho
    unfold rdR; split
    · exact Or.inr (Or.inl ⟨rfl, rfl, rfl, rfl, rfl⟩)
    · exact Or.inl rfl
  · exact prR_CP hW hs s (Nat.le_refl _)
theorem TT_0 {w : Wv} {s : Nat} (h1 : 1 ≤ s) (hs : s ≤ 31) : TT w s 0 = baR w (TT w) s 0 := by
  rw [TT_eq h1 hs]
  unfold soR
  rw [if_neg (fun e => absurd e.2.1 (by omega))]
theorem TT_CW {w : Wv} (hW : OKW w) {s o : Nat} (h1 : 1 ≤ s) (hs : s ≤ 31) (ho : o < 16) : CW w (TT w) s o (TT w s o) := by
  have hb := baR_CP hW hs o ho
  have h' : CW w (TT w) s o (baR w (TT w) s o) := hb.imp id (fun e => e.imp id Or.inr)
  have e0 := TT_0 (w := w) h1 hs
  rw [congrFun (TT_eq (w := w) h1 hs) o]
  unfold soR
  split
  · rename_i e
    unfold addP
    split
    · refine Or.inr (Or.inr (Or.inl ⟨⟨rfl, e.2.1⟩, ⟨rfl, rfl, rfl⟩, by rw [e0]; exact e.1, ?_⟩))
      rw [e0]; rfl
    · exact h'
  · exact h'
/-! the row of a tree -/
def tC (w : Wv) (k : Nat) : Cel := TT w (k / 16) (k % 16)
def tD (k : Nat) : Nat := 2 * (k / 16) + (if k % 16 = 0 then 0 else 1)
/-- a cell number with a way -/
def tV (w : Wv) (k : Nat) : Prop := (16 ≤ k ∧ k < 512) ∧ zW (tC w k) ≠ -1
def kL (w : Wv) (k : Nat) : Option Nat := if zL (tC w k) = -1 then none else some (zL (tC w k)).toNat
def kR (w : Wv) (k : Nat) : Option Nat := if zR (tC w k) = -1 then none else some (zR (tC w k)).toNat
theorem t_ch {w : Wv} (hW : OKW w) {k : Nat} (h : tV w k) : (kL w k = none ∧ kR w k = none ∧ zS (tC w k) = 1) ∨ (∃ l, kL w k = some l ∧ kR w k = none ∧ tV w l ∧ tD l < tD k ∧ zS (tC w k) = 1 + zS (tC w l)) ∨ (∃ l r, kL w k = some l ∧ kR w k = some r ∧ (tV w l ∧ tD l < tD k) ∧ (tV w r ∧ tD r < tD k) ∧ zS (tC w k) = 1 + zS (tC w l) + zS (tC w r)) := by
  obtain ⟨⟨h1, h2⟩, h3⟩ := h
  rcases TT_CW hW (s := k / 16) (o := k % 16) (by omega) (by omega) (by omega) with e | e | e | e
  · exact absurd e h3
  · obtain ⟨-, e1, e2, -, e4⟩ := e
    exact Or.inl ⟨if_pos e1, if_pos e2, e4⟩
  · obtain ⟨⟨e0, e1⟩, ⟨e2, e3, -⟩, e4, e5⟩ := e
    have ht : tC w (16 * (k / 16) + 0) = TT w (k / 16) 0 := by unfold tC; rw [show (16 * (k / 16) + 0) / 16 = k / 16 by omega, show (16 * (k / 16) + 0) % 16 = 0 by omega]
    refine Or.inr (Or.inl ⟨16 * (k / 16) + 0, ?_, if_pos e3, ⟨⟨by omega, by omega⟩, by rw [ht]; exact e4⟩, ?_, by rw [ht]; exact e5⟩)
    · unfold kL tC
      rw [e2, if_neg (by omega)]; rfl
    · unfold tD
      rw [show (16 * (k / 16) + 0) / 16 = k / 16 by omega, if_pos (by omega), if_neg (by omega)]; omega
  · obtain ⟨a, b, o1, o2, i, ⟨a1, a2, a3, -⟩, ⟨b1, b2⟩, ⟨c1, c2⟩, -, ⟨d1, d2⟩, e5, -⟩ := e
    have ht : tC w (16 * a + o1) = TT w a o1 := by unfold tC; rw [show (16 * a + o1) / 16 = a by omega, show (16 * a + o1) % 16 = o1 by omega]
    have ht2 : tC w (16 * b + o2) = TT w b o2 := by unfold tC; rw [show (16 * b + o2) / 16 = b by omega, show (16 * b + o2) % 16 = o2 by omega]
    refine Or.inr (Or.inr ⟨16 * a + o1, 16 * b + o2, ?_, ?_, ⟨⟨⟨by omega, by omega⟩, by rw [ht]; exact d1⟩, ?_⟩, ⟨⟨⟨by omega, by omega⟩, by rw [ht2]; exact d2⟩, ?_⟩, by rw [ht, ht2]; exact e5⟩)
    · unfold kL tC
      rw [c1, if_neg (by omega)]; rfl
    · unfold kR tC
      rw [c2, if_neg (by omega)]; rfl
    · unfold tD
      split <;> split <;> omega
    · unfold tD
      split <;> split <;> omega
def preF (w : Wv) : Nat → Nat → List Nat
  | 0, _ => []
  | f + 1, k => k :: ((match kL w k with | none => [] | some l => preF w f l) ++ (match kR w k with | none => [] | some r => preF w f r))
theorem preF_eq {w : Wv} (hW : OKW w) : ∀ {f g k : Nat}, tV w k → tD k < f → tD k < g → preF w f k = preF w g k
  | 0, _, _, _, h, _ => absurd h (Nat.not_lt_zero _)
  | _ + 1, 0, _, _, _, h => absurd h (Nat.not_lt_zero _)
  | f + 1, g + 1, k, hv, hf, hg => by
    rw [preF, preF]
    rcases t_ch hW hv with ⟨e1, e2, -⟩ | ⟨l, e1, e2, v1, d1, -⟩ | ⟨l, r, e1, e2, ⟨v1, d1⟩, ⟨v2, d2⟩, -⟩
    · rw [e1, e2]
    · rw [e1, e2]
      dsimp only
      rw [preF_eq hW (f := f) (g := g) v1 (by omega) (by omega)]
    · rw [e1, e2]
      dsimp only
      rw [preF_eq hW (f := f) (g := g) v1 (by omega) (by omega), preF_eq hW (f := f) (g := g) v2 (by omega) (by omega)]
def PL (w : Wv) (k : Nat) : List Nat := preF w 70 k
def PO' (w : Wv) : Option Nat → List Nat
  | none => []
  | some l => PL w l
theorem PL_eq {w : Wv} (hW : OKW w) {k : Nat} (hv : tV w k) : PL w k = k :: (PO' w (kL w k) ++ PO' w (kR w k)) := by
  have hd : tD k < 69 := by have := hv.1; unfold tD; split <;> omega
  unfold PL
  rw [preF]
  rcases t_ch hW hv with ⟨e1, e2, -⟩ | ⟨l, e1, e2, v1, d1, -⟩ | ⟨l, r, e1, e2, ⟨v1, d1⟩, ⟨v2, d2⟩, -⟩
  · rw [e1, e2]; rfl
  · rw [e1, e2]
    dsimp only [PO', PL]
    rw [preF_eq hW (f := 69) (g := 70) v1 (by omega) (by omega)]
  · rw [e1, e2]
    dsimp only [PO', PL]
    rw [preF_eq hW (f := 69) (g := 70) v1 (by omega) (by omega), preF_eq hW (f := 69) (g := 70) v2 (by omega) (by omega)]
/-- induction along a tree -/
theorem t_ind {w : Wv} (hW : OKW w) {C : Nat → Prop} (h0 : ∀ k, tV w k → kL w k = none → kR w k = none → zS (tC w k) = 1 → PL w k = [k] → C k) (h1 : ∀ k l, tV w k → kL w k = some l → kR w k = none → tV w l → zS (tC w k) = 1 + zS (tC w l) → PL w k = k :: PL w l → C l → C k) (h2 : ∀ k l r, tV w k → kL w k = some l → kR w k = some r → tV w l → tV w r → zS (tC w k) = 1 + zS (tC w l) + zS (tC w r) → PL w k = k :: (PL w l ++ PL w r) → C l → C r → C k) : ∀ (n k : Nat), tD k < n → tV w k → C k
  | 0, _, h, _ => absurd h (Nat.not_lt_zero _)
  | n + 1, k, h, hv => by
    have hp := PL_eq hW hv
    rcases t_ch hW hv with ⟨e1, e2, e3⟩ | ⟨l, e1, e2, v1, d1, e3⟩ | ⟨l, r, e1, e2, ⟨v1, d1⟩, ⟨v2, d2⟩, e3⟩
    · rw [e1, e2] at hp
      exact h0 k hv e1 e2 e3 hp
    · rw [e1, e2] at hp
      exact h1 k l hv e1 e2 v1 e3 (by rw [hp]; exact congrArg _ (List.append_nil _)) (t_ind hW h0 h1 h2 n l (by omega) v1)
    · rw [e1, e2] at hp
      exact h2 k l r hv e1 e2 v1 v2 e3 hp (t_ind hW h0 h1 h2 n l (by omega) v1) (t_ind hW h0 h1 h2 n r (by omega) v2)
theorem t_all {w : Wv} (hW : OKW w) {C : Nat → Prop} (h0 : ∀ k, tV w k → kL w k = none → kR w k = none → zS (tC w k) = 1 → PL w k = [k] → C k) (h1 : ∀ k l, tV w k → kL w k = some l → kR w k = none → tV w l → zS (tC w k) = 1 + zS (tC w l) → PL w k = k :: PL w l → C l → C k) (h2 : ∀ k l r, tV w k → kL w k = some l → kR w k = some r → tV w l → tV w r → zS (tC w k) = 1 + zS (tC w l) + zS (tC w r) → PL w k = k :: (PL w l ++ PL w r) → C l → C r → C k) {k : Nat} (hv : tV w k) : C k := t_ind hW h0 h1 h2 (tD k + 1) k (Nat.lt_succ_self _) hv
theorem PL_len {w : Wv} (hW : OKW w) {k : Nat} (hv : tV w k) : (PL w k).length = zS (tC w k) :=
  t_all hW (C := fun k => (PL w k).length = zS (tC w k)) (fun k _ _ _ e hp => by rw [hp, e]; rfl) (fun k l _ _ _ _ e hp ih => by rw [hp, List.length_cons, ih, e]; omega) (fun k l r _ _ _ _ _ e hp i1 i2 => by rw [hp, List.length_cons, List.length_append, i1, i2, e]; omega) hv
theorem PL_mem {w : Wv} (hW : OKW w) {k : Nat} (hv : tV w k) : ∀ x, x ∈ PL w k → tV w x :=
  t_all hW (C := fun k => ∀ x, x ∈ PL w k → tV w x) (fun k hv _ _ _ hp x hx => by rw [hp, List.mem_singleton] at hx; rw [hx]; exact hv) (fun k l hv _ _ _ _ hp ih x hx => by
    rw [hp] at hx
    rcases List.mem_cons.mp hx with e | e
    · rw [e]; exact hv
    · exact ih x e) (fun k l r hv _ _ _ _ _ hp i1 i2 x hx => by
    rw [hp] at hx
    rcases List.mem_cons.mp hx with e | e
    · rw [e]; exact hv
    · rcases List.mem_append.mp e with e | e
      · exact i1 x e
      · exact i2 x e) hv
theorem PL_hd {w : Wv} (hW : OKW w) {k : Nat} (hv : tV w k) : gL (PL w k) 0 = k := by rw [PL_eq hW hv]; rfl
theorem gL_mem {L : List Nat} {i : Nat} (h : i < L.length) : gL L i ∈ L := by unfold gL; rw [List.getElem?_eq_getElem h]; exact List.getElem_mem h
theorem gL_c {k : Nat} {L : List Nat} {i : Nat} : gL (k :: L) (i + 1) = gL L i := rfl
theorem gL_al {A B : List Nat} {i : Nat} (h : i < A.length) : gL (A ++ B) i = gL A i := by unfold gL; rw [List.getElem?_append_left h]
theorem gL_ar {A B : List Nat} {i : Nat} : gL (A ++ B) (A.length + i) = gL B i := by unfold gL; rw [List.getElem?_append_right (by omega), Nat.add_sub_cancel_left]
/-- where the children lie -/
def chL (w : Wv) (L : List Nat) (p q : Nat) : Prop := ∃ l, kL w (gL L p) = some l ∧ q = p + 1
def chR (w : Wv) (L : List Nat) (p q : Nat) : Prop := ∃ l r, kL w (gL L p) = some l ∧ kR w (gL L p) = some r ∧ q = p + 1 + zS (tC w l)
def chOK (w : Wv) (L : List Nat) (p : Nat) : Prop := (∀ l, kL w (gL L p) = some l → p + 1 < L.length ∧ gL L (p + 1) = l) ∧ (∀ l r, kL w (gL L p) = some l → kR w (gL L p) = some r → p + 1 + zS (tC w l) < L.length ∧ gL L (p + 1 + zS (tC w l)) = r)
theorem chOK_c {w : Wv} {A : List Nat} {k p : Nat} (h : chOK w A p) : chOK w (k :: A) (p + 1) := by
  unfold chOK
  rw [gL_c]
  refine ⟨fun l e => ?_, fun l r e1 e2 => ?_⟩
  · obtain ⟨g1, g2⟩ := h.1 l e
    exact ⟨by rw [List.length_cons]; omega, by rw [gL_c]; exact g2⟩
  · obtain ⟨g1, g2⟩ := h.2 l r e1 e2
    exact ⟨by rw [List.length_cons]; omega, by rw [show p + 1 + 1 + zS (tC w l) = p + 1 + zS (tC w l) + 1 by omega, gL_c]; exact g2⟩
theorem chOK_l {w : Wv} {A B : List Nat} {p : Nat} (hp : p < A.length) (h : chOK w A p) : chOK w (A ++ B) p := by
  unfold chOK
  rw [gL_al hp]
  refine ⟨fun l e => ?_, fun l r e1 e2 => ?_⟩
  · obtain ⟨g1, g2⟩ := h.1 l e
    exact ⟨by rw [List.length_append]; omega, by rw [gL_al g1]; exact g2⟩
  · obtain ⟨g1, g2⟩ := h.2 l r e1 e2
    exact ⟨by rw [List.length_append]; omega, by rw [gL_al g1]; exact g2⟩
theorem chOK_r {w : Wv} {A B : List Nat} {p : Nat} (h : chOK w B p) : chOK w (A ++ B) (A.length + p) := by
  unfold chOK
  rw [gL_ar]
  refine ⟨fun l e => ?_, fun l r e1 e2 => ?_⟩
  · obtain ⟨g1, g2⟩ := h.1 l e
    exact ⟨by rw [List.length_append]; omega, by rw [show A.length + p + 1 = A.length + (p + 1) by omega, gL_ar]; exact g2⟩
  · obtain ⟨g1, g2⟩ := h.2 l r e1 e2
    exact ⟨by rw [List.length_append]; omega, by rw [show A.length + p + 1 + zS (tC w l) = A.length + (p + 1 + zS (tC w l)) by omega, gL_ar]; exact g2⟩
theorem PL_ch {w : Wv} (hW : OKW w) {k : Nat} (hv : tV w k) : ∀ p, p < (PL w k).length → chOK w (PL w k) p :=
  t_all hW (C := fun k => ∀ p, p < (PL w k).length → chOK w (PL w k) p)
    (fun k _ e1 e2 _ hp p hlt => by
      rw [hp] at hlt ⊢
      rw [List.length_singleton] at hlt
      rw [show p = 0 by omega]
      exact ⟨fun l e => by rw [show gL [k] 0 = k from rfl, e1] at e; exact absurd e (by simp), fun l r e _ => by rw [show gL [k] 0 = k from rfl, e1] at e; exact absurd e (by simp)⟩)
    (fun k l _ e1 e2 vl _ hp ih p hlt => by
      rw [hp] at hlt ⊢
      cases p with
      | zero =>
        have hne : 0 < (PL w l).length := by rw [PL_eq hW vl]; exact Nat.succ_pos _
        refine ⟨fun l' e => ?_, fun l' r e3 e4 => ?_⟩
        · rw [show gL (k :: PL w l) 0 = k from rfl, e1] at e
          injection e with e; subst e
          exact ⟨by rw [List.length_cons]; omega, by rw [gL_c]; exact PL_hd hW vl⟩
        · rw [show gL (k :: PL w l) 0 = k from rfl, e2] at e4; exact absurd e4 (by simp)
      | succ p => exact chOK_c (ih p (by rw [List.length_cons] at hlt; omega)))
    (fun k l r _ e1 e2 vl vr _ hp i1 i2 p hlt => by
      rw [hp] at hlt ⊢
      have hll := PL_len hW vl
      cases p with
      | zero =>
        have hne : 0 < (PL w l).length := by rw [PL_eq hW vl]; exact Nat.succ_pos _
        have hne2 : 0 < (PL w r).length := by rw [PL_eq hW vr]; exact Nat.succ_pos _
        refine ⟨fun l' e => ?_, fun l' r' e3 e4 => ?_⟩
        · rw [show gL (k :: (PL w l ++ PL w r)) 0 = k from rfl, e1] at e
          injection e with e; subst e
          exact ⟨by rw [List.length_cons, List.length_append]; omega, by rw [gL_c, gL_al hne]; exact PL_hd hW vl⟩
        · rw [show gL (k :: (PL w l ++ PL w r)) 0 = k from rfl] at e3 e4
          rw [e1] at e3; rw [e2] at e4
          injection e3 with e3; injection e4 with e4; subst e3; subst e4
          rw [← hll]
          exact ⟨by rw [List.length_cons, List.length_append]; omega, by rw [show 0 + 1 + (PL w l).length = ((PL w l).length + 0) + 1 by omega, gL_c]; exact gL_ar.trans (PL_hd hW vr)⟩
      | succ p =>
        refine chOK_c ?_
        rw [List.length_cons, List.length_append] at hlt
        rcases Nat.lt_or_ge p (PL w l).length with g | g
        · exact chOK_l g (i1 p g)
        · rw [show p = (PL w l).length + (p - (PL w l).length) by omega]
          exact chOK_r (i2 _ (by omega))) hv
/-- each but the first is a child of one ahead of it -/
def par1 (w : Wv) (L : List Nat) (q : Nat) : Prop := ∃ p, p < q ∧ (chL w L p q ∨ chR w L p q)
theorem par1_c {w : Wv} {A : List Nat} {k q : Nat} (h : par1 w A q) : par1 w (k :: A) (q + 1) := by
  obtain ⟨p, h1, h2⟩ := h
  refine ⟨p + 1, by omega, ?_⟩
  rcases h2 with ⟨l, e1, e2⟩ | ⟨l, r, e1, e2, e3⟩
  · exact Or.inl ⟨l, by rw [gL_c]; exact e1, by omega⟩
  · exact Or.inr ⟨l, r, by rw [gL_c]; exact e1, by rw [gL_c]; exact e2, by omega⟩
theorem par1_l {w : Wv} {A B : List Nat} {q : Nat} (hq : q < A.length) (h : par1 w A q) : par1 w (A ++ B) q := by
  obtain ⟨p, h1, h2⟩ := h
  refine ⟨p, h1, ?_⟩
  unfold chL chR
  rw [gL_al (by omega)]
  exact h2
theorem par1_r {w : Wv} {A B : List Nat} {q : Nat} (h : par1 w B q) : par1 w (A ++ B) (A.length + q) := by
  obtain ⟨p, h1, h2⟩ := h
  refine ⟨A.length + p, by omega, ?_⟩
  unfold chL chR
  rw [gL_ar]
  rcases h2 with ⟨l, e1, e2⟩ | ⟨l, r, e1, e2, e3⟩
  · exact Or.inl ⟨l, e1, by omega⟩
  · exact Or.inr ⟨l, r, e1, e2, by omega⟩
theorem PL_par {w : Wv} (hW : OKW w) {k : Nat} (hv : tV w k) : ∀ q, 1 ≤ q → q < (PL w k).length → par1 w (PL w k) q :=
  t_all hW (C := fun k => ∀ q, 1 ≤ q → q < (PL w k).length → par1 w (PL w k) q)
    (fun k _ e1 e2 _ hp q h1 hlt => by rw [hp, List.length_singleton] at hlt; omega)
    (fun k l _ e1 e2 vl _ hp ih q h1 hlt => by
      rw [hp] at hlt ⊢
      obtain ⟨q, rfl⟩ : ∃ r, q = r + 1 := ⟨q - 1, by omega⟩
      rw [List.length_cons] at hlt
      cases q with
      | zero => exact ⟨0, by omega, Or.inl ⟨l, e1, rfl⟩⟩
      | succ q => exact par1_c (ih (q + 1) (by omega) (by omega)))
    (fun k l r _ e1 e2 vl vr _ hp i1 i2 q h1 hlt => by
      rw [hp] at hlt ⊢
      have hll := PL_len hW vl
      obtain ⟨q, rfl⟩ : ∃ r, q = r + 1 := ⟨q - 1, by omega⟩
      rw [List.length_cons, List.length_append] at hlt
      cases q with
      | zero => exact ⟨0, by omega, Or.inl ⟨l, e1, rfl⟩⟩
      | succ q =>
        rcases Nat.lt_or_ge (q + 1) (PL w l).length with g | g
        · exact par1_c (par1_l g (i1 (q + 1) (by omega) g))
        · rcases Nat.eq_or_lt_of_le g with g | g
          · exact ⟨0, by omega, Or.inr ⟨l, r, e1, e2, by omega⟩⟩
          · rw [show q + 1 = (PL w l).length + (q + 1 - (PL w l).length) by omega]
            exact par1_c (par1_r (i2 _ (by omega) (by omega)))) hv
/-- a node's seven slots -/
def nodD (w : Wv) (k j : Nat) : Int := if j = 0 then zW (tC w k) else if j = 1 then ((k / 16 : Nat) : Int) else if j = 2 then ((k % 16 : Nat) : Int) - 1 else if j = 3 then ((zK (tC w k)).toNat : Int) else if j = 4 then zJ (tC w k) else if j = 5 then (if zR (tC w k) = -1 then -1 else (wpl w (zR (tC w k) / 16).toNat (zJ (tC w k)).toNat : Int)) else (zS (tC w k) : Int)

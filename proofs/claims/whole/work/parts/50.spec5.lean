/-! THE PLANNER: the spec; a cell is way, cost, left cell, right cell, join, size -/
abbrev Cel : Type := Int × UInt32 × Int × Int × Int × Nat
def pcN : Cel := (-1, 0, -1, -1, -1, 0)
def zW (c : Cel) : Int := c.1
def zK (c : Cel) : UInt32 := c.2.1
def zL (c : Cel) : Int := c.2.2.1
def zR (c : Cel) : Int := c.2.2.2.1
def zJ (c : Cel) : Int := c.2.2.2.2.1
def zS (c : Cel) : Nat := c.2.2.2.2.2
def addP (c n : Cel) : Cel := if zW c = -1 ∨ FP.fcmp (zK n) (zK c) = some .lt then n else c
abbrev btw (w : Wv) (a b j : Nat) : Prop := (bitv a (wja w j / 3) = 1 ∧ bitv b (wjb w j / 3) = 1) ∨ (bitv b (wja w j / 3) = 1 ∧ bitv a (wjb w j / 3) = 1)
def jbF (w : Wv) (a b : Nat) : Nat → Nat → Int
  | 0, _ => -1
  | n + 1, j => if btw w a b j then (j : Int) else jbF w a b n (j + 1)
def jB (w : Wv) (a b : Nat) : Int := jbF w a b (wnj w) 0
/-- the order by a join's place in a set -/
def mO (w : Wv) (a : Nat) (j : Int) : Nat := wpl w a j.toNat + 1
def hC (w : Wv) (T : Nat → Nat → Cel) (a b : Nat) (j : Int) : Cel := (1, FP.fadd (FP.fadd (zK (T a 0)) (zK (T b 0))) (FP.fadd (FP.fadd (tho w a) (FP.fmul FP.fconst2 (tho w b))) (tho w (a + b))), ((16 * a + 0 : Nat) : Int), ((16 * b + 0 : Nat) : Int), j, 1 + zS (T a 0) + zS (T b 0))
def lC (w : Wv) (T : Nat → Nat → Cel) (a b : Nat) (j : Int) (o : Nat) : Cel := (2, FP.fadd (zK (T a o)) (FP.fmul (tho w a) (zK (T b 0))), ((16 * a + o : Nat) : Int), ((16 * b + 0 : Nat) : Int), j, 1 + zS (T a o) + zS (T b 0))
def mC (w : Wv) (T : Nat → Nat → Cel) (a b : Nat) (j : Int) : Cel := (3, FP.fadd (FP.fadd (zK (T a (mO w a j))) (zK (T b (mO w b j)))) (FP.fadd (FP.fadd (tho w a) (tho w b)) (tho w (a + b))), ((16 * a + mO w a j : Nat) : Int), ((16 * b + mO w b j : Nat) : Int), j, 1 + zS (T a (mO w a j)) + zS (T b (mO w b j)))
abbrev inO (a o : Nat) : Prop := o = 0 ∨ bitv a ((o - 1) / 3) = 1
def s1R (w : Wv) (T : Nat → Nat → Cel) (a b : Nat) (j : Int) (R : Nat → Cel) (o : Nat) : Cel := if o = 0 then addP (R o) (hC w T a b j) else R o
def s2R (w : Wv) (T : Nat → Nat → Cel) (a b : Nat) (j : Int) (R : Nat → Cel) (m o : Nat) : Cel := if o < m ∧ inO a o then addP (R o) (lC w T a b j o) else R o
def s3R (w : Wv) (T : Nat → Nat → Cel) (a b : Nat) (j : Int) (R : Nat → Cel) (o : Nat) : Cel := if o = 0 ∨ o = mO w a j then addP (R o) (mC w T a b j) else R o
/-- what a pair offers to each order -/
def stP (w : Wv) (T : Nat → Nat → Cel) (a b : Nat) (j : Int) (R : Nat → Cel) : Nat → Cel := s3R w T a b j (s2R w T a b j (s1R w T a b j R) 16)
abbrev pcn (w : Wv) (T : Nat → Nat → Cel) (s n : Nat) : Prop := 1 ≤ n ∧ n &&& s = n ∧ jB w n (s - n) ≠ -1 ∧ zW (T n 0) ≠ -1 ∧ zW (T (s - n) 0) ≠ -1
def prR (w : Wv) (T : Nat → Nat → Cel) (s : Nat) : Nat → Nat → Cel
  | 0 => fun _ => pcN
  | n + 1 => if pcn w T s n then stP w T n (s - n) (jB w n (s - n)) (prR w T s n) else prR w T s n
def rdC (w : Wv) (s : Nat) : Cel := (0, FP.i2f (iZ (wl w (leastT s) : Int)), -1, -1, -1, 1)
def rdR (w : Wv) (s o : Nat) : Cel := if o = 0 ∨ (wst w (leastT s) ≠ 0 ∧ o = 3 * leastT s + wst w (leastT s)) then rdC w s else pcN
def soC (w : Wv) (s : Nat) (R : Nat → Cel) : Cel := (4, FP.fadd (zK (R 0)) (cso (tho w s)), ((16 * s + 0 : Nat) : Int), -1, -1, 1 + zS (R 0))
def soR (w : Wv) (s : Nat) (R : Nat → Cel) (o : Nat) : Cel := if zW (R 0) ≠ -1 ∧ 1 ≤ o ∧ bitv s ((o - 1) / 3) = 1 then addP (R o) (soC w s R) else R o
def baR (w : Wv) (T : Nat → Nat → Cel) (s : Nat) : Nat → Cel := if s &&& (s - 1) = 0 then rdR w s else prR w T s s
def tbl (w : Wv) : Nat → Nat → Nat → Cel
  | 0 => fun _ _ => pcN
  | n + 1 => fun s => if s = n + 1 then soR w (n + 1) (baR w (tbl w n) (n + 1)) else tbl w n s
def TT (w : Wv) : Nat → Nat → Cel := tbl w 31
theorem prR_cong {w : Wv} {T T' : Nat → Nat → Cel} {s : Nat} (h : ∀ a, 1 ≤ a → a < s → T a = T' a) : ∀ n, n ≤ s → prR w T s n = prR w T' s n
  | 0, _ => rfl
  | n + 1, hn => by
    rw [prR, prR, prR_cong h n (by omega)]
    rcases Nat.lt_or_ge n 1 with k | k
    · rw [if_neg (fun e => by have := e.1; omega), if_neg (fun e => by have := e.1; omega)]
    · have e1 := h n k (by omega)
      have e2 := h (s - n) (by omega) (by omega)
      unfold pcn stP s3R s2R s1R hC lC mC
      rw [e1, e2]
theorem baR_cong {w : Wv} {T T' : Nat → Nat → Cel} {s : Nat} (h : ∀ a, 1 ≤ a → a < s → T a = T' a) : baR w T s = baR w T' s := by
  unfold baR
  rw [prR_cong h s (Nat.le_refl _)]
theorem tbl_ge {w : Wv} {s : Nat} : ∀ {n : Nat}, s ≤ n → tbl w n s = tbl w s s
  | 0, h => by rw [show s = 0 by omega]
  | n + 1, h => by
    by_cases e : s = n + 1
    · rw [e]
    · show (if s = n + 1 then _ else _) = _
      rw [if_neg e]
      exact tbl_ge (by omega)
theorem TT_eq {w : Wv} {s : Nat} (h1 : 1 ≤ s) (h2 : s ≤ 31) : TT w s = soR w s (baR w (TT w) s) := by
  unfold TT
  rw [tbl_ge h2]
  obtain ⟨n, rfl⟩ : ∃ n, s = n + 1 := ⟨s - 1, by omega⟩
  show (if n + 1 = n + 1 then _ else _) = _
  rw [if_pos rfl, baR_cong (T' := tbl w 31) (fun a _ ha => by rw [tbl_ge (n := n) (by omega), tbl_ge (n := 31) (by omega)])]
/-! bits of sets -/
def kT (s : Nat) : Nat := bitv s 0 + bitv s 1 + bitv s 2 + bitv s 3 + bitv s 4
theorem sub_all : ∀ s : Fin 32, ∀ a : Fin 32, a.val &&& s.val = a.val → 1 ≤ a.val → a.val < s.val → kT a.val + kT (s.val - a.val) = kT s.val ∧ 1 ≤ kT a.val ∧ 1 ≤ kT (s.val - a.val) ∧ (∀ t : Fin 5, (bitv a.val t.val = 1 → bitv s.val t.val = 1 ∧ bitv (s.val - a.val) t.val = 0) ∧ (bitv (s.val - a.val) t.val = 1 → bitv s.val t.val = 1 ∧ bitv a.val t.val = 0)) := by decide +kernel
theorem kT_5 : ∀ s : Fin 32, kT s.val ≤ 5 ∧ (1 ≤ s.val → 1 ≤ kT s.val) := by decide +kernel
theorem leastT_1 : ∀ s : Fin 32, 1 ≤ s.val → leastT s.val < 5 ∧ bitv s.val (leastT s.val) = 1 := by decide +kernel
theorem jbF_spec {w : Wv} {a b : Nat} : ∀ {n j : Nat}, jbF w a b n j = -1 ∨ ∃ i : Nat, jbF w a b n j = (i : Int) ∧ j ≤ i ∧ i < j + n ∧ btw w a b i
  | 0, _ => Or.inl rfl
  | n + 1, j => by
    rw [jbF]
    split
    · rename_i h; exact Or.inr ⟨j, rfl, Nat.le_refl _, by omega, h⟩
    · rcases jbF_spec (w := w) (a := a) (b := b) (n := n) (j := j + 1) with h | ⟨i, h1, h2, h3, h4⟩
      · exact Or.inl h
      · exact Or.inr ⟨i, h1, by omega, by omega, h4⟩
theorem jB_spec {w : Wv} {a b : Nat} (h : jB w a b ≠ -1) : ∃ i : Nat, jB w a b = (i : Int) ∧ i < wnj w ∧ btw w a b i := by
  rcases jbF_spec (w := w) (a := a) (b := b) (n := wnj w) (j := 0) with h' | ⟨i, h1, h2, h3, h4⟩
  · exact absurd h' h
  · exact ⟨i, h1, by omega, h4⟩
/-- facts of a split -/
theorem split_f {w : Wv} (hW : OKW w) {s a : Nat} (hs : s ≤ 31) (h1 : 1 ≤ a) (h2 : a < s) (h3 : a &&& s = a) (hj : jB w a (s - a) ≠ -1) : ∃ i : Nat, jB w a (s - a) = (i : Int) ∧ i < wnj w ∧ i ≤ 7 ∧ (bitv a (wpl w a i / 3) = 1 ∧ bitv (s - a) (wpl w (s - a) i / 3) = 1) ∧ (wpl w a i ≤ 14 ∧ wpl w (s - a) i ≤ 14) := by
  obtain ⟨i, e, hi, hb⟩ := jB_spec hj
  have hjo := hW.2.2.2 i hi
  have hj8 := hW.2.2.1
  have hf := (sub_all ⟨s, by omega⟩ ⟨a, by omega⟩ h3 h1 h2).2.2.2
  have f1 := hf ⟨wja w i / 3, by omega⟩
  have f2 := hf ⟨wjb w i / 3, by omega⟩
  dsimp only at f1 f2
  refine ⟨i, e, hi, by omega, ?_, ?_⟩
  · rcases hb with ⟨b1, b2⟩ | ⟨b1, b2⟩
    · refine ⟨by unfold wpl; rw [if_pos b1]; exact b1, by unfold wpl; rw [if_neg (by have := f1.1 b1; omega)]; exact b2⟩
    · refine ⟨by unfold wpl; rw [if_neg (by have := f1.2 b1; omega)]; exact b2, by unfold wpl; rw [if_pos b1]; exact b1⟩
  · unfold wpl
    constructor <;> split <;> omega
/-! bounds -/
theorem fB_add2 {x y : UInt32} {i : Nat} (hx : fB x (2 ^ i * fu)) (hy : fB y (2 ^ i * fu)) (hi : i ≤ 125) : fB (FP.fadd x y) (2 ^ (i + 1) * fu) := by
  have e : 2 ^ i * fu + 2 ^ i * fu = 2 ^ (i + 1) * fu := by rw [Nat.pow_succ, ← Nat.add_mul, Nat.mul_two]
  have := fB_add hx hy (by rw [e]; exact fR_pow (by omega)) (by rw [e]; exact fp_top (by omega))
  rwa [e] at this
theorem fB_up {x : UInt32} {i j : Nat} (hx : fB x (2 ^ i * fu)) (h : i ≤ j) : fB x (2 ^ j * fu) := hx.mono (Nat.mul_le_mul_right _ (Nat.pow_le_pow_right (by decide) h))
theorem fB_mul2 {x y : UInt32} {i j : Nat} (hx : fB x (2 ^ i * fu)) (hy : fB y (2 ^ j * fu)) (h : i + j ≤ 126) : fB (FP.fmul x y) (2 ^ (i + j) * fu) :=
  fB_mul hx hy (fR_pow h) (Nat.le_of_eq (by rw [Nat.pow_add]; ac_rfl)) (fp_top h)
def PO (c : Cel) (K S : Nat) : Prop := zW c = -1 ∨ ((0 ≤ zW c ∧ zW c ≤ 4) ∧ fB (zK c) (2 ^ K * fu) ∧ (1 ≤ zS c ∧ zS c ≤ S) ∧ (-1 ≤ zJ c ∧ zJ c ≤ 7) ∧ (-1 ≤ zL c ∧ zL c < 512) ∧ (-1 ≤ zR c ∧ zR c < 512))
theorem PO.mono {c : Cel} {K S K' S' : Nat} (h : PO c K S) (hK : K ≤ K') (hS : S ≤ S') : PO c K' S' := h.imp id (fun ⟨a, b, d, e⟩ => ⟨a, fB_up b hK, ⟨d.1, Nat.le_trans d.2 hS⟩, e⟩)
theorem PO_add {c n : Cel} {K S : Nat} (h : PO c K S) (h' : PO n K S) : PO (addP c n) K S := by
  unfold addP; split
  · exact h'
  · exact h
theorem addP_W {c n : Cel} (h : zW n ≠ -1) : zW (addP c n) ≠ -1 := by
  unfold addP; split
  · exact h
  · rename_i e; exact fun q => e (Or.inl q)
theorem addP_W' {c n : Cel} (h : zW c ≠ -1) (hn : zW n ≠ -1) : zW (addP c n) ≠ -1 := addP_W hn
/-- a set's row is within its bounds, and has a way for each order where it has one for any -/
def TPO (R : Nat → Cel) (k : Nat) (s : Nat) : Prop := (∀ o, o < 16 → PO (R o) (25 * k + (if o = 0 then 0 else 1)) (4 * k - 3 + (if o = 0 then 0 else 1))) ∧ (zW (R 0) ≠ -1 → ∀ o, o < 16 → inO s o → zW (R o) ≠ -1)
theorem TPO.get {R : Nat → Cel} {k s o : Nat} (h : TPO R k s) (ho : o < 16) (h0 : zW (R 0) ≠ -1) (hi : inO s o) : zW (R o) ≠ -1 ∧ fB (zK (R o)) (2 ^ (25 * k + 1) * fu) ∧ (1 ≤ zS (R o) ∧ zS (R o) ≤ 4 * k - 3 + 1) ∧ (o = 0 → fB (zK (R o)) (2 ^ (25 * k) * fu) ∧ zS (R o) ≤ 4 * k - 3) := by
  have hw := h.2 h0 o ho hi
  rcases h.1 o ho with e | ⟨-, e2, e3, -⟩
  · exact absurd e hw
  · refine ⟨hw, fB_up e2 (by split <;> omega), ⟨e3.1, by split at e3 <;> omega⟩, fun e0 => ?_⟩
    subst e0
    exact ⟨by simpa using e2, by simpa using e3.2⟩
theorem hC_PO {w : Wv} (hW : OKW w) {T : Nat → Nat → Cel} {a b ka kb : Nat} {j : Int} (ha : TPO (T a) ka a) (hb : TPO (T b) kb b) (h0a : zW (T a 0) ≠ -1) (h0b : zW (T b 0) ≠ -1) (k1 : 1 ≤ ka ∧ 1 ≤ kb ∧ ka + kb ≤ 5) (hj : 0 ≤ j ∧ j ≤ 7) (hab : a < 32 ∧ b < 32) : PO (hC w T a b j) (25 * (ka + kb)) (4 * (ka + kb) - 3) := by
  have g1 := (ha.get (o := 0) (by omega) h0a (Or.inl rfl))
  have g2 := (hb.get (o := 0) (by omega) h0b (Or.inl rfl))
  have t1 := tho_B hW a
  have t2 := tho_B hW b
  have t3 := tho_B hW (a + b)
  refine Or.inr ⟨⟨by show (0 : Int) ≤ 1; decide, by show (1 : Int) ≤ 4; decide⟩, ?_, ⟨by show 1 ≤ 1 + _ + _; omega, by show 1 + zS (T a 0) + zS (T b 0) ≤ _; have := (g1.2.2.2 rfl).2; have := (g2.2.2.2 rfl).2; omega⟩, ⟨by show -1 ≤ j; omega, hj.2⟩, ⟨by show -1 ≤ ((16 * a + 0 : Nat) : Int); omega, by show ((16 * a + 0 : Nat) : Int) < 512; omega⟩, ⟨by show -1 ≤ ((16 * b + 0 : Nat) : Int); omega, by show ((16 * b + 0 : Nat) : Int) < 512; omega⟩⟩
  have m2 : fB (FP.fmul FP.fconst2 (tho w b)) (2 ^ 21 * fu) := fB_mul2 (i := 1) (j := 20) (by rw [Nat.pow_one]; exact fB_2) t2 (by decide)
  have m3 := fB_add2 (fB_add2 (i := 21) (fB_up t1 (by decide)) m2 (by decide)) (fB_up t3 (by decide)) (by decide)
  have m1 := fB_add2 (i := 25 * (ka + kb - 1)) (fB_up (g1.2.2.2 rfl).1 (by omega)) (fB_up (g2.2.2.2 rfl).1 (by omega)) (by omega)
  exact fB_up (fB_add2 (i := 25 * (ka + kb - 1) + 1) m1 (fB_up m3 (by omega)) (by omega)) (by omega)
theorem lC_PO {w : Wv} (hW : OKW w) {T : Nat → Nat → Cel} {a b ka kb o : Nat} {j : Int} (ha : TPO (T a) ka a) (hb : TPO (T b) kb b) (h0a : zW (T a 0) ≠ -1) (h0b : zW (T b 0) ≠ -1) (k1 : 1 ≤ ka ∧ 1 ≤ kb ∧ ka + kb ≤ 5) (hj : 0 ≤ j ∧ j ≤ 7) (hab : a < 32 ∧ b < 32) (ho : o < 16) (hi : inO a o) : PO (lC w T a b j o) (25 * (ka + kb)) (4 * (ka + kb) - 3) := by
  have g1 := (ha.get ho h0a hi)
  have g2 := (hb.get (o := 0) (by omega) h0b (Or.inl rfl))
  refine Or.inr ⟨⟨by show (0 : Int) ≤ 2; decide, by show (2 : Int) ≤ 4; decide⟩, ?_, ⟨by show 1 ≤ 1 + _ + _; omega, by show 1 + zS (T a o) + zS (T b 0) ≤ _; have := g1.2.2.1.2; have := (g2.2.2.2 rfl).2; omega⟩, ⟨by show -1 ≤ j; omega, hj.2⟩, ⟨by show -1 ≤ ((16 * a + o : Nat) : Int); omega, by show ((16 * a + o : Nat) : Int) < 512; omega⟩, ⟨by show -1 ≤ ((16 * b + 0 : Nat) : Int); omega, by show ((16 * b + 0 : Nat) : Int) < 512; omega⟩⟩
  have m2 := fB_mul2 (tho_B hW a) (g2.2.2.2 rfl).1 (by omega)
  exact fB_up (fB_add2 (i := 25 * (ka + kb - 1) + 20) (fB_up g1.2.1 (by omega)) (fB_up m2 (by omega)) (by omega)) (by omega)
theorem mC_PO {w : Wv} (hW : OKW w) {T : Nat → Nat → Cel} {a b ka kb : Nat} {j : Int} (ha : TPO (T a) ka a) (hb : TPO (T b) kb b) (h0a : zW (T a 0) ≠ -1) (h0b : zW (T b 0) ≠ -1) (k1 : 1 ≤ ka ∧ 1 ≤ kb ∧ ka + kb ≤ 5) (hj : 0 ≤ j ∧ j ≤ 7) (hab : a < 32 ∧ b < 32) (ho : mO w a j < 16 ∧ mO w b j < 16) (hi : inO a (mO w a j) ∧ inO b (mO w b j)) : PO (mC w T a b j) (25 * (ka + kb)) (4 * (ka + kb) - 3) := by
  have g1 := (ha.get ho.1 h0a hi.1)
  have g2 := (hb.get ho.2 h0b hi.2)
  refine Or.inr ⟨⟨by show (0 : Int) ≤ 3; decide, by show (3 : Int) ≤ 4; decide⟩, ?_, ⟨by show 1 ≤ 1 + _ + _; omega, by show 1 + zS (T a (mO w a j)) + zS (T b (mO w b j)) ≤ _; have := g1.2.2.1.2; have := g2.2.2.1.2; omega⟩, ⟨by show -1 ≤ j; omega, hj.2⟩, ⟨by show -1 ≤ ((16 * a + mO w a j : Nat) : Int); omega, by show ((16 * a + mO w a j : Nat) : Int) < 512; omega⟩, ⟨by show -1 ≤ ((16 * b + mO w b j : Nat) : Int); omega, by show ((16 * b + mO w b j : Nat) : Int) < 512; omega⟩⟩
  have m3 := fB_add2 (i := 21) (fB_add2 (i := 20) (tho_B hW a) (tho_B hW b) (by decide)) (fB_up (tho_B hW (a + b)) (by decide)) (by decide)
  have m1 := fB_add2 (i := 25 * (ka + kb - 1) + 1) (fB_up g1.2.1 (by omega)) (fB_up g2.2.1 (by omega)) (by omega)
  exact fB_up (fB_add2 (i := 25 * (ka + kb - 1) + 2) m1 (fB_up m3 (by omega)) (by omega)) (by omega)
/-- a row of pairs: bounds, and any where ordered -/
def RPO (R : Nat → Cel) (k : Nat) : Prop := ∀ o, o < 16 → PO (R o) (25 * k) (4 * k - 3)
theorem PO_N {K S : Nat} : PO pcN K S := Or.inl rfl
theorem stP_PO {w : Wv} (hW : OKW w) {T : Nat → Nat → Cel} {a b ka kb : Nat} {j : Int} {R : Nat → Cel} (ha : TPO (T a) ka a) (hb : TPO (T b) kb b) (h0a : zW (T a 0) ≠ -1) (h0b : zW (T b 0) ≠ -1) (k1 : 1 ≤ ka ∧ 1 ≤ kb ∧ ka + kb ≤ 5) (hj : 0 ≤ j ∧ j ≤ 7) (hab : a < 32 ∧ b < 32) (ho : mO w a j < 16 ∧ mO w b j < 16) (hi : inO a (mO w a j) ∧ inO b (mO w b j)) (hR : RPO R (ka + kb)) : RPO (s1R w T a b j R) (ka + kb) ∧ (∀ m, RPO (s2R w T a b j (s1R w T a b j R) m) (ka + kb)) ∧ RPO (stP w T a b j R) (ka + kb) := by
  have r1 : RPO (s1R w T a b j R) (ka + kb) := fun o h => by
    unfold s1R; split
    · exact PO_add (hR o h) (hC_PO hW ha hb h0a h0b k1 hj hab)
    · exact hR o h
  have r2 : ∀ m, RPO (s2R w T a b j (s1R w T a b j R) m) (ka + kb) := fun m o h => by
    unfold s2R; split
    · rename_i e; exact PO_add (r1 o h) (lC_PO hW ha hb h0a h0b k1 hj hab h e.2)
    · exact r1 o h
  refine ⟨r1, r2, fun o h => ?_⟩
  unfold stP s3R; split
  · exact PO_add (r2 16 o h) (mC_PO hW ha hb h0a h0b k1 hj hab ho hi)
  · exact r2 16 o h
theorem pcn_f {w : Wv} (hW : OKW w) {T : Nat → Nat → Cel} {s n : Nat} (hs : s ≤ 31) (hn : n < s) (h : pcn w T s n) : (kT n + kT (s - n) = kT s ∧ 1 ≤ kT n ∧ 1 ≤ kT (s - n) ∧ kT n + kT (s - n) ≤ 5) ∧ (0 ≤ jB w n (s - n) ∧ jB w n (s - n) ≤ 7 ∧ (jB w n (s - n)).toNat < wnj w) ∧ (mO w n (jB w n (s - n)) < 16 ∧ mO w (s - n) (jB w n (s - n)) < 16) ∧ (inO n (mO w n (jB w n (s - n))) ∧ inO (s - n) (mO w (s - n) (jB w n (s - n)))) := by
  obtain ⟨h1, h2, h3, -, -⟩ := h
  obtain ⟨i, e, hi, hi7, hb, hl⟩ := split_f hW hs h1 hn h2 h3
  have hf := sub_all ⟨s, by omega⟩ ⟨n, by omega⟩ h2 h1 hn
  have h5 := (kT_5 ⟨s, by omega⟩).1
  dsimp only at hf h5
  rw [e]
  unfold mO inO
  rw [Int.toNat_natCast]
  exact ⟨⟨hf.1, hf.2.1, hf.2.2.1, by omega⟩, ⟨by omega, by omega, hi⟩, ⟨by omega, by omega⟩, ⟨Or.inr (by rw [Nat.add_sub_cancel]; exact hb.1), Or.inr (by rw [Nat.add_sub_cancel]; exact hb.2)⟩⟩
theorem prR_PO {w : Wv} (hW : OKW w) {T : Nat → Nat → Cel} {s : Nat} (hs : s ≤ 31) (hT : ∀ a, 1 ≤ a → a < s → TPO (T a) (kT a) a) : ∀ n, n ≤ s → RPO (prR w T s n) (kT s)
  | 0, _ => fun o _ => PO_N
  | n + 1, hn => by
    have ih := prR_PO hW hs hT n (by omega)
    rw [prR]
    split
    · rename_i h
      obtain ⟨hk, hj, hm, hi⟩ := pcn_f hW hs (by omega) h
      rw [← hk.1] at ih ⊢
      have h1 := h.1
      exact (stP_PO hW (hT n h1 (by omega)) (hT (s - n) (by omega) (by omega)) h.2.2.2.1 h.2.2.2.2 ⟨hk.2.1, hk.2.2.1, hk.2.2.2⟩ ⟨hj.1, hj.2.1⟩ ⟨by omega, by omega⟩ hm hi ih).2.2
    · exact ih
theorem rdR_PO {w : Wv} (hW : OKW w) {s : Nat} (hs : s ≤ 31) (h1 : 1 ≤ s) : RPO (rdR w s) (kT s) := fun o ho => by
  unfold rdR
  have hl := leastT_1 ⟨s, by omega⟩ h1
  have hk := (kT_5 ⟨s, by omega⟩).2 h1
  dsimp only at hl hk
  have hto := hW.1 _ hl.1
  split
  · refine Or.inr ⟨⟨by show (0 : Int) ≤ 0; decide, by show (0 : Int) ≤ 4; decide⟩, ?_, ⟨Nat.le_refl _, by show 1 ≤ _; omega⟩, ⟨by show (-1 : Int) ≤ -1; decide, by show (-1 : Int) ≤ 7; decide⟩, ⟨by show (-1 : Int) ≤ -1; decide, by show (-1 : Int) < 512; decide⟩, ⟨by show (-1 : Int) ≤ -1; decide, by show (-1 : Int) < 512; decide⟩⟩
    exact fB_up (i := 4) ((fB_i2f (by omega)).mono (Nat.mul_le_mul_right _ (by omega))) (by omega)
  · exact PO_N
theorem baR_PO {w : Wv} (hW : OKW w) {T : Nat → Nat → Cel} {s : Nat} (hs : s ≤ 31) (h1 : 1 ≤ s) (hT : ∀ a, 1 ≤ a → a < s → TPO (T a) (kT a) a) : RPO (baR w T s) (kT s) := by
  unfold baR; split
  · exact rdR_PO hW hs h1
  · exact prR_PO hW hs hT s (Nat.le_refl _)
theorem soC_PO {w : Wv} (hW : OKW w) {s : Nat} {R : Nat → Cel} (hs : s ≤ 31) (h1 : 1 ≤ s) (hR : RPO R (kT s)) (h0 : zW (R 0) ≠ -1) : PO (soC w s R) (25 * kT s + 1) (4 * kT s - 3 + 1) := by
  have hk := kT_5 ⟨s, by omega⟩
  dsimp only at hk
  have hk1 := hk.2 h1
  rcases hR 0 (by omega) with e | ⟨-, e2, e3, -⟩
  · exact absurd e h0
  · refine Or.inr ⟨⟨by show (0 : Int) ≤ 4; decide, by show (4 : Int) ≤ 4; decide⟩, ?_, ⟨by show 1 ≤ 1 + _; omega, by show 1 + zS (R 0) ≤ _; omega⟩, ⟨by show (-1 : Int) ≤ -1; decide, by show (-1 : Int) ≤ 7; decide⟩, ⟨by show -1 ≤ ((16 * s + 0 : Nat) : Int); omega, by show ((16 * s + 0 : Nat) : Int) < 512; omega⟩, ⟨by show (-1 : Int) ≤ -1; decide, by show (-1 : Int) < 512; decide⟩⟩
    exact fB_add2 e2 (fB_up (cso_B (tho_B hW s) (by decide)) (by omega)) (by omega)
theorem soR_TPO {w : Wv} (hW : OKW w) {s : Nat} {R : Nat → Cel} (hs : s ≤ 31) (h1 : 1 ≤ s) (hR : RPO R (kT s)) : TPO (soR w s R) (kT s) s := by
  have e0 : soR w s R 0 = R 0 := by unfold soR; rw [if_neg (fun e => absurd e.2.1 (by omega))]
  refine ⟨fun o ho => ?_, fun h0 o ho hi => ?_⟩
  · unfold soR; split
    · rename_i e
      rw [if_neg (by omega)]
      exact PO_add ((hR o ho).mono (by omega) (by omega)) (soC_PO hW hs h1 hR e.1)
    · exact (hR o ho).mono (by omega) (by omega)
  · rw [e0] at h0
    rcases hi with hi | hi
    · subst hi; rw [e0]; exact h0
    · unfold soR
      by_cases h : 1 ≤ o
      · rw [if_pos ⟨h0, h, hi⟩]
        exact addP_W (show (4 : Int) ≠ -1 by decide)
      · rw [if_neg (fun e => h e.2.1), show o = 0 by omega]; exact h0
theorem TT_PO {w : Wv} (hW : OKW w) : ∀ (n s : Nat), s ≤ n → 1 ≤ s → s ≤ 31 → TPO (TT w s) (kT s) s
  | 0, s, h, h1, _ => absurd h (by omega)
  | n + 1, s, h, h1, h2 => by
    rw [TT_eq h1 h2]
    exact soR_TPO hW h2 h1 (baR_PO hW h2 h1 (fun a ha has => TT_PO hW n a (by omega) ha (by omega)))

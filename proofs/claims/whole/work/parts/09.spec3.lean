/-! SPEC: bits of sets, the world's view -/
def bitv (s t : Nat) : Nat := s / 2 ^ t % 2
theorem bitv_01 (s t : Nat) : bitv s t = 0 ∨ bitv s t = 1 := by unfold bitv; omega
theorem sh_amt : ∀ n, n < 32 → ((iZ ((n : Nat) : Int) &&& 31).toBitVec.smod 32).toNat = n := by decide +kernel
theorem iZ_nI (n : Nat) : iZ (n : Int) = nI n := rfl
theorem shr_raw {s t : Nat} {zs zt : Int} (hzs : zs = (s : Int)) (hzt : zt = (t : Int)) (hs : s < 2147483648) (ht : t < 32) : iZ zs >>> (iZ zt &&& 31) = iZ ((s / 2 ^ t : Nat) : Int) := by
  subst hzs; subst hzt
  rw [iZ_nI s, iZ_nI (s / 2 ^ t)]
  exact pk_shrN (by omega) _ t (sh_amt t ht)
theorem and1_raw {s : Nat} (hs : s < 2147483648) : iZ (s : Int) &&& iZ 1 = iZ ((s % 2 : Nat) : Int) := by
  have := pk_andN (n := s) (by omega) (m := iZ 1) 1 (by decide)
  rw [Nat.pow_one] at this
  exact this
theorem bit_raw {s t : Nat} {zs zt : Int} (hzs : zs = (s : Int)) (hzt : zt = (t : Int)) (hs : s < 2147483648) (ht : t < 32) : (iZ zs >>> (iZ zt &&& 31)) &&& iZ 1 = iZ ((bitv s t : Nat) : Int) := by
  rw [shr_raw hzs hzt hs ht]
  exact and1_raw (Nat.lt_of_le_of_lt (Nat.div_le_self _ _) hs)
def leastT (s : Nat) : Nat := if bitv s 0 = 1 then 0 else if bitv s 1 = 1 then 1 else if bitv s 2 = 1 then 2 else if bitv s 3 = 1 then 3 else 4
theorem leastT_of {s t : Nat} (h : ∀ u, u < t → bitv s u = 0) (ht : t ≤ 4) (h2 : t = 4 ∨ bitv s t = 1) : t = leastT s := by
  unfold leastT
  rcases (show t = 0 ∨ t = 1 ∨ t = 2 ∨ t = 3 ∨ t = 4 by omega) with rfl | rfl | rfl | rfl | rfl
  · rw [if_pos (by omega)]
  · have := h 0 (by omega); rw [if_neg (by omega), if_pos (by omega)]
  · have := h 0 (by omega); have := h 1 (by omega); rw [if_neg (by omega), if_neg (by omega), if_pos (by omega)]
  · have := h 0 (by omega); have := h 1 (by omega); have := h 2 (by omega); rw [if_neg (by omega), if_neg (by omega), if_neg (by omega), if_pos (by omega)]
  · have := h 0 (by omega); have := h 1 (by omega); have := h 2 (by omega); have := h 3 (by omega); rw [if_neg (by omega), if_neg (by omega), if_neg (by omega), if_neg (by omega)]
theorem leastT_le (s : Nat) : leastT s ≤ 4 := by unfold leastT; repeat' split
                                                 all_goals omega
/-- how many binary digits an int above 0 has; 0 for others -/
def digN (w : Int32) : Nat := if w.toInt ≤ 0 then 0 else Nat.log2 w.toInt.toNat + 1
theorem digN_le (w : Int32) : digN w ≤ 31 := by
  unfold digN
  split
  · omega
  · have h := R32_of w
    have h1 : w.toInt.toNat < 2 ^ 31 := by omega
    have h2 := (Nat.log2_lt (by omega : w.toInt.toNat ≠ 0)).mpr h1
    omega
theorem shr_pos (w : Int32) {d : Nat} {zd : Int} (hzd : zd = (d : Int)) (hd : d < 31) : 0 < w >>> (iZ zd &&& 31) ↔ d < digN w := by
  subst hzd
  have h1 := pk_shr w (iZ (d : Int) &&& 31) d (sh_amt d (by omega))
  rw [Int32.lt_iff_toInt_lt, h1]
  have h0 : (0 : Int32).toInt = 0 := by decide
  rw [h0, Int.shiftRight_eq_div_pow]
  unfold digN
  by_cases hw : w.toInt ≤ 0
  · rw [if_pos hw]
    constructor
    · intro h
      have : w.toInt / ((2 ^ d : Nat) : Int) ≤ 0 := Int.ediv_nonpos_of_nonpos_of_neg hw (by exact_mod_cast Nat.two_pow_pos d)
      omega
    · intro h; omega
  · rw [if_neg hw]
    obtain ⟨n, hn⟩ := Int.eq_ofNat_of_zero_le (by omega : 0 ≤ w.toInt)
    rw [hn, ← Int.natCast_ediv]
    have hn0 : n ≠ 0 := by omega
    rw [Int.toNat_natCast]
    constructor
    · intro h
      have h3 : 0 < n / 2 ^ d := by omega
      have h4 : 2 ^ d ≤ n := (Nat.div_pos_iff).mp h3 |>.2
      have := (Nat.le_log2 hn0).mpr h4
      omega
    · intro h
      have h4 : 2 ^ d ≤ n := (Nat.le_log2 hn0).mp (by omega)
      have : 0 < n / 2 ^ d := Nat.div_pos h4 (Nat.two_pow_pos d)
      omega
/-! the view of a world: lines 0, values 1 (3 * line + column), buckets 2, stored and 1: 3, filters 4 (places 5, signs 6, values 7), joins 8 (first 9, second 10); the seed -/
abbrev Wv : Type := (Nat → Nat → Nat → Nat) × Int
def wl (w : Wv) (t : Nat) : Nat := w.1 0 t 0
def wv (w : Wv) (t i c : Nat) : Nat := w.1 1 t (i * 3 + c)
def wb (w : Wv) (t : Nat) : Nat := w.1 2 t 0
def wst (w : Wv) (t : Nat) : Nat := w.1 3 t 0
def wnf (w : Wv) : Nat := w.1 4 0 0
def wfp (w : Wv) (f : Nat) : Nat := w.1 5 f 0
def wfs (w : Wv) (f : Nat) : Nat := w.1 6 f 0
def wfv (w : Wv) (f : Nat) : Nat := w.1 7 f 0
def wnj (w : Wv) : Nat := w.1 8 0 0
def wja (w : Wv) (j : Nat) : Nat := w.1 9 j 0
def wjb (w : Wv) (j : Nat) : Nat := w.1 10 j 0
def wsd (w : Wv) : Int := w.2
def OKW (w : Wv) : Prop := (∀ t, t < 5 → wl w t ≤ 16 ∧ (0 < wb w t ∧ wb w t ≤ 8) ∧ wst w t ≤ 3 ∧ ∀ i, i < wl w t → ∀ c, c < 3 → wv w t i c ≤ 99) ∧ (wnf w ≤ 8 ∧ ∀ f, f < wnf w → wfp w f ≤ 14 ∧ wfs w f ≤ 2 ∧ wfv w f ≤ 99) ∧ (wnj w ≤ 8 ∧ ∀ j, j < wnj w → wja w j ≤ 14 ∧ wjb w j ≤ 14 ∧ wja w j / 3 < wjb w j / 3)
/-- the class's world at the cells from b on -/
def XW (b : Nat) (σ : St) (w : Wv) : Prop := (∀ t, t < 5 → σ.1 (b + 2 + 2 * t) 1 = (wl w t : Int) ∧ σ.1 (b + 2 + 2 * t) 2 = (wb w t : Int) ∧ σ.1 (b + 2 + 2 * t) 3 = (wst w t : Int) - 1 ∧ ∀ i, i < wl w t → ∀ c, c < 3 → σ.1 (b + 3 + 2 * t) (i * 3 + c) = (wv w t i c : Int)) ∧
  (σ.1 b 4 = (wnf w : Int) ∧ ∀ f, f < wnf w → σ.1 (b + 12) f = (wfp w f : Int) ∧ σ.1 (b + 13) f = (wfs w f : Int) ∧ σ.1 (b + 14) f = (wfv w f : Int)) ∧
  (σ.1 b 7 = (wnj w : Int) ∧ ∀ j, j < wnj w → σ.1 (b + 15) j = (wja w j : Int) ∧ σ.1 (b + 16) j = (wjb w j : Int)) ∧ σ.1 b 8 = wsd w
theorem XW.fr {b : Nat} {σ σ' : St} {w : Wv} {S : Nat → Prop} (h : XW b σ w) (hF : Fr S σ σ') (hS : ∀ k, b ≤ k → k ≤ b + 16 → ¬ S k) : XW b σ' w := by
  obtain ⟨h1, h2, h3, h4⟩ := h
  refine ⟨fun t ht => ?_, ⟨?_, fun f hf => ?_⟩, ⟨?_, fun j hj => ?_⟩, ?_⟩
  · obtain ⟨a1, a2, a3, a4⟩ := h1 t ht
    have e1 := hF.1 (b + 2 + 2 * t) (hS _ (by omega) (by omega))
    have e2 := hF.1 (b + 3 + 2 * t) (hS _ (by omega) (by omega))
    rw [e1, e2]
    exact ⟨a1, a2, a3, a4⟩
  · rw [hF.1 b (hS _ (by omega) (by omega))]; exact h2.1
  · rw [hF.1 (b + 12) (hS _ (by omega) (by omega)), hF.1 (b + 13) (hS _ (by omega) (by omega)), hF.1 (b + 14) (hS _ (by omega) (by omega))]
    exact h2.2 f hf
  · rw [hF.1 b (hS _ (by omega) (by omega))]; exact h3.1
  · rw [hF.1 (b + 15) (hS _ (by omega) (by omega)), hF.1 (b + 16) (hS _ (by omega) (by omega))]
    exact h3.2 j hj
  · rw [hF.1 b (hS _ (by omega) (by omega))]; exact h4
/-- what the thoughts rest on -/
def wcol (w : Wv) (p : Nat) : Nat → Int := fun i => (wv w (p / 3) i (p % 3) : Int)
def wsrt (w : Wv) (p : Nat) : Nat → Int := srt (wcol w p) (wl w (p / 3))
def wdif (w : Wv) (p : Nat) : Nat := dif (wsrt w p) 0 (wl w (p / 3))
def wshr (w : Wv) (p : Nat) (sg v : Int) : UInt32 := shr (wsrt w p) (wl w (p / 3)) (wb w (p / 3)) sg v
theorem wcol_r {w : Wv} (h : OKW w) {p : Nat} (hp : p ≤ 14) : ∀ i, i < wl w (p / 3) → 0 ≤ wcol w p i ∧ wcol w p i ≤ 99 := by
  intro i hi
  have := (h.1 (p / 3) (by omega)).2.2.2 i hi (p % 3) (Nat.mod_lt _ (by omega))
  unfold wcol
  omega
theorem wsrt_r {w : Wv} (h : OKW w) {p : Nat} (hp : p ≤ 14) : SR (wsrt w p) (wl w (p / 3)) := srt_rng (wcol_r h hp)
theorem wdif_le {w : Wv} (h : OKW w) {p : Nat} (hp : p ≤ 14) : wdif w p ≤ 16 := by
  have h1 := dif_le (wsrt w p) 0 (wl w (p / 3))
  have h2 := (h.1 (p / 3) (by omega)).1
  unfold wdif
  omega
theorem wshr_B {w : Wv} (h : OKW w) {p : Nat} (hp : p ≤ 14) {sg v : Int} : fB (wshr w p sg v) fu := shr_B (wsrt_r h hp) (h.1 (p / 3) (by omega)).2.1.1 (h.1 (p / 3) (by omega)).1
def wjs (w : Wv) (j : Nat) : UInt32 := if max (wdif w (wja w j)) (wdif w (wjb w j)) = 0 then FP.fconst0 else FP.fdiv FP.fconst1 (FP.i2f (iZ ((max (wdif w (wja w j)) (wdif w (wjb w j)) : Nat) : Int)))
theorem wjs_B {w : Wv} (h : OKW w) {j : Nat} (hj : j < wnj w) : fB (wjs w j) fu := by
  obtain ⟨h1, h2, -⟩ := h.2.2.2 j hj
  have d1 := wdif_le h h1
  have d2 := wdif_le h h2
  unfold wjs
  split
  · exact fB_0.mono (Nat.zero_le _)
  · exact fB_quot (a := 1) (by rw [Nat.one_mul]; exact fB_1) (by omega) (by omega) (by omega)
/-- THOUGHT of a table: over the first f filters -/
def thF (w : Wv) (t : Nat) : Nat → UInt32
  | 0 => FP.i2f (iZ (wl w t : Int))
  | f + 1 => if wfp w f / 3 = t then FP.fmul (thF w t f) (wshr w (wfp w f) (wfs w f) (wfv w f)) else thF w t f
theorem thF_B {w : Wv} (h : OKW w) {t : Nat} (ht : t < 5) : ∀ f, f ≤ wnf w → fB (thF w t f) (16 * fu)
  | 0, _ => (fB_i2f (by have := (h.1 t ht).1; omega)).mono (Nat.mul_le_mul_right _ (h.1 t ht).1)
  | f + 1, hf => by
    have ih := thF_B h ht f (by omega)
    unfold thF
    split
    · exact fB_muls ih (wshr_B h (h.2.1.2 f (by omega)).1) (by omega)
    · exact ih
def tht (w : Wv) (t : Nat) : UInt32 := thF w t (wnf w)
theorem tht_B {w : Wv} (h : OKW w) {t : Nat} (ht : t < 5) : fB (tht w t) (16 * fu) := thF_B h ht _ (Nat.le_refl _)
/-- THOUGHT of a set: over the first t tables, over the first j joins -/
def toT (w : Wv) (s : Nat) : Nat → UInt32
  | 0 => FP.fconst1
  | t + 1 => if bitv s t = 1 then FP.fmul (toT w s t) (tht w t) else toT w s t
theorem fB_mulp {x y : UInt32} {a b : Nat} (hx : fB x (2 ^ a * fu)) (hy : fB y (2 ^ b * fu)) (h : a + b ≤ 126) : fB (FP.fmul x y) (2 ^ (a + b) * fu) := fB_mul hx hy (fR_pow h) (by rw [Nat.pow_add]; exact Nat.le_of_eq (by ac_rfl)) (fp_top h)
theorem toT_B {w : Wv} (h : OKW w) {s : Nat} : ∀ t, t ≤ 5 → fB (toT w s t) (2 ^ (4 * t) * fu)
  | 0, _ => by rw [Nat.mul_zero, Nat.pow_zero, Nat.one_mul]; exact fB_1
  | t + 1, ht => by
    have ih := toT_B (s := s) h t (by omega)
    unfold toT
    split
    · have := fB_mulp (b := 4) ih (tht_B h (t := t) (by omega)) (by omega)
      rwa [show 4 * t + 4 = 4 * (t + 1) by omega] at this
    · exact ih.mono (Nat.mul_le_mul_right _ (Nat.pow_le_pow_right (by omega) (by omega)))
def toJ (w : Wv) (s : Nat) : Nat → UInt32
  | 0 => toT w s 5
  | j + 1 => if bitv s (wja w j / 3) = 1 ∧ bitv s (wjb w j / 3) = 1 then FP.fmul (toJ w s j) (wjs w j) else toJ w s j
theorem toJ_B {w : Wv} (h : OKW w) {s : Nat} : ∀ j, j ≤ wnj w → fB (toJ w s j) (2 ^ 20 * fu)
  | 0, _ => toT_B h 5 (by omega)
  | j + 1, hj => by
    have ih := toJ_B (s := s) h j (by omega)
    unfold toJ
    split
    · exact fB_muls ih (wjs_B h (by omega)) (by omega)
    · exact ih
def tho (w : Wv) (s : Nat) : UInt32 := toJ w s (wnj w)
theorem tho_B {w : Wv} (h : OKW w) (s : Nat) : fB (tho w s) (2 ^ 20 * fu) := toJ_B h _ (Nat.le_refl _)
def cso (x : UInt32) : UInt32 := FP.fmul x (FP.i2f (iZ ((digN (FP.f2i x) : Nat) : Int)))
theorem cso_B {x : UInt32} {a : Nat} (h : fB x (2 ^ a * fu)) (ha : a ≤ 100) : fB (cso x) (2 ^ (a + 5) * fu) := by
  have h1 := digN_le (FP.f2i x)
  exact fB_mulp h ((fB_i2f (by omega)).mono (Nat.mul_le_mul_right _ (by omega))) (by omega)

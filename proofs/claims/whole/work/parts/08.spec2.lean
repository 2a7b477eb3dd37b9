/-! SPEC of the shares -/
theorem bix_lt (n m : Nat) : ∀ k j j', j < j' → j' < bct n m k → bix n m k j < bix n m k j'
  | 0, _, _, _, h => absurd h (Nat.not_lt_zero _)
  | k + 1, j, j', h1, h2 => by
    by_cases hn : bfr n m k < bfr n m (k + 1)
    · have h3 : bct n m (k + 1) = bct n m k + 1 := by rw [bct, if_pos hn]
      by_cases hj : j' = bct n m k
      · rw [hj, bix_new n m k hn, bix_keep n m k j (by omega)]
        exact (bix_spec n m k j (by omega)).1
      · rw [bix_keep n m k j (by omega), bix_keep n m k j' (by omega)]
        exact bix_lt n m k j j' h1 (by omega)
    · have h3 : bct n m (k + 1) = bct n m k := by rw [bct, if_neg hn]; rfl
      rw [bix_keep n m k j (by omega), bix_keep n m k j' (by omega)]
      exact bix_lt n m k j j' h1 (by omega)
theorem bfr_le2 (n m : Nat) : ∀ {a b : Nat}, a ≤ b → bfr n m a ≤ bfr n m b := by
  intro a b h
  unfold bfr
  exact Nat.div_le_div_right (Nat.mul_le_mul_right n h)
theorem bBA (n m j : Nat) (h : j + 1 < bct n m m) : bB n m j ≤ bA n m (j + 1) := by
  unfold bB bA
  exact bfr_le2 n m (bix_lt n m m j (j + 1) (by omega) h)
/-- how many values the first j of these buckets have -/
def bsm (n m : Nat) : Nat → Nat
  | 0 => 0
  | j + 1 => bsm n m j + (bB n m j - bA n m j)
theorem bsm_le (n m : Nat) (hm : 0 < m) : ∀ j, j ≤ bct n m m → bsm n m j ≤ n ∧ (j < bct n m m → bsm n m j ≤ bA n m j)
  | 0, _ => ⟨Nat.zero_le _, fun _ => Nat.zero_le _⟩
  | j + 1, h => by
    have ih := (bsm_le n m hm j (by omega)).2 (by omega)
    have hab := bAB n m j hm (by omega)
    refine ⟨?_, fun h2 => ?_⟩
    · unfold bsm; omega
    · have := bBA n m j h2
      unfold bsm; omega
def lsF (S : Nat → Int) (n m : Nat) (v : Int) : Nat → UInt32
  | 0 => FP.fconst0
  | j + 1 => if S (bB n m j - 1) < v then FP.fadd (lsF S n m v j) (FP.i2f (iZ ((bB n m j - bA n m j : Nat) : Int)))
    else if S (bA n m j) < v then FP.fadd (lsF S n m v j) (FP.fmul (FP.i2f (iZ ((bB n m j - bA n m j : Nat) : Int))) (FP.fdiv (FP.i2f (iZ (v - S (bA n m j)))) (FP.i2f (iZ (S (bB n m j - 1) - S (bA n m j) + 1)))))
    else lsF S n m v j
def eqF (S : Nat → Int) (n m : Nat) (v : Int) : Nat → UInt32
  | 0 => FP.fconst0
  | j + 1 => if S (bA n m j) ≤ v ∧ v ≤ S (bB n m j - 1) then FP.fadd (eqF S n m v j) (FP.fdiv (FP.i2f (iZ ((bB n m j - bA n m j : Nat) : Int))) (FP.i2f (iZ ((dif S (bA n m j) (bB n m j) : Nat) : Int))))
    else eqF S n m v j
theorem fR_u {n : Nat} (h : n < 16777216) : fR (n * fu) := fR_int h
theorem fB_adds {x y : UInt32} {a b : Nat} (hx : fB x (a * fu)) (hy : fB y (b * fu)) (h : a + b < 16777216) : fB (FP.fadd x y) ((a + b) * fu) := by
  have := fB_add hx hy (by rw [← Nat.add_mul]; exact fR_int h) (by rw [← Nat.add_mul]; exact fu_top h)
  rwa [← Nat.add_mul] at this
theorem fB_muls {x y : UInt32} {a : Nat} (hx : fB x (a * fu)) (hy : fB y fu) (h : a < 16777216) : fB (FP.fmul x y) (a * fu) := fB_mul hx hy (fR_int h) (Nat.le_refl _) (fu_top h)
theorem fB_quot {x : UInt32} {a b : Nat} (hx : fB x (a * fu)) (hb : 0 < b) (hab : a ≤ b) (h : b < 16777216) : fB (FP.fdiv x (FP.i2f (iZ (b : Int)))) fu := by
  have h1 := fB_div hx (fB_i2f h) (by rw [fz_i2f h]; exact Nat.mul_pos hb fu_pos) (m := 1 * fu) (fR_int (by omega)) (by
    rw [fz_i2f h, Nat.one_mul]
    calc a * fu * fu = fu * (a * fu) := by ac_rfl
      _ ≤ fu * (b * fu) := Nat.mul_le_mul_left _ (Nat.mul_le_mul_right _ hab)) (fu_top (by omega))
  rwa [Nat.one_mul] at h1
theorem fB_quot2 {x : UInt32} {a b : Nat} (hx : fB x (a * fu)) (hb : 0 < b) (h : b < 16777216) (ha : a < 16777216) : fB (FP.fdiv x (FP.i2f (iZ (b : Int)))) (a * fu) := by
  refine fB_div hx (fB_i2f h) (by rw [fz_i2f h]; exact Nat.mul_pos hb fu_pos) (fR_int ha) ?_ (fu_top ha)
  rw [fz_i2f h]
  calc a * fu * fu ≤ a * fu * (b * fu) := Nat.mul_le_mul_left _ (Nat.le_mul_of_pos_left _ hb)
    _ = a * fu * (b * fu) := rfl
/-- what a column's sorted values keep to -/
def SR (S : Nat → Int) (n : Nat) : Prop := ∀ j, j < n → 0 ≤ S j ∧ S j ≤ 99
theorem part_B {S : Nat → Int} {n m j : Nat} {v : Int} (hS : SR S n) (hm : 0 < m) (hn : n ≤ 16) (hj : j < bct n m m) (hv : v ≤ S (bB n m j - 1)) (hv2 : S (bA n m j) < v) : fB (FP.fdiv (FP.i2f (iZ (v - S (bA n m j)))) (FP.i2f (iZ (S (bB n m j - 1) - S (bA n m j) + 1)))) fu := by
  have hab := bAB n m j hm hj
  have h1 := hS (bA n m j) (by omega)
  have h2 := hS (bB n m j - 1) (by omega)
  obtain ⟨a, ha⟩ : ∃ a : Nat, v - S (bA n m j) = (a : Int) := ⟨(v - S (bA n m j)).toNat, by omega⟩
  obtain ⟨b, hb⟩ : ∃ b : Nat, S (bB n m j - 1) - S (bA n m j) + 1 = (b : Int) := ⟨(S (bB n m j - 1) - S (bA n m j) + 1).toNat, by omega⟩
  rw [ha, hb]
  exact fB_quot (a := a) (fB_i2f (by omega)) (by omega) (by omega) (by omega)
theorem lsF_B {S : Nat → Int} {n m : Nat} {v : Int} (hS : SR S n) (hm : 0 < m) (hn : n ≤ 16) : ∀ j, j ≤ bct n m m → fB (lsF S n m v j) (bsm n m j * fu)
  | 0, _ => fB_0.mono (Nat.zero_le _)
  | j + 1, h => by
    have ih := lsF_B (v := v) hS hm hn j (by omega)
    have hb := bsm_le n m hm (j + 1) h
    have hab := bAB n m j hm (by omega)
    have e : bsm n m (j + 1) = bsm n m j + (bB n m j - bA n m j) := rfl
    rw [e]
    unfold lsF
    split
    · exact fB_adds ih (fB_i2f (by omega)) (by omega)
    · split
      · exact fB_adds ih (fB_muls (fB_i2f (by omega)) (part_B hS hm hn (by omega) (by omega) (by assumption)) (by omega)) (by omega)
      · exact ih.mono (Nat.mul_le_mul_right _ (by omega))
theorem eqF_B {S : Nat → Int} {n m : Nat} {v : Int} (hm : 0 < m) (hn : n ≤ 16) : ∀ j, j ≤ bct n m m → fB (eqF S n m v j) (bsm n m j * fu)
  | 0, _ => fB_0.mono (Nat.zero_le _)
  | j + 1, h => by
    have ih := eqF_B (S := S) (v := v) hm hn j (by omega)
    have hb := bsm_le n m hm (j + 1) h
    have hab := bAB n m j hm (by omega)
    have hd := dif_pos S _ _ hab.1
    have hd2 := dif_le S (bA n m j) (bB n m j)
    have e : bsm n m (j + 1) = bsm n m j + (bB n m j - bA n m j) := rfl
    rw [e]
    unfold eqF
    split
    · exact fB_adds ih (fB_quot2 (fB_i2f (by omega)) (by omega) (by omega) (by omega)) (by omega)
    · exact ih.mono (Nat.mul_le_mul_right _ (by omega))
def lsS (S : Nat → Int) (n m : Nat) (v : Int) : UInt32 := FP.fdiv (lsF S n m v (bct n m m)) (FP.i2f (iZ (n : Int)))
def eqS (S : Nat → Int) (n m : Nat) (v : Int) : UInt32 := FP.fdiv (eqF S n m v (bct n m m)) (FP.i2f (iZ (n : Int)))
theorem lsS_B {S : Nat → Int} {n m : Nat} {v : Int} (hS : SR S n) (hm : 0 < m) (hn : n ≤ 16) (h0 : 0 < n) : fB (lsS S n m v) fu := by
  have h1 := lsF_B (v := v) hS hm hn _ (Nat.le_refl _)
  exact fB_quot h1 h0 (bsm_le n m hm _ (Nat.le_refl _)).1 (by omega)
theorem eqS_B {S : Nat → Int} {n m : Nat} {v : Int} (hm : 0 < m) (hn : n ≤ 16) (h0 : 0 < n) : fB (eqS S n m v) fu := by
  have h1 := eqF_B (S := S) (v := v) hm hn _ (Nat.le_refl _)
  exact fB_quot h1 h0 (bsm_le n m hm _ (Nat.le_refl _)).1 (by omega)
/-- 1 less a number of at most 2 -/
theorem fsub_1 {x : UInt32} (hx : fB x (2 * fu)) : FP.Core.val32 (FP.fsub FP.fconst1 x) ≠ .nan ∧ (¬ FP.fcmp (FP.fsub FP.fconst1 x) FP.fconst0 = some .lt → fB (FP.fsub FP.fconst1 x) fu) := by
  obtain ⟨d, r, h1, h2⟩ := hx
  have f2 : FP.Core.fits FP.Core.b32 (.fin false d r) := h1 ▸ FP.Core.val32_fits x
  have g2 : FP.Core.b32.qmin ≤ r := f2.2.1
  have hq := qmin32
  have hv := FP.Core.val32_fsub FP.fconst1 x
  rw [h1, show FP.Core.val32 FP.fconst1 = _ from FP.Core.val32_fconst1] at hv
  obtain ⟨v, hvv⟩ : ∃ v, v = FP.Core.sumUnits false (2 ^ 23) (-23) true d r (min (-23) r) := ⟨_, rfl⟩
  have hv2 : FP.Core.val32 (FP.fsub FP.fconst1 x) = FP.Core.roundRatio FP.Core.b32 (FP.Core.sumSign false true v) v.natAbs 1 (min (-23) r) := by
    rw [hvv]
    exact hv
  have hve : v = (FP.Core.inUnits (2 ^ 23) (-23) (min (-23) r) : Int) - (FP.Core.inUnits d r (min (-23) r) : Int) := by
    rw [hvv]
    show FP.Core.signed false _ + FP.Core.signed true _ = _
    simp [FP.Core.signed]
    omega
  have ne : FP.Core.val32 (FP.fsub FP.fconst1 x) ≠ .nan := by rw [hv2]; exact FP.Core.roundRatio_ne_nan _ _ _ _ _
  refine ⟨ne, fun hc => ?_⟩
  by_cases hneg : v < 0
  · exfalso
    apply hc
    have hsg : FP.Core.sumSign false true v = true := by
      unfold FP.Core.sumSign
      rw [if_neg (by omega)]
      exact decide_eq_true hneg
    rw [hsg] at hv2
    have hge : 1 ≤ FP.Core.zmag FP.Core.b32 (FP.Core.val32 (FP.fsub FP.fconst1 x)) := by
      rw [hv2]
      have hz1 : FP.Core.zmag FP.Core.b32 (.fin false 1 FP.Core.b32.qmin) = 1 := by decide +kernel
      have := FP.Core.zmag_roundRatio_ge FP.Core.good_b32 (s := true) (A := v.natAbs) (B := 1) (e := min (-23) r) (e0 := FP.Core.b32.qmin) (V := .fin false 1 FP.Core.b32.qmin) (by decide) ⟨by decide +kernel, Int.le_refl _, by decide +kernel, Or.inl rfl⟩ (Int.le_refl _) (by omega) (by
        rw [hz1, Int.sub_self]
        show 1 * 2 ^ 0 * 1 ≤ v.natAbs * 2 ^ (min (-23) r - FP.Core.b32.qmin).toNat
        have : 1 ≤ v.natAbs := by omega
        exact Nat.mul_le_mul this (Nat.two_pow_pos _))
      rw [hz1] at this
      exact this
    have hs2 : FP.Core.sgn (FP.Core.val32 (FP.fsub FP.fconst1 x)) = true := by rw [hv2]; exact FP.Core.sgn_roundRatio _ _ _ _ _
    have h0 : FP.Core.zval FP.Core.b32 (FP.Core.val32 FP.fconst0) = 0 := by decide +kernel
    have := FP.Core.fcmp_zval (a := FP.fsub FP.fconst1 x) (b := FP.fconst0) ne fB_0.ne
    rw [show FP.fcmp (FP.fsub FP.fconst1 x) FP.fconst0 = _ from this, h0]
    have hz : FP.Core.zval FP.Core.b32 (FP.Core.val32 (FP.fsub FP.fconst1 x)) < 0 := by
      unfold FP.Core.zval FP.Core.signed
      rw [hs2]
      simp
      omega
    rw [FP.Core.compare_ite, if_pos hz]
  · have hsg : FP.Core.sumSign false true v = false := by
      unfold FP.Core.sumSign
      split
      · rfl
      · exact decide_eq_false hneg
    rw [hsg] at hv2
    refine fB_of_round hv2 ?_ (by have := fu_top (n := 1) (by omega); rwa [Nat.one_mul] at this)
    have e1 := fz_1
    unfold fz at e1
    rw [← e1]
    refine FP.Core.zmag_roundRatio_le FP.Core.good_b32 (e0 := FP.Core.b32.qmin) (by decide) (FP.Core.val32_fits _) fB_1.ne (Int.le_refl _) (by omega) ?_
    rw [e1, Int.sub_self, Int.toNat_zero, Nat.pow_zero, Nat.mul_one, Nat.mul_one]
    have e2 := FP.Core.inUnits_move (2 ^ 23) (q := -23) (r := min (-23) r) (e := FP.Core.b32.qmin) (by omega) (by omega)
    have e3 : FP.Core.inUnits (2 ^ 23) (-23) FP.Core.b32.qmin = fu := by decide +kernel
    rw [← e3, e2]
    show v.natAbs * _ ≤ FP.Core.inUnits (2 ^ 23) (-23) (min (-23) r) * _
    exact Nat.mul_le_mul_right _ (by omega)
def shr (S : Nat → Int) (n m : Nat) (sg v : Int) : UInt32 :=
  if n = 0 then FP.fconst0
  else if sg = 0 then lsS S n m v
  else if sg = 1 then eqS S n m v
  else if FP.fcmp (FP.fsub FP.fconst1 (FP.fadd (lsS S n m v) (eqS S n m v))) FP.fconst0 = some .lt then FP.fconst0
  else FP.fsub FP.fconst1 (FP.fadd (lsS S n m v) (eqS S n m v))
theorem lsq_B {S : Nat → Int} {n m : Nat} {v : Int} (hS : SR S n) (hm : 0 < m) (hn : n ≤ 16) (h0 : 0 < n) : fB (FP.fadd (lsS S n m v) (eqS S n m v)) (2 * fu) := by
  have h1 := lsS_B (v := v) hS hm hn h0
  have h2 := eqS_B (S := S) (v := v) hm hn h0
  exact fB_adds (a := 1) (b := 1) (by rwa [Nat.one_mul]) (by rwa [Nat.one_mul]) (by omega)
theorem shr_B {S : Nat → Int} {n m : Nat} {sg v : Int} (hS : SR S n) (hm : 0 < m) (hn : n ≤ 16) : fB (shr S n m sg v) fu := by
  unfold shr
  split
  · exact fB_0.mono (Nat.zero_le _)
  · rename_i h0
    split
    · exact lsS_B hS hm hn (by omega)
    · split
      · exact eqS_B hm hn (by omega)
      · split
        · exact fB_0.mono (Nat.zero_le _)
        · rename_i hc
          exact (fsub_1 (lsq_B hS hm hn (by omega))).2 hc
theorem cv_g (o : Option Ordering) : (0 ≤ Op.cmpValue o .g ↔ o ≠ some .lt) ∧ (0 ≤ Op.cmpValue o .l ↔ (o = some .gt ∨ o = some .eq)) := by
  rcases o with _ | _ | _ | _ <;> constructor <;> simp [Op.cmpValue] <;> decide

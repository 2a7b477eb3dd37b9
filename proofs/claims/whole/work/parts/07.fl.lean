/-! FLOATS: numbers not below 0, told in the least float's units (2^-149); fB x m: a finite one, at most m units -/
def fu : Nat := FP.Core.one32
theorem fu_eq : fu = 2 ^ 149 := rfl
def fz (x : UInt32) : Nat := FP.Core.zmag FP.Core.b32 (FP.Core.val32 x)
def fB (x : UInt32) (m : Nat) : Prop := ∃ (c : Nat) (q : Int), FP.Core.val32 x = .fin false c q ∧ FP.Core.inUnits c q FP.Core.b32.qmin ≤ m
def fTop : Nat := FP.Core.b32.tails * 2 ^ (FP.Core.b32.exps - 2)
def fR (m : Nat) : Prop := ∃ V : FP.Core.Datum, FP.Core.fits FP.Core.b32 V ∧ V ≠ .nan ∧ FP.Core.zmag FP.Core.b32 V = m
theorem qmin32 : FP.Core.b32.qmin = -149 := by decide +kernel
theorem fB.ne {x : UInt32} {m : Nat} (h : fB x m) : FP.Core.val32 x ≠ .nan := by
  obtain ⟨c, q, h1, -⟩ := h
  rw [h1]; exact FP.Core.Datum.noConfusion
theorem vf_of {x : UInt32} (h : FP.Core.val32 x ≠ .nan) : vf_n32 x := by
  have h1 := (FP.Core.ne_nan32 x).mp h
  show x &&& 0x7fffffff ≤ 0x7f800000
  rw [UInt32.le_iff_toNat_le, UInt32.toNat_and]
  have e : x.toNat &&& (0x7fffffff : UInt32).toNat = x.toNat % 2 ^ 31 := Nat.and_two_pow_sub_one_eq_mod _ 31
  rw [e]
  exact h1
theorem fB.vf {x : UInt32} {m : Nat} (h : fB x m) : vf_n32 x := vf_of h.ne
theorem fB.mono {x : UInt32} {m n : Nat} (h : fB x m) (hmn : m ≤ n) : fB x n := by
  obtain ⟨c, q, h1, h2⟩ := h
  exact ⟨c, q, h1, Nat.le_trans h2 hmn⟩
theorem fB.fz {x : UInt32} {m : Nat} (h : fB x m) : fz x ≤ m := by
  obtain ⟨c, q, h1, h2⟩ := h
  unfold Jvm.Pilot.@@N@@.fz
  rw [h1]
  exact h2
theorem fB_self {x : UInt32} {m : Nat} (h : fB x m) : fB x (Jvm.Pilot.@@N@@.fz x) := by
  obtain ⟨c, q, h1, h2⟩ := h
  refine ⟨c, q, h1, ?_⟩
  unfold Jvm.Pilot.@@N@@.fz
  rw [h1]
  exact Nat.le_refl _
/-- a rounding of sign +, at most m units, below the top: finite -/
theorem fB_of_round {x : UInt32} {A B m : Nat} {e : Int} (h : FP.Core.val32 x = FP.Core.roundRatio FP.Core.b32 false A B e) (hm : FP.Core.zmag FP.Core.b32 (FP.Core.roundRatio FP.Core.b32 false A B e) ≤ m) (ht : m < fTop) : fB x m := by
  rcases FP.Core.roundRatio_cases FP.Core.b32 false A B e with ⟨c, q, h1⟩ | h1
  · have h2 := FP.Core.sgn_roundRatio FP.Core.b32 false A B e
    rw [h1] at h2 hm
    exact ⟨c, q, by rw [h, h1], hm⟩
  · rw [h1] at hm
    exact absurd hm (Nat.not_le.mpr ht)
theorem fB_add {x y : UInt32} {a b : Nat} (hx : fB x a) (hy : fB y b) (hr : fR (a + b)) (ht : a + b < fTop) : fB (FP.fadd x y) (a + b) := by
  obtain ⟨c, q, h1, h2⟩ := hx
  obtain ⟨d, r, h3, h4⟩ := hy
  obtain ⟨V, hV, hn, hz⟩ := hr
  have f1 : FP.Core.fits FP.Core.b32 (.fin false c q) := h1 ▸ FP.Core.val32_fits x
  have f2 : FP.Core.fits FP.Core.b32 (.fin false d r) := h3 ▸ FP.Core.val32_fits y
  have g1 : FP.Core.b32.qmin ≤ q := f1.2.1
  have g2 : FP.Core.b32.qmin ≤ r := f2.2.1
  have hv := FP.Core.val32_fadd x y
  rw [h1, h3] at hv
  have hs : FP.Core.sumUnits false c q false d r (min q r) = ((FP.Core.inUnits c q (min q r) + FP.Core.inUnits d r (min q r) : Nat) : Int) := by
    simp [FP.Core.sumUnits, FP.Core.signed]
  have hv2 : FP.Core.val32 (FP.fadd x y) = FP.Core.roundRatio FP.Core.b32 false (FP.Core.inUnits c q (min q r) + FP.Core.inUnits d r (min q r)) 1 (min q r) := by
    rw [show FP.fadd x y = FP.Core.fadd x y from rfl, hv]
    show FP.Core.roundRatio FP.Core.b32 (FP.Core.sumSign false false (FP.Core.sumUnits false c q false d r (min q r))) (FP.Core.sumUnits false c q false d r (min q r)).natAbs 1 (min q r) = _
    rw [hs, Int.natAbs_natCast]
    congr 1
    unfold FP.Core.sumSign
    split
    · rfl
    · exact decide_eq_false (by omega)
  refine fB_of_round hv2 ?_ ht
  rw [← hz]
  refine FP.Core.zmag_roundRatio_le FP.Core.good_b32 (e0 := FP.Core.b32.qmin) (by decide) hV hn (Int.le_refl _) (by omega) ?_
  rw [hz, Int.sub_self, Int.toNat_zero, Nat.pow_zero, Nat.mul_one, Nat.mul_one]
  have e1 := FP.Core.inUnits_move c (q := q) (r := min q r) (e := FP.Core.b32.qmin) (by omega) (by omega)
  have e2 := FP.Core.inUnits_move d (q := r) (r := min q r) (e := FP.Core.b32.qmin) (by omega) (by omega)
  have e3 : FP.Core.inUnits (FP.Core.inUnits c q (min q r) + FP.Core.inUnits d r (min q r)) (min q r) FP.Core.b32.qmin = FP.Core.inUnits c q FP.Core.b32.qmin + FP.Core.inUnits d r FP.Core.b32.qmin := by
    rw [e1, e2, ← Nat.add_mul]
    rfl
  rw [e3]
  omega
theorem fB_mul {x y : UInt32} {a b m : Nat} (hx : fB x a) (hy : fB y b) (hr : fR m) (hm : a * b ≤ m * fu) (ht : m < fTop) : fB (FP.fmul x y) m := by
  obtain ⟨c, q, h1, h2⟩ := hx
  obtain ⟨d, r, h3, h4⟩ := hy
  obtain ⟨V, hV, hn, hz⟩ := hr
  have f1 : FP.Core.fits FP.Core.b32 (.fin false c q) := h1 ▸ FP.Core.val32_fits x
  have f2 : FP.Core.fits FP.Core.b32 (.fin false d r) := h3 ▸ FP.Core.val32_fits y
  have g1 : FP.Core.b32.qmin ≤ q := f1.2.1
  have g2 : FP.Core.b32.qmin ≤ r := f2.2.1
  have hv := FP.Core.val32_fmul x y
  rw [h1, h3] at hv
  have hv2 : FP.Core.val32 (FP.fmul x y) = FP.Core.roundRatio FP.Core.b32 false (c * d) 1 (q + r) := hv
  refine fB_of_round hv2 ?_ ht
  rw [← hz]
  have hq := qmin32
  refine FP.Core.zmag_roundRatio_le FP.Core.good_b32 (e0 := FP.Core.b32.qmin + FP.Core.b32.qmin) (by decide) hV hn (by omega) (by omega) ?_
  rw [hz, Nat.mul_one]
  have e1 : (FP.Core.b32.qmin - (FP.Core.b32.qmin + FP.Core.b32.qmin)).toNat = 149 := by rw [hq]; rfl
  rw [e1]
  have e2 : FP.Core.inUnits (c * d) (q + r) (FP.Core.b32.qmin + FP.Core.b32.qmin) = FP.Core.inUnits c q FP.Core.b32.qmin * FP.Core.inUnits d r FP.Core.b32.qmin := by
    unfold FP.Core.inUnits
    rw [show (q + r - (FP.Core.b32.qmin + FP.Core.b32.qmin)).toNat = (q - FP.Core.b32.qmin).toNat + (r - FP.Core.b32.qmin).toNat by omega, Nat.pow_add]
    ac_rfl
  rw [e2]
  exact Nat.le_trans (Nat.mul_le_mul h2 h4) hm
theorem fdiv_round {x y : UInt32} {c d : Nat} {q r : Int} (h1 : FP.Core.val32 x = .fin false c q) (h3 : FP.Core.val32 y = .fin false d r) (hd : d ≠ 0) : FP.Core.val32 (FP.fdiv x y) = FP.Core.roundRatio FP.Core.b32 false c d (q - r) := by
  have hv := FP.Core.val32_fdiv x y
  rw [h1, h3] at hv
  rw [show FP.fdiv x y = FP.Core.fdiv x y from rfl, hv]
  show (if d = 0 then _ else _) = _
  rw [if_neg hd]
  rfl
theorem fz_pos {y : UInt32} {d : Nat} {r : Int} (h3 : FP.Core.val32 y = .fin false d r) (h : 0 < fz y) : d ≠ 0 := by
  intro e
  subst e
  unfold fz at h
  rw [h3] at h
  simp [FP.Core.zmag, FP.Core.inUnits] at h
theorem fB_div {x y : UInt32} {a b m : Nat} (hx : fB x a) (hy : fB y b) (h0 : 0 < fz y) (hr : fR m) (hm : a * fu ≤ m * fz y) (ht : m < fTop) : fB (FP.fdiv x y) m := by
  obtain ⟨c, q, h1, h2⟩ := hx
  obtain ⟨d, r, h3, h4⟩ := hy
  obtain ⟨V, hV, hn, hz⟩ := hr
  have f1 : FP.Core.fits FP.Core.b32 (.fin false c q) := h1 ▸ FP.Core.val32_fits x
  have f2 : FP.Core.fits FP.Core.b32 (.fin false d r) := h3 ▸ FP.Core.val32_fits y
  have g1 : FP.Core.b32.qmin ≤ q := f1.2.1
  have g2 : FP.Core.b32.qmin ≤ r := f2.2.1
  have hd := fz_pos h3 h0
  refine fB_of_round (fdiv_round h1 h3 hd) ?_ ht
  rw [← hz]
  have hq := qmin32
  have hy2 : fz y = d * 2 ^ (r - FP.Core.b32.qmin).toNat := by unfold fz; rw [h3]; rfl
  have hc : c * 2 ^ (q - FP.Core.b32.qmin).toNat * 2 ^ 149 ≤ m * (d * 2 ^ (r - FP.Core.b32.qmin).toNat) := by
    rw [← hy2]
    exact Nat.le_trans (Nat.mul_le_mul_right _ h2) hm
  obtain ⟨e0, he0⟩ : ∃ e0 : Int, e0 = min FP.Core.b32.qmin (q - r) := ⟨_, rfl⟩
  refine FP.Core.zmag_roundRatio_le FP.Core.good_b32 (e0 := e0) (Nat.pos_of_ne_zero hd) hV hn (by omega) (by omega) ?_
  rw [hz]
  show c * 2 ^ (q - r - e0).toNat ≤ m * 2 ^ (FP.Core.b32.qmin - e0).toNat * d
  refine Nat.le_of_mul_le_mul_right ?_ (Nat.two_pow_pos (r - FP.Core.b32.qmin).toNat)
  have p1 : 2 ^ (q - r - e0).toNat * 2 ^ (r - FP.Core.b32.qmin).toNat = 2 ^ (q - FP.Core.b32.qmin).toNat * 2 ^ 149 * 2 ^ (FP.Core.b32.qmin - e0).toNat := by
    rw [← Nat.pow_add, ← Nat.pow_add, ← Nat.pow_add]
    congr 1
    omega
  calc c * 2 ^ (q - r - e0).toNat * 2 ^ (r - FP.Core.b32.qmin).toNat = c * 2 ^ (q - FP.Core.b32.qmin).toNat * 2 ^ 149 * 2 ^ (FP.Core.b32.qmin - e0).toNat := by
        rw [Nat.mul_assoc, p1]; ac_rfl
    _ ≤ m * (d * 2 ^ (r - FP.Core.b32.qmin).toNat) * 2 ^ (FP.Core.b32.qmin - e0).toNat := Nat.mul_le_mul_right _ hc
    _ = m * 2 ^ (FP.Core.b32.qmin - e0).toNat * d * 2 ^ (r - FP.Core.b32.qmin).toNat := by ac_rfl
/-- whole numbers -/
theorem i2f_fin {n : Nat} (h : n < 16777216) : ∃ (c : Nat) (q : Int), FP.Core.val32 (FP.i2f (iZ (n : Int))) = .fin false c q ∧ FP.Core.inUnits c q FP.Core.b32.qmin = n * fu := by
  have hz : (iZ (n : Int)).toInt = n := iZ_toInt ⟨by omega, by omega⟩
  have hs : FP.Core.Small24 (iZ (n : Int)).toInt64 := by
    unfold FP.Core.Small24
    rw [Int32.toInt_toInt64, hz]; omega
  have e : FP.i2f (iZ (n : Int)) = FP.Core.l2f (iZ (n : Int)).toInt64 := FP.Core.i2f_l2f _
  obtain ⟨c, q, h1⟩ := FP.Core.l2f_shape (iZ (n : Int)).toInt64
  have h2 := FP.Core.FInt_zval (i := n) (a := FP.Core.l2f (iZ (n : Int)).toInt64) (by
    have := FP.Core.l2f_whole hs
    rw [Int32.toInt_toInt64, hz] at this
    exact this)
  rw [Int32.toInt_toInt64, hz] at h1
  have h3 : decide ((n : Int) < 0) = false := decide_eq_false (by omega)
  rw [h3] at h1
  refine ⟨c, q, by rw [e, h1], ?_⟩
  rw [h1] at h2
  have h4 : ((FP.Core.inUnits c q FP.Core.b32.qmin : Nat) : Int) = (n : Int) * (FP.Core.one32 : Int) := h2
  exact Int.ofNat.inj (by rw [show Int.ofNat (FP.Core.inUnits c q FP.Core.b32.qmin) = ((FP.Core.inUnits c q FP.Core.b32.qmin : Nat) : Int) from rfl, h4]; exact (Int.natCast_mul n fu).symm)
theorem fB_i2f {n : Nat} (h : n < 16777216) : fB (FP.i2f (iZ (n : Int))) (n * fu) := by
  obtain ⟨c, q, h1, h2⟩ := i2f_fin h
  exact ⟨c, q, h1, Nat.le_of_eq h2⟩
theorem fz_i2f {n : Nat} (h : n < 16777216) : fz (FP.i2f (iZ (n : Int))) = n * fu := by
  obtain ⟨c, q, h1, h2⟩ := i2f_fin h
  unfold fz
  rw [h1]
  exact h2
theorem fR_int {n : Nat} (h : n < 16777216) : fR (n * fu) := ⟨_, FP.Core.val32_fits (FP.i2f (iZ (n : Int))), (fB_i2f h).ne, fz_i2f h⟩
theorem fTop_eq : fTop = 2 ^ 277 := by decide +kernel
theorem fu_top {n : Nat} (h : n < 16777216) : n * fu < fTop := by
  rw [fTop_eq, fu_eq]
  calc n * 2 ^ 149 < 2 ^ 24 * 2 ^ 149 := Nat.mul_lt_mul_of_pos_right h (Nat.two_pow_pos _)
    _ ≤ 2 ^ 277 := by decide +kernel
theorem fu_pos : 0 < fu := Nat.two_pow_pos _
theorem fB_0 : fB FP.fconst0 0 := ⟨0, FP.Core.b32.qmin, FP.Core.val32_fconst0, Nat.le_of_eq (Nat.zero_mul _)⟩
theorem fB_1 : fB FP.fconst1 fu := ⟨2 ^ 23, -23, FP.Core.val32_fconst1, by decide +kernel⟩
theorem fz_1 : fz FP.fconst1 = fu := by unfold fz; rw [show FP.Core.val32 FP.fconst1 = _ from FP.Core.val32_fconst1]; decide +kernel
theorem fz_0 : fz FP.fconst0 = 0 := by unfold fz; rw [show FP.Core.val32 FP.fconst0 = _ from FP.Core.val32_fconst0]; decide +kernel
theorem fB_2 : fB FP.fconst2 (2 * fu) := ⟨2 ^ 23, -22, by decide +kernel, by decide +kernel⟩
/-- powers of two are floats -/
theorem fR_pow {k : Nat} (h : k ≤ 126) : fR (2 ^ k * fu) := by
  refine ⟨.fin false (2 ^ 23) ((k : Int) - 23), ⟨by decide +kernel, ?_, ?_, Or.inr (by decide +kernel)⟩, FP.Core.Datum.noConfusion, ?_⟩
  · rw [qmin32]; omega
  · have : FP.Core.b32.qmax = 104 := by decide +kernel
    rw [this]; omega
  · show 2 ^ 23 * 2 ^ ((k : Int) - 23 - FP.Core.b32.qmin).toNat = 2 ^ k * fu
    rw [qmin32, fu_eq, ← Nat.pow_add, ← Nat.pow_add]
    congr 1
    omega
theorem fp_top {k : Nat} (h : k ≤ 126) : 2 ^ k * fu < fTop := by
  rw [fTop_eq, fu_eq]
  calc 2 ^ k * 2 ^ 149 ≤ 2 ^ 126 * 2 ^ 149 := Nat.mul_le_mul_right _ (Nat.pow_le_pow_right (by decide) h)
    _ < 2 ^ 277 := by decide +kernel
/-- comparing two that are no NaN -/
theorem fB_zval {x : UInt32} {m : Nat} (h : fB x m) : FP.Core.zval FP.Core.b32 (FP.Core.val32 x) = (fz x : Int) := by
  obtain ⟨c, q, h1, -⟩ := h
  unfold fz
  rw [h1]
  rfl
theorem fcmp_fB {x y : UInt32} {a b : Nat} (hx : fB x a) (hy : fB y b) : FP.fcmp x y = some (compare (fz x : Int) (fz y : Int)) := by
  rw [← fB_zval hx, ← fB_zval hy]
  exact FP.Core.fcmp_zval hx.ne hy.ne

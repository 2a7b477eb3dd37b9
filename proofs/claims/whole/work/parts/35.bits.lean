/-! BITS of a float not below 0, by halving and doubling a double -/
def FN (x : UInt32) : Prop := FP.Core.val32 x = .inf false ∨ ∃ c q, FP.Core.val32 x = .fin false c q
theorem FN.of {x : UInt32} {m : Nat} (h : fB x m) : FN x := by
  obtain ⟨c, q, h1, -⟩ := h
  exact Or.inr ⟨c, q, h1⟩
theorem vd_of {x : UInt64} (h : FP.Core.val64 x ≠ .nan) : vf_n64 x := by
  have h1 : x.toNat % 2 ^ 63 ≤ 9218868437227405312 := (FP.Core.ne_nan x).mp h
  show x &&& 0x7fffffffffffffff ≤ 0x7ff0000000000000
  rw [UInt64.le_iff_toNat_le, UInt64.toNat_and]
  have e : x.toNat &&& (0x7fffffffffffffff : UInt64).toNat = x.toNat % 2 ^ 63 := Nat.and_two_pow_sub_one_eq_mod _ 63
  rw [e]
  exact h1
theorem qmin64 : FP.Core.b64.qmin = -1074 := by decide +kernel
theorem qmax64 : FP.Core.b64.qmax = 971 := by decide +kernel
theorem qmax32 : FP.Core.b32.qmax = 104 := by decide +kernel
theorem v2_ : FP.Core.val64 4611686018427387904 = .fin false (2 ^ 52) (-51) := by decide +kernel
theorem v23_ : FP.Core.val64 4710765210229538816 = .fin false (2 ^ 52) (-29) := by decide +kernel
/-- the double d is x halved p times -/
def JB (x : UInt32) (d : UInt64) (p : Int) : Prop :=
  (FP.Core.val32 x = .inf false ∧ FP.Core.val64 d = .inf false) ∨ (FP.Core.val32 x = .fin false 0 (-149) ∧ FP.Core.val64 d = .fin false 0 (-1074)) ∨ ∃ (c C : Nat) (q Q : Int), FP.Core.val32 x = .fin false c q ∧ (0 < c ∧ c < 2 ^ 24) ∧ (q = -149 ∨ 2 ^ 23 ≤ c) ∧ (-149 ≤ q ∧ q ≤ 104) ∧ (2 ^ 52 ≤ C ∧ C < 2 ^ 53) ∧ (Q ≤ q ∧ q - 52 ≤ Q) ∧ C = c * 2 ^ (q - Q).toNat ∧ FP.Core.val64 d = .fin false C (Q - p)
/-- d is below 2^(52+R) -/
def DL (d : UInt64) (R : Int) : Prop := FP.Core.val64 d = .fin false 0 (-1074) ∨ ∃ (C : Nat) (Q : Int), (2 ^ 52 ≤ C ∧ C < 2 ^ 53) ∧ FP.Core.val64 d = .fin false C Q ∧ Q < R
theorem fit64 {C : Nat} {Q : Int} (hC : 2 ^ 52 ≤ C ∧ C < 2 ^ 53) (hQ : -1074 ≤ Q ∧ Q ≤ 971) : FP.Core.fits FP.Core.b64 (.fin false C Q) := ⟨hC.2, by rw [qmin64]; exact hQ.1, by rw [qmax64]; exact hQ.2, Or.inr hC.1⟩
theorem f2d_v {x : UInt32} (h : FP.Core.val32 x ≠ .nan) : FP.Core.val64 (FP.f2d x) = FP.Core.round FP.Core.b64 (FP.Core.val32 x) := by
  have e : FP.f2d x = FP.Core.f2d x := by
    unfold FP.f2d
    have : FP.Core.fIsNaN x = false := decide_eq_false h
    rw [this]; rfl
  rw [e, FP.Core.val64_f2d]
theorem JB.init {x : UInt32} (h : FN x) : JB x (FP.f2d x) 0 := by
  rcases h with h | ⟨c, q, h⟩
  · exact Or.inl ⟨h, by rw [f2d_v (by rw [h]; exact FP.Core.Datum.noConfusion), h]; rfl⟩
  · have hv := f2d_v (x := x) (by rw [h]; exact FP.Core.Datum.noConfusion)
    have hf : FP.Core.fits FP.Core.b32 (.fin false c q) := h ▸ FP.Core.val32_fits x
    obtain ⟨g1, g2, g3, g4⟩ := hf
    rw [qmin32] at g2 g4
    rw [qmax32] at g3
    have g1' : c < 2 ^ 24 := g1
    have g4' : q = -149 ∨ 2 ^ 23 ≤ c := g4
    rw [h] at hv
    by_cases hc : c = 0
    · subst hc
      refine Or.inr (Or.inl ⟨by rw [h]; rw [show q = -149 by omega], ?_⟩)
      rw [hv, ← qmin64]; rfl
    · have n1 := Nat.log2_self_le hc
      have n2 := Nat.lt_log2_self (n := c)
      have n3 : c.log2 < 24 := (Nat.log2_lt hc).mpr g1'
      have e1 : (52 - c.log2) + c.log2 = 52 := by omega
      have p1 : 2 ^ (52 - c.log2) * 2 ^ c.log2 = 2 ^ 52 := by rw [← Nat.pow_add, e1]
      have p2 : 2 ^ (52 - c.log2) * 2 ^ (c.log2 + 1) = 2 ^ 53 := by rw [← Nat.pow_add, show 52 - c.log2 + (c.log2 + 1) = 53 by omega]
      have hp : 0 < 2 ^ (52 - c.log2) := Nat.two_pow_pos _
      have c1 : 2 ^ 52 ≤ c * 2 ^ (52 - c.log2) := by rw [← p1, Nat.mul_comm c]; exact Nat.mul_le_mul_left _ n1
      have c2 : c * 2 ^ (52 - c.log2) < 2 ^ 53 := by rw [← p2, Nat.mul_comm c]; exact (Nat.mul_lt_mul_left hp).mpr n2
      refine Or.inr (Or.inr ⟨c, c * 2 ^ (52 - c.log2), q, q - ((52 - c.log2 : Nat) : Int), h, ⟨by omega, g1'⟩, g4', ⟨g2, g3⟩, ⟨c1, c2⟩, ⟨by omega, by omega⟩, by rw [show (q - (q - ((52 - c.log2 : Nat) : Int))).toNat = 52 - c.log2 by omega], ?_⟩)
      rw [hv, Int.sub_zero]
      refine FP.Core.roundRatio_exact FP.Core.good_b64 (by decide) (fit64 ⟨c1, c2⟩ (by omega)) ?_
      rw [show (q - (q - ((52 - c.log2 : Nat) : Int))).toNat = 52 - c.log2 by omega, show (q - ((52 - c.log2 : Nat) : Int) - q).toNat = 0 by omega, Nat.pow_zero, Nat.mul_one, Nat.mul_one]
theorem JB.ne {x : UInt32} {d : UInt64} {p : Int} (h : JB x d p) : FP.Core.val64 d ≠ .nan := by
  rcases h with ⟨-, h⟩ | ⟨-, h⟩ | ⟨c, C, q, Q, -, -, -, -, -, -, -, h⟩ <;> rw [h] <;> exact FP.Core.Datum.noConfusion
theorem cvO (o : Ordering) (g : CmpOp) : ∃ z : Int, Op.cmpValue (some o) g = iZ z ∧ R32 z ∧ (z < 0 ↔ o = .lt) := by
  cases o
  · exact ⟨-1, rfl, by unfold R32; omega, by simp⟩
  · exact ⟨0, rfl, by unfold R32; omega, by simp⟩
  · exact ⟨1, rfl, by unfold R32; omega, by simp⟩
theorem lt_units {C : Nat} {Q R : Int} (hC : 2 ^ 52 ≤ C ∧ C < 2 ^ 53) : C * 2 ^ (Q - min Q R).toNat < 2 ^ 52 * 2 ^ (R - min Q R).toNat ↔ Q < R := by
  rcases Int.lt_or_le Q R with h | h
  · refine ⟨fun _ => h, fun _ => ?_⟩
    rw [show (Q - min Q R).toNat = 0 by omega, show (R - min Q R).toNat = (R - Q - 1).toNat + 1 by omega, Nat.pow_zero, Nat.mul_one, Nat.pow_succ]
    have := Nat.two_pow_pos (R - Q - 1).toNat
    have e : (2 ^ 53 : Nat) = 2 ^ 52 * 2 := rfl
    have k : 2 ^ 52 * 2 ≤ 2 ^ 52 * (2 ^ (R - Q - 1).toNat * 2) := Nat.mul_le_mul_left _ (by omega)
    omega
  · refine ⟨fun k => absurd k ?_, fun k => by omega⟩
    rw [show (R - min Q R).toNat = 0 by omega, Nat.pow_zero, Nat.mul_one]
    have := Nat.two_pow_pos (Q - min Q R).toNat
    have k : C * 1 ≤ C * 2 ^ (Q - min Q R).toNat := Nat.mul_le_mul_left _ this
    omega
theorem cmp_lt {a b : Int} : compare a b = .lt ↔ a < b := by
  rw [FP.Core.compare_ite]
  split
  · exact ⟨fun _ => by assumption, fun _ => rfl⟩
  · split
    · exact ⟨fun h => (by cases h), fun h => (by omega)⟩
    · exact ⟨fun h => (by cases h), fun h => (by omega)⟩
theorem JB.cmp {x : UInt32} {d b : UInt64} {p R : Int} (h : JB x d p) (hb : FP.Core.val64 b = .fin false (2 ^ 52) R) (hR : -1074 ≤ R) (g : CmpOp) : ∃ z : Int, Op.cmpValue (FP.dcmp d b) g = iZ z ∧ R32 z ∧ (z < 0 ↔ DL d R) := by
  have hd : FP.dcmp d b = FP.Core.order (FP.Core.val64 d) (FP.Core.val64 b) := rfl
  have ho : ∃ o, FP.dcmp d b = some o ∧ (o = .lt ↔ DL d R) := by
    rw [hd, hb]
    rcases h with ⟨-, h⟩ | ⟨-, h⟩ | ⟨c, C, q, Q, -, -, -, -, hC, -, -, h⟩
    · refine ⟨_, by rw [h]; rfl, ⟨fun k => by rw [cmp_lt] at k; simp [FP.Core.signed] at k, fun k => ?_⟩⟩
      rcases k with k | ⟨C, Q, -, k, -⟩ <;> (rw [h] at k; cases k)
    · refine ⟨_, by rw [h]; rfl, ⟨fun _ => Or.inl h, fun _ => ?_⟩⟩
      rw [cmp_lt]
      simp only [FP.Core.signed, FP.Core.inUnits]
      have := Nat.two_pow_pos (R - min (-1074) R).toNat
      have k : 2 ^ 52 * 1 ≤ 2 ^ 52 * 2 ^ (R - min (-1074) R).toNat := Nat.mul_le_mul_left _ this
      have k2 : (0 * 2 ^ ((-1074 : Int) - min (-1074) R).toNat : Nat) < 2 ^ 52 * 2 ^ (R - min (-1074) R).toNat := by rw [Nat.zero_mul]; omega
      exact Int.ofNat_lt.mpr k2
    · refine ⟨_, by rw [h]; rfl, ?_⟩
      rw [cmp_lt]
      have k := lt_units (Q := Q - p) (R := R) hC
      simp only [FP.Core.signed, FP.Core.inUnits]
      refine ⟨fun k2 => Or.inr ⟨C, Q - p, hC, h, k.mp (Int.ofNat_lt.mp k2)⟩, fun k2 => ?_⟩
      rcases k2 with k2 | ⟨C', Q', hC', k2, k3⟩
      · rw [h] at k2; injection k2; omega
      · rw [h] at k2; injection k2 with _ e1 e2; subst e1; subst e2; exact Int.ofNat_lt.mpr (k.mpr k3)
  obtain ⟨o, h1, h2⟩ := ho
  obtain ⟨z, z1, z2, z3⟩ := cvO o g
  exact ⟨z, by rw [h1, z1], z2, z3.trans h2⟩
theorem JB.half {x : UInt32} {d : UInt64} {p : Int} (h : JB x d p) (hn : ¬ DL d (-51)) (hp : 0 ≤ p) : JB x (FP.ddiv d 4611686018427387904) (p + 1) := by
  have hv : FP.Core.val64 (FP.ddiv d 4611686018427387904) = FP.Core.quotient FP.Core.b64 (FP.Core.val64 d) (FP.Core.val64 4611686018427387904) := FP.Core.val64_ddiv _ _
  rw [v2_] at hv
  rcases h with ⟨h0, h⟩ | ⟨h0, h⟩ | ⟨c, C, q, Q, h0, h1, h2, h3, hC, h4, h5, h⟩
  · exact Or.inl ⟨h0, by rw [hv, h]; rfl⟩
  · exact absurd (Or.inl h) hn
  · have hQ : ¬ (Q - p < -51) := fun k => hn (Or.inr ⟨C, Q - p, hC, h, k⟩)
    refine Or.inr (Or.inr ⟨c, C, q, Q, h0, h1, h2, h3, hC, h4, h5, ?_⟩)
    rw [hv, h]
    show (if 2 ^ 52 = 0 then (if C = 0 then FP.Core.Datum.nan else .inf (false != false)) else FP.Core.roundRatio FP.Core.b64 (false != false) C (2 ^ 52) (Q - p - -51)) = _
    rw [if_neg (by decide)]
    refine FP.Core.roundRatio_exact FP.Core.good_b64 (by decide) (fit64 hC (by omega)) ?_
    rw [show (Q - p - -51 - (Q - (p + 1))).toNat = 52 by omega, show (Q - (p + 1) - (Q - p - -51)).toNat = 0 by omega, Nat.pow_zero, Nat.mul_one]
theorem JB.dbl {x : UInt32} {d : UInt64} {p : Int} (h : JB x d p) (hn : DL d (-52)) (hp : -126 < p ∧ p ≤ 127) : JB x (FP.dmul d 4611686018427387904) (p - 1) := by
  have hv : FP.Core.val64 (FP.dmul d 4611686018427387904) = FP.Core.round FP.Core.b64 (FP.Core.exactProduct (FP.Core.val64 d) (FP.Core.val64 4611686018427387904)) := FP.Core.val64_dmul _ _
  rw [v2_] at hv
  rcases h with ⟨h0, h⟩ | ⟨h0, h⟩ | ⟨c, C, q, Q, h0, h1, h2, h3, hC, h4, h5, h⟩
  · rcases hn with k | ⟨_, _, _, k, _⟩ <;> (rw [h] at k; cases k)
  · refine Or.inr (Or.inl ⟨h0, ?_⟩)
    rw [hv, h]
    show FP.Core.roundRatio FP.Core.b64 (false != false) (0 * 2 ^ 52) 1 _ = _
    rw [Nat.zero_mul, ← qmin64]; rfl
  · have hQ : Q - p < -52 := by
      rcases hn with k | ⟨C', Q', _, k, k2⟩
      · rw [h] at k; injection k; omega
      · rw [h] at k; injection k with _ _ e2; omega
    refine Or.inr (Or.inr ⟨c, C, q, Q, h0, h1, h2, h3, hC, h4, h5, ?_⟩)
    rw [hv, h]
    show FP.Core.roundRatio FP.Core.b64 (false != false) (C * 2 ^ 52) 1 (Q - p + -51) = _
    refine FP.Core.roundRatio_exact FP.Core.good_b64 (by decide) (fit64 hC (by omega)) ?_
    rw [show (Q - p + -51 - (Q - (p - 1))).toNat = 0 by omega, show (Q - (p - 1) - (Q - p + -51)).toNat = 52 by omega, Nat.pow_zero, Nat.mul_one, Nat.mul_one]
/-- the power never reaches 128 but for the infinite one -/
theorem JB.top {x : UInt32} {d : UInt64} {p : Int} (h : JB x d p) (hp : 128 ≤ p) (hg : ¬ DL d (-52)) : FP.Core.val32 x = .inf false := by
  rcases h with ⟨h0, h⟩ | ⟨h0, h⟩ | ⟨c, C, q, Q, h0, h1, h2, h3, hC, h4, h5, h⟩
  · exact h0
  · exact absurd (Or.inl h) hg
  · exfalso
    have hQ : ¬ (Q - p < -52) := fun k => hg (Or.inr ⟨C, Q - p, hC, h, k⟩)
    have h6 : (q - Q).toNat < 29 := by omega
    have h7 : 2 ^ (q - Q).toNat ≤ 2 ^ 28 := Nat.pow_le_pow_right (by decide) (by omega)
    have h8 : c * 2 ^ (q - Q).toNat ≤ c * 2 ^ 28 := Nat.mul_le_mul_left _ h7
    have e : (2 ^ 52 : Nat) = 2 ^ 24 * 2 ^ 28 := rfl
    have h9 : c * 2 ^ 28 < 2 ^ 24 * 2 ^ 28 := Nat.mul_lt_mul_of_pos_right h1.2 (by decide)
    omega
theorem bits_inf {x : UInt32} (h : FP.Core.val32 x = .inf false) : x.toNat = 2139095040 := by
  have h1 : FP.Core.val32 x = FP.Core.val32 2139095040 := by rw [h]; exact (FP.Core.val32_inf false).symm
  have h2 := FP.Core.val32_inj (by rw [h]; exact FP.Core.Datum.noConfusion) h1
  rw [h2]; rfl
theorem bits_fin {x : UInt32} {c : Nat} {q : Int} (h : FP.Core.val32 x = .fin false c q) : x.toNat = if c < 2 ^ 23 then c else ((q + 149).toNat + 1) * 2 ^ 23 + (c - 2 ^ 23) := by
  have h1 : FP.Core.encode FP.Core.b32 (FP.Core.val32 x) = x.toNat := FP.Core.encode_decode FP.Core.good_b32 _ (by rw [FP.Core.size_b32]; exact x.toNat_lt) (by show FP.Core.val32 x ≠ _; rw [h]; exact FP.Core.Datum.noConfusion)
  rw [← h1, h]
  show (if c < FP.Core.b32.tails then FP.Core.assemble FP.Core.b32 false 0 c else FP.Core.assemble FP.Core.b32 false ((q - FP.Core.b32.qmin).toNat + 1) (c - FP.Core.b32.tails)) = _
  rw [qmin32, show FP.Core.b32.tails = 2 ^ 23 from rfl]
  unfold FP.Core.assemble
  rw [show FP.Core.b32.tails = 2 ^ 23 from rfl, show q - -149 = q + 149 by omega]
  simp
theorem FN.lt {x : UInt32} (h : FN x) : x.toNat ≤ 2139095040 := by
  rcases h with h | ⟨c, q, h⟩
  · rw [bits_inf h]; exact Nat.le_refl _
  · rw [bits_fin h]
    have hf : FP.Core.fits FP.Core.b32 (.fin false c q) := h ▸ FP.Core.val32_fits x
    obtain ⟨g1, g2, g3, g4⟩ := hf
    rw [qmin32] at g2
    rw [qmax32] at g3
    have g1' : c < 2 ^ 24 := g1
    split
    · omega
    · omega
/-- the digits of what the two loops leave -/
theorem JB.fin {x : UInt32} {d : UInt64} {p : Int} (h : JB x d p) (hl : DL d (-51)) (hp : -126 ≤ p ∧ p ≤ 127) (h2 : DL d (-52) → p = -126) (h3 : 0 < p → ¬ DL d (-52)) : FP.Core.val64 (FP.dmul d 4710765210229538816) ≠ .nan ∧ (DL d (-52) → (FP.d2i (FP.dmul d 4710765210229538816)).toInt = (x.toNat : Int) ∧ x.toNat < 8388608) ∧ (¬ DL d (-52) → (FP.d2i (FP.dmul d 4710765210229538816)).toInt = (x.toNat : Int) - (p + 127) * 8388608 + 8388608 ∧ 0 ≤ (FP.d2i (FP.dmul d 4710765210229538816)).toInt ∧ (FP.d2i (FP.dmul d 4710765210229538816)).toInt < 16777216) := by
  have hv : FP.Core.val64 (FP.dmul d 4710765210229538816) = FP.Core.round FP.Core.b64 (FP.Core.exactProduct (FP.Core.val64 d) (FP.Core.val64 4710765210229538816)) := FP.Core.val64_dmul _ _
  rw [v23_] at hv
  have hd : FP.d2i (FP.dmul d 4710765210229538816) = FP.Core.toI (FP.Core.val64 (FP.dmul d 4710765210229538816)) := rfl
  rcases h with ⟨h0, h⟩ | ⟨h0, h⟩ | ⟨c, C, q, Q, h0, k1, k2, k3, hC, k4, k5, h⟩
  · rcases hl with k | ⟨_, _, _, k, _⟩ <;> (rw [h] at k; cases k)
  · have hz : FP.Core.val64 (FP.dmul d 4710765210229538816) = .fin false 0 (-1074) := by
      rw [hv, h]
      show FP.Core.roundRatio FP.Core.b64 (false != false) (0 * 2 ^ 52) 1 _ = _
      rw [Nat.zero_mul, ← qmin64]; rfl
    have hx : x.toNat = 0 := by rw [bits_fin h0]; rfl
    have hD : DL d (-52) := Or.inl h
    rw [hd, hz, hx]
    exact ⟨FP.Core.Datum.noConfusion, fun _ => ⟨by decide +kernel, by decide⟩, fun k => absurd hD k⟩
  · have hlt : ∀ {R : Int}, DL d R ↔ Q - p < R := fun {R} => ⟨fun k => by
      rcases k with k | ⟨C', Q', _, k, k2⟩
      · rw [h] at k; injection k; omega
      · rw [h] at k; injection k with _ _ e2; omega, fun k => Or.inr ⟨C, Q - p, hC, h, k⟩⟩
    rw [hlt] at hl h2 h3
    have hz : FP.Core.val64 (FP.dmul d 4710765210229538816) = .fin false C (Q - p + 23) := by
      rw [hv, h]
      show FP.Core.roundRatio FP.Core.b64 (false != false) (C * 2 ^ 52) 1 (Q - p + -29) = _
      refine FP.Core.roundRatio_exact FP.Core.good_b64 (by decide) (fit64 hC (by omega)) ?_
      rw [show (Q - p + -29 - (Q - p + 23)).toNat = 0 by omega, show (Q - p + 23 - (Q - p + -29)).toNat = 52 by omega, Nat.pow_zero, Nat.mul_one, Nat.mul_one]
    have ht : FP.Core.truncate false C (Q - p + 23) = ((C / 2 ^ (p - Q - 23).toNat : Nat) : Int) := by
      unfold FP.Core.truncate
      rw [show (Q - p + 23).toNat = 0 by omega, Nat.pow_zero, Nat.mul_one, show -(Q - p + 23) = p - Q - 23 by omega]
      rfl
    have hq : (q - Q).toNat = (p - Q - 23).toNat := by
      rcases Nat.lt_or_ge c (2 ^ 23) with k | k
      · have kq : q = -149 := by omega
        rcases Int.lt_or_le (Q - p) (-52) with m | m
        · omega
        · exfalso
          have h6 : (q - Q).toNat ≤ 29 := by omega
          have h7 : 2 ^ (q - Q).toNat ≤ 2 ^ 29 := Nat.pow_le_pow_right (by decide) h6
          have h8 : c * 2 ^ (q - Q).toNat ≤ c * 2 ^ 29 := Nat.mul_le_mul_left _ h7
          have h9 : c * 2 ^ 29 < 2 ^ 23 * 2 ^ 29 := Nat.mul_lt_mul_of_pos_right k (by decide)
          have e : (2 ^ 52 : Nat) = 2 ^ 23 * 2 ^ 29 := rfl
          omega
      · have g1 : 29 ≤ (q - Q).toNat := by
          rcases Nat.lt_or_ge (q - Q).toNat 29 with m | m
          · exfalso
            have h7 : 2 ^ (q - Q).toNat ≤ 2 ^ 28 := Nat.pow_le_pow_right (by decide) (by omega)
            have h8 : c * 2 ^ (q - Q).toNat ≤ c * 2 ^ 28 := Nat.mul_le_mul_left _ h7
            have h9 : c * 2 ^ 28 < 2 ^ 24 * 2 ^ 28 := Nat.mul_lt_mul_of_pos_right k1.2 (by decide)
            have e : (2 ^ 52 : Nat) = 2 ^ 24 * 2 ^ 28 := rfl
            omega
          · exact m
        have g2 : (q - Q).toNat ≤ 29 := by
          rcases Nat.lt_or_ge 29 (q - Q).toNat with m | m
          · exfalso
            have h7 : 2 ^ 30 ≤ 2 ^ (q - Q).toNat := Nat.pow_le_pow_right (by decide) (by omega)
            have h8 : 2 ^ 23 * 2 ^ 30 ≤ c * 2 ^ (q - Q).toNat := Nat.mul_le_mul k h7
            have e : (2 ^ 53 : Nat) = 2 ^ 23 * 2 ^ 30 := rfl
            omega
          · exact m
        have g3 : ¬ (Q - p < -52) := fun m => by have := h2 m; omega
        omega
    have hc : C / 2 ^ (p - Q - 23).toNat = c := by
      rw [k5, hq, Nat.mul_div_cancel _ (Nat.two_pow_pos _)]
    rw [hc] at ht
    have hi : (FP.d2i (FP.dmul d 4710765210229538816)).toInt = (c : Int) := by
      rw [hd, hz]
      show (iZ (max (-2 ^ 31) (min (2 ^ 31 - 1) (FP.Core.truncate false C (Q - p + 23))))).toInt = _
      rw [ht]
      have e1 : (2 : Int) ^ 31 = 2147483648 := rfl
      have e2 : max (-2 ^ 31 : Int) (min (2 ^ 31 - 1) (c : Int)) = (c : Int) := by omega
      rw [e2, iZ_toInt (by unfold R32; omega)]
    have hx := bits_fin h0
    have hcs : Q - p < -52 → c < 2 ^ 23 := fun m => by
      rcases Nat.lt_or_ge c (2 ^ 23) with k | k
      · exact k
      · exfalso
        have := h2 m
        have h7 : 2 ^ 30 ≤ 2 ^ (q - Q).toNat := Nat.pow_le_pow_right (by decide) (by omega)
        have h8 : 2 ^ 23 * 2 ^ 30 ≤ c * 2 ^ (q - Q).toNat := Nat.mul_le_mul k h7
        have e : (2 ^ 53 : Nat) = 2 ^ 23 * 2 ^ 30 := rfl
        omega
    have hcs2 : ¬ (Q - p < -52) → 2 ^ 23 ≤ c := fun m => by
      rcases Nat.lt_or_ge c (2 ^ 23) with k | k
      · exfalso
        have h6 : (q - Q).toNat ≤ 29 := by omega
        have h7 : 2 ^ (q - Q).toNat ≤ 2 ^ 29 := Nat.pow_le_pow_right (by decide) h6
        have h8 : c * 2 ^ (q - Q).toNat ≤ c * 2 ^ 29 := Nat.mul_le_mul_left _ h7
        have h9 : c * 2 ^ 29 < 2 ^ 23 * 2 ^ 29 := Nat.mul_lt_mul_of_pos_right k (by decide)
        have e : (2 ^ 52 : Nat) = 2 ^ 23 * 2 ^ 29 := rfl
        omega
      · exact k
    refine ⟨by rw [hz]; exact FP.Core.Datum.noConfusion, ?_, ?_⟩
    · rw [hi, hlt]
      intro m
      have := hcs m
      rw [hx, if_pos this]
      omega
    · rw [hi, hlt]
      intro m
      have := hcs2 m
      rw [hx, if_neg (by omega)]
      have hpq : p = q + 23 := by
        have : (p - Q - 23).toNat = 29 := by omega
        omega
      refine ⟨by omega, by omega, by omega⟩

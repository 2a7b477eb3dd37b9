theorem JB.half_g {x : UInt32} {d : UInt64} {p : Int} (h : JB x d p) (hn : ¬ DL d (-51)) (hp : 0 ≤ p) : ¬ DL (FP.ddiv d 4611686018427387904) (-52) := by
  have hv : FP.Core.val64 (FP.ddiv d 4611686018427387904) = FP.Core.quotient FP.Core.b64 (FP.Core.val64 d) (FP.Core.val64 4611686018427387904) := FP.Core.val64_ddiv _ _
  rw [v2_] at hv
  rcases h with ⟨h0, h⟩ | ⟨h0, h⟩ | ⟨c, C, q, Q, h0, h1, h2, h3, hC, h4, h5, h⟩
  · rw [h] at hv
    intro k
    rcases k with k | ⟨_, _, _, k, _⟩ <;> (rw [hv] at k; cases k)
  · exact absurd (Or.inl h) hn
  · have hQ : ¬ (Q - p < -51) := fun k => hn (Or.inr ⟨C, Q - p, hC, h, k⟩)
    have hz : FP.Core.val64 (FP.ddiv d 4611686018427387904) = .fin false C (Q - (p + 1)) := by
      rw [hv, h]
      show (if 2 ^ 52 = 0 then (if C = 0 then FP.Core.Datum.nan else .inf (false != false)) else FP.Core.roundRatio FP.Core.b64 (false != false) C (2 ^ 52) (Q - p - -51)) = _
      rw [if_neg (by decide)]
      refine FP.Core.roundRatio_exact FP.Core.good_b64 (by decide) (fit64 hC (by omega)) ?_
      rw [show (Q - p - -51 - (Q - (p + 1))).toNat = 52 by omega, show (Q - (p + 1) - (Q - p - -51)).toNat = 0 by omega, Nat.pow_zero, Nat.mul_one]
    intro k
    rcases k with k | ⟨_, _, _, k, k2⟩
    · rw [hz] at k; injection k; omega
    · rw [hz] at k; injection k with _ _ e2; omega
theorem JB.dbl_l {x : UInt32} {d : UInt64} {p : Int} (h : JB x d p) (hn : DL d (-52)) (hp : -126 < p ∧ p ≤ 127) : DL (FP.dmul d 4611686018427387904) (-51) := by
  have hv : FP.Core.val64 (FP.dmul d 4611686018427387904) = FP.Core.round FP.Core.b64 (FP.Core.exactProduct (FP.Core.val64 d) (FP.Core.val64 4611686018427387904)) := FP.Core.val64_dmul _ _
  rw [v2_] at hv
  rcases h with ⟨h0, h⟩ | ⟨h0, h⟩ | ⟨c, C, q, Q, h0, h1, h2, h3, hC, h4, h5, h⟩
  · rcases hn with k | ⟨_, _, _, k, _⟩ <;> (rw [h] at k; cases k)
  · refine Or.inl ?_
    rw [hv, h]
    show FP.Core.roundRatio FP.Core.b64 (false != false) (0 * 2 ^ 52) 1 _ = _
    rw [Nat.zero_mul, ← qmin64]; rfl
  · have hQ : Q - p < -52 := by
      rcases hn with k | ⟨C', Q', _, k, k2⟩
      · rw [h] at k; injection k; omega
      · rw [h] at k; injection k with _ _ e2; omega
    refine Or.inr ⟨C, Q - (p - 1), hC, ?_, by omega⟩
    rw [hv, h]
    show FP.Core.roundRatio FP.Core.b64 (false != false) (C * 2 ^ 52) 1 (Q - p + -51) = _
    refine FP.Core.roundRatio_exact FP.Core.good_b64 (by decide) (fit64 hC (by omega)) ?_
    rw [show (Q - p + -51 - (Q - (p - 1))).toNat = 0 by omega, show (Q - (p - 1) - (Q - p + -51)).toNat = 52 by omega, Nat.pow_zero, Nat.mul_one, Nat.mul_one]
theorem sh23_all : ∀ v : Fin 256, iZ (v.val : Int) <<< (iZ 23 &&& 31) = iZ ((v.val : Int) * 8388608) := by decide +kernel
theorem sh23 {v : Int} (h : 0 ≤ v ∧ v < 256) : iZ v <<< (iZ 23 &&& 31) = iZ (v * 8388608) := by
  have := sh23_all ⟨v.toNat, by omega⟩
  rwa [show ((v.toNat : Nat) : Int) = v by omega] at this
theorem FN.div {x y : UInt32} {a b : Nat} (hx : fB x a) (hy : fB y b) (h0 : fz y ≠ 0) : FN (FP.fdiv x y) := by
  obtain ⟨c, q, h1, h2⟩ := hx
  obtain ⟨d, r, h3, h4⟩ := hy
  have hv : FP.Core.val32 (FP.fdiv x y) = FP.Core.quotient FP.Core.b32 (FP.Core.val32 x) (FP.Core.val32 y) := FP.Core.val32_fdiv x y
  have hd : d ≠ 0 := fun e => h0 (by unfold fz; rw [h3, e]; show FP.Core.inUnits 0 r _ = 0; unfold FP.Core.inUnits; rw [Nat.zero_mul])
  rw [h1, h3] at hv
  have hv2 : FP.Core.val32 (FP.fdiv x y) = FP.Core.roundRatio FP.Core.b32 false c d (q - r) := by
    rw [hv]
    show (if d = 0 then (if c = 0 then FP.Core.Datum.nan else .inf (false != false)) else FP.Core.roundRatio FP.Core.b32 (false != false) c d (q - r)) = _
    rw [if_neg hd]; rfl
  rcases FP.Core.roundRatio_cases FP.Core.b32 false c d (q - r) with ⟨c', q', e⟩ | e
  · have hs := FP.Core.sgn_roundRatio FP.Core.b32 false c d (q - r)
    rw [e] at hs
    exact Or.inr ⟨c', q', by rw [hv2, e]⟩
  · exact Or.inl (by rw [hv2, e])
theorem FN.ne {x : UInt32} (h : FN x) : FP.Core.val32 x ≠ .nan := by
  rcases h with h | ⟨c, q, h⟩ <;> rw [h] <;> exact FP.Core.Datum.noConfusion
theorem FN.vf {x : UInt32} (h : FN x) : vf_n32 x := vf_of h.ne
/-- the error of a thought against rows, as the class tells it -/
def erF (a b : UInt32) : UInt32 := if fz a = 0 then (if fz b = 0 then FP.fconst1 else FP.fconst0) else if fz b = 0 then FP.fconst0 else if FP.fcmp (FP.fdiv a b) (FP.fdiv b a) = some .lt then FP.fdiv b a else FP.fdiv a b
theorem erF_N {a b : UInt32} {m n : Nat} (ha : fB a m) (hb : fB b n) : FN (erF a b) := by
  unfold erF
  split
  · split
    · exact FN.of fB_1
    · exact FN.of fB_0
  · split
    · exact FN.of fB_0
    · split
      · exact FN.div hb ha (by assumption)
      · exact FN.div ha hb (by assumption)
set_option maxHeartbeats 4000000 in
set_option maxRecDepth 100000 in
theorem c_X9_bitsOf {κ : Kp} (hI : Ij κ) (l : Launch) (σ : St) {x : UInt32} (hx : FN x) : CtI κ l 0 yX9_bitsOf cX9_bitsOf 5 .int [.float x] σ (fun z σ' => z = (x.toNat : Int) ∧ σ' = σ) := by
  refine Ct.ofG (own := RX9) hI (by decide +kernel) rfl (Nat.le_of_ble_eq_true rfl) rfl ?_
  intro M C hMl
  refine g_fload_n C dX9_bitsOf_0 rfl ?_
  refine g_f2d C dX9_bitsOf_1 (vd_of (JB.init hx).ne) ?_
  refine g_dstore_n (L' := [(1, .double (FP.f2d x)), (0, .float x)]) C dX9_bitsOf_2 rfl (by decide) rfl ?_
  refine g_iconst (z := 0) C dX9_bitsOf_3 rfl ?_
  refine g_istore_n (L' := [(3, .int (iZ 0)), (1, .double (FP.f2d x)), (0, .float x)]) C dX9_bitsOf_4 rfl (by decide) rfl ?_
  have lp5 : ∀ (fz9 : Nat) (d : UInt64) (x3 : Int), ((128 - x3).toNat < fz9) → (0 ≤ x3 ∧ x3 ≤ 128) → (JB x d x3) → (0 < x3 → ¬ DL d (-52)) → G M κ 5 (En M κ (qI κ (fun z σ' => z = (x.toNat : Int) ∧ σ' = σ))) 5 [(0, .float x), (1, .double d), (3, .int (iZ x3))] [] σ := by
    intro fz9
    induction fz9 with
    | zero => intro d x3 hm0; exact absurd hm0 (Nat.not_lt_zero _)
    | succ fz9 ih =>
      intro d x3 hm5 hp hJ hg
      refine g_dload_n C dX9_bitsOf_5 rfl ?_
      refine g_ldc2d C dX9_bitsOf_6 wq_218 ?_
      refine g_pc (pc' := 9) rfl ?_
      refine g_dcmp C dX9_bitsOf_9 ?_
      obtain ⟨z9, hz9, hr9, hl9⟩ := hJ.cmp v2_ (by decide) .l
      refine g_raw hz9 ?_
      refine g_if_lt (tgt := 32) C dX9_bitsOf_10 (by decide) hr9 (fun h1 => ?_) (fun h1 => ?_)
      · refine g_iload_n C dX9_bitsOf_32 rfl ?_
        refine g_sipush (z := 128) C dX9_bitsOf_33 rfl ?_
        refine g_icmp_ne (tgt := 43) C dX9_bitsOf_36 (by decide) (by unfold R32; omega) (fun h2 => ?_) (fun h2 => ?_)
        · have lp43 : ∀ (fz9 : Nat) (d : UInt64) (y : Int), ((y + 126).toNat < fz9) → (JB x d y) → (DL d (-51)) → (-126 ≤ y ∧ y ≤ 127) → (0 < y → ¬ DL d (-52)) → G M κ 5 (En M κ (qI κ (fun z σ' => z = (x.toNat : Int) ∧ σ' = σ))) 43 [(0, .float x), (1, .double d), (3, .int (iZ y))] [] σ := by
            intro fz9
            induction fz9 with
            | zero => intro d y hm0; exact absurd hm0 (Nat.not_lt_zero _)
            | succ fz9 ih =>
              intro d y hm43 hJ2 hl2 hy hg2
              refine g_dload_n C dX9_bitsOf_43 rfl ?_
              refine g_dconst1 C dX9_bitsOf_44 ?_
              refine g_dcmp C dX9_bitsOf_45 ?_
              obtain ⟨z8, hz8, hr8, hl8⟩ := hJ2.cmp FP.Core.val64_dconst1 (by decide) .g
              refine g_raw hz8 ?_
              refine g_pc (pc' := 46) rfl ?_
              refine g_if_ge (tgt := 67) C dX9_bitsOf_46 (by decide) hr8 (fun h3 => ?_) (fun h3 => ?_)
              · have hf := hJ2.fin hl2 hy (fun k => by have := hl8.mpr k; omega) hg2
                refine g_dload_n C dX9_bitsOf_67 rfl ?_
                refine g_ldc2d C dX9_bitsOf_68 wq_220 ?_
                refine g_dmul C dX9_bitsOf_71 (vd_of hf.1) ?_
                refine g_d2i C dX9_bitsOf_72 ?_
                refine g_raw (iZ_of _) ?_
                refine g_istore (L' := [(4, .int (iZ (FP.d2i (FP.dmul d 4710765210229538816)).toInt)), (0, .float x), (1, .double d), (3, .int (iZ y))]) C dX9_bitsOf_73 (by decide) rfl ?_
                refine g_dload_n C dX9_bitsOf_75 rfl ?_
                refine g_dconst1 C dX9_bitsOf_76 ?_
                refine g_pc (pc' := 77) rfl ?_
                refine g_dcmp C dX9_bitsOf_77 ?_
                obtain ⟨z7, hz7, hr7, hl7⟩ := hJ2.cmp FP.Core.val64_dconst1 (by decide) .g
                refine g_raw hz7 ?_
                refine g_if_ge (tgt := 86) C dX9_bitsOf_78 (by decide) hr7 (fun h4 => ?_) (fun h4 => ?_)
                · refine g_iload_n C dX9_bitsOf_86 rfl ?_
                  refine g_bipush (z := 127) C dX9_bitsOf_87 rfl ?_
                  refine g_iadd C dX9_bitsOf_89 ?_
                  refine g_bipush (z := 23) C dX9_bitsOf_90 rfl ?_
                  refine g_ishl C dX9_bitsOf_92 ?_
                  refine g_raw (sh23 (by omega)) ?_
                  refine g_iload C dX9_bitsOf_93 rfl ?_
                  refine g_pc (pc' := 95) rfl ?_
                  refine g_ldcw (z := 8388608) C dX9_bitsOf_95 wq_221 ?_
                  refine g_isub C dX9_bitsOf_98 ?_
                  refine g_iadd C dX9_bitsOf_99 ?_
                  exact g_ireturn C dX9_bitsOf_100 ⟨by have hq := hf.2.2 (fun k => by have := hl7.mpr k; omega); omega, rfl⟩
                · refine g_iload C dX9_bitsOf_81 rfl ?_
                  refine g_goto (tgt := 100) C dX9_bitsOf_83 (by decide) ?_
                  exact g_ireturn C dX9_bitsOf_100 ⟨(hf.2.1 (hl7.mp (by omega))).1, rfl⟩
              · refine g_iload_n C dX9_bitsOf_49 rfl ?_
                refine g_pc (pc' := 50) rfl ?_
                refine g_bipush (z := (-126)) C dX9_bitsOf_50 rfl ?_
                refine g_icmp_le (tgt := 67) C dX9_bitsOf_52 (by decide) (by unfold R32; omega) (fun h5 => ?_) (fun h5 => ?_)
                · have hf := hJ2.fin hl2 hy (fun k => by have := hl8.mpr k; omega) hg2
                  refine g_dload_n C dX9_bitsOf_67 rfl ?_
                  refine g_ldc2d C dX9_bitsOf_68 wq_220 ?_
                  refine g_dmul C dX9_bitsOf_71 (vd_of hf.1) ?_
                  refine g_d2i C dX9_bitsOf_72 ?_
                  refine g_raw (iZ_of _) ?_
                  refine g_istore (L' := [(4, .int (iZ (FP.d2i (FP.dmul d 4710765210229538816)).toInt)), (0, .float x), (1, .double d), (3, .int (iZ y))]) C dX9_bitsOf_73 (by decide) rfl ?_
                  refine g_dload_n C dX9_bitsOf_75 rfl ?_
                  refine g_pc (pc' := 76) rfl ?_
                  refine g_dconst1 C dX9_bitsOf_76 ?_
                  refine g_dcmp C dX9_bitsOf_77 ?_
                  obtain ⟨z7, hz7, hr7, hl7⟩ := hJ2.cmp FP.Core.val64_dconst1 (by decide) .g
                  refine g_raw hz7 ?_
                  refine g_if_ge (tgt := 86) C dX9_bitsOf_78 (by decide) hr7 (fun h6 => ?_) (fun h6 => ?_)
                  · refine g_iload_n C dX9_bitsOf_86 rfl ?_
                    refine g_bipush (z := 127) C dX9_bitsOf_87 rfl ?_
                    refine g_iadd C dX9_bitsOf_89 ?_
                    refine g_bipush (z := 23) C dX9_bitsOf_90 rfl ?_
                    refine g_ishl C dX9_bitsOf_92 ?_
                    refine g_raw (sh23 (by omega)) ?_
                    refine g_pc (pc' := 93) rfl ?_
                    refine g_iload C dX9_bitsOf_93 rfl ?_
                    refine g_ldcw (z := 8388608) C dX9_bitsOf_95 wq_221 ?_
                    refine g_isub C dX9_bitsOf_98 ?_
                    refine g_iadd C dX9_bitsOf_99 ?_
                    exact g_ireturn C dX9_bitsOf_100 ⟨by have hq := hf.2.2 (fun k => by have := hl7.mpr k; omega); omega, rfl⟩
                  · refine g_iload C dX9_bitsOf_81 rfl ?_
                    refine g_goto (tgt := 100) C dX9_bitsOf_83 (by decide) ?_
                    exact g_ireturn C dX9_bitsOf_100 ⟨(hf.2.1 (hl7.mp (by omega))).1, rfl⟩
                · have hE : DL d (-52) := hl8.mp (by omega)
                  have hy0 : y ≤ 0 := by rcases Int.lt_or_le 0 y with q | q; exact absurd hE (hg2 q); exact q
                  refine g_pc (pc' := 55) rfl ?_
                  refine g_dload_n C dX9_bitsOf_55 rfl ?_
                  refine g_ldc2d C dX9_bitsOf_56 wq_218 ?_
                  refine g_dmul C dX9_bitsOf_59 (vd_of (hJ2.dbl hE ⟨by omega, by omega⟩).ne) ?_
                  refine g_dstore_n (L' := [(1, .double (FP.dmul d 4611686018427387904)), (0, .float x), (3, .int (iZ y))]) C dX9_bitsOf_60 rfl (by decide) rfl ?_
                  refine g_iinc (q := 2) (v := (y + (-1))) (L' := [(3, .int (iZ (y + (-1)))), (1, .double (FP.dmul d 4611686018427387904)), (0, .float x)]) C dX9_bitsOf_61 rfl rfl (by decide) rfl ?_
                  refine g_goto (tgt := 43) C dX9_bitsOf_64 (by decide) ?_
                  exact g_loc [2, 1, 0] (by rfl) (ih (FP.dmul d 4611686018427387904) (y + (-1)) (by omega) (hJ2.dbl hE ⟨by omega, by omega⟩) (hJ2.dbl_l hE ⟨by omega, by omega⟩) (by omega) (fun q => by omega))
          exact g_loc [0, 1, 2] (by rfl) (lp43 _ d x3 (Nat.lt_succ_self _) hJ (by first | exact hl9.mp (by assumption) | (exfalso; omega)) (by omega) hg)
        · refine g_ldcw (z := 2139095040) C dX9_bitsOf_39 wq_219 ?_
          exact g_ireturn C dX9_bitsOf_42 ⟨by rw [bits_inf (hJ.top (by omega) (hg (by omega)))]; rfl, rfl⟩
      · refine g_pc (pc' := 13) rfl ?_
        refine g_iload_n C dX9_bitsOf_13 rfl ?_
        refine g_sipush (z := 128) C dX9_bitsOf_14 rfl ?_
        refine g_icmp_ge (tgt := 32) C dX9_bitsOf_17 (by decide) (by unfold R32; omega) (fun h7 => ?_) (fun h7 => ?_)
        · refine g_iload_n C dX9_bitsOf_32 rfl ?_
          refine g_sipush (z := 128) C dX9_bitsOf_33 rfl ?_
          refine g_icmp_ne (tgt := 43) C dX9_bitsOf_36 (by decide) (by unfold R32; omega) (fun h8 => ?_) (fun h8 => ?_)
          · have lp43 : ∀ (fz9 : Nat) (d : UInt64) (y : Int), ((y + 126).toNat < fz9) → (JB x d y) → (DL d (-51)) → (-126 ≤ y ∧ y ≤ 127) → (0 < y → ¬ DL d (-52)) → G M κ 5 (En M κ (qI κ (fun z σ' => z = (x.toNat : Int) ∧ σ' = σ))) 43 [(0, .float x), (1, .double d), (3, .int (iZ y))] [] σ := by
              intro fz9
              induction fz9 with
              | zero => intro d y hm0; exact absurd hm0 (Nat.not_lt_zero _)
              | succ fz9 ih =>
                intro d y hm43 hJ2 hl2 hy hg2
                refine g_dload_n C dX9_bitsOf_43 rfl ?_
                refine g_dconst1 C dX9_bitsOf_44 ?_
                refine g_pc (pc' := 45) rfl ?_
                refine g_dcmp C dX9_bitsOf_45 ?_
                obtain ⟨z8, hz8, hr8, hl8⟩ := hJ2.cmp FP.Core.val64_dconst1 (by decide) .g
                refine g_raw hz8 ?_
                refine g_if_ge (tgt := 67) C dX9_bitsOf_46 (by decide) hr8 (fun h9 => ?_) (fun h9 => ?_)
                · have hf := hJ2.fin hl2 hy (fun k => by have := hl8.mpr k; omega) hg2
                  refine g_dload_n C dX9_bitsOf_67 rfl ?_
                  refine g_ldc2d C dX9_bitsOf_68 wq_220 ?_
                  refine g_dmul C dX9_bitsOf_71 (vd_of hf.1) ?_
                  refine g_d2i C dX9_bitsOf_72 ?_
                  refine g_raw (iZ_of _) ?_
                  refine g_istore (L' := [(4, .int (iZ (FP.d2i (FP.dmul d 4710765210229538816)).toInt)), (0, .float x), (1, .double d), (3, .int (iZ y))]) C dX9_bitsOf_73 (by decide) rfl ?_
                  refine g_dload_n C dX9_bitsOf_75 rfl ?_
                  refine g_pc (pc' := 76) rfl ?_
                  refine g_dconst1 C dX9_bitsOf_76 ?_
                  refine g_dcmp C dX9_bitsOf_77 ?_
                  obtain ⟨z7, hz7, hr7, hl7⟩ := hJ2.cmp FP.Core.val64_dconst1 (by decide) .g
                  refine g_raw hz7 ?_
                  refine g_if_ge (tgt := 86) C dX9_bitsOf_78 (by decide) hr7 (fun h10 => ?_) (fun h10 => ?_)
                  · refine g_iload_n C dX9_bitsOf_86 rfl ?_
                    refine g_bipush (z := 127) C dX9_bitsOf_87 rfl ?_
                    refine g_iadd C dX9_bitsOf_89 ?_
                    refine g_bipush (z := 23) C dX9_bitsOf_90 rfl ?_
                    refine g_ishl C dX9_bitsOf_92 ?_
                    refine g_raw (sh23 (by omega)) ?_
                    refine g_pc (pc' := 93) rfl ?_
                    refine g_iload C dX9_bitsOf_93 rfl ?_
                    refine g_ldcw (z := 8388608) C dX9_bitsOf_95 wq_221 ?_
                    refine g_isub C dX9_bitsOf_98 ?_
                    refine g_iadd C dX9_bitsOf_99 ?_
                    exact g_ireturn C dX9_bitsOf_100 ⟨by have hq := hf.2.2 (fun k => by have := hl7.mpr k; omega); omega, rfl⟩
                  · refine g_iload C dX9_bitsOf_81 rfl ?_
                    refine g_goto (tgt := 100) C dX9_bitsOf_83 (by decide) ?_
                    exact g_ireturn C dX9_bitsOf_100 ⟨(hf.2.1 (hl7.mp (by omega))).1, rfl⟩
                · refine g_pc (pc' := 49) rfl ?_
                  refine g_iload_n C dX9_bitsOf_49 rfl ?_
                  refine g_bipush (z := (-126)) C dX9_bitsOf_50 rfl ?_
                  refine g_icmp_le (tgt := 67) C dX9_bitsOf_52 (by decide) (by unfold R32; omega) (fun h11 => ?_) (fun h11 => ?_)
                  · have hf := hJ2.fin hl2 hy (fun k => by have := hl8.mpr k; omega) hg2
                    refine g_dload_n C dX9_bitsOf_67 rfl ?_
                    refine g_ldc2d C dX9_bitsOf_68 wq_220 ?_
                    refine g_dmul C dX9_bitsOf_71 (vd_of hf.1) ?_
                    refine g_d2i C dX9_bitsOf_72 ?_
                    refine g_raw (iZ_of _) ?_
                    refine g_istore (L' := [(4, .int (iZ (FP.d2i (FP.dmul d 4710765210229538816)).toInt)), (0, .float x), (1, .double d), (3, .int (iZ y))]) C dX9_bitsOf_73 (by decide) rfl ?_
                    refine g_pc (pc' := 75) rfl ?_
                    refine g_dload_n C dX9_bitsOf_75 rfl ?_
                    refine g_dconst1 C dX9_bitsOf_76 ?_
                    refine g_dcmp C dX9_bitsOf_77 ?_
                    obtain ⟨z7, hz7, hr7, hl7⟩ := hJ2.cmp FP.Core.val64_dconst1 (by decide) .g
                    refine g_raw hz7 ?_
                    refine g_if_ge (tgt := 86) C dX9_bitsOf_78 (by decide) hr7 (fun h12 => ?_) (fun h12 => ?_)
                    · refine g_iload_n C dX9_bitsOf_86 rfl ?_
                      refine g_bipush (z := 127) C dX9_bitsOf_87 rfl ?_
                      refine g_iadd C dX9_bitsOf_89 ?_
                      refine g_bipush (z := 23) C dX9_bitsOf_90 rfl ?_
                      refine g_pc (pc' := 92) rfl ?_
                      refine g_ishl C dX9_bitsOf_92 ?_
                      refine g_raw (sh23 (by omega)) ?_
                      refine g_iload C dX9_bitsOf_93 rfl ?_
                      refine g_ldcw (z := 8388608) C dX9_bitsOf_95 wq_221 ?_
                      refine g_isub C dX9_bitsOf_98 ?_
                      refine g_iadd C dX9_bitsOf_99 ?_
                      exact g_ireturn C dX9_bitsOf_100 ⟨by have hq := hf.2.2 (fun k => by have := hl7.mpr k; omega); omega, rfl⟩
                    · refine g_iload C dX9_bitsOf_81 rfl ?_
                      refine g_goto (tgt := 100) C dX9_bitsOf_83 (by decide) ?_
                      refine g_pc (pc' := 100) rfl ?_
                      exact g_ireturn C dX9_bitsOf_100 ⟨(hf.2.1 (hl7.mp (by omega))).1, rfl⟩
                  · have hE : DL d (-52) := hl8.mp (by omega)
                    have hy0 : y ≤ 0 := by rcases Int.lt_or_le 0 y with q | q; exact absurd hE (hg2 q); exact q
                    refine g_dload_n C dX9_bitsOf_55 rfl ?_
                    refine g_ldc2d C dX9_bitsOf_56 wq_218 ?_
                    refine g_dmul C dX9_bitsOf_59 (vd_of (hJ2.dbl hE ⟨by omega, by omega⟩).ne) ?_
                    refine g_dstore_n (L' := [(1, .double (FP.dmul d 4611686018427387904)), (0, .float x), (3, .int (iZ y))]) C dX9_bitsOf_60 rfl (by decide) rfl ?_
                    refine g_iinc (q := 2) (v := (y + (-1))) (L' := [(3, .int (iZ (y + (-1)))), (1, .double (FP.dmul d 4611686018427387904)), (0, .float x)]) C dX9_bitsOf_61 rfl rfl (by decide) rfl ?_
                    refine g_goto (tgt := 43) C dX9_bitsOf_64 (by decide) ?_
                    exact g_loc [2, 1, 0] (by rfl) (ih (FP.dmul d 4611686018427387904) (y + (-1)) (by omega) (hJ2.dbl hE ⟨by omega, by omega⟩) (hJ2.dbl_l hE ⟨by omega, by omega⟩) (by omega) (fun q => by omega))
            exact g_loc [0, 1, 2] (by rfl) (lp43 _ d x3 (Nat.lt_succ_self _) hJ (by first | exact hl9.mp (by assumption) | (exfalso; omega)) (by omega) hg)
          · refine g_ldcw (z := 2139095040) C dX9_bitsOf_39 wq_219 ?_
            refine g_pc (pc' := 42) rfl ?_
            exact g_ireturn C dX9_bitsOf_42 ⟨by rw [bits_inf (hJ.top (by omega) (hg (by omega)))]; rfl, rfl⟩
        · have hD : ¬ DL d (-51) := fun k => by have := hl9.mpr k; omega
          refine g_dload_n C dX9_bitsOf_20 rfl ?_
          refine g_ldc2d C dX9_bitsOf_21 wq_218 ?_
          refine g_ddiv C dX9_bitsOf_24 (vd_of (hJ.half hD (by omega)).ne) ?_
          refine g_dstore_n (L' := [(1, .double (FP.ddiv d 4611686018427387904)), (0, .float x), (3, .int (iZ x3))]) C dX9_bitsOf_25 rfl (by decide) rfl ?_
          refine g_iinc (q := 2) (v := (x3 + 1)) (L' := [(3, .int (iZ (x3 + 1))), (1, .double (FP.ddiv d 4611686018427387904)), (0, .float x)]) C dX9_bitsOf_26 rfl rfl (by decide) rfl ?_
          refine g_goto (tgt := 5) C dX9_bitsOf_29 (by decide) ?_
          exact g_loc [2, 1, 0] (by rfl) (ih (FP.ddiv d 4611686018427387904) (x3 + 1) (by omega) (by omega) (hJ.half hD (by omega)) (fun _ => hJ.half_g hD (by omega)))
  exact g_loc [2, 1, 0] (by rfl) (lp5 _ (FP.f2d x) 0 (Nat.lt_succ_self _) (by omega) (JB.init hx) (fun q => absurd q (by decide)))

theorem cv0 {a : UInt32} {m : Nat} (ha : fB a m) (g : CmpOp) : ∃ z : Int, Op.cmpValue (FP.fcmp a FP.fconst0) g = iZ z ∧ R32 z ∧ (z = 0 ↔ fz a = 0) := by
  rw [fcmp_fB ha fB_0, fz_0, FP.Core.compare_ite]
  split
  · rename_i h; exact absurd h (by omega)
  · split
    · exact ⟨0, rfl, by unfold R32; omega, by constructor <;> intro _ <;> omega⟩
    · exact ⟨1, rfl, by unfold R32; omega, by constructor <;> intro _ <;> omega⟩
theorem cvN {a b : UInt32} (ha : FN a) (hb : FN b) (g : CmpOp) : ∃ z : Int, Op.cmpValue (FP.fcmp a b) g = iZ z ∧ R32 z ∧ (z < 0 ↔ FP.fcmp a b = some .lt) := by
  obtain ⟨o, ho⟩ := FP.Core.fcmp_of_notNaN ((FP.Core.notNaN_iff32 a).mpr ha.ne) ((FP.Core.notNaN_iff32 b).mpr hb.ne)
  have ho' : FP.fcmp a b = some o := ho
  rw [ho']
  obtain ⟨z, h1, h2, h3⟩ := cvO o g
  exact ⟨z, h1, h2, by rw [h3]; simp⟩
set_option maxHeartbeats 4000000 in
set_option maxRecDepth 100000 in
theorem c_X9_errorOf {κ : Kp} (hI : Ij κ) (l : Launch) (σ : St) {a b : UInt32} {m n : Nat} (ha : fB a m) (hb : fB b n) : CtF κ l 0 yX9_errorOf cX9_errorOf 4 [.float a, .float b] σ (fun z σ' => z = erF a b ∧ σ' = σ) := by
  refine Ct.ofG (own := RX9) hI (by decide +kernel) rfl (Nat.le_of_ble_eq_true rfl) rfl ?_
  intro M C hMl
  refine g_fload_n C dX9_errorOf_0 rfl ?_
  refine g_fconst0 C dX9_errorOf_1 ?_
  refine g_fcmp C dX9_errorOf_2 ?_
  obtain ⟨z9, hz9, hr9, hl9⟩ := cv0 ha .l
  refine g_raw hz9 ?_
  refine g_if_ne (tgt := 14) C dX9_errorOf_3 (by decide) hr9 (fun h1 => ?_) (fun h1 => ?_)
  · refine g_fload_n C dX9_errorOf_14 rfl ?_
    refine g_fconst0 C dX9_errorOf_15 ?_
    refine g_fcmp C dX9_errorOf_16 ?_
    obtain ⟨z7, hz7, hr7, hl7⟩ := cv0 ha .l
    refine g_raw hz7 ?_
    refine g_pc (pc' := 17) rfl ?_
    refine g_if_eq (tgt := 26) C dX9_errorOf_17 (by decide) hr7 (fun h2 => ?_) (fun h2 => ?_)
    · refine g_fconst0 C dX9_errorOf_26 ?_
      exact g_freturn C dX9_errorOf_27 ⟨by unfold erF; first | rw [if_pos (by omega), if_neg (by omega)] | rw [if_neg (by omega), if_pos (by omega)], rfl⟩
    · refine g_fload_n C dX9_errorOf_20 rfl ?_
      refine g_fconst0 C dX9_errorOf_21 ?_
      refine g_fcmp C dX9_errorOf_22 ?_
      obtain ⟨z6, hz6, hr6, hl6⟩ := cv0 hb .l
      refine g_raw hz6 ?_
      refine g_if_ne (tgt := 28) C dX9_errorOf_23 (by decide) hr6 (fun h3 => ?_) (fun h3 => ?_)
      · refine g_fload_n C dX9_errorOf_28 rfl ?_
        refine g_pc (pc' := 29) rfl ?_
        refine g_fload_n C dX9_errorOf_29 rfl ?_
        refine g_fdiv C dX9_errorOf_30 (FN.div ha hb (by omega)).vf ?_
        refine g_fstore_n (L' := [(2, .float (FP.fdiv a b)), (0, .float a), (1, .float b)]) C dX9_errorOf_31 rfl (by decide) rfl ?_
        refine g_fload_n C dX9_errorOf_32 rfl ?_
        refine g_fload_n C dX9_errorOf_33 rfl ?_
        refine g_fdiv C dX9_errorOf_34 (FN.div hb ha (by omega)).vf ?_
        refine g_fstore_n (L' := [(3, .float (FP.fdiv b a)), (2, .float (FP.fdiv a b)), (0, .float a), (1, .float b)]) C dX9_errorOf_35 rfl (by decide) rfl ?_
        refine g_fload_n C dX9_errorOf_36 rfl ?_
        refine g_pc (pc' := 37) rfl ?_
        refine g_fload_n C dX9_errorOf_37 rfl ?_
        refine g_fcmp C dX9_errorOf_38 ?_
        obtain ⟨z5, hz5, hr5, hl5⟩ := cvN (FN.div ha hb (by omega)) (FN.div hb ha (by omega)) .l
        refine g_raw hz5 ?_
        refine g_if_lt (tgt := 46) C dX9_errorOf_39 (by decide) hr5 (fun h4 => ?_) (fun h4 => ?_)
        · refine g_fload_n C dX9_errorOf_46 rfl ?_
          exact g_freturn C dX9_errorOf_47 ⟨by unfold erF; rw [if_neg (by omega), if_neg (by omega), if_pos (hl5.mp (by omega))], rfl⟩
        · refine g_fload_n C dX9_errorOf_42 rfl ?_
          refine g_goto (tgt := 47) C dX9_errorOf_43 (by decide) ?_
          exact g_freturn C dX9_errorOf_47 ⟨by unfold erF; rw [if_neg (by omega), if_neg (by omega), if_neg (fun k => by have := hl5.mpr k; omega)], rfl⟩
      · refine g_pc (pc' := 26) rfl ?_
        refine g_fconst0 C dX9_errorOf_26 ?_
        exact g_freturn C dX9_errorOf_27 ⟨by unfold erF; first | rw [if_pos (by omega), if_neg (by omega)] | rw [if_neg (by omega), if_pos (by omega)], rfl⟩
  · refine g_fload_n C dX9_errorOf_6 rfl ?_
    refine g_fconst0 C dX9_errorOf_7 ?_
    refine g_fcmp C dX9_errorOf_8 ?_
    obtain ⟨z8, hz8, hr8, hl8⟩ := cv0 hb .l
    refine g_raw hz8 ?_
    refine g_if_ne (tgt := 14) C dX9_errorOf_9 (by decide) hr8 (fun h5 => ?_) (fun h5 => ?_)
    · refine g_fload_n C dX9_errorOf_14 rfl ?_
      refine g_fconst0 C dX9_errorOf_15 ?_
      refine g_pc (pc' := 16) rfl ?_
      refine g_fcmp C dX9_errorOf_16 ?_
      obtain ⟨z7, hz7, hr7, hl7⟩ := cv0 ha .l
      refine g_raw hz7 ?_
      refine g_if_eq (tgt := 26) C dX9_errorOf_17 (by decide) hr7 (fun h6 => ?_) (fun h6 => ?_)
      · refine g_fconst0 C dX9_errorOf_26 ?_
        exact g_freturn C dX9_errorOf_27 ⟨by unfold erF; first | rw [if_pos (by omega), if_neg (by omega)] | rw [if_neg (by omega), if_pos (by omega)], rfl⟩
      · refine g_fload_n C dX9_errorOf_20 rfl ?_
        refine g_fconst0 C dX9_errorOf_21 ?_
        refine g_fcmp C dX9_errorOf_22 ?_
        obtain ⟨z6, hz6, hr6, hl6⟩ := cv0 hb .l
        refine g_raw hz6 ?_
        refine g_if_ne (tgt := 28) C dX9_errorOf_23 (by decide) hr6 (fun h7 => ?_) (fun h7 => ?_)
        · refine g_pc (pc' := 28) rfl ?_
          refine g_fload_n C dX9_errorOf_28 rfl ?_
          refine g_fload_n C dX9_errorOf_29 rfl ?_
          refine g_fdiv C dX9_errorOf_30 (FN.div ha hb (by omega)).vf ?_
          refine g_fstore_n (L' := [(2, .float (FP.fdiv a b)), (0, .float a), (1, .float b)]) C dX9_errorOf_31 rfl (by decide) rfl ?_
          refine g_fload_n C dX9_errorOf_32 rfl ?_
          refine g_fload_n C dX9_errorOf_33 rfl ?_
          refine g_fdiv C dX9_errorOf_34 (FN.div hb ha (by omega)).vf ?_
          refine g_fstore_n (L' := [(3, .float (FP.fdiv b a)), (2, .float (FP.fdiv a b)), (0, .float a), (1, .float b)]) C dX9_errorOf_35 rfl (by decide) rfl ?_
          refine g_pc (pc' := 36) rfl ?_
          refine g_fload_n C dX9_errorOf_36 rfl ?_
          refine g_fload_n C dX9_errorOf_37 rfl ?_
          refine g_fcmp C dX9_errorOf_38 ?_
          obtain ⟨z5, hz5, hr5, hl5⟩ := cvN (FN.div ha hb (by omega)) (FN.div hb ha (by omega)) .l
          refine g_raw hz5 ?_
          refine g_if_lt (tgt := 46) C dX9_errorOf_39 (by decide) hr5 (fun h8 => ?_) (fun h8 => ?_)
          · refine g_fload_n C dX9_errorOf_46 rfl ?_
            exact g_freturn C dX9_errorOf_47 ⟨by unfold erF; rw [if_neg (by omega), if_neg (by omega), if_pos (hl5.mp (by omega))], rfl⟩
          · refine g_fload_n C dX9_errorOf_42 rfl ?_
            refine g_goto (tgt := 47) C dX9_errorOf_43 (by decide) ?_
            refine g_pc (pc' := 47) rfl ?_
            exact g_freturn C dX9_errorOf_47 ⟨by unfold erF; rw [if_neg (by omega), if_neg (by omega), if_neg (fun k => by have := hl5.mpr k; omega)], rfl⟩
        · refine g_fconst0 C dX9_errorOf_26 ?_
          exact g_freturn C dX9_errorOf_27 ⟨by unfold erF; first | rw [if_pos (by omega), if_neg (by omega)] | rw [if_neg (by omega), if_pos (by omega)], rfl⟩
    · refine g_fconst1 C dX9_errorOf_12 ?_
      exact g_freturn C dX9_errorOf_13 ⟨by unfold erF; rw [if_pos (by omega), if_pos (by omega)], rfl⟩

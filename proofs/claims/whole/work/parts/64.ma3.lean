/-! THE MODEL: copies, the plan's nodes, judging -/
def ncp (V : Vw) (x y i j n : Int) : Nat := if ¬ (0 ≤ x ∧ x < 8) ∨ ¬ (0 ≤ y ∧ y < 8) then 1 else if sK (vSh V) x.toNat = 2 ∨ sK (vSh V) y.toNat = 2 ∨ (sK (vSh V) x.toNat = 1 ∧ sK (vSh V) y.toNat = 1 ∧ sO (vSh V) x.toNat ≠ sO (vSh V) y.toNat) then 2 else if sK (vSh V) x.toNat = 0 ∨ sK (vSh V) y.toNat = 0 then 3 else if n < 0 then 4 else if ¬ (0 ≤ i ∧ i ≤ (sN (vSh V) x.toNat : Int) ∧ n ≤ (sN (vSh V) x.toNat : Int) - i) ∨ ¬ (0 ≤ j ∧ j ≤ (sN (vSh V) y.toNat : Int) ∧ n ≤ (sN (vSh V) y.toNat : Int) - j) then 5 else 0
theorem ncp_le (V : Vw) (x y i j n : Int) : ncp V x y i j n ≤ 5 := by unfold ncp; repeat' split
                                                                      all_goals omega
def cpV (V : Vw) (x y i j n : Int) : Vw := vSet V (hset (vSh V) y.toNat 1 (sO (vSh V) y.toNat) (sN (vSh V) y.toNat) (cpE (sE (vSh V) x.toNat) (sE (vSh V) y.toNat) i.toNat j.toNat n.toNat) (sD (vSh V) y.toNat))
theorem chain5 {α : Type} {A B C D E : Prop} [Decidable A] [Decidable B] [Decidable C] [Decidable D] [Decidable E] {f : Nat → α} {z : α} (h : (if A then 1 else if B then 2 else if C then 3 else if D then 4 else if E then 5 else 0) ≠ 0) : (if A then f 1 else if B then f 2 else if C then f 3 else if D then f 4 else if E then f 5 else z) = f (if A then 1 else if B then 2 else if C then 3 else if D then 4 else if E then 5 else 0) := by
  by_cases a : A
  · rw [if_pos a, if_pos a]
  · rw [if_neg a] at h
    rw [if_neg a, if_neg a]
    by_cases b : B
    · rw [if_pos b, if_pos b]
    · rw [if_neg b] at h
      rw [if_neg b, if_neg b]
      by_cases c : C
      · rw [if_pos c, if_pos c]
      · rw [if_neg c] at h
        rw [if_neg c, if_neg c]
        by_cases d : D
        · rw [if_pos d, if_pos d]
        · rw [if_neg d] at h
          rw [if_neg d, if_neg d]
          by_cases e : E
          · rw [if_pos e, if_pos e]
          · rw [if_neg e] at h; exact absurd rfl h
theorem aCopy_n {V : Vw} {x y i j n : Int} (h : ncp V x y i j n ≠ 0) : aCopy V x y i j n = rfs (ncp V x y i j n) V := by
  unfold ncp at h ⊢
  unfold aCopy
  exact chain5 (f := fun y => rfs y V) h
theorem ncp_0 {V : Vw} {x y i j n : Int} (h : ncp V x y i j n = 0) : ((0 ≤ x ∧ x < 8) ∧ (0 ≤ y ∧ y < 8)) ∧ ¬ (sK (vSh V) x.toNat = 2 ∨ sK (vSh V) y.toNat = 2 ∨ (sK (vSh V) x.toNat = 1 ∧ sK (vSh V) y.toNat = 1 ∧ sO (vSh V) x.toNat ≠ sO (vSh V) y.toNat)) ∧ ¬ (sK (vSh V) x.toNat = 0 ∨ sK (vSh V) y.toNat = 0) ∧ 0 ≤ n ∧ (0 ≤ i ∧ i ≤ (sN (vSh V) x.toNat : Int) ∧ n ≤ (sN (vSh V) x.toNat : Int) - i) ∧ (0 ≤ j ∧ j ≤ (sN (vSh V) y.toNat : Int) ∧ n ≤ (sN (vSh V) y.toNat : Int) - j) := by
  unfold ncp at h
  repeat' split at h
  all_goals first | omega | (exfalso; omega)
theorem aCopy_0 {V : Vw} {x y i j n : Int} (h : ncp V x y i j n = 0) : aCopy V x y i j n = (1, cpV V x y i j n) := by
  obtain ⟨h1, h2, h3, h4, h5, h6⟩ := ncp_0 h
  unfold aCopy
  rw [if_neg (by omega), if_neg h2, if_neg h3, if_neg (by omega), if_neg (by omega)]
  rfl
def cpM (σ : St) (f t n k r : Nat) : Int64 := if (t ≤ r ∧ r < t + n) ∧ ((f < t ∧ n - k ≤ r - t) ∨ (¬ f < t ∧ r - t < k)) then σ.2.2 151 (f + (r - t)) else σ.2.2 151 r
theorem cpM_0 {σ : St} {f t n r : Nat} : cpM σ f t n 0 r = σ.2.2 151 r := if_neg (by omega)
theorem cpM_n {σ : St} {f t n r : Nat} : cpM σ f t n n r = if t ≤ r ∧ r < t + n then σ.2.2 151 (f + (r - t)) else σ.2.2 151 r := by
  unfold cpM
  by_cases h : t ≤ r ∧ r < t + n
  · rw [if_pos ⟨h, by omega⟩, if_pos h]
  · rw [if_neg (fun e => h e.1), if_neg h]
theorem cpM_d {σ : St} {f t n k : Nat} (h : f < t) (hk : k < n) (r : Nat) : (if r = t + (n - 1 - k) then cpM σ f t n k (f + (n - 1 - k)) else cpM σ f t n k r) = cpM σ f t n (k + 1) r := by
  unfold cpM
  by_cases e : r = t + (n - 1 - k)
  · rw [if_pos e, if_neg (by omega), if_pos (by omega)]; exact congrArg (σ.2.2 151) (by omega)
  · rw [if_neg e]
    by_cases c : (t ≤ r ∧ r < t + n) ∧ ((f < t ∧ n - k ≤ r - t) ∨ (¬ f < t ∧ r - t < k))
    · rw [if_pos c, if_pos (by omega)]
    · rw [if_neg c, if_neg (by omega)]
theorem cpM_u {σ : St} {f t n k : Nat} (h : ¬ f < t) (hk : k < n) (r : Nat) : (if r = t + k then cpM σ f t n k (f + k) else cpM σ f t n k r) = cpM σ f t n (k + 1) r := by
  unfold cpM
  by_cases e : r = t + k
  · rw [if_pos e, if_neg (by omega), if_pos (by omega)]; exact congrArg (σ.2.2 151) (by omega)
  · rw [if_neg e]
    by_cases c : (t ≤ r ∧ r < t + n) ∧ ((f < t ∧ n - k ≤ r - t) ∨ (¬ f < t ∧ r - t < k))
    · rw [if_pos c, if_pos (by omega)]
    · rw [if_neg c, if_neg (by omega)]
theorem sL_at {σ : St} {k j r : Nat} {v : Int64} : (sL σ k j v).2.2 k r = if r = j then v else σ.2.2 k r := by
  by_cases e : r = j
  · rw [if_pos e, e]; exact rL_s
  · rw [if_neg e]; exact rL_j e
set_option maxHeartbeats 4000000 in
set_option maxRecDepth 100000 in
theorem c_X10_notCopied {κ : Kp} (hI : Ij κ) (l : Launch) (σ : St) {V : Vw} (hM : MV σ V) (hO : OKV V) {x y i j n : Int} (hx : R32 x) (hy : R32 y) (hi : R32 i) (hj : R32 j) (hn : R32 n) : CtI κ l 2 yX10_notCopied cX10_notCopied 7 .int [.ref (κ.2.1 105), .int (iZ x), .int (iZ y), .int (iZ i), .int (iZ j), .int (iZ n)] σ (fun z σ' => z = -(ncp V x y i j n : Int) ∧ σ' = σ) := by
  refine Ct.ofG (own := RX10) hI (by decide +kernel) rfl (Nat.le_of_ble_eq_true rfl) rfl ?_
  intro M C hMl
  refine g_iload_n C dX10_notCopied_0 rfl ?_
  refine gc_X10_315 C dX10_notCopied_1 (c_X10_isShelf hI (Ml M) σ (v := x) (by unfold R32; omega)) (by decide) (Nat.le_of_ble_eq_true rfl) (fun z σ9 ⟨hz, hσ⟩ => ?_)
  subst z
  subst σ9
  refine g_ifb_eq (tgt := 14) C dX10_notCopied_4 (by decide) (fun h1 => ?_) (fun h1 => ?_)
  · refine g_iconst (z := (-1)) C dX10_notCopied_14 rfl ?_
    exact g_ireturn C dX10_notCopied_15 (by first | (exfalso; omega) | exact ⟨by unfold ncp; (first | rw [if_pos (by omega)] | rw [if_neg (by omega), if_pos (by omega)] | rw [if_neg (by omega), if_neg (by omega), if_pos (by omega)] | rw [if_neg (by omega), if_neg (by omega), if_neg (by omega), if_pos (by omega)] | rw [if_neg (by omega), if_neg (by omega), if_neg (by omega), if_neg (by omega), if_pos (by omega)] | rw [if_neg (by omega), if_neg (by omega), if_neg (by omega), if_neg (by omega), if_neg (by omega)]); rfl, rfl⟩)
  · refine g_iload_n C dX10_notCopied_7 rfl ?_
    refine gc_X10_315 C dX10_notCopied_8 (c_X10_isShelf hI (Ml M) σ (v := y) (by unfold R32; omega)) (by decide) (Nat.le_of_ble_eq_true rfl) (fun z σ9 ⟨hz, hσ⟩ => ?_)
    subst z
    subst σ9
    refine g_pc (pc' := 11) rfl ?_
    refine g_ifb_ne (tgt := 16) C dX10_notCopied_11 (by decide) (fun h2 => ?_) (fun h2 => ?_)
    · have hhx := hM.hd hO (s := x.toNat) (by omega)
      have hhy := hM.hd hO (s := y.toNat) (by omega)
      refine g_aload_n C dX10_notCopied_16 rfl ?_
      refine gf_X10_101 C dX10_notCopied_17 rfl ?_
      refine g_iload_n C dX10_notCopied_20 rfl ?_
      refine g_iaz (n := x.toNat) (N := 8) (v := (σ.1 146 x.toNat)) C dX10_notCopied_21 rfl rfl (by omega) (by omega) (by decide) rfl ?_
      refine g_if_eq (tgt := 53) C dX10_notCopied_22 (by decide) (by unfold R32; omega) (fun h3 => ?_) (fun h3 => ?_)
      · refine g_iconst (z := 0) C dX10_notCopied_53 rfl ?_
        refine g_istore (L' := [(6, .int (iZ 0)), (0, .ref (κ.2.1 105)), (1, .int (iZ x)), (2, .int (iZ y)), (3, .int (iZ i)), (4, .int (iZ j)), (5, .int (iZ n))]) C dX10_notCopied_54 (by decide) rfl ?_
        refine g_pc (pc' := 56) rfl ?_
        refine g_aload_n C dX10_notCopied_56 rfl ?_
        refine gf_X10_101 C dX10_notCopied_57 rfl ?_
        refine g_iload_n C dX10_notCopied_60 rfl ?_
        refine g_iaz (n := x.toNat) (N := 8) (v := (σ.1 146 x.toNat)) C dX10_notCopied_61 rfl rfl (by omega) (by omega) (by decide) rfl ?_
        refine g_sipush (z := 200) C dX10_notCopied_62 rfl ?_
        refine g_icmp_ge (tgt := 85) C dX10_notCopied_65 (by decide) (by unfold R32; omega) (fun h4 => ?_) (fun h4 => ?_)
        · refine g_bipush (z := (-2)) C dX10_notCopied_85 rfl ?_
          exact g_ireturn C dX10_notCopied_87 (by first | (exfalso; omega) | exact ⟨by unfold ncp; (first | rw [if_pos (by omega)] | rw [if_neg (by omega), if_pos (by omega)] | rw [if_neg (by omega), if_neg (by omega), if_pos (by omega)] | rw [if_neg (by omega), if_neg (by omega), if_neg (by omega), if_pos (by omega)] | rw [if_neg (by omega), if_neg (by omega), if_neg (by omega), if_neg (by omega), if_pos (by omega)] | rw [if_neg (by omega), if_neg (by omega), if_neg (by omega), if_neg (by omega), if_neg (by omega)]); rfl, rfl⟩)
        · refine g_pc (pc' := 68) rfl ?_
          refine g_aload_n C dX10_notCopied_68 rfl ?_
          refine gf_X10_101 C dX10_notCopied_69 rfl ?_
          refine g_iload_n C dX10_notCopied_72 rfl ?_
          refine g_iaz (n := y.toNat) (N := 8) (v := (σ.1 146 y.toNat)) C dX10_notCopied_73 rfl rfl (by omega) (by omega) (by decide) rfl ?_
          refine g_sipush (z := 200) C dX10_notCopied_74 rfl ?_
          refine g_icmp_ge (tgt := 85) C dX10_notCopied_77 (by decide) (by unfold R32; omega) (fun h5 => ?_) (fun h5 => ?_)
          · refine g_bipush (z := (-2)) C dX10_notCopied_85 rfl ?_
            exact g_ireturn C dX10_notCopied_87 (by first | (exfalso; omega) | exact ⟨by unfold ncp; (first | rw [if_pos (by omega)] | rw [if_neg (by omega), if_pos (by omega)] | rw [if_neg (by omega), if_neg (by omega), if_pos (by omega)] | rw [if_neg (by omega), if_neg (by omega), if_neg (by omega), if_pos (by omega)] | rw [if_neg (by omega), if_neg (by omega), if_neg (by omega), if_neg (by omega), if_pos (by omega)] | rw [if_neg (by omega), if_neg (by omega), if_neg (by omega), if_neg (by omega), if_neg (by omega)]); rfl, rfl⟩)
          · refine g_pc (pc' := 80) rfl ?_
            refine g_iload C dX10_notCopied_80 rfl ?_
            refine g_if_eq (tgt := 88) C dX10_notCopied_82 (by decide) (by unfold R32; omega) (fun h6 => ?_) (fun h6 => ?_)
            · refine g_aload_n C dX10_notCopied_88 rfl ?_
              refine gf_X10_101 C dX10_notCopied_89 rfl ?_
              refine g_iload_n C dX10_notCopied_92 rfl ?_
              refine g_iaz (n := x.toNat) (N := 8) (v := (σ.1 146 x.toNat)) C dX10_notCopied_93 rfl rfl (by omega) (by omega) (by decide) rfl ?_
              refine g_if_eq (tgt := 106) C dX10_notCopied_94 (by decide) (by unfold R32; omega) (fun h7 => ?_) (fun h7 => ?_)
              · refine g_bipush (z := (-3)) C dX10_notCopied_106 rfl ?_
                refine g_pc (pc' := 108) rfl ?_
                exact g_ireturn C dX10_notCopied_108 (by first | (exfalso; omega) | exact ⟨by unfold ncp; (first | rw [if_pos (by omega)] | rw [if_neg (by omega), if_pos (by omega)] | rw [if_neg (by omega), if_neg (by omega), if_pos (by omega)] | rw [if_neg (by omega), if_neg (by omega), if_neg (by omega), if_pos (by omega)] | rw [if_neg (by omega), if_neg (by omega), if_neg (by omega), if_neg (by omega), if_pos (by omega)] | rw [if_neg (by omega), if_neg (by omega), if_neg (by omega), if_neg (by omega), if_neg (by omega)]); rfl, rfl⟩)
              · refine g_aload_n C dX10_notCopied_97 rfl ?_
                refine gf_X10_101 C dX10_notCopied_98 rfl ?_
                refine g_iload_n C dX10_notCopied_101 rfl ?_
                refine g_iaz (n := y.toNat) (N := 8) (v := (σ.1 146 y.toNat)) C dX10_notCopied_102 rfl rfl (by omega) (by omega) (by decide) rfl ?_
                refine g_if_ne (tgt := 109) C dX10_notCopied_103 (by decide) (by unfold R32; omega) (fun h8 => ?_) (fun h8 => ?_)
                · refine g_iload C dX10_notCopied_109 rfl ?_
                  refine g_if_ge (tgt := 117) C dX10_notCopied_111 (by decide) (by unfold R32; omega) (fun h9 => ?_) (fun h9 => ?_)
                  · refine g_pc (pc' := 117) rfl ?_
                    refine g_iload_n C dX10_notCopied_117 rfl ?_
                    refine g_if_lt (tgt := 153) C dX10_notCopied_118 (by decide) (by unfold R32; omega) (fun h10 => ?_) (fun h10 => ?_)
                    · refine g_bipush (z := (-5)) C dX10_notCopied_153 rfl ?_
                      refine g_goto (tgt := 159) C dX10_notCopied_155 (by decide) ?_
                      exact g_ireturn C dX10_notCopied_159 (by first | (exfalso; omega) | exact ⟨by unfold ncp; (first | rw [if_pos (by omega)] | rw [if_neg (by omega), if_pos (by omega)] | rw [if_neg (by omega), if_neg (by omega), if_pos (by omega)] | rw [if_neg (by omega), if_neg (by omega), if_neg (by omega), if_pos (by omega)] | rw [if_neg (by omega), if_neg (by omega), if_neg (by omega), if_neg (by omega), if_pos (by omega)] | rw [if_neg (by omega), if_neg (by omega), if_neg (by omega), if_neg (by omega), if_neg (by omega)]); rfl, rfl⟩)
                    · refine g_iload C dX10_notCopied_121 rfl ?_
                      refine g_if_lt (tgt := 153) C dX10_notCopied_123 (by decide) (by unfold R32; omega) (fun h11 => ?_) (fun h11 => ?_)
                      · refine g_bipush (z := (-5)) C dX10_notCopied_153 rfl ?_
                        refine g_pc (pc' := 155) rfl ?_
                        refine g_goto (tgt := 159) C dX10_notCopied_155 (by decide) ?_
                        exact g_ireturn C dX10_notCopied_159 (by first | (exfalso; omega) | exact ⟨by unfold ncp; (first | rw [if_pos (by omega)] | rw [if_neg (by omega), if_pos (by omega)] | rw [if_neg (by omega), if_neg (by omega), if_pos (by omega)] | rw [if_neg (by omega), if_neg (by omega), if_neg (by omega), if_pos (by omega)] | rw [if_neg (by omega), if_neg (by omega), if_neg (by omega), if_neg (by omega), if_pos (by omega)] | rw [if_neg (by omega), if_neg (by omega), if_neg (by omega), if_neg (by omega), if_neg (by omega)]); rfl, rfl⟩)
                      · refine g_iload_n C dX10_notCopied_126 rfl ?_
                        refine g_aload_n C dX10_notCopied_127 rfl ?_
                        refine gf_X10_104 C dX10_notCopied_128 rfl ?_
                        refine g_iload_n C dX10_notCopied_131 rfl ?_
                        refine g_iaz (n := x.toNat) (N := 8) (v := (σ.1 147 x.toNat)) C dX10_notCopied_132 rfl rfl (by omega) (by omega) (by decide) rfl ?_
                        refine g_iload C dX10_notCopied_133 rfl ?_
                        refine g_pc (pc' := 135) rfl ?_
                        refine g_isub C dX10_notCopied_135 ?_
                        refine g_icmp_gt (tgt := 153) C dX10_notCopied_136 (by decide) (by unfold R32; omega) (fun h12 => ?_) (fun h12 => ?_)
                        · refine g_bipush (z := (-5)) C dX10_notCopied_153 rfl ?_
                          refine g_goto (tgt := 159) C dX10_notCopied_155 (by decide) ?_
                          exact g_ireturn C dX10_notCopied_159 (by first | (exfalso; omega) | exact ⟨by unfold ncp; (first | rw [if_pos (by omega)] | rw [if_neg (by omega), if_pos (by omega)] | rw [if_neg (by omega), if_neg (by omega), if_pos (by omega)] | rw [if_neg (by omega), if_neg (by omega), if_neg (by omega), if_pos (by omega)] | rw [if_neg (by omega), if_neg (by omega), if_neg (by omega), if_neg (by omega), if_pos (by omega)] | rw [if_neg (by omega), if_neg (by omega), if_neg (by omega), if_neg (by omega), if_neg (by omega)]); rfl, rfl⟩)
                        · refine g_iload C dX10_notCopied_139 rfl ?_
                          refine g_aload_n C dX10_notCopied_141 rfl ?_
                          refine gf_X10_104 C dX10_notCopied_142 rfl ?_
                          refine g_pc (pc' := 145) rfl ?_
                          refine g_iload_n C dX10_notCopied_145 rfl ?_
                          refine g_iaz (n := y.toNat) (N := 8) (v := (σ.1 147 y.toNat)) C dX10_notCopied_146 rfl rfl (by omega) (by omega) (by decide) rfl ?_
                          refine g_iload C dX10_notCopied_147 rfl ?_
                          refine g_isub C dX10_notCopied_149 ?_
                          refine g_icmp_le (tgt := 158) C dX10_notCopied_150 (by decide) (by unfold R32; omega) (fun h13 => ?_) (fun h13 => ?_)
                          · refine g_iconst (z := 0) C dX10_notCopied_158 rfl ?_
                            exact g_ireturn C dX10_notCopied_159 (by first | (exfalso; omega) | exact ⟨by unfold ncp; (first | rw [if_pos (by omega)] | rw [if_neg (by omega), if_pos (by omega)] | rw [if_neg (by omega), if_neg (by omega), if_pos (by omega)] | rw [if_neg (by omega), if_neg (by omega), if_neg (by omega), if_pos (by omega)] | rw [if_neg (by omega), if_neg (by omega), if_neg (by omega), if_neg (by omega), if_pos (by omega)] | rw [if_neg (by omega), if_neg (by omega), if_neg (by omega), if_neg (by omega), if_neg (by omega)]); rfl, rfl⟩)
                          · refine g_bipush (z := (-5)) C dX10_notCopied_153 rfl ?_
                            refine g_pc (pc' := 155) rfl ?_
                            refine g_goto (tgt := 159) C dX10_notCopied_155 (by decide) ?_
                            exact g_ireturn C dX10_notCopied_159 (by first | (exfalso; omega) | exact ⟨by unfold ncp; (first | rw [if_pos (by omega)] | rw [if_neg (by omega), if_pos (by omega)] | rw [if_neg (by omega), if_neg (by omega), if_pos (by omega)] | rw [if_neg (by omega), if_neg (by omega), if_neg (by omega), if_pos (by omega)] | rw [if_neg (by omega), if_neg (by omega), if_neg (by omega), if_neg (by omega), if_pos (by omega)] | rw [if_neg (by omega), if_neg (by omega), if_neg (by omega), if_neg (by omega), if_neg (by omega)]); rfl, rfl⟩)
                  · refine g_bipush (z := (-4)) C dX10_notCopied_114 rfl ?_
                    exact g_ireturn C dX10_notCopied_116 (by first | (exfalso; omega) | exact ⟨by unfold ncp; (first | rw [if_pos (by omega)] | rw [if_neg (by omega), if_pos (by omega)] | rw [if_neg (by omega), if_neg (by omega), if_pos (by omega)] | rw [if_neg (by omega), if_neg (by omega), if_neg (by omega), if_pos (by omega)] | rw [if_neg (by omega), if_neg (by omega), if_neg (by omega), if_neg (by omega), if_pos (by omega)] | rw [if_neg (by omega), if_neg (by omega), if_neg (by omega), if_neg (by omega), if_neg (by omega)]); rfl, rfl⟩)
                · refine g_bipush (z := (-3)) C dX10_notCopied_106 rfl ?_
                  exact g_ireturn C dX10_notCopied_108 (by first | (exfalso; omega) | exact ⟨by unfold ncp; (first | rw [if_pos (by omega)] | rw [if_neg (by omega), if_pos (by omega)] | rw [if_neg (by omega), if_neg (by omega), if_pos (by omega)] | rw [if_neg (by omega), if_neg (by omega), if_neg (by omega), if_pos (by omega)] | rw [if_neg (by omega), if_neg (by omega), if_neg (by omega), if_neg (by omega), if_pos (by omega)] | rw [if_neg (by omega), if_neg (by omega), if_neg (by omega), if_neg (by omega), if_neg (by omega)]); rfl, rfl⟩)
            · exfalso; omega
      · refine g_aload_n C dX10_notCopied_25 rfl ?_
        refine gf_X10_101 C dX10_notCopied_26 rfl ?_
        refine g_pc (pc' := 29) rfl ?_
        refine g_iload_n C dX10_notCopied_29 rfl ?_
        refine g_iaz (n := y.toNat) (N := 8) (v := (σ.1 146 y.toNat)) C dX10_notCopied_30 rfl rfl (by omega) (by omega) (by decide) rfl ?_
        refine g_if_eq (tgt := 53) C dX10_notCopied_31 (by decide) (by unfold R32; omega) (fun h14 => ?_) (fun h14 => ?_)
        · refine g_iconst (z := 0) C dX10_notCopied_53 rfl ?_
          refine g_istore (L' := [(6, .int (iZ 0)), (0, .ref (κ.2.1 105)), (1, .int (iZ x)), (2, .int (iZ y)), (3, .int (iZ i)), (4, .int (iZ j)), (5, .int (iZ n))]) C dX10_notCopied_54 (by decide) rfl ?_
          refine g_aload_n C dX10_notCopied_56 rfl ?_
          refine gf_X10_101 C dX10_notCopied_57 rfl ?_
          refine g_iload_n C dX10_notCopied_60 rfl ?_
          refine g_pc (pc' := 61) rfl ?_
          refine g_iaz (n := x.toNat) (N := 8) (v := (σ.1 146 x.toNat)) C dX10_notCopied_61 rfl rfl (by omega) (by omega) (by decide) rfl ?_
          refine g_sipush (z := 200) C dX10_notCopied_62 rfl ?_
          refine g_icmp_ge (tgt := 85) C dX10_notCopied_65 (by decide) (by unfold R32; omega) (fun h15 => ?_) (fun h15 => ?_)
          · refine g_bipush (z := (-2)) C dX10_notCopied_85 rfl ?_
            exact g_ireturn C dX10_notCopied_87 (by first | (exfalso; omega) | exact ⟨by unfold ncp; (first | rw [if_pos (by omega)] | rw [if_neg (by omega), if_pos (by omega)] | rw [if_neg (by omega), if_neg (by omega), if_pos (by omega)] | rw [if_neg (by omega), if_neg (by omega), if_neg (by omega), if_pos (by omega)] | rw [if_neg (by omega), if_neg (by omega), if_neg (by omega), if_neg (by omega), if_pos (by omega)] | rw [if_neg (by omega), if_neg (by omega), if_neg (by omega), if_neg (by omega), if_neg (by omega)]); rfl, rfl⟩)
          · refine g_aload_n C dX10_notCopied_68 rfl ?_
            refine gf_X10_101 C dX10_notCopied_69 rfl ?_
            refine g_iload_n C dX10_notCopied_72 rfl ?_
            refine g_pc (pc' := 73) rfl ?_
            refine g_iaz (n := y.toNat) (N := 8) (v := (σ.1 146 y.toNat)) C dX10_notCopied_73 rfl rfl (by omega) (by omega) (by decide) rfl ?_
            refine g_sipush (z := 200) C dX10_notCopied_74 rfl ?_
            refine g_icmp_ge (tgt := 85) C dX10_notCopied_77 (by decide) (by unfold R32; omega) (fun h16 => ?_) (fun h16 => ?_)
            · refine g_bipush (z := (-2)) C dX10_notCopied_85 rfl ?_
              exact g_ireturn C dX10_notCopied_87 (by first | (exfalso; omega) | exact ⟨by unfold ncp; (first | rw [if_pos (by omega)] | rw [if_neg (by omega), if_pos (by omega)] | rw [if_neg (by omega), if_neg (by omega), if_pos (by omega)] | rw [if_neg (by omega), if_neg (by omega), if_neg (by omega), if_pos (by omega)] | rw [if_neg (by omega), if_neg (by omega), if_neg (by omega), if_neg (by omega), if_pos (by omega)] | rw [if_neg (by omega), if_neg (by omega), if_neg (by omega), if_neg (by omega), if_neg (by omega)]); rfl, rfl⟩)
            · refine g_iload C dX10_notCopied_80 rfl ?_
              refine g_if_eq (tgt := 88) C dX10_notCopied_82 (by decide) (by unfold R32; omega) (fun h17 => ?_) (fun h17 => ?_)
              · refine g_aload_n C dX10_notCopied_88 rfl ?_
                refine g_pc (pc' := 89) rfl ?_
                refine gf_X10_101 C dX10_notCopied_89 rfl ?_
                refine g_iload_n C dX10_notCopied_92 rfl ?_
                refine g_iaz (n := x.toNat) (N := 8) (v := (σ.1 146 x.toNat)) C dX10_notCopied_93 rfl rfl (by omega) (by omega) (by decide) rfl ?_
                refine g_if_eq (tgt := 106) C dX10_notCopied_94 (by decide) (by unfold R32; omega) (fun h18 => ?_) (fun h18 => ?_)
                · refine g_bipush (z := (-3)) C dX10_notCopied_106 rfl ?_
                  exact g_ireturn C dX10_notCopied_108 (by first | (exfalso; omega) | exact ⟨by unfold ncp; (first | rw [if_pos (by omega)] | rw [if_neg (by omega), if_pos (by omega)] | rw [if_neg (by omega), if_neg (by omega), if_pos (by omega)] | rw [if_neg (by omega), if_neg (by omega), if_neg (by omega), if_pos (by omega)] | rw [if_neg (by omega), if_neg (by omega), if_neg (by omega), if_neg (by omega), if_pos (by omega)] | rw [if_neg (by omega), if_neg (by omega), if_neg (by omega), if_neg (by omega), if_neg (by omega)]); rfl, rfl⟩)
                · refine g_aload_n C dX10_notCopied_97 rfl ?_
                  refine gf_X10_101 C dX10_notCopied_98 rfl ?_
                  refine g_pc (pc' := 101) rfl ?_
                  refine g_iload_n C dX10_notCopied_101 rfl ?_
                  refine g_iaz (n := y.toNat) (N := 8) (v := (σ.1 146 y.toNat)) C dX10_notCopied_102 rfl rfl (by omega) (by omega) (by decide) rfl ?_
                  refine g_if_ne (tgt := 109) C dX10_notCopied_103 (by decide) (by unfold R32; omega) (fun h19 => ?_) (fun h19 => ?_)
                  · refine g_iload C dX10_notCopied_109 rfl ?_
                    refine g_if_ge (tgt := 117) C dX10_notCopied_111 (by decide) (by unfold R32; omega) (fun h20 => ?_) (fun h20 => ?_)
                    · refine g_iload_n C dX10_notCopied_117 rfl ?_
                      refine g_if_lt (tgt := 153) C dX10_notCopied_118 (by decide) (by unfold R32; omega) (fun h21 => ?_) (fun h21 => ?_)
                      · refine g_bipush (z := (-5)) C dX10_notCopied_153 rfl ?_
                        refine g_pc (pc' := 155) rfl ?_
                        refine g_goto (tgt := 159) C dX10_notCopied_155 (by decide) ?_
                        exact g_ireturn C dX10_notCopied_159 (by first | (exfalso; omega) | exact ⟨by unfold ncp; (first | rw [if_pos (by omega)] | rw [if_neg (by omega), if_pos (by omega)] | rw [if_neg (by omega), if_neg (by omega), if_pos (by omega)] | rw [if_neg (by omega), if_neg (by omega), if_neg (by omega), if_pos (by omega)] | rw [if_neg (by omega), if_neg (by omega), if_neg (by omega), if_neg (by omega), if_pos (by omega)] | rw [if_neg (by omega), if_neg (by omega), if_neg (by omega), if_neg (by omega), if_neg (by omega)]); rfl, rfl⟩)
                      · refine g_iload C dX10_notCopied_121 rfl ?_
                        refine g_if_lt (tgt := 153) C dX10_notCopied_123 (by decide) (by unfold R32; omega) (fun h22 => ?_) (fun h22 => ?_)
                        · refine g_bipush (z := (-5)) C dX10_notCopied_153 rfl ?_
                          refine g_goto (tgt := 159) C dX10_notCopied_155 (by decide) ?_
                          exact g_ireturn C dX10_notCopied_159 (by first | (exfalso; omega) | exact ⟨by unfold ncp; (first | rw [if_pos (by omega)] | rw [if_neg (by omega), if_pos (by omega)] | rw [if_neg (by omega), if_neg (by omega), if_pos (by omega)] | rw [if_neg (by omega), if_neg (by omega), if_neg (by omega), if_pos (by omega)] | rw [if_neg (by omega), if_neg (by omega), if_neg (by omega), if_neg (by omega), if_pos (by omega)] | rw [if_neg (by omega), if_neg (by omega), if_neg (by omega), if_neg (by omega), if_neg (by omega)]); rfl, rfl⟩)
                        · refine g_iload_n C dX10_notCopied_126 rfl ?_
                          refine g_pc (pc' := 127) rfl ?_
                          refine g_aload_n C dX10_notCopied_127 rfl ?_
                          refine gf_X10_104 C dX10_notCopied_128 rfl ?_
                          refine g_iload_n C dX10_notCopied_131 rfl ?_
                          refine g_iaz (n := x.toNat) (N := 8) (v := (σ.1 147 x.toNat)) C dX10_notCopied_132 rfl rfl (by omega) (by omega) (by decide) rfl ?_
                          refine g_iload C dX10_notCopied_133 rfl ?_
                          refine g_isub C dX10_notCopied_135 ?_
                          refine g_icmp_gt (tgt := 153) C dX10_notCopied_136 (by decide) (by unfold R32; omega) (fun h23 => ?_) (fun h23 => ?_)
                          · refine g_bipush (z := (-5)) C dX10_notCopied_153 rfl ?_
                            refine g_pc (pc' := 155) rfl ?_
                            refine g_goto (tgt := 159) C dX10_notCopied_155 (by decide) ?_
                            exact g_ireturn C dX10_notCopied_159 (by first | (exfalso; omega) | exact ⟨by unfold ncp; (first | rw [if_pos (by omega)] | rw [if_neg (by omega), if_pos (by omega)] | rw [if_neg (by omega), if_neg (by omega), if_pos (by omega)] | rw [if_neg (by omega), if_neg (by omega), if_neg (by omega), if_pos (by omega)] | rw [if_neg (by omega), if_neg (by omega), if_neg (by omega), if_neg (by omega), if_pos (by omega)] | rw [if_neg (by omega), if_neg (by omega), if_neg (by omega), if_neg (by omega), if_neg (by omega)]); rfl, rfl⟩)
                          · refine g_iload C dX10_notCopied_139 rfl ?_
                            refine g_aload_n C dX10_notCopied_141 rfl ?_
                            refine gf_X10_104 C dX10_notCopied_142 rfl ?_
                            refine g_iload_n C dX10_notCopied_145 rfl ?_
                            refine g_iaz (n := y.toNat) (N := 8) (v := (σ.1 147 y.toNat)) C dX10_notCopied_146 rfl rfl (by omega) (by omega) (by decide) rfl ?_
                            refine g_iload C dX10_notCopied_147 rfl ?_
                            refine g_pc (pc' := 149) rfl ?_
                            refine g_isub C dX10_notCopied_149 ?_
                            refine g_icmp_le (tgt := 158) C dX10_notCopied_150 (by decide) (by unfold R32; omega) (fun h24 => ?_) (fun h24 => ?_)
                            · refine g_iconst (z := 0) C dX10_notCopied_158 rfl ?_
                              exact g_ireturn C dX10_notCopied_159 (by first | (exfalso; omega) | exact ⟨by unfold ncp; (first | rw [if_pos (by omega)] | rw [if_neg (by omega), if_pos (by omega)] | rw [if_neg (by omega), if_neg (by omega), if_pos (by omega)] | rw [if_neg (by omega), if_neg (by omega), if_neg (by omega), if_pos (by omega)] | rw [if_neg (by omega), if_neg (by omega), if_neg (by omega), if_neg (by omega), if_pos (by omega)] | rw [if_neg (by omega), if_neg (by omega), if_neg (by omega), if_neg (by omega), if_neg (by omega)]); rfl, rfl⟩)
                            · refine g_bipush (z := (-5)) C dX10_notCopied_153 rfl ?_
                              refine g_goto (tgt := 159) C dX10_notCopied_155 (by decide) ?_
                              exact g_ireturn C dX10_notCopied_159 (by first | (exfalso; omega) | exact ⟨by unfold ncp; (first | rw [if_pos (by omega)] | rw [if_neg (by omega), if_pos (by omega)] | rw [if_neg (by omega), if_neg (by omega), if_pos (by omega)] | rw [if_neg (by omega), if_neg (by omega), if_neg (by omega), if_pos (by omega)] | rw [if_neg (by omega), if_neg (by omega), if_neg (by omega), if_neg (by omega), if_pos (by omega)] | rw [if_neg (by omega), if_neg (by omega), if_neg (by omega), if_neg (by omega), if_neg (by omega)]); rfl, rfl⟩)
                    · refine g_bipush (z := (-4)) C dX10_notCopied_114 rfl ?_
                      refine g_pc (pc' := 116) rfl ?_
                      exact g_ireturn C dX10_notCopied_116 (by first | (exfalso; omega) | exact ⟨by unfold ncp; (first | rw [if_pos (by omega)] | rw [if_neg (by omega), if_pos (by omega)] | rw [if_neg (by omega), if_neg (by omega), if_pos (by omega)] | rw [if_neg (by omega), if_neg (by omega), if_neg (by omega), if_pos (by omega)] | rw [if_neg (by omega), if_neg (by omega), if_neg (by omega), if_neg (by omega), if_pos (by omega)] | rw [if_neg (by omega), if_neg (by omega), if_neg (by omega), if_neg (by omega), if_neg (by omega)]); rfl, rfl⟩)
                  · refine g_bipush (z := (-3)) C dX10_notCopied_106 rfl ?_
                    exact g_ireturn C dX10_notCopied_108 (by first | (exfalso; omega) | exact ⟨by unfold ncp; (first | rw [if_pos (by omega)] | rw [if_neg (by omega), if_pos (by omega)] | rw [if_neg (by omega), if_neg (by omega), if_pos (by omega)] | rw [if_neg (by omega), if_neg (by omega), if_neg (by omega), if_pos (by omega)] | rw [if_neg (by omega), if_neg (by omega), if_neg (by omega), if_neg (by omega), if_pos (by omega)] | rw [if_neg (by omega), if_neg (by omega), if_neg (by omega), if_neg (by omega), if_neg (by omega)]); rfl, rfl⟩)
              · exfalso; omega
        · refine g_aload_n C dX10_notCopied_34 rfl ?_
          refine gf_X10_101 C dX10_notCopied_35 rfl ?_
          refine g_iload_n C dX10_notCopied_38 rfl ?_
          refine g_iaz (n := x.toNat) (N := 8) (v := (σ.1 146 x.toNat)) C dX10_notCopied_39 rfl rfl (by omega) (by omega) (by decide) rfl ?_
          refine g_aload_n C dX10_notCopied_40 rfl ?_
          refine g_pc (pc' := 41) rfl ?_
          refine gf_X10_101 C dX10_notCopied_41 rfl ?_
          refine g_iload_n C dX10_notCopied_44 rfl ?_
          refine g_iaz (n := y.toNat) (N := 8) (v := (σ.1 146 y.toNat)) C dX10_notCopied_45 rfl rfl (by omega) (by omega) (by decide) rfl ?_
          refine g_icmp_eq (tgt := 53) C dX10_notCopied_46 (by decide) (by unfold R32; omega) (fun h25 => ?_) (fun h25 => ?_)
          · refine g_iconst (z := 0) C dX10_notCopied_53 rfl ?_
            refine g_istore (L' := [(6, .int (iZ 0)), (0, .ref (κ.2.1 105)), (1, .int (iZ x)), (2, .int (iZ y)), (3, .int (iZ i)), (4, .int (iZ j)), (5, .int (iZ n))]) C dX10_notCopied_54 (by decide) rfl ?_
            refine g_aload_n C dX10_notCopied_56 rfl ?_
            refine gf_X10_101 C dX10_notCopied_57 rfl ?_
            refine g_pc (pc' := 60) rfl ?_
            refine g_iload_n C dX10_notCopied_60 rfl ?_
            refine g_iaz (n := x.toNat) (N := 8) (v := (σ.1 146 x.toNat)) C dX10_notCopied_61 rfl rfl (by omega) (by omega) (by decide) rfl ?_
            refine g_sipush (z := 200) C dX10_notCopied_62 rfl ?_
            refine g_icmp_ge (tgt := 85) C dX10_notCopied_65 (by decide) (by unfold R32; omega) (fun h26 => ?_) (fun h26 => ?_)
            · refine g_bipush (z := (-2)) C dX10_notCopied_85 rfl ?_
              exact g_ireturn C dX10_notCopied_87 (by first | (exfalso; omega) | exact ⟨by unfold ncp; (first | rw [if_pos (by omega)] | rw [if_neg (by omega), if_pos (by omega)] | rw [if_neg (by omega), if_neg (by omega), if_pos (by omega)] | rw [if_neg (by omega), if_neg (by omega), if_neg (by omega), if_pos (by omega)] | rw [if_neg (by omega), if_neg (by omega), if_neg (by omega), if_neg (by omega), if_pos (by omega)] | rw [if_neg (by omega), if_neg (by omega), if_neg (by omega), if_neg (by omega), if_neg (by omega)]); rfl, rfl⟩)
            · refine g_aload_n C dX10_notCopied_68 rfl ?_
              refine gf_X10_101 C dX10_notCopied_69 rfl ?_
              refine g_pc (pc' := 72) rfl ?_
              refine g_iload_n C dX10_notCopied_72 rfl ?_
              refine g_iaz (n := y.toNat) (N := 8) (v := (σ.1 146 y.toNat)) C dX10_notCopied_73 rfl rfl (by omega) (by omega) (by decide) rfl ?_
              refine g_sipush (z := 200) C dX10_notCopied_74 rfl ?_
              refine g_icmp_ge (tgt := 85) C dX10_notCopied_77 (by decide) (by unfold R32; omega) (fun h27 => ?_) (fun h27 => ?_)
              · refine g_bipush (z := (-2)) C dX10_notCopied_85 rfl ?_
                exact g_ireturn C dX10_notCopied_87 (by first | (exfalso; omega) | exact ⟨by unfold ncp; (first | rw [if_pos (by omega)] | rw [if_neg (by omega), if_pos (by omega)] | rw [if_neg (by omega), if_neg (by omega), if_pos (by omega)] | rw [if_neg (by omega), if_neg (by omega), if_neg (by omega), if_pos (by omega)] | rw [if_neg (by omega), if_neg (by omega), if_neg (by omega), if_neg (by omega), if_pos (by omega)] | rw [if_neg (by omega), if_neg (by omega), if_neg (by omega), if_neg (by omega), if_neg (by omega)]); rfl, rfl⟩)
              · refine g_iload C dX10_notCopied_80 rfl ?_
                refine g_if_eq (tgt := 88) C dX10_notCopied_82 (by decide) (by unfold R32; omega) (fun h28 => ?_) (fun h28 => ?_)
                · refine g_pc (pc' := 88) rfl ?_
                  refine g_aload_n C dX10_notCopied_88 rfl ?_
                  refine gf_X10_101 C dX10_notCopied_89 rfl ?_
                  refine g_iload_n C dX10_notCopied_92 rfl ?_
                  refine g_iaz (n := x.toNat) (N := 8) (v := (σ.1 146 x.toNat)) C dX10_notCopied_93 rfl rfl (by omega) (by omega) (by decide) rfl ?_
                  refine g_if_eq (tgt := 106) C dX10_notCopied_94 (by decide) (by unfold R32; omega) (fun h29 => ?_) (fun h29 => ?_)
                  · refine g_bipush (z := (-3)) C dX10_notCopied_106 rfl ?_
                    exact g_ireturn C dX10_notCopied_108 (by first | (exfalso; omega) | exact ⟨by unfold ncp; (first | rw [if_pos (by omega)] | rw [if_neg (by omega), if_pos (by omega)] | rw [if_neg (by omega), if_neg (by omega), if_pos (by omega)] | rw [if_neg (by omega), if_neg (by omega), if_neg (by omega), if_pos (by omega)] | rw [if_neg (by omega), if_neg (by omega), if_neg (by omega), if_neg (by omega), if_pos (by omega)] | rw [if_neg (by omega), if_neg (by omega), if_neg (by omega), if_neg (by omega), if_neg (by omega)]); rfl, rfl⟩)
                  · refine g_aload_n C dX10_notCopied_97 rfl ?_
                    refine g_pc (pc' := 98) rfl ?_
                    refine gf_X10_101 C dX10_notCopied_98 rfl ?_
                    refine g_iload_n C dX10_notCopied_101 rfl ?_
                    refine g_iaz (n := y.toNat) (N := 8) (v := (σ.1 146 y.toNat)) C dX10_notCopied_102 rfl rfl (by omega) (by omega) (by decide) rfl ?_
                    refine g_if_ne (tgt := 109) C dX10_notCopied_103 (by decide) (by unfold R32; omega) (fun h30 => ?_) (fun h30 => ?_)
                    · refine g_iload C dX10_notCopied_109 rfl ?_
                      refine g_if_ge (tgt := 117) C dX10_notCopied_111 (by decide) (by unfold R32; omega) (fun h31 => ?_) (fun h31 => ?_)
                      · refine g_iload_n C dX10_notCopied_117 rfl ?_
                        refine g_if_lt (tgt := 153) C dX10_notCopied_118 (by decide) (by unfold R32; omega) (fun h32 => ?_) (fun h32 => ?_)
                        · refine g_pc (pc' := 153) rfl ?_
                          refine g_bipush (z := (-5)) C dX10_notCopied_153 rfl ?_
                          refine g_goto (tgt := 159) C dX10_notCopied_155 (by decide) ?_
                          exact g_ireturn C dX10_notCopied_159 (by first | (exfalso; omega) | exact ⟨by unfold ncp; (first | rw [if_pos (by omega)] | rw [if_neg (by omega), if_pos (by omega)] | rw [if_neg (by omega), if_neg (by omega), if_pos (by omega)] | rw [if_neg (by omega), if_neg (by omega), if_neg (by omega), if_pos (by omega)] | rw [if_neg (by omega), if_neg (by omega), if_neg (by omega), if_neg (by omega), if_pos (by omega)] | rw [if_neg (by omega), if_neg (by omega), if_neg (by omega), if_neg (by omega), if_neg (by omega)]); rfl, rfl⟩)
                        · refine g_iload C dX10_notCopied_121 rfl ?_
                          refine g_if_lt (tgt := 153) C dX10_notCopied_123 (by decide) (by unfold R32; omega) (fun h33 => ?_) (fun h33 => ?_)
                          · refine g_bipush (z := (-5)) C dX10_notCopied_153 rfl ?_
                            refine g_goto (tgt := 159) C dX10_notCopied_155 (by decide) ?_
                            exact g_ireturn C dX10_notCopied_159 (by first | (exfalso; omega) | exact ⟨by unfold ncp; (first | rw [if_pos (by omega)] | rw [if_neg (by omega), if_pos (by omega)] | rw [if_neg (by omega), if_neg (by omega), if_pos (by omega)] | rw [if_neg (by omega), if_neg (by omega), if_neg (by omega), if_pos (by omega)] | rw [if_neg (by omega), if_neg (by omega), if_neg (by omega), if_neg (by omega), if_pos (by omega)] | rw [if_neg (by omega), if_neg (by omega), if_neg (by omega), if_neg (by omega), if_neg (by omega)]); rfl, rfl⟩)
                          · refine g_pc (pc' := 126) rfl ?_
                            refine g_iload_n C dX10_notCopied_126 rfl ?_
                            refine g_aload_n C dX10_notCopied_127 rfl ?_
                            refine gf_X10_104 C dX10_notCopied_128 rfl ?_
                            refine g_iload_n C dX10_notCopied_131 rfl ?_
                            refine g_iaz (n := x.toNat) (N := 8) (v := (σ.1 147 x.toNat)) C dX10_notCopied_132 rfl rfl (by omega) (by omega) (by decide) rfl ?_
                            refine g_iload C dX10_notCopied_133 rfl ?_
                            refine g_isub C dX10_notCopied_135 ?_
                            refine g_icmp_gt (tgt := 153) C dX10_notCopied_136 (by decide) (by unfold R32; omega) (fun h34 => ?_) (fun h34 => ?_)
                            · refine g_pc (pc' := 153) rfl ?_
                              refine g_bipush (z := (-5)) C dX10_notCopied_153 rfl ?_
                              refine g_goto (tgt := 159) C dX10_notCopied_155 (by decide) ?_
                              exact g_ireturn C dX10_notCopied_159 (by first | (exfalso; omega) | exact ⟨by unfold ncp; (first | rw [if_pos (by omega)] | rw [if_neg (by omega), if_pos (by omega)] | rw [if_neg (by omega), if_neg (by omega), if_pos (by omega)] | rw [if_neg (by omega), if_neg (by omega), if_neg (by omega), if_pos (by omega)] | rw [if_neg (by omega), if_neg (by omega), if_neg (by omega), if_neg (by omega), if_pos (by omega)] | rw [if_neg (by omega), if_neg (by omega), if_neg (by omega), if_neg (by omega), if_neg (by omega)]); rfl, rfl⟩)
                            · refine g_iload C dX10_notCopied_139 rfl ?_
                              refine g_aload_n C dX10_notCopied_141 rfl ?_
                              refine gf_X10_104 C dX10_notCopied_142 rfl ?_
                              refine g_iload_n C dX10_notCopied_145 rfl ?_
                              refine g_iaz (n := y.toNat) (N := 8) (v := (σ.1 147 y.toNat)) C dX10_notCopied_146 rfl rfl (by omega) (by omega) (by decide) rfl ?_
                              refine g_pc (pc' := 147) rfl ?_
                              refine g_iload C dX10_notCopied_147 rfl ?_
                              refine g_isub C dX10_notCopied_149 ?_
                              refine g_icmp_le (tgt := 158) C dX10_notCopied_150 (by decide) (by unfold R32; omega) (fun h35 => ?_) (fun h35 => ?_)
                              · refine g_iconst (z := 0) C dX10_notCopied_158 rfl ?_
                                exact g_ireturn C dX10_notCopied_159 (by first | (exfalso; omega) | exact ⟨by unfold ncp; (first | rw [if_pos (by omega)] | rw [if_neg (by omega), if_pos (by omega)] | rw [if_neg (by omega), if_neg (by omega), if_pos (by omega)] | rw [if_neg (by omega), if_neg (by omega), if_neg (by omega), if_pos (by omega)] | rw [if_neg (by omega), if_neg (by omega), if_neg (by omega), if_neg (by omega), if_pos (by omega)] | rw [if_neg (by omega), if_neg (by omega), if_neg (by omega), if_neg (by omega), if_neg (by omega)]); rfl, rfl⟩)
                              · refine g_bipush (z := (-5)) C dX10_notCopied_153 rfl ?_
                                refine g_goto (tgt := 159) C dX10_notCopied_155 (by decide) ?_
                                exact g_ireturn C dX10_notCopied_159 (by first | (exfalso; omega) | exact ⟨by unfold ncp; (first | rw [if_pos (by omega)] | rw [if_neg (by omega), if_pos (by omega)] | rw [if_neg (by omega), if_neg (by omega), if_pos (by omega)] | rw [if_neg (by omega), if_neg (by omega), if_neg (by omega), if_pos (by omega)] | rw [if_neg (by omega), if_neg (by omega), if_neg (by omega), if_neg (by omega), if_pos (by omega)] | rw [if_neg (by omega), if_neg (by omega), if_neg (by omega), if_neg (by omega), if_neg (by omega)]); rfl, rfl⟩)
                      · refine g_pc (pc' := 114) rfl ?_
                        refine g_bipush (z := (-4)) C dX10_notCopied_114 rfl ?_
                        exact g_ireturn C dX10_notCopied_116 (by first | (exfalso; omega) | exact ⟨by unfold ncp; (first | rw [if_pos (by omega)] | rw [if_neg (by omega), if_pos (by omega)] | rw [if_neg (by omega), if_neg (by omega), if_pos (by omega)] | rw [if_neg (by omega), if_neg (by omega), if_neg (by omega), if_pos (by omega)] | rw [if_neg (by omega), if_neg (by omega), if_neg (by omega), if_neg (by omega), if_pos (by omega)] | rw [if_neg (by omega), if_neg (by omega), if_neg (by omega), if_neg (by omega), if_neg (by omega)]); rfl, rfl⟩)
                    · refine g_bipush (z := (-3)) C dX10_notCopied_106 rfl ?_
                      exact g_ireturn C dX10_notCopied_108 (by first | (exfalso; omega) | exact ⟨by unfold ncp; (first | rw [if_pos (by omega)] | rw [if_neg (by omega), if_pos (by omega)] | rw [if_neg (by omega), if_neg (by omega), if_pos (by omega)] | rw [if_neg (by omega), if_neg (by omega), if_neg (by omega), if_pos (by omega)] | rw [if_neg (by omega), if_neg (by omega), if_neg (by omega), if_neg (by omega), if_pos (by omega)] | rw [if_neg (by omega), if_neg (by omega), if_neg (by omega), if_neg (by omega), if_neg (by omega)]); rfl, rfl⟩)
                · exfalso; omega
          · refine g_iconst (z := 1) C dX10_notCopied_49 rfl ?_
            refine g_goto (tgt := 54) C dX10_notCopied_50 (by decide) ?_
            refine g_istore (L' := [(6, .int (iZ 1)), (0, .ref (κ.2.1 105)), (1, .int (iZ x)), (2, .int (iZ y)), (3, .int (iZ i)), (4, .int (iZ j)), (5, .int (iZ n))]) C dX10_notCopied_54 (by decide) rfl ?_
            refine g_aload_n C dX10_notCopied_56 rfl ?_
            refine g_pc (pc' := 57) rfl ?_
            refine gf_X10_101 C dX10_notCopied_57 rfl ?_
            refine g_iload_n C dX10_notCopied_60 rfl ?_
            refine g_iaz (n := x.toNat) (N := 8) (v := (σ.1 146 x.toNat)) C dX10_notCopied_61 rfl rfl (by omega) (by omega) (by decide) rfl ?_
            refine g_sipush (z := 200) C dX10_notCopied_62 rfl ?_
            refine g_icmp_ge (tgt := 85) C dX10_notCopied_65 (by decide) (by unfold R32; omega) (fun h36 => ?_) (fun h36 => ?_)
            · refine g_bipush (z := (-2)) C dX10_notCopied_85 rfl ?_
              exact g_ireturn C dX10_notCopied_87 (by first | (exfalso; omega) | exact ⟨by unfold ncp; (first | rw [if_pos (by omega)] | rw [if_neg (by omega), if_pos (by omega)] | rw [if_neg (by omega), if_neg (by omega), if_pos (by omega)] | rw [if_neg (by omega), if_neg (by omega), if_neg (by omega), if_pos (by omega)] | rw [if_neg (by omega), if_neg (by omega), if_neg (by omega), if_neg (by omega), if_pos (by omega)] | rw [if_neg (by omega), if_neg (by omega), if_neg (by omega), if_neg (by omega), if_neg (by omega)]); rfl, rfl⟩)
            · refine g_aload_n C dX10_notCopied_68 rfl ?_
              refine g_pc (pc' := 69) rfl ?_
              refine gf_X10_101 C dX10_notCopied_69 rfl ?_
              refine g_iload_n C dX10_notCopied_72 rfl ?_
              refine g_iaz (n := y.toNat) (N := 8) (v := (σ.1 146 y.toNat)) C dX10_notCopied_73 rfl rfl (by omega) (by omega) (by decide) rfl ?_
              refine g_sipush (z := 200) C dX10_notCopied_74 rfl ?_
              refine g_icmp_ge (tgt := 85) C dX10_notCopied_77 (by decide) (by unfold R32; omega) (fun h37 => ?_) (fun h37 => ?_)
              · refine g_bipush (z := (-2)) C dX10_notCopied_85 rfl ?_
                exact g_ireturn C dX10_notCopied_87 (by first | (exfalso; omega) | exact ⟨by unfold ncp; (first | rw [if_pos (by omega)] | rw [if_neg (by omega), if_pos (by omega)] | rw [if_neg (by omega), if_neg (by omega), if_pos (by omega)] | rw [if_neg (by omega), if_neg (by omega), if_neg (by omega), if_pos (by omega)] | rw [if_neg (by omega), if_neg (by omega), if_neg (by omega), if_neg (by omega), if_pos (by omega)] | rw [if_neg (by omega), if_neg (by omega), if_neg (by omega), if_neg (by omega), if_neg (by omega)]); rfl, rfl⟩)
              · refine g_iload C dX10_notCopied_80 rfl ?_
                refine g_pc (pc' := 82) rfl ?_
                refine g_if_eq (tgt := 88) C dX10_notCopied_82 (by decide) (by unfold R32; omega) (fun h38 => ?_) (fun h38 => ?_)
                · exfalso; omega
                · refine g_bipush (z := (-2)) C dX10_notCopied_85 rfl ?_
                  exact g_ireturn C dX10_notCopied_87 (by first | (exfalso; omega) | exact ⟨by unfold ncp; (first | rw [if_pos (by omega)] | rw [if_neg (by omega), if_pos (by omega)] | rw [if_neg (by omega), if_neg (by omega), if_pos (by omega)] | rw [if_neg (by omega), if_neg (by omega), if_neg (by omega), if_pos (by omega)] | rw [if_neg (by omega), if_neg (by omega), if_neg (by omega), if_neg (by omega), if_pos (by omega)] | rw [if_neg (by omega), if_neg (by omega), if_neg (by omega), if_neg (by omega), if_neg (by omega)]); rfl, rfl⟩)
    · refine g_iconst (z := (-1)) C dX10_notCopied_14 rfl ?_
      exact g_ireturn C dX10_notCopied_15 (by first | (exfalso; omega) | exact ⟨by unfold ncp; (first | rw [if_pos (by omega)] | rw [if_neg (by omega), if_pos (by omega)] | rw [if_neg (by omega), if_neg (by omega), if_pos (by omega)] | rw [if_neg (by omega), if_neg (by omega), if_neg (by omega), if_pos (by omega)] | rw [if_neg (by omega), if_neg (by omega), if_neg (by omega), if_neg (by omega), if_pos (by omega)] | rw [if_neg (by omega), if_neg (by omega), if_neg (by omega), if_neg (by omega), if_neg (by omega)]); rfl, rfl⟩)
set_option maxHeartbeats 4000000 in
set_option maxRecDepth 100000 in
theorem c_X10_copy {κ : Kp} (hI : Ij κ) (l : Launch) (σ : St) {V : Vw} (hM : MV σ V) (hO : OKV V) {x y i j n : Int} (hx : R32 x) (hy : R32 y) (hi : R32 i) (hj : R32 j) (hn : R32 n) : CtI κ l 3 yX10_copy cX10_copy 11 .int [.ref (κ.2.1 105), .int (iZ x), .int (iZ y), .int (iZ i), .int (iZ j), .int (iZ n)] σ (fun z σ' => z = (aCopy V x y i j n).1 ∧ MV σ' (aCopy V x y i j n).2 ∧ Fr YC σ σ') := by
  refine Ct.ofG (own := RX10) hI (by decide +kernel) rfl (Nat.le_of_ble_eq_true rfl) rfl ?_
  intro M C hMl
  refine g_aload_n C dX10_copy_0 rfl ?_
  refine g_iload_n C dX10_copy_1 rfl ?_
  refine g_iload_n C dX10_copy_2 rfl ?_
  refine g_iload_n C dX10_copy_3 rfl ?_
  refine g_iload C dX10_copy_4 rfl ?_
  refine g_iload C dX10_copy_6 rfl ?_
  refine gc_X10_325 C dX10_copy_8 rfl (c_X10_notCopied hI (Ml M) σ hM hO (by assumption) (by assumption) (by assumption) (by assumption) (by assumption)) (by decide) (Nat.le_of_ble_eq_true rfl) (fun z σ9 ⟨hz, hσ⟩ => ?_)
  subst z
  subst σ9
  have hnl := ncp_le V x y i j n
  refine g_pc (pc' := 11) rfl ?_
  refine g_istore (L' := [(6, .int (iZ (-(ncp V x y i j n : Int)))), (0, .ref (κ.2.1 105)), (1, .int (iZ x)), (2, .int (iZ y)), (3, .int (iZ i)), (4, .int (iZ j)), (5, .int (iZ n))]) C dX10_copy_11 (by decide) rfl ?_
  refine g_iload C dX10_copy_13 rfl ?_
  refine g_if_eq (tgt := 25) C dX10_copy_15 (by decide) (by unfold R32; omega) (fun h1 => ?_) (fun h1 => ?_)
  · obtain ⟨⟨nx, ny⟩, n2, n3, n4, n5, n6⟩ := ncp_0 (V := V) (x := x) (y := y) (i := i) (j := j) (n := n) (by omega)
    have hhx := hM.hd hO (s := x.toNat) (by omega)
    have hhy := hM.hd hO (s := y.toNat) (by omega)
    refine g_sipush (z := 160) C dX10_copy_25 rfl ?_
    refine g_iload_n C dX10_copy_28 rfl ?_
    refine g_imul C dX10_copy_29 ?_
    refine g_iload_n C dX10_copy_30 rfl ?_
    refine g_iadd C dX10_copy_31 ?_
    refine g_pc (pc' := 32) rfl ?_
    refine g_istore (L' := [(7, .int (iZ ((160 * x) + i))), (6, .int (iZ (-(ncp V x y i j n : Int)))), (0, .ref (κ.2.1 105)), (1, .int (iZ x)), (2, .int (iZ y)), (3, .int (iZ i)), (4, .int (iZ j)), (5, .int (iZ n))]) C dX10_copy_32 (by decide) rfl ?_
    refine g_sipush (z := 160) C dX10_copy_34 rfl ?_
    refine g_iload_n C dX10_copy_37 rfl ?_
    refine g_imul C dX10_copy_38 ?_
    refine g_iload C dX10_copy_39 rfl ?_
    refine g_iadd C dX10_copy_41 ?_
    refine g_istore (L' := [(8, .int (iZ ((160 * y) + j))), (7, .int (iZ ((160 * x) + i))), (6, .int (iZ (-(ncp V x y i j n : Int)))), (0, .ref (κ.2.1 105)), (1, .int (iZ x)), (2, .int (iZ y)), (3, .int (iZ i)), (4, .int (iZ j)), (5, .int (iZ n))]) C dX10_copy_42 (by decide) rfl ?_
    refine g_iconst (z := 0) C dX10_copy_44 rfl ?_
    refine g_pc (pc' := 45) rfl ?_
    refine g_istore (L' := [(9, .int (iZ 0)), (8, .int (iZ ((160 * y) + j))), (7, .int (iZ ((160 * x) + i))), (6, .int (iZ (-(ncp V x y i j n : Int)))), (0, .ref (κ.2.1 105)), (1, .int (iZ x)), (2, .int (iZ y)), (3, .int (iZ i)), (4, .int (iZ j)), (5, .int (iZ n))]) C dX10_copy_45 (by decide) rfl ?_
    have lp47 : ∀ (fz9 : Nat) (k : Nat) (x9 : Int) (q : St), (n.toNat - k < fz9) → (x9 = (k : Int)) → ((k : Int) ≤ n) → (q.1 = σ.1) → (q.2.1 = σ.2.1) → (∀ a, a ≠ 151 → q.2.2 a = σ.2.2 a) → (∀ r, q.2.2 151 r = cpM σ (160 * x.toNat + i.toNat) (160 * y.toNat + j.toNat) n.toNat k r) → G M κ 11 (En M κ (qI κ (fun z σ' => z = (aCopy V x y i j n).1 ∧ MV σ' (aCopy V x y i j n).2 ∧ Fr YC σ σ'))) 47 [(0, .ref (κ.2.1 105)), (1, .int (iZ x)), (2, .int (iZ y)), (3, .int (iZ i)), (4, .int (iZ j)), (5, .int (iZ n)), (6, .int (iZ (-(ncp V x y i j n : Int)))), (7, .int (iZ ((160 * x) + i))), (8, .int (iZ ((160 * y) + j))), (9, .int (iZ x9))] [] q := by
      intro fz9
      induction fz9 with
      | zero => intro k x9 q hm0; exact absurd hm0 (Nat.not_lt_zero _)
      | succ fz9 ih47 =>
        intro k x9 q hm47 hx9 hk hq1 hq2 hq3 hq4
        refine g_iload C dX10_copy_47 rfl ?_
        refine g_iload C dX10_copy_49 rfl ?_
        refine g_icmp_ge (tgt := 101) C dX10_copy_51 (by decide) (by unfold R32; omega) (fun h2 => ?_) (fun h2 => ?_)
        · refine g_iconst (z := 1) C dX10_copy_101 rfl ?_
          exact g_ireturn C dX10_copy_102 (by rw [aCopy_0 (by omega)]; have hkn : k = n.toNat := (by omega); subst hkn; have hrx := hM.2.2.1.row (s := x.toNat) (by omega) (by omega); have hry := hM.2.2.1.row (s := y.toNat) (by omega) (by omega); exact ⟨rfl, hM.shelf hO (by omega) ⟨fun a h1 h2 => ⟨by rw [hq1], by rw [hq2], hq3 a (fun e => h2 (by unfold Ssh; omega))⟩, fun _ _ => by rw [hq1]⟩ (fun a r _ _ _ => by rw [hq1]) (fun r hr => by rw [hq4, cpM_n, if_neg (by omega)]) (fun e => by omega) (fun _ => ⟨by rw [hq1]; exact hry.1, by rw [hq1]; exact hry.2.1, fun r hr => by rw [hq4, cpM_n]; unfold cpE; by_cases hc : j.toNat ≤ r ∧ r < j.toNat + n.toNat; (rw [if_pos (by omega), if_pos hc, show 160 * x.toNat + i.toNat + (160 * y.toNat + r - (160 * y.toNat + j.toNat)) = 160 * x.toNat + (i.toNat + (r - j.toNat)) by omega]; exact hrx.2.2 _ (by omega)); (rw [if_neg (by omega), if_neg hc]; exact hry.2.2 r hr)⟩) (fun e => by omega)⟩)
        · refine g_iload C dX10_copy_54 rfl ?_
          refine g_iload C dX10_copy_56 rfl ?_
          refine g_pc (pc' := 58) rfl ?_
          refine g_icmp_ge (tgt := 71) C dX10_copy_58 (by decide) (by unfold R32; omega) (fun h3 => ?_) (fun h3 => ?_)
          · refine g_iload C dX10_copy_71 rfl ?_
            refine g_istore (L' := [(10, .int (iZ x9)), (0, .ref (κ.2.1 105)), (1, .int (iZ x)), (2, .int (iZ y)), (3, .int (iZ i)), (4, .int (iZ j)), (5, .int (iZ n)), (6, .int (iZ (-(ncp V x y i j n : Int)))), (7, .int (iZ ((160 * x) + i))), (8, .int (iZ ((160 * y) + j))), (9, .int (iZ x9))]) C dX10_copy_73 (by decide) rfl ?_
            refine g_aload_n C dX10_copy_75 rfl ?_
            refine gf_X10_116 C dX10_copy_76 rfl ?_
            refine g_iload C dX10_copy_79 rfl ?_
            refine g_iload C dX10_copy_81 rfl ?_
            refine g_iadd C dX10_copy_83 ?_
            refine g_pc (pc' := 84) rfl ?_
            refine g_aload_n C dX10_copy_84 rfl ?_
            refine gf_X10_116 C dX10_copy_85 rfl ?_
            refine g_iload C dX10_copy_88 rfl ?_
            refine g_iload C dX10_copy_90 rfl ?_
            refine g_iadd C dX10_copy_92 ?_
            refine g_laz (n := (160 * x.toNat + i.toNat + k)) (N := 1280) (v := (q.2.2 151 (160 * x.toNat + i.toNat + k))) C dX10_copy_93 rfl rfl (by omega) (by omega) (by decide) rfl ?_
            refine g_last (n := (160 * y.toNat + j.toNat + k)) (N := 1280) C dX10_copy_94 rfl rfl (by omega) (by omega) (by decide) ?_
            refine g_iinc (q := 10) (v := (x9 + 1)) (L' := [(9, .int (iZ (x9 + 1))), (10, .int (iZ x9)), (0, .ref (κ.2.1 105)), (1, .int (iZ x)), (2, .int (iZ y)), (3, .int (iZ i)), (4, .int (iZ j)), (5, .int (iZ n)), (6, .int (iZ (-(ncp V x y i j n : Int)))), (7, .int (iZ ((160 * x) + i))), (8, .int (iZ ((160 * y) + j)))]) C dX10_copy_95 rfl rfl (by decide) rfl ?_
            refine g_pc (pc' := 98) rfl ?_
            refine g_goto (tgt := 47) C dX10_copy_98 (by decide) ?_
            exact g_loc [2, 3, 4, 5, 6, 7, 8, 9, 10, 0] (by rfl) (ih47 (k + 1) (x9 + 1) (sL q 151 (160 * y.toNat + j.toNat + k) (q.2.2 151 (160 * x.toNat + i.toNat + k))) (by omega) (by omega) (by omega) hq1 hq2 (fun a ha => (sL_ne ha).trans (hq3 a ha)) (fun r => by rw [sL_at, hq4, hq4]; exact cpM_u (by omega) (by omega) r))
          · refine g_iload C dX10_copy_61 rfl ?_
            refine g_iconst (z := 1) C dX10_copy_63 rfl ?_
            refine g_isub C dX10_copy_64 ?_
            refine g_iload C dX10_copy_65 rfl ?_
            refine g_isub C dX10_copy_67 ?_
            refine g_goto (tgt := 73) C dX10_copy_68 (by decide) ?_
            refine g_istore (L' := [(10, .int (iZ ((n - 1) - x9))), (0, .ref (κ.2.1 105)), (1, .int (iZ x)), (2, .int (iZ y)), (3, .int (iZ i)), (4, .int (iZ j)), (5, .int (iZ n)), (6, .int (iZ (-(ncp V x y i j n : Int)))), (7, .int (iZ ((160 * x) + i))), (8, .int (iZ ((160 * y) + j))), (9, .int (iZ x9))]) C dX10_copy_73 (by decide) rfl ?_
            refine g_pc (pc' := 75) rfl ?_
            refine g_aload_n C dX10_copy_75 rfl ?_
            refine gf_X10_116 C dX10_copy_76 rfl ?_
            refine g_iload C dX10_copy_79 rfl ?_
            refine g_iload C dX10_copy_81 rfl ?_
            refine g_iadd C dX10_copy_83 ?_
            refine g_aload_n C dX10_copy_84 rfl ?_
            refine gf_X10_116 C dX10_copy_85 rfl ?_
            refine g_iload C dX10_copy_88 rfl ?_
            refine g_pc (pc' := 90) rfl ?_
            refine g_iload C dX10_copy_90 rfl ?_
            refine g_iadd C dX10_copy_92 ?_
            refine g_laz (n := (160 * x.toNat + i.toNat + ((n.toNat - 1) - k))) (N := 1280) (v := (q.2.2 151 (160 * x.toNat + i.toNat + ((n.toNat - 1) - k)))) C dX10_copy_93 rfl rfl (by omega) (by omega) (by decide) rfl ?_
            refine g_last (n := (160 * y.toNat + j.toNat + ((n.toNat - 1) - k))) (N := 1280) C dX10_copy_94 rfl rfl (by omega) (by omega) (by decide) ?_
            refine g_iinc (q := 10) (v := (x9 + 1)) (L' := [(9, .int (iZ (x9 + 1))), (10, .int (iZ ((n - 1) - x9))), (0, .ref (κ.2.1 105)), (1, .int (iZ x)), (2, .int (iZ y)), (3, .int (iZ i)), (4, .int (iZ j)), (5, .int (iZ n)), (6, .int (iZ (-(ncp V x y i j n : Int)))), (7, .int (iZ ((160 * x) + i))), (8, .int (iZ ((160 * y) + j)))]) C dX10_copy_95 rfl rfl (by decide) rfl ?_
            refine g_goto (tgt := 47) C dX10_copy_98 (by decide) ?_
            exact g_loc [2, 3, 4, 5, 6, 7, 8, 9, 10, 0] (by rfl) (ih47 (k + 1) (x9 + 1) (sL q 151 (160 * y.toNat + j.toNat + ((n.toNat - 1) - k)) (q.2.2 151 (160 * x.toNat + i.toNat + ((n.toNat - 1) - k)))) (by omega) (by omega) (by omega) hq1 hq2 (fun a ha => (sL_ne ha).trans (hq3 a ha)) (fun r => by rw [sL_at, hq4, hq4]; exact cpM_d (by omega) (by omega) r))
    exact g_loc [4, 5, 6, 7, 8, 9, 3, 2, 1, 0] (by rfl) (lp47 _ 0 0 σ (Nat.lt_succ_self _) rfl (by omega) rfl rfl (fun _ _ => rfl) (fun r => cpM_0.symm))
  · refine g_aload_n C dX10_copy_18 rfl ?_
    refine g_iload C dX10_copy_19 rfl ?_
    refine g_pc (pc' := 21) rfl ?_
    refine gc_X10_274 C dX10_copy_21 rfl (c_X10_no hI (Ml M) σ (y := ncp V x y i j n) (v := (-(ncp V x y i j n : Int))) rfl (by omega)) (by decide) (Nat.le_of_ble_eq_true rfl) (fun z σ9 ⟨hz, hσ⟩ => ?_)
    subst z
    subst σ9
    exact g_ireturn C dX10_copy_24 (by rw [aCopy_n (by omega)]; exact ⟨rfl, hM.ref (by omega), YC.ref⟩)
set_option maxHeartbeats 4000000 in
set_option maxRecDepth 100000 in
theorem c_X10_status {κ : Kp} (hI : Ij κ) (l : Launch) (σ : St) {V : Vw} (hM : MV σ V) (hO : OKV V) {a : Int} (ha : R32 a) : CtI κ l 2 yX10_status cX10_status 2 .int [.ref (κ.2.1 105), .int (iZ a)] σ (fun z σ' => z = aStatus V a ∧ MV σ' V ∧ Fr YC σ σ') := by
  refine Ct.ofG (own := RX10) hI (by decide +kernel) rfl (Nat.le_of_ble_eq_true rfl) rfl ?_
  intro M C hMl
  refine g_iload_n C dX10_status_0 rfl ?_
  refine g_bipush (z := 11) C dX10_status_1 rfl ?_
  refine g_bipush (z := 17) C dX10_status_3 rfl ?_
  refine gc_X10_145 C dX10_status_5 (c_X10_isIn hI (Ml M) σ (v := a) (a := 11) (b := 17) (by unfold R32; omega) (by unfold R32; omega) (by unfold R32; omega)) (by decide) (Nat.le_of_ble_eq_true rfl) (fun z σ9 ⟨hz, hσ⟩ => ?_)
  subst z
  subst σ9
  refine g_ifb_eq (tgt := 21) C dX10_status_8 (by decide) (fun h1 => ?_) (fun h1 => ?_)
  · refine g_iload_n C dX10_status_21 rfl ?_
    have hs2 : a < 0 ∨ 4 < a ∨ a = 0 ∨ a = 1 ∨ a = 2 ∨ a = 3 ∨ a = 4 := by omega
    rcases hs2 with hs2 | hs2 | hs2 | hs2 | hs2 | hs2 | hs2
    · refine g_tswd (tgt := 81) C dX10_status_22 (by unfold R32; omega) (by omega) (by decide) ?_
      refine g_pc (pc' := 81) rfl ?_
      refine g_iconst (z := (-1)) C dX10_status_81 rfl ?_
      exact g_ireturn C dX10_status_82 (by first | (exfalso; omega) | exact (by rw [show aStatus V a = (-1) by unfold aStatus; (first | rw [if_pos (by omega)] | rw [if_neg (by omega), if_pos (by omega)] | rw [if_neg (by omega), if_neg (by omega), if_pos (by omega)] | rw [if_neg (by omega), if_neg (by omega), if_neg (by omega), if_pos (by omega)] | rw [if_neg (by omega), if_neg (by omega), if_neg (by omega), if_neg (by omega), if_pos (by omega)] | rw [if_neg (by omega), if_neg (by omega), if_neg (by omega), if_neg (by omega), if_neg (by omega), if_pos (by omega)] | rw [if_neg (by omega), if_neg (by omega), if_neg (by omega), if_neg (by omega), if_neg (by omega), if_neg (by omega)])]; exact ⟨rfl, hM, Fr.rf⟩))
    · refine g_tswd (tgt := 81) C dX10_status_22 (by unfold R32; omega) (by omega) (by decide) ?_
      refine g_iconst (z := (-1)) C dX10_status_81 rfl ?_
      exact g_ireturn C dX10_status_82 (by first | (exfalso; omega) | exact (by rw [show aStatus V a = (-1) by unfold aStatus; (first | rw [if_pos (by omega)] | rw [if_neg (by omega), if_pos (by omega)] | rw [if_neg (by omega), if_neg (by omega), if_pos (by omega)] | rw [if_neg (by omega), if_neg (by omega), if_neg (by omega), if_pos (by omega)] | rw [if_neg (by omega), if_neg (by omega), if_neg (by omega), if_neg (by omega), if_pos (by omega)] | rw [if_neg (by omega), if_neg (by omega), if_neg (by omega), if_neg (by omega), if_neg (by omega), if_pos (by omega)] | rw [if_neg (by omega), if_neg (by omega), if_neg (by omega), if_neg (by omega), if_neg (by omega), if_neg (by omega)])]; exact ⟨rfl, hM, Fr.rf⟩))
    · refine g_int (z' := 0) hs2 ?_
      refine g_tsw (tgt := 56) C dX10_status_22 (by decide) (by decide) rfl (by decide) ?_
      refine g_aload_n C dX10_status_56 rfl ?_
      refine gc_X10_405 C dX10_status_57 rfl (c_X10_allLines hI (Ml M) σ hM.1 hO.l) (by decide) (Nat.le_of_ble_eq_true rfl) (fun z σ9 ⟨hz, hσ⟩ => ?_)
      subst σ9
      exact g_ireturn C dX10_status_60 (by first | (exfalso; omega) | exact (by rw [show aStatus V a = (wsum (vW V) 5 : Int) by unfold aStatus; (first | rw [if_pos (by omega)] | rw [if_neg (by omega), if_pos (by omega)] | rw [if_neg (by omega), if_neg (by omega), if_pos (by omega)] | rw [if_neg (by omega), if_neg (by omega), if_neg (by omega), if_pos (by omega)] | rw [if_neg (by omega), if_neg (by omega), if_neg (by omega), if_neg (by omega), if_pos (by omega)] | rw [if_neg (by omega), if_neg (by omega), if_neg (by omega), if_neg (by omega), if_neg (by omega), if_pos (by omega)] | rw [if_neg (by omega), if_neg (by omega), if_neg (by omega), if_neg (by omega), if_neg (by omega), if_neg (by omega)])]; exact ⟨hz, hM, Fr.rf⟩))
    · refine g_int (z' := 1) hs2 ?_
      refine g_tsw (tgt := 61) C dX10_status_22 (by decide) (by decide) rfl (by decide) ?_
      refine g_aload_n C dX10_status_61 rfl ?_
      refine g_pc (pc' := 62) rfl ?_
      refine gf_X10_174 (z := (wnf (vW V) : Int)) C dX10_status_62 rfl hM.1.2.1.1 ?_
      exact g_ireturn C dX10_status_65 (by first | (exfalso; omega) | exact (by rw [show aStatus V a = (wnf (vW V) : Int) by unfold aStatus; (first | rw [if_pos (by omega)] | rw [if_neg (by omega), if_pos (by omega)] | rw [if_neg (by omega), if_neg (by omega), if_pos (by omega)] | rw [if_neg (by omega), if_neg (by omega), if_neg (by omega), if_pos (by omega)] | rw [if_neg (by omega), if_neg (by omega), if_neg (by omega), if_neg (by omega), if_pos (by omega)] | rw [if_neg (by omega), if_neg (by omega), if_neg (by omega), if_neg (by omega), if_neg (by omega), if_pos (by omega)] | rw [if_neg (by omega), if_neg (by omega), if_neg (by omega), if_neg (by omega), if_neg (by omega), if_neg (by omega)])]; exact ⟨rfl, hM, Fr.rf⟩))
    · refine g_int (z' := 2) hs2 ?_
      refine g_tsw (tgt := 66) C dX10_status_22 (by decide) (by decide) rfl (by decide) ?_
      refine g_aload_n C dX10_status_66 rfl ?_
      refine gf_X10_192 (z := (wnj (vW V) : Int)) C dX10_status_67 rfl hM.1.2.2.1.1 ?_
      exact g_ireturn C dX10_status_70 (by first | (exfalso; omega) | exact (by rw [show aStatus V a = (wnj (vW V) : Int) by unfold aStatus; (first | rw [if_pos (by omega)] | rw [if_neg (by omega), if_pos (by omega)] | rw [if_neg (by omega), if_neg (by omega), if_pos (by omega)] | rw [if_neg (by omega), if_neg (by omega), if_neg (by omega), if_pos (by omega)] | rw [if_neg (by omega), if_neg (by omega), if_neg (by omega), if_neg (by omega), if_pos (by omega)] | rw [if_neg (by omega), if_neg (by omega), if_neg (by omega), if_neg (by omega), if_neg (by omega), if_pos (by omega)] | rw [if_neg (by omega), if_neg (by omega), if_neg (by omega), if_neg (by omega), if_neg (by omega), if_neg (by omega)])]; exact ⟨rfl, hM, Fr.rf⟩))
    · refine g_int (z' := 3) hs2 ?_
      refine g_tsw (tgt := 71) C dX10_status_22 (by decide) (by decide) rfl (by decide) ?_
      refine g_aload_n C dX10_status_71 rfl ?_
      refine gf_X10_255 (z := (vP V : Int)) C dX10_status_72 rfl hM.2.2.2.1.1 ?_
      exact g_ireturn C dX10_status_75 (by first | (exfalso; omega) | exact (by rw [show aStatus V a = (vP V : Int) by unfold aStatus; (first | rw [if_pos (by omega)] | rw [if_neg (by omega), if_pos (by omega)] | rw [if_neg (by omega), if_neg (by omega), if_pos (by omega)] | rw [if_neg (by omega), if_neg (by omega), if_neg (by omega), if_pos (by omega)] | rw [if_neg (by omega), if_neg (by omega), if_neg (by omega), if_neg (by omega), if_pos (by omega)] | rw [if_neg (by omega), if_neg (by omega), if_neg (by omega), if_neg (by omega), if_neg (by omega), if_pos (by omega)] | rw [if_neg (by omega), if_neg (by omega), if_neg (by omega), if_neg (by omega), if_neg (by omega), if_neg (by omega)])]; exact ⟨rfl, hM, Fr.rf⟩))
    · refine g_int (z' := 4) hs2 ?_
      refine g_tsw (tgt := 76) C dX10_status_22 (by decide) (by decide) rfl (by decide) ?_
      refine g_pc (pc' := 76) rfl ?_
      refine g_aload_n C dX10_status_76 rfl ?_
      refine gf_X10_142 (z := (wsd (vW V))) C dX10_status_77 rfl hM.1.2.2.2 ?_
      exact g_ireturn C dX10_status_80 (by first | (exfalso; omega) | exact (by rw [show aStatus V a = (wsd (vW V)) by unfold aStatus; (first | rw [if_pos (by omega)] | rw [if_neg (by omega), if_pos (by omega)] | rw [if_neg (by omega), if_neg (by omega), if_pos (by omega)] | rw [if_neg (by omega), if_neg (by omega), if_neg (by omega), if_pos (by omega)] | rw [if_neg (by omega), if_neg (by omega), if_neg (by omega), if_neg (by omega), if_pos (by omega)] | rw [if_neg (by omega), if_neg (by omega), if_neg (by omega), if_neg (by omega), if_neg (by omega), if_pos (by omega)] | rw [if_neg (by omega), if_neg (by omega), if_neg (by omega), if_neg (by omega), if_neg (by omega), if_neg (by omega)])]; exact ⟨rfl, hM, Fr.rf⟩))
  · refine g_aload_n C dX10_status_11 rfl ?_
    refine gf_X10_7 C dX10_status_12 rfl ?_
    refine g_iload_n C dX10_status_15 rfl ?_
    refine g_bipush (z := 10) C dX10_status_16 rfl ?_
    refine g_isub C dX10_status_18 ?_
    refine g_pc (pc' := 19) rfl ?_
    refine g_iaz (n := (a - 10).toNat) (N := 8) (v := (vR V (a - 10).toNat)) C dX10_status_19 rfl rfl (by omega) (by omega) (by decide) (hM.2.2.2.2.2 (a - 10).toNat (by omega)) ?_
    exact g_ireturn C dX10_status_20 (by first | (exfalso; omega) | exact (by rw [show aStatus V a = (vR V (a - 10).toNat) by unfold aStatus; (first | rw [if_pos (by omega)] | rw [if_neg (by omega), if_pos (by omega)] | rw [if_neg (by omega), if_neg (by omega), if_pos (by omega)] | rw [if_neg (by omega), if_neg (by omega), if_neg (by omega), if_pos (by omega)] | rw [if_neg (by omega), if_neg (by omega), if_neg (by omega), if_neg (by omega), if_pos (by omega)] | rw [if_neg (by omega), if_neg (by omega), if_neg (by omega), if_neg (by omega), if_neg (by omega), if_pos (by omega)] | rw [if_neg (by omega), if_neg (by omega), if_neg (by omega), if_neg (by omega), if_neg (by omega), if_neg (by omega)])]; exact ⟨rfl, hM, Fr.rf⟩))
set_option maxHeartbeats 4000000 in
set_option maxRecDepth 100000 in
theorem c_X10_nodeOf {κ : Kp} (hI : Ij κ) (l : Launch) (σ : St) {V : Vw} (hM : MV σ V) (hO : OKV V) {i a : Int} (hi : R32 i) (ha : R32 a) : CtI κ l 2 yX10_nodeOf cX10_nodeOf 3 .int [.ref (κ.2.1 105), .int (iZ i), .int (iZ a)] σ (fun z σ' => z = (aNodeOf V i a).1 ∧ MV σ' (aNodeOf V i a).2 ∧ Fr YC σ σ') := by
  refine Ct.ofG (own := RX10) hI (by decide +kernel) rfl (Nat.le_of_ble_eq_true rfl) rfl ?_
  intro M C hMl
  have hnp := np_le hO
  refine g_iload_n C dX10_nodeOf_0 rfl ?_
  refine g_iconst (z := 0) C dX10_nodeOf_1 rfl ?_
  refine g_aload_n C dX10_nodeOf_2 rfl ?_
  refine gf_X10_255 (z := (vP V : Int)) C dX10_nodeOf_3 rfl hM.2.2.2.1.1 ?_
  refine g_iconst (z := 1) C dX10_nodeOf_6 rfl ?_
  refine g_isub C dX10_nodeOf_7 ?_
  refine gc_X10_145 C dX10_nodeOf_8 (c_X10_isIn hI (Ml M) σ (v := i) (a := 0) (b := ((vP V : Int) - 1)) (by unfold R32; omega) (by unfold R32; omega) (by unfold R32; omega)) (by decide) (Nat.le_of_ble_eq_true rfl) (fun z σ9 ⟨hz, hσ⟩ => ?_)
  subst z
  subst σ9
  refine g_pc (pc' := 11) rfl ?_
  refine g_ifb_eq (tgt := 23) C dX10_nodeOf_11 (by decide) (fun h1 => ?_) (fun h1 => ?_)
  · refine g_aload_n C dX10_nodeOf_23 rfl ?_
    refine g_bipush (z := (-5)) C dX10_nodeOf_24 rfl ?_
    refine gc_X10_274 C dX10_nodeOf_26 rfl (c_X10_no hI (Ml M) σ (y := 5) (v := (-5)) (by first | rfl | omega) (by decide)) (by decide) (Nat.le_of_ble_eq_true rfl) (fun z σ9 ⟨hz, hσ⟩ => ?_)
    subst z
    subst σ9
    exact g_ireturn C dX10_nodeOf_29 (by first | (exfalso; omega) | exact (by rw [show aNodeOf V i a = rfs 5 V by unfold aNodeOf; (first | rw [if_pos (by omega)] | rw [if_neg (by omega), if_pos (by omega)] | rw [if_neg (by omega), if_neg (by omega), if_pos (by omega)] | rw [if_neg (by omega), if_neg (by omega), if_neg (by omega), if_pos (by omega)] | rw [if_neg (by omega), if_neg (by omega), if_neg (by omega), if_neg (by omega), if_pos (by omega)] | rw [if_neg (by omega), if_neg (by omega), if_neg (by omega), if_neg (by omega), if_neg (by omega), if_pos (by omega)] | rw [if_neg (by omega), if_neg (by omega), if_neg (by omega), if_neg (by omega), if_neg (by omega), if_neg (by omega), if_pos (by omega)] | rw [if_neg (by omega), if_neg (by omega), if_neg (by omega), if_neg (by omega), if_neg (by omega), if_neg (by omega), if_neg (by omega)])]; exact ⟨rfl, hM.ref (by omega), YC.ref⟩))
  · refine g_iload_n C dX10_nodeOf_14 rfl ?_
    refine g_iconst (z := 0) C dX10_nodeOf_15 rfl ?_
    refine g_iconst (z := 5) C dX10_nodeOf_16 rfl ?_
    refine g_pc (pc' := 17) rfl ?_
    refine gc_X10_145 C dX10_nodeOf_17 (c_X10_isIn hI (Ml M) σ (v := a) (a := 0) (b := 5) (by unfold R32; omega) (by unfold R32; omega) (by unfold R32; omega)) (by decide) (Nat.le_of_ble_eq_true rfl) (fun z σ9 ⟨hz, hσ⟩ => ?_)
    subst z
    subst σ9
    refine g_ifb_ne (tgt := 30) C dX10_nodeOf_20 (by decide) (fun h2 => ?_) (fun h2 => ?_)
    · have hmn := hM.2.2.2.1.2 i.toNat (by have : vP V = V.2.2.2.1.1 := rfl; omega)
      refine g_iload_n C dX10_nodeOf_30 rfl ?_
      have hs3 : a < 0 ∨ 4 < a ∨ a = 0 ∨ a = 1 ∨ a = 2 ∨ a = 3 ∨ a = 4 := by omega
      rcases hs3 with hs3 | hs3 | hs3 | hs3 | hs3 | hs3 | hs3
      · refine g_tswd (tgt := 101) C dX10_nodeOf_31 (by unfold R32; omega) (by omega) (by decide) ?_
        refine g_aload_n C dX10_nodeOf_101 rfl ?_
        refine gf_X10_86 C dX10_nodeOf_102 rfl ?_
        refine g_iload_n C dX10_nodeOf_105 rfl ?_
        refine g_iaz (n := i.toNat) (N := 64) (v := (vD V i.toNat 6)) C dX10_nodeOf_106 rfl rfl (by omega) (by omega) (by decide) hmn.2.2.2.2.2.1 ?_
        refine g_pc (pc' := 107) rfl ?_
        exact g_ireturn C dX10_nodeOf_107 (by first | (exfalso; omega) | exact (by rw [show aNodeOf V i a = ((vD V i.toNat 6), V) by unfold aNodeOf; (first | rw [if_pos (by omega)] | rw [if_neg (by omega), if_pos (by omega)] | rw [if_neg (by omega), if_neg (by omega), if_pos (by omega)] | rw [if_neg (by omega), if_neg (by omega), if_neg (by omega), if_pos (by omega)] | rw [if_neg (by omega), if_neg (by omega), if_neg (by omega), if_neg (by omega), if_pos (by omega)] | rw [if_neg (by omega), if_neg (by omega), if_neg (by omega), if_neg (by omega), if_neg (by omega), if_pos (by omega)] | rw [if_neg (by omega), if_neg (by omega), if_neg (by omega), if_neg (by omega), if_neg (by omega), if_neg (by omega), if_pos (by omega)] | rw [if_neg (by omega), if_neg (by omega), if_neg (by omega), if_neg (by omega), if_neg (by omega), if_neg (by omega), if_neg (by omega)])]; exact ⟨rfl, hM, Fr.rf⟩))
      · refine g_tswd (tgt := 101) C dX10_nodeOf_31 (by unfold R32; omega) (by omega) (by decide) ?_
        refine g_aload_n C dX10_nodeOf_101 rfl ?_
        refine gf_X10_86 C dX10_nodeOf_102 rfl ?_
        refine g_iload_n C dX10_nodeOf_105 rfl ?_
        refine g_iaz (n := i.toNat) (N := 64) (v := (vD V i.toNat 6)) C dX10_nodeOf_106 rfl rfl (by omega) (by omega) (by decide) hmn.2.2.2.2.2.1 ?_
        exact g_ireturn C dX10_nodeOf_107 (by first | (exfalso; omega) | exact (by rw [show aNodeOf V i a = ((vD V i.toNat 6), V) by unfold aNodeOf; (first | rw [if_pos (by omega)] | rw [if_neg (by omega), if_pos (by omega)] | rw [if_neg (by omega), if_neg (by omega), if_pos (by omega)] | rw [if_neg (by omega), if_neg (by omega), if_neg (by omega), if_pos (by omega)] | rw [if_neg (by omega), if_neg (by omega), if_neg (by omega), if_neg (by omega), if_pos (by omega)] | rw [if_neg (by omega), if_neg (by omega), if_neg (by omega), if_neg (by omega), if_neg (by omega), if_pos (by omega)] | rw [if_neg (by omega), if_neg (by omega), if_neg (by omega), if_neg (by omega), if_neg (by omega), if_neg (by omega), if_pos (by omega)] | rw [if_neg (by omega), if_neg (by omega), if_neg (by omega), if_neg (by omega), if_neg (by omega), if_neg (by omega), if_neg (by omega)])]; exact ⟨rfl, hM, Fr.rf⟩))
      · refine g_int (z' := 0) hs3 ?_
        refine g_tsw (tgt := 64) C dX10_nodeOf_31 (by decide) (by decide) rfl (by decide) ?_
        refine g_aload_n C dX10_nodeOf_64 rfl ?_
        refine gf_X10_71 C dX10_nodeOf_65 rfl ?_
        refine g_pc (pc' := 68) rfl ?_
        refine g_iload_n C dX10_nodeOf_68 rfl ?_
        refine g_iaz (n := i.toNat) (N := 64) (v := (vD V i.toNat 0)) C dX10_nodeOf_69 rfl rfl (by omega) (by omega) (by decide) hmn.1 ?_
        exact g_ireturn C dX10_nodeOf_70 (by first | (exfalso; omega) | exact (by rw [show aNodeOf V i a = ((vD V i.toNat 0), V) by unfold aNodeOf; (first | rw [if_pos (by omega)] | rw [if_neg (by omega), if_pos (by omega)] | rw [if_neg (by omega), if_neg (by omega), if_pos (by omega)] | rw [if_neg (by omega), if_neg (by omega), if_neg (by omega), if_pos (by omega)] | rw [if_neg (by omega), if_neg (by omega), if_neg (by omega), if_neg (by omega), if_pos (by omega)] | rw [if_neg (by omega), if_neg (by omega), if_neg (by omega), if_neg (by omega), if_neg (by omega), if_pos (by omega)] | rw [if_neg (by omega), if_neg (by omega), if_neg (by omega), if_neg (by omega), if_neg (by omega), if_neg (by omega), if_pos (by omega)] | rw [if_neg (by omega), if_neg (by omega), if_neg (by omega), if_neg (by omega), if_neg (by omega), if_neg (by omega), if_neg (by omega)])]; exact ⟨rfl, hM, Fr.rf⟩))
      · refine g_int (z' := 1) hs3 ?_
        refine g_tsw (tgt := 71) C dX10_nodeOf_31 (by decide) (by decide) rfl (by decide) ?_
        refine g_aload_n C dX10_nodeOf_71 rfl ?_
        refine gf_X10_74 C dX10_nodeOf_72 rfl ?_
        refine g_iload_n C dX10_nodeOf_75 rfl ?_
        refine g_iaz (n := i.toNat) (N := 64) (v := (vD V i.toNat 1)) C dX10_nodeOf_76 rfl rfl (by omega) (by omega) (by decide) hmn.2.1 ?_
        exact g_ireturn C dX10_nodeOf_77 (by first | (exfalso; omega) | exact (by rw [show aNodeOf V i a = ((vD V i.toNat 1), V) by unfold aNodeOf; (first | rw [if_pos (by omega)] | rw [if_neg (by omega), if_pos (by omega)] | rw [if_neg (by omega), if_neg (by omega), if_pos (by omega)] | rw [if_neg (by omega), if_neg (by omega), if_neg (by omega), if_pos (by omega)] | rw [if_neg (by omega), if_neg (by omega), if_neg (by omega), if_neg (by omega), if_pos (by omega)] | rw [if_neg (by omega), if_neg (by omega), if_neg (by omega), if_neg (by omega), if_neg (by omega), if_pos (by omega)] | rw [if_neg (by omega), if_neg (by omega), if_neg (by omega), if_neg (by omega), if_neg (by omega), if_neg (by omega), if_pos (by omega)] | rw [if_neg (by omega), if_neg (by omega), if_neg (by omega), if_neg (by omega), if_neg (by omega), if_neg (by omega), if_neg (by omega)])]; exact ⟨rfl, hM, Fr.rf⟩))
      · refine g_int (z' := 2) hs3 ?_
        refine g_tsw (tgt := 78) C dX10_nodeOf_31 (by decide) (by decide) rfl (by decide) ?_
        refine g_pc (pc' := 78) rfl ?_
        refine g_aload_n C dX10_nodeOf_78 rfl ?_
        refine gf_X10_77 C dX10_nodeOf_79 rfl ?_
        refine g_iload_n C dX10_nodeOf_82 rfl ?_
        refine g_iaz (n := i.toNat) (N := 64) (v := ((vD V i.toNat 2) + 1)) C dX10_nodeOf_83 rfl rfl (by omega) (by omega) (by decide) hmn.2.2.1 ?_
        exact g_ireturn C dX10_nodeOf_84 (by first | (exfalso; omega) | exact (by rw [show aNodeOf V i a = (((vD V i.toNat 2) + 1), V) by unfold aNodeOf; (first | rw [if_pos (by omega)] | rw [if_neg (by omega), if_pos (by omega)] | rw [if_neg (by omega), if_neg (by omega), if_pos (by omega)] | rw [if_neg (by omega), if_neg (by omega), if_neg (by omega), if_pos (by omega)] | rw [if_neg (by omega), if_neg (by omega), if_neg (by omega), if_neg (by omega), if_pos (by omega)] | rw [if_neg (by omega), if_neg (by omega), if_neg (by omega), if_neg (by omega), if_neg (by omega), if_pos (by omega)] | rw [if_neg (by omega), if_neg (by omega), if_neg (by omega), if_neg (by omega), if_neg (by omega), if_neg (by omega), if_pos (by omega)] | rw [if_neg (by omega), if_neg (by omega), if_neg (by omega), if_neg (by omega), if_neg (by omega), if_neg (by omega), if_neg (by omega)])]; exact ⟨rfl, hM, Fr.rf⟩))
      · refine g_int (z' := 3) hs3 ?_
        refine g_tsw (tgt := 85) C dX10_nodeOf_31 (by decide) (by decide) rfl (by decide) ?_
        refine g_aload_n C dX10_nodeOf_85 rfl ?_
        refine gf_X10_80 C dX10_nodeOf_86 rfl ?_
        refine g_iload_n C dX10_nodeOf_89 rfl ?_
        refine g_pc (pc' := 90) rfl ?_
        refine g_iaz (n := i.toNat) (N := 64) (v := (vD V i.toNat 3)) C dX10_nodeOf_90 rfl rfl (by omega) (by omega) (by decide) hmn.2.2.2.1 ?_
        exact g_ireturn C dX10_nodeOf_91 (by first | (exfalso; omega) | exact (by rw [show aNodeOf V i a = ((vD V i.toNat 3), V) by unfold aNodeOf; (first | rw [if_pos (by omega)] | rw [if_neg (by omega), if_pos (by omega)] | rw [if_neg (by omega), if_neg (by omega), if_pos (by omega)] | rw [if_neg (by omega), if_neg (by omega), if_neg (by omega), if_pos (by omega)] | rw [if_neg (by omega), if_neg (by omega), if_neg (by omega), if_neg (by omega), if_pos (by omega)] | rw [if_neg (by omega), if_neg (by omega), if_neg (by omega), if_neg (by omega), if_neg (by omega), if_pos (by omega)] | rw [if_neg (by omega), if_neg (by omega), if_neg (by omega), if_neg (by omega), if_neg (by omega), if_neg (by omega), if_pos (by omega)] | rw [if_neg (by omega), if_neg (by omega), if_neg (by omega), if_neg (by omega), if_neg (by omega), if_neg (by omega), if_neg (by omega)])]; exact ⟨rfl, hM, Fr.rf⟩))
      · refine g_int (z' := 4) hs3 ?_
        refine g_tsw (tgt := 92) C dX10_nodeOf_31 (by decide) (by decide) rfl (by decide) ?_
        refine g_aload_n C dX10_nodeOf_92 rfl ?_
        refine gf_X10_83 C dX10_nodeOf_93 rfl ?_
        refine g_iload_n C dX10_nodeOf_96 rfl ?_
        refine g_iaz (n := i.toNat) (N := 64) (v := (vD V i.toNat 4)) C dX10_nodeOf_97 rfl rfl (by omega) (by omega) (by decide) hmn.2.2.2.2.1 ?_
        refine g_iconst (z := 1) C dX10_nodeOf_98 rfl ?_
        refine g_iadd C dX10_nodeOf_99 ?_
        refine g_pc (pc' := 100) rfl ?_
        exact g_ireturn C dX10_nodeOf_100 (by first | (exfalso; omega) | exact (by rw [show aNodeOf V i a = (((vD V i.toNat 4) + 1), V) by unfold aNodeOf; (first | rw [if_pos (by omega)] | rw [if_neg (by omega), if_pos (by omega)] | rw [if_neg (by omega), if_neg (by omega), if_pos (by omega)] | rw [if_neg (by omega), if_neg (by omega), if_neg (by omega), if_pos (by omega)] | rw [if_neg (by omega), if_neg (by omega), if_neg (by omega), if_neg (by omega), if_pos (by omega)] | rw [if_neg (by omega), if_neg (by omega), if_neg (by omega), if_neg (by omega), if_neg (by omega), if_pos (by omega)] | rw [if_neg (by omega), if_neg (by omega), if_neg (by omega), if_neg (by omega), if_neg (by omega), if_neg (by omega), if_pos (by omega)] | rw [if_neg (by omega), if_neg (by omega), if_neg (by omega), if_neg (by omega), if_neg (by omega), if_neg (by omega), if_neg (by omega)])]; exact ⟨rfl, hM, Fr.rf⟩))
    · refine g_aload_n C dX10_nodeOf_23 rfl ?_
      refine g_bipush (z := (-5)) C dX10_nodeOf_24 rfl ?_
      refine gc_X10_274 C dX10_nodeOf_26 rfl (c_X10_no hI (Ml M) σ (y := 5) (v := (-5)) (by first | rfl | omega) (by decide)) (by decide) (Nat.le_of_ble_eq_true rfl) (fun z σ9 ⟨hz, hσ⟩ => ?_)
      subst z
      subst σ9
      exact g_ireturn C dX10_nodeOf_29 (by first | (exfalso; omega) | exact (by rw [show aNodeOf V i a = rfs 5 V by unfold aNodeOf; (first | rw [if_pos (by omega)] | rw [if_neg (by omega), if_pos (by omega)] | rw [if_neg (by omega), if_neg (by omega), if_pos (by omega)] | rw [if_neg (by omega), if_neg (by omega), if_neg (by omega), if_pos (by omega)] | rw [if_neg (by omega), if_neg (by omega), if_neg (by omega), if_neg (by omega), if_pos (by omega)] | rw [if_neg (by omega), if_neg (by omega), if_neg (by omega), if_neg (by omega), if_neg (by omega), if_pos (by omega)] | rw [if_neg (by omega), if_neg (by omega), if_neg (by omega), if_neg (by omega), if_neg (by omega), if_neg (by omega), if_pos (by omega)] | rw [if_neg (by omega), if_neg (by omega), if_neg (by omega), if_neg (by omega), if_neg (by omega), if_neg (by omega), if_neg (by omega)])]; exact ⟨rfl, hM.ref (by omega), YC.ref⟩))
set_option maxHeartbeats 4000000 in
set_option maxRecDepth 100000 in
theorem c_X10_judge {κ : Kp} (hI : Ij κ) (l : Launch) (σ : St) {V : Vw} (hM : MV σ V) (hO : OKV V) {x n : Int} (hx : R32 x) (hn : R32 n) : CtI κ l 3 yX10_judge cX10_judge 5 .int [.ref (κ.2.1 105), .int (iZ x), .int (iZ n)] σ (fun z σ' => z = (aJudge V x n).1 ∧ MV σ' (aJudge V x n).2 ∧ Fr YC σ σ') := by
  refine Ct.ofG (own := RX10) hI (by decide +kernel) rfl (Nat.le_of_ble_eq_true rfl) rfl ?_
  intro M C hMl
  refine g_aload_n C dX10_judge_0 rfl ?_
  refine g_iload_n C dX10_judge_1 rfl ?_
  refine gc_X10_318 C dX10_judge_2 rfl (c_X10_notRow hI (Ml M) σ hM hO (by assumption)) (by decide) (Nat.le_of_ble_eq_true rfl) (fun z σ9 ⟨hz, hσ⟩ => ?_)
  subst z
  subst σ9
  have hwl := wnr_le V x
  refine g_istore_n (L' := [(3, .int (iZ (-(wnr V x : Int)))), (0, .ref (κ.2.1 105)), (1, .int (iZ x)), (2, .int (iZ n))]) C dX10_judge_5 rfl (by decide) rfl ?_
  refine g_iload_n C dX10_judge_6 rfl ?_
  refine g_if_ne (tgt := 54) C dX10_judge_7 (by decide) (by unfold R32; omega) (fun h1 => ?_) (fun h1 => ?_)
  · refine g_iload_n C dX10_judge_54 rfl ?_
    refine g_pc (pc' := 55) rfl ?_
    refine g_if_eq (tgt := 67) C dX10_judge_55 (by decide) (by unfold R32; omega) (fun h2 => ?_) (fun h2 => ?_)
    · exfalso; omega
    · refine g_aload_n C dX10_judge_58 rfl ?_
      refine g_iload_n C dX10_judge_59 rfl ?_
      refine gc_X10_274 C dX10_judge_60 rfl (c_X10_no hI (Ml M) σ (y := wnr V x) (v := (-(wnr V x : Int))) rfl (by omega)) (by decide) (Nat.le_of_ble_eq_true rfl) (fun z σ9 ⟨hz, hσ⟩ => ?_)
      subst z
      subst σ9
      refine g_bipush (z := 10) C dX10_judge_63 rfl ?_
      refine g_isub C dX10_judge_65 ?_
      exact g_ireturn C dX10_judge_66 (by first | (exfalso; omega) | exact (by rw [show aJudge V x n = rfT (wnr V x) V by unfold aJudge; (first | rw [if_pos (by omega)] | rw [if_neg (by omega), if_pos (by omega)] | rw [if_neg (by omega), if_neg (by omega), if_pos (by omega)] | rw [if_neg (by omega), if_neg (by omega), if_neg (by omega), if_pos (by omega)] | rw [if_neg (by omega), if_neg (by omega), if_neg (by omega), if_neg (by omega)])]; exact ⟨rfl, hM.ref (by omega), YC.ref⟩))
  · have hw0 := wnr_0 hO (x := x) (by omega)
    have hhx := hM.hd hO (s := x.toNat) (by omega)
    have hrw := hM.2.2.1.row (s := x.toNat) (by omega) (by omega)
    have hnp := np_le hO
    refine g_iload_n C dX10_judge_10 rfl ?_
    refine g_pc (pc' := 11) rfl ?_
    refine g_if_ge (tgt := 19) C dX10_judge_11 (by decide) (by unfold R32; omega) (fun h3 => ?_) (fun h3 => ?_)
    · refine g_iload_n C dX10_judge_19 rfl ?_
      refine g_aload_n C dX10_judge_20 rfl ?_
      refine gf_X10_104 C dX10_judge_21 rfl ?_
      refine g_iload_n C dX10_judge_24 rfl ?_
      refine g_iaz (n := x.toNat) (N := 8) (v := (σ.1 147 x.toNat)) C dX10_judge_25 rfl rfl (by omega) (by omega) (by decide) rfl ?_
      refine g_icmp_gt (tgt := 36) C dX10_judge_26 (by decide) (by unfold R32; omega) (fun h4 => ?_) (fun h4 => ?_)
      · refine g_bipush (z := (-5)) C dX10_judge_36 rfl ?_
        refine g_pc (pc' := 38) rfl ?_
        refine g_goto (tgt := 53) C dX10_judge_38 (by decide) ?_
        refine g_istore_n (L' := [(3, .int (iZ (-5))), (0, .ref (κ.2.1 105)), (1, .int (iZ x)), (2, .int (iZ n))]) C dX10_judge_53 rfl (by decide) rfl ?_
        refine g_iload_n C dX10_judge_54 rfl ?_
        refine g_if_eq (tgt := 67) C dX10_judge_55 (by decide) (by unfold R32; omega) (fun h5 => ?_) (fun h5 => ?_)
        · exfalso; omega
        · refine g_aload_n C dX10_judge_58 rfl ?_
          refine g_iload_n C dX10_judge_59 rfl ?_
          refine gc_X10_274 C dX10_judge_60 rfl (c_X10_no hI (Ml M) σ (y := 5) (v := (-5)) (by first | rfl | omega) (by decide)) (by decide) (Nat.le_of_ble_eq_true rfl) (fun z σ9 ⟨hz, hσ⟩ => ?_)
          subst z
          subst σ9
          refine g_bipush (z := 10) C dX10_judge_63 rfl ?_
          refine g_pc (pc' := 65) rfl ?_
          refine g_isub C dX10_judge_65 ?_
          exact g_ireturn C dX10_judge_66 (by first | (exfalso; omega) | exact (by rw [show aJudge V x n = rfT 5 V by unfold aJudge; (first | rw [if_pos (by omega)] | rw [if_neg (by omega), if_pos (by omega)] | rw [if_neg (by omega), if_neg (by omega), if_pos (by omega)] | rw [if_neg (by omega), if_neg (by omega), if_neg (by omega), if_pos (by omega)] | rw [if_neg (by omega), if_neg (by omega), if_neg (by omega), if_neg (by omega)])]; exact ⟨rfl, hM.ref (by omega), YC.ref⟩))
      · refine g_aload_n C dX10_judge_29 rfl ?_
        refine gf_X10_255 (z := (vP V : Int)) C dX10_judge_30 rfl hM.2.2.2.1.1 ?_
        refine g_if_ne (tgt := 41) C dX10_judge_33 (by decide) (by unfold R32; omega) (fun h6 => ?_) (fun h6 => ?_)
        · refine g_iload_n C dX10_judge_41 rfl ?_
          refine g_bipush (z := 40) C dX10_judge_42 rfl ?_
          refine g_icmp_le (tgt := 52) C dX10_judge_44 (by decide) (by unfold R32; omega) (fun h7 => ?_) (fun h7 => ?_)
          · refine g_pc (pc' := 52) rfl ?_
            refine g_iconst (z := 0) C dX10_judge_52 rfl ?_
            refine g_istore_n (L' := [(3, .int (iZ 0)), (0, .ref (κ.2.1 105)), (1, .int (iZ x)), (2, .int (iZ n))]) C dX10_judge_53 rfl (by decide) rfl ?_
            refine g_iload_n C dX10_judge_54 rfl ?_
            refine g_if_eq (tgt := 67) C dX10_judge_55 (by decide) (by unfold R32; omega) (fun h8 => ?_) (fun h8 => ?_)
            · refine g_iconst (z := 0) C dX10_judge_67 rfl ?_
              refine g_istore (L' := [(4, .int (iZ 0)), (3, .int (iZ 0)), (0, .ref (κ.2.1 105)), (1, .int (iZ x)), (2, .int (iZ n))]) C dX10_judge_68 (by decide) rfl ?_
              have lp70 : ∀ (fz9 : Nat) (i : Nat) (x4 : Int), (n.toNat - i < fz9) → (x4 = (i : Int)) → ((i : Int) ≤ n) → (jdg V x.toNat n.toNat (n.toNat - i) i = jdg V x.toNat n.toNat n.toNat 0) → G M κ 5 (En M κ (qI κ (fun z σ' => z = (aJudge V x n).1 ∧ MV σ' (aJudge V x n).2 ∧ Fr YC σ σ'))) 70 [(0, .ref (κ.2.1 105)), (1, .int (iZ x)), (2, .int (iZ n)), (3, .int (iZ 0)), (4, .int (iZ x4))] [] σ := by
                intro fz9
                induction fz9 with
                | zero => intro i x4 hm0; exact absurd hm0 (Nat.not_lt_zero _)
                | succ fz9 ih70 =>
                  intro i x4 hm70 hx4 hi hJ
                  refine g_iload C dX10_judge_70 rfl ?_
                  refine g_iload_n C dX10_judge_72 rfl ?_
                  refine g_pc (pc' := 73) rfl ?_
                  refine g_icmp_ge (tgt := 118) C dX10_judge_73 (by decide) (by unfold R32; omega) (fun h9 => ?_) (fun h9 => ?_)
                  · refine g_iload_n C dX10_judge_118 rfl ?_
                    refine g_aload_n C dX10_judge_119 rfl ?_
                    refine gf_X10_255 (z := (vP V : Int)) C dX10_judge_120 rfl hM.2.2.2.1.1 ?_
                    refine g_icmp_ge (tgt := 130) C dX10_judge_123 (by decide) (by unfold R32; omega) (fun h10 => ?_) (fun h10 => ?_)
                    · refine g_iconst (z := (-1)) C dX10_judge_130 rfl ?_
                      exact g_ireturn C dX10_judge_131 (by rw [show aJudge V x n = (jdg V x.toNat n.toNat n.toNat 0, V) by unfold aJudge; rw [if_neg (by omega), if_neg (by omega), if_neg (by omega), if_neg (by omega)]]; exact ⟨by rw [← hJ, show n.toNat - i = 0 by omega, jdg]; first | (rw [if_pos (by omega)]; omega) | rw [if_neg (by omega)], hM, Fr.rf⟩)
                    · refine g_iload_n C dX10_judge_126 rfl ?_
                      refine g_pc (pc' := 127) rfl ?_
                      refine g_goto (tgt := 131) C dX10_judge_127 (by decide) ?_
                      exact g_ireturn C dX10_judge_131 (by rw [show aJudge V x n = (jdg V x.toNat n.toNat n.toNat 0, V) by unfold aJudge; rw [if_neg (by omega), if_neg (by omega), if_neg (by omega), if_neg (by omega)]]; exact ⟨by rw [← hJ, show n.toNat - i = 0 by omega, jdg]; first | (rw [if_pos (by omega)]; omega) | rw [if_neg (by omega)], hM, Fr.rf⟩)
                  · refine g_iload C dX10_judge_76 rfl ?_
                    refine g_aload_n C dX10_judge_78 rfl ?_
                    refine gf_X10_255 (z := (vP V : Int)) C dX10_judge_79 rfl hM.2.2.2.1.1 ?_
                    refine g_icmp_ge (tgt := 109) C dX10_judge_82 (by decide) (by unfold R32; omega) (fun h11 => ?_) (fun h11 => ?_)
                    · refine g_iload C dX10_judge_109 rfl ?_
                      exact g_ireturn C dX10_judge_111 (by rw [show aJudge V x n = (jdg V x.toNat n.toNat n.toNat 0, V) by unfold aJudge; rw [if_neg (by omega), if_neg (by omega), if_neg (by omega), if_neg (by omega)]]; exact ⟨by rw [← hJ, jdg_st (by omega), if_neg (by omega)]; exact hx4, hM, Fr.rf⟩)
                    · have hmn := hM.2.2.2.1.2 i (by have : vP V = V.2.2.2.1.1 := rfl; omega)
                      have hno := nd_ok hO (i := i) (by omega)
                      refine g_pc (pc' := 85) rfl ?_
                      refine g_aload_n C dX10_judge_85 rfl ?_
                      refine gf_X10_116 C dX10_judge_86 rfl ?_
                      refine g_sipush (z := 160) C dX10_judge_89 rfl ?_
                      refine g_iload_n C dX10_judge_92 rfl ?_
                      refine g_imul C dX10_judge_93 ?_
                      refine g_iload C dX10_judge_94 rfl ?_
                      refine g_iadd C dX10_judge_96 ?_
                      refine g_laz (n := ((160 * x.toNat) + i)) (N := 1280) (v := (sE (vSh V) x.toNat i)) C dX10_judge_97 rfl rfl (by omega) (by omega) (by decide) (hrw.2.2 i (by omega)) ?_
                      refine g_pc (pc' := 98) rfl ?_
                      refine g_l2i C dX10_judge_98 ?_
                      refine g_raw (z := chI (vSh V) x.toNat i) (iZ_of _) ?_
                      have hcr := chI_r (h := vSh V) (s := x.toNat) (i := i)
                      refine g_aload_n C dX10_judge_99 rfl ?_
                      refine gf_X10_71 C dX10_judge_100 rfl ?_
                      refine g_iload C dX10_judge_103 rfl ?_
                      refine g_iaz (n := i) (N := 64) (v := (vD V i 0)) C dX10_judge_105 rfl rfl (by omega) (by omega) (by decide) hmn.1 ?_
                      refine g_icmp_eq (tgt := 112) C dX10_judge_106 (by decide) ⟨hcr, by have := hno.1; unfold R32; omega⟩ (fun h12 => ?_) (fun h12 => ?_)
                      · refine g_iinc (q := 4) (v := (x4 + 1)) (L' := [(4, .int (iZ (x4 + 1))), (0, .ref (κ.2.1 105)), (1, .int (iZ x)), (2, .int (iZ n)), (3, .int (iZ 0))]) C dX10_judge_112 rfl rfl (by decide) rfl ?_
                        refine g_goto (tgt := 70) C dX10_judge_115 (by decide) ?_
                        exact g_loc [1, 2, 3, 4, 0] (by rfl) (ih70 (i + 1) (x4 + 1) (by omega) (by omega) (by omega) (by rw [← hJ, jdg_st (i := i) (by omega), if_pos ⟨by omega, by assumption⟩]))
                      · refine g_pc (pc' := 109) rfl ?_
                        refine g_iload C dX10_judge_109 rfl ?_
                        exact g_ireturn C dX10_judge_111 (by rw [show aJudge V x n = (jdg V x.toNat n.toNat n.toNat 0, V) by unfold aJudge; rw [if_neg (by omega), if_neg (by omega), if_neg (by omega), if_neg (by omega)]]; exact ⟨by rw [← hJ, jdg_st (by omega), if_neg (by omega)]; exact hx4, hM, Fr.rf⟩)
              exact g_loc [2, 3, 4, 1, 0] (by rfl) (lp70 _ 0 0 (Nat.lt_succ_self _) rfl (by omega) rfl)
            · exfalso; omega
          · refine g_bipush (z := (-6)) C dX10_judge_47 rfl ?_
            refine g_goto (tgt := 53) C dX10_judge_49 (by decide) ?_
            refine g_istore_n (L' := [(3, .int (iZ (-6))), (0, .ref (κ.2.1 105)), (1, .int (iZ x)), (2, .int (iZ n))]) C dX10_judge_53 rfl (by decide) rfl ?_
            refine g_iload_n C dX10_judge_54 rfl ?_
            refine g_if_eq (tgt := 67) C dX10_judge_55 (by decide) (by unfold R32; omega) (fun h13 => ?_) (fun h13 => ?_)
            · exfalso; omega
            · refine g_aload_n C dX10_judge_58 rfl ?_
              refine g_pc (pc' := 59) rfl ?_
              refine g_iload_n C dX10_judge_59 rfl ?_
              refine gc_X10_274 C dX10_judge_60 rfl (c_X10_no hI (Ml M) σ (y := 6) (v := (-6)) (by first | rfl | omega) (by decide)) (by decide) (Nat.le_of_ble_eq_true rfl) (fun z σ9 ⟨hz, hσ⟩ => ?_)
              subst z
              subst σ9
              refine g_bipush (z := 10) C dX10_judge_63 rfl ?_
              refine g_isub C dX10_judge_65 ?_
              exact g_ireturn C dX10_judge_66 (by first | (exfalso; omega) | exact (by rw [show aJudge V x n = rfT 6 V by unfold aJudge; (first | rw [if_pos (by omega)] | rw [if_neg (by omega), if_pos (by omega)] | rw [if_neg (by omega), if_neg (by omega), if_pos (by omega)] | rw [if_neg (by omega), if_neg (by omega), if_neg (by omega), if_pos (by omega)] | rw [if_neg (by omega), if_neg (by omega), if_neg (by omega), if_neg (by omega)])]; exact ⟨rfl, hM.ref (by omega), YC.ref⟩))
        · refine g_bipush (z := (-5)) C dX10_judge_36 rfl ?_
          refine g_goto (tgt := 53) C dX10_judge_38 (by decide) ?_
          refine g_istore_n (L' := [(3, .int (iZ (-5))), (0, .ref (κ.2.1 105)), (1, .int (iZ x)), (2, .int (iZ n))]) C dX10_judge_53 rfl (by decide) rfl ?_
          refine g_pc (pc' := 54) rfl ?_
          refine g_iload_n C dX10_judge_54 rfl ?_
          refine g_if_eq (tgt := 67) C dX10_judge_55 (by decide) (by unfold R32; omega) (fun h14 => ?_) (fun h14 => ?_)
          · exfalso; omega
          · refine g_aload_n C dX10_judge_58 rfl ?_
            refine g_iload_n C dX10_judge_59 rfl ?_
            refine gc_X10_274 C dX10_judge_60 rfl (c_X10_no hI (Ml M) σ (y := 5) (v := (-5)) (by first | rfl | omega) (by decide)) (by decide) (Nat.le_of_ble_eq_true rfl) (fun z σ9 ⟨hz, hσ⟩ => ?_)
            subst z
            subst σ9
            refine g_bipush (z := 10) C dX10_judge_63 rfl ?_
            refine g_isub C dX10_judge_65 ?_
            exact g_ireturn C dX10_judge_66 (by first | (exfalso; omega) | exact (by rw [show aJudge V x n = rfT 5 V by unfold aJudge; (first | rw [if_pos (by omega)] | rw [if_neg (by omega), if_pos (by omega)] | rw [if_neg (by omega), if_neg (by omega), if_pos (by omega)] | rw [if_neg (by omega), if_neg (by omega), if_neg (by omega), if_pos (by omega)] | rw [if_neg (by omega), if_neg (by omega), if_neg (by omega), if_neg (by omega)])]; exact ⟨rfl, hM.ref (by omega), YC.ref⟩))
    · refine g_pc (pc' := 14) rfl ?_
      refine g_bipush (z := (-4)) C dX10_judge_14 rfl ?_
      refine g_goto (tgt := 53) C dX10_judge_16 (by decide) ?_
      refine g_istore_n (L' := [(3, .int (iZ (-4))), (0, .ref (κ.2.1 105)), (1, .int (iZ x)), (2, .int (iZ n))]) C dX10_judge_53 rfl (by decide) rfl ?_
      refine g_iload_n C dX10_judge_54 rfl ?_
      refine g_if_eq (tgt := 67) C dX10_judge_55 (by decide) (by unfold R32; omega) (fun h15 => ?_) (fun h15 => ?_)
      · exfalso; omega
      · refine g_aload_n C dX10_judge_58 rfl ?_
        refine g_iload_n C dX10_judge_59 rfl ?_
        refine gc_X10_274 C dX10_judge_60 rfl (c_X10_no hI (Ml M) σ (y := 4) (v := (-4)) (by first | rfl | omega) (by decide)) (by decide) (Nat.le_of_ble_eq_true rfl) (fun z σ9 ⟨hz, hσ⟩ => ?_)
        subst z
        subst σ9
        refine g_pc (pc' := 63) rfl ?_
        refine g_bipush (z := 10) C dX10_judge_63 rfl ?_
        refine g_isub C dX10_judge_65 ?_
        exact g_ireturn C dX10_judge_66 (by first | (exfalso; omega) | exact (by rw [show aJudge V x n = rfT 4 V by unfold aJudge; (first | rw [if_pos (by omega)] | rw [if_neg (by omega), if_pos (by omega)] | rw [if_neg (by omega), if_neg (by omega), if_pos (by omega)] | rw [if_neg (by omega), if_neg (by omega), if_neg (by omega), if_pos (by omega)] | rw [if_neg (by omega), if_neg (by omega), if_neg (by omega), if_neg (by omega)])]; exact ⟨rfl, hM.ref (by omega), YC.ref⟩))

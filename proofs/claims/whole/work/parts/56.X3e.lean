/-! THE PLANNER: a plan is laid out -/
def XO (k : Nat) : Prop := k = 97
theorem c_lay_ex : True := True.intro
/-- the tree of a cell lies in the arrays -/
def PT (σ : St) (w : Wv) (k : Nat) : Prop := PK σ k (tC w k)
theorem tC_c {w : Wv} {s o : Nat} (ho : o < 16) : tC w (16 * s + o) = TT w s o := by unfold tC; rw [show (16 * s + o) / 16 = s by omega, show (16 * s + o) % 16 = o by omega]
theorem szR_k {w : Wv} {σ : St} {k : Nat} (h : PK σ k (tC w k)) (hv : tV w k) {z : Int} (hz : z = (k : Int)) : szR σ z (zS (tC w k)) := szR_cell h hv.2 hv.1.2 hz
set_option maxHeartbeats 4000000 in
set_option maxRecDepth 100000 in
theorem c_X3_lay {κ : Kp} (hI : Ij κ) (l : Launch) (σ : St) {i : Nat} {zi zk : Int} (hi : zi = (i : Int)) (hi32 : i < 1000) (hk : R32 zk) : CtV κ l 0 yX3_lay cX3_lay 3 [.ref (κ.2.1 89), .int (iZ zi), .int (iZ zk)] σ (fun σ' => σ' = if zk ≠ -1 ∧ i < 18 then sI σ 97 i zk else σ) := by
  refine Ct.ofG (own := RX3) hI (by decide +kernel) rfl (Nat.le_of_ble_eq_true rfl) rfl ?_
  intro M C hMl
  refine g_iload_n C dX3_lay_0 rfl ?_
  refine g_iconst (z := (-1)) C dX3_lay_1 rfl ?_
  refine g_icmp_eq (tgt := 18) C dX3_lay_2 (by decide) (by unfold R32; omega) (fun h1 => ?_) (fun h1 => ?_)
  · exact g_return C dX3_lay_18 (by rw [if_neg (by omega)])
  · refine g_iload_n C dX3_lay_5 rfl ?_
    refine g_bipush (z := 18) C dX3_lay_6 rfl ?_
    refine g_icmp_ge (tgt := 18) C dX3_lay_8 (by decide) (by unfold R32; omega) (fun h2 => ?_) (fun h2 => ?_)
    · refine g_pc (pc' := 18) rfl ?_
      exact g_return C dX3_lay_18 (by rw [if_neg (by omega)])
    · refine g_aload_n C dX3_lay_11 rfl ?_
      refine gf_X3_34 C dX3_lay_12 rfl ?_
      refine g_iload_n C dX3_lay_15 rfl ?_
      refine g_iload_n C dX3_lay_16 rfl ?_
      refine g_iast (n := i) (N := 18) C dX3_lay_17 rfl rfl (by omega) (by omega) (by decide) ?_
      exact g_return C dX3_lay_18 (by rw [if_pos (by omega)])
theorem nod_set {σ : St} {n : Nat} {f : Nat → Int} {v0 v1 v2 v3 v4 v5 v6 : Int} (h0 : v0 = f 0) (h1 : v1 = f 1) (h2 : v2 = f 2) (h3 : v3 = f 3) (h4 : v4 = f 4) (h5 : v5 = f 5) (h6 : v6 = f 6) : (∀ j, j < 7 → (sI (sI (sI (sI (sI (sI (sI σ n 0 v0) n 1 v1) n 2 v2) n 3 v3) n 4 v4) n 5 v5) n 6 v6).1 n j = f j) ∧ Fr (fun q => q = n) σ (sI (sI (sI (sI (sI (sI (sI σ n 0 v0) n 1 v1) n 2 v2) n 3 v3) n 4 v4) n 5 v5) n 6 v6) := by
  refine ⟨fun j hj => ?_, (((((((Fr.rf (S := fun q => q = n)).sI rfl).sI rfl).sI rfl).sI rfl).sI rfl).sI rfl).sI rfl⟩
  have : j = 0 ∨ j = 1 ∨ j = 2 ∨ j = 3 ∨ j = 4 ∨ j = 5 ∨ j = 6 := by omega
  rcases this with e | e | e | e | e | e | e <;> subst e
  · rw [rI_j (by decide), rI_j (by decide), rI_j (by decide), rI_j (by decide), rI_j (by decide), rI_j (by decide), rI_s]; exact h0
  · rw [rI_j (by decide), rI_j (by decide), rI_j (by decide), rI_j (by decide), rI_j (by decide), rI_s]; exact h1
  · rw [rI_j (by decide), rI_j (by decide), rI_j (by decide), rI_j (by decide), rI_s]; exact h2
  · rw [rI_j (by decide), rI_j (by decide), rI_j (by decide), rI_s]; exact h3
  · rw [rI_j (by decide), rI_j (by decide), rI_s]; exact h4
  · rw [rI_j (by decide), rI_s]; exact h5
  · rw [rI_s]; exact h6
set_option maxHeartbeats 4000000 in
set_option maxRecDepth 100000 in
theorem c_X3_describe {κ : Kp} (hI : Ij κ) (l : Launch) (σ : St) {w : Wv} (hX : XW 0 σ w) (hW : OKW w) {k i : Nat} {zk : Int} (hzk : zk = (k : Int)) (hi : i < 18) (hv : tV w k) (hA : PK σ k (tC w k)) (hFN : FN (zK (tC w k))) (hrz : -1 ≤ zR (tC w k) ∧ zR (tC w k) < 512) (hr : zR (tC w k) = -1 ∨ ∃ b jj : Nat, zR (tC w k) / 16 = (b : Int) ∧ b < 32 ∧ zJ (tC w k) = (jj : Int) ∧ jj < wnj w) : CtV κ l 2 yX3_describe cX3_describe 4 [.ref (κ.2.1 89), .int (iZ zk), .ref (κ.2.1 (58 + i))] σ (fun σ' => (∀ j, j < 7 → σ'.1 (58 + i) j = nodD w k j) ∧ Fr (fun q => q = 58 + i) σ σ') := by
  refine Ct.ofG (own := RX3) hI (by decide +kernel) rfl (Nat.le_of_ble_eq_true rfl) rfl ?_
  intro M C hMl
  have hkn : kd (58 + i) = 2 := kd_node i (by omega)
  have hk5 := hv.1
  refine g_aload_n C dX3_describe_0 rfl ?_
  refine gf_X3_25 C dX3_describe_1 rfl ?_
  refine g_iload_n C dX3_describe_4 rfl ?_
  refine g_iaz (n := k) (N := 512) (v := (zR (tC w k))) C dX3_describe_5 rfl rfl (by omega) (by omega) (by decide) ((hA.2 hv.2).2.2.1) ?_
  refine g_istore_n (L' := [(3, .int (iZ (zR (tC w k)))), (0, .ref (κ.2.1 89)), (1, .int (iZ zk)), (2, .ref (κ.2.1 (58 + i)))]) C dX3_describe_6 rfl (by decide) rfl ?_
  refine g_aload_n C dX3_describe_7 rfl ?_
  refine g_aload_n C dX3_describe_8 rfl ?_
  refine g_pc (pc' := 9) rfl ?_
  refine gf_X3_15 C dX3_describe_9 rfl ?_
  refine g_iload_n C dX3_describe_12 rfl ?_
  refine g_iaz (n := k) (N := 512) (v := (zW (tC w k))) C dX3_describe_13 rfl rfl (by omega) (by omega) (by decide) hA.1 ?_
  refine gp_X3_134 C dX3_describe_14 hkn ?_
  refine g_aload_n C dX3_describe_17 rfl ?_
  refine g_iload_n C dX3_describe_18 rfl ?_
  refine g_bipush (z := 16) C dX3_describe_19 rfl ?_
  refine g_idiv C dX3_describe_21 (by omega) ?_
  refine g_pc (pc' := 22) rfl ?_
  refine gp_X3_138 C dX3_describe_22 hkn ?_
  refine g_aload_n C dX3_describe_25 rfl ?_
  refine g_iload_n C dX3_describe_26 rfl ?_
  refine g_bipush (z := 16) C dX3_describe_27 rfl ?_
  refine g_irem C dX3_describe_29 (by omega) ?_
  refine g_iconst (z := 1) C dX3_describe_30 rfl ?_
  refine g_isub C dX3_describe_31 ?_
  refine gp_X3_140 C dX3_describe_32 hkn ?_
  refine g_pc (pc' := 35) rfl ?_
  refine g_aload_n C dX3_describe_35 rfl ?_
  refine g_aload_n C dX3_describe_36 rfl ?_
  refine gf_X3_19 C dX3_describe_37 rfl ?_
  refine g_iload_n C dX3_describe_40 rfl ?_
  refine g_faz (n := k) (N := 512) (v := (zK (tC w k))) C dX3_describe_41 rfl rfl (by omega) (by omega) (by decide) ((hA.2 hv.2).1) ?_
  refine gc_X3_143 C dX3_describe_42 (c_X9_bitsOf hI (Ml M) (sI (sI (sI σ (58 + i) 0 (zW (tC w k))) (58 + i) 1 (zk / 16)) (58 + i) 2 ((zk % 16) - 1)) hFN) (by decide) (Nat.le_of_ble_eq_true rfl) (fun zb σ9 ⟨hzb, hσ⟩ => ?_)
  subst σ9
  refine gp_X3_147 C dX3_describe_45 hkn ?_
  refine g_aload_n C dX3_describe_48 rfl ?_
  refine g_pc (pc' := 49) rfl ?_
  refine g_aload_n C dX3_describe_49 rfl ?_
  refine gf_X3_28 C dX3_describe_50 rfl ?_
  refine g_iload_n C dX3_describe_53 rfl ?_
  refine g_iaz (n := k) (N := 512) (v := (zJ (tC w k))) C dX3_describe_54 rfl rfl (by omega) (by omega) (by decide) ((rI_k (by omega)).trans ((rI_k (by omega)).trans ((rI_k (by omega)).trans ((rI_k (by omega)).trans ((hA.2 hv.2).2.2.2.1))))) ?_
  refine gp_X3_150 C dX3_describe_55 hkn ?_
  refine g_aload_n C dX3_describe_58 rfl ?_
  refine g_iload_n C dX3_describe_59 rfl ?_
  refine g_iconst (z := (-1)) C dX3_describe_60 rfl ?_
  refine g_pc (pc' := 61) rfl ?_
  refine g_icmp_ne (tgt := 68) C dX3_describe_61 (by decide) (by unfold R32; omega) (fun h1 => ?_) (fun h1 => ?_)
  · refine g_aload_n C dX3_describe_68 rfl ?_
    refine gf_X3_37 C dX3_describe_69 rfl ?_
    refine g_iload_n C dX3_describe_72 rfl ?_
    refine g_bipush (z := 16) C dX3_describe_73 rfl ?_
    refine g_idiv C dX3_describe_75 (by omega) ?_
    refine g_aload_n C dX3_describe_76 rfl ?_
    refine gf_X3_28 C dX3_describe_77 rfl ?_
    refine g_pc (pc' := 80) rfl ?_
    refine g_iload_n C dX3_describe_80 rfl ?_
    refine g_iaz (n := k) (N := 512) (v := (zJ (tC w k))) C dX3_describe_81 rfl rfl (by omega) (by omega) (by decide) ((rI_k (by omega)).trans ((rI_k (by omega)).trans ((rI_k (by omega)).trans ((rI_k (by omega)).trans ((rI_k (by omega)).trans ((hA.2 hv.2).2.2.2.1)))))) ?_
    obtain ⟨b, jj, hb16, hb32, hjj, hjn⟩ := hr.resolve_left (by assumption)
    have hXs : XW 0 (sI (sI (sI (sI (sI σ (58 + i) 0 (zW (tC w k))) (58 + i) 1 (zk / 16)) (58 + i) 2 ((zk % 16) - 1)) (58 + i) 3 zb) (58 + i) 4 (zJ (tC w k))) w := XW.fr hX (S := fun q => q = 58 + i) ((((((Fr.rf (S := fun q => q = 58 + i)).sI rfl).sI rfl).sI rfl).sI rfl).sI rfl) (fun k _ hk e => by omega)
    refine gc_X3_111 C dX3_describe_82 rfl (c_X8_placeIn hI (Ml M) (sI (sI (sI (sI (sI σ (58 + i) 0 (zW (tC w k))) (58 + i) 1 (zk / 16)) (58 + i) 2 ((zk % 16) - 1)) (58 + i) 3 zb) (58 + i) 4 (zJ (tC w k))) hXs hW (s := b) (j := jj) (by omega) hjj hb32 hjn) (by decide) (Nat.le_of_ble_eq_true rfl) (fun z σ9 ⟨hz, hσ⟩ => ?_)
    subst σ9
    have hz2 : z = (wpl w (zR (tC w k) / 16).toNat (zJ (tC w k)).toNat : Int) := by rw [hz, hb16, hjj]; rfl
    refine gp_X3_152 C dX3_describe_85 hkn ?_
    refine g_aload_n C dX3_describe_88 rfl ?_
    refine g_aload_n C dX3_describe_89 rfl ?_
    refine gf_X3_31 C dX3_describe_90 rfl ?_
    refine g_iload_n C dX3_describe_93 rfl ?_
    refine g_pc (pc' := 94) rfl ?_
    refine g_iaz (n := k) (N := 512) (v := (zS (tC w k) : Int)) C dX3_describe_94 rfl rfl (by omega) (by omega) (by decide) ((rI_k (by omega)).trans ((rI_k (by omega)).trans ((rI_k (by omega)).trans ((rI_k (by omega)).trans ((rI_k (by omega)).trans ((rI_k (by omega)).trans ((hA.2 hv.2).2.2.2.2))))))) ?_
    refine gp_X3_155 C dX3_describe_95 hkn ?_
    exact g_return C dX3_describe_98 (nod_set (f := nodD w k) rfl (by show _ = ((k / 16 : Nat) : Int); omega) (by show _ = ((k % 16 : Nat) : Int) - 1; omega) hzb rfl (by show _ = if zR (tC w k) = -1 then (-1 : Int) else _; first | (rw [if_pos (by assumption)]) | (rw [if_neg (by assumption)]; exact hz2)) rfl)
  · refine g_iconst (z := (-1)) C dX3_describe_64 rfl ?_
    refine g_goto (tgt := 85) C dX3_describe_65 (by decide) ?_
    refine gp_X3_152 C dX3_describe_85 hkn ?_
    refine g_aload_n C dX3_describe_88 rfl ?_
    refine g_aload_n C dX3_describe_89 rfl ?_
    refine g_pc (pc' := 90) rfl ?_
    refine gf_X3_31 C dX3_describe_90 rfl ?_
    refine g_iload_n C dX3_describe_93 rfl ?_
    refine g_iaz (n := k) (N := 512) (v := (zS (tC w k) : Int)) C dX3_describe_94 rfl rfl (by omega) (by omega) (by decide) ((rI_k (by omega)).trans ((rI_k (by omega)).trans ((rI_k (by omega)).trans ((rI_k (by omega)).trans ((rI_k (by omega)).trans ((rI_k (by omega)).trans ((hA.2 hv.2).2.2.2.2))))))) ?_
    refine gp_X3_155 C dX3_describe_95 hkn ?_
    exact g_return C dX3_describe_98 (nod_set (f := nodD w k) rfl (by show _ = ((k / 16 : Nat) : Int); omega) (by show _ = ((k % 16 : Nat) : Int) - 1; omega) hzb rfl (by show _ = if zR (tC w k) = -1 then (-1 : Int) else _; first | (rw [if_pos (by assumption)]) | (rw [if_neg (by assumption)]; exact hz2)) rfl)

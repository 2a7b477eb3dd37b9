/-! MATCHES: choosing a line narrows what comes behind -/
/-- how many ways the tables of a list have, told by the lines that are open in each and what goes beside what -/
def cN (par : Nat → Nat → Nat → Nat → Bool) : List Nat → (Nat → Nat → Bool) → Nat
  | [], _ => 1
  | t :: ts, F => nsum 16 (fun i => if F t i = true then cN par ts (fun o k => F o k && par t i o k) else 0)
theorem cN_dead {par : Nat → Nat → Nat → Nat → Bool} {o : Nat} : ∀ {ts : List Nat} {F : Nat → Nat → Bool}, o ∈ ts → (∀ k, k < 16 → F o k = false) → cN par ts F = 0
  | t :: ts, F, ho, hF => by
    rw [cN]
    refine nsum_0 (fun i hi => ?_)
    rcases List.mem_cons.mp ho with e | e
    · subst e; rw [hF i hi]; rfl
    · split
      · exact cN_dead e (fun k hk => by rw [hF k hk]; rfl)
      · rfl
theorem cN_le {par : Nat → Nat → Nat → Nat → Bool} : ∀ {ts : List Nat} {F : Nat → Nat → Bool}, cN par ts F ≤ 16 ^ ts.length
  | [], _ => Nat.le_refl _
  | t :: ts, F => by
    rw [cN, List.length_cons, Nat.pow_succ, Nat.mul_comm]
    refine nsum_le (fun i hi => ?_)
    split
    · exact cN_le
    · exact Nat.zero_le _
theorem cN_cong {par : Nat → Nat → Nat → Nat → Bool} : ∀ {ts : List Nat} {F G : Nat → Nat → Bool}, (∀ o, o ∈ ts → ∀ k, k < 16 → F o k = G o k) → cN par ts F = cN par ts G
  | [], _, _, _ => rfl
  | t :: ts, F, G, h => by
    rw [cN, cN]
    refine nsum_cong (fun i hi => ?_)
    rw [h t (List.mem_cons_self ..) i hi, cN_cong (fun o ho k hk => by rw [h o (List.mem_cons_of_mem _ ho) k hk])]
def FR (σ : St) (L : List Nat) (s : Nat) (mf : Nat → Nat) : Prop := ∀ j, s ≤ j → j < L.length → σ.1 100 (s * 5 + gL L j) = (mf (gL L j) : Int)
def FKs (L : List Nat) (s : Nat) (mf : Nat → Nat) (F : Nat → Nat → Bool) : Prop := ∀ j, s ≤ j → j < L.length → MK (mf (gL L j)) (F (gL L j))
def LOK (L : List Nat) : Prop := L.length ≤ 5 ∧ ∀ i, i < L.length → gL L i < 5
def NC (k : Nat) : Prop := k = 100
def low (s : Nat) (σ σ' : St) : Prop := ∀ q, q < (s + 1) * 5 → σ'.1 100 q = σ.1 100 q
def nF (par : Nat → Nat → Nat → Nat → Bool) (t i : Nat) (F : Nat → Nat → Bool) : Nat → Nat → Bool := fun o k => F o k && par t i o k
def nM (pm : Nat → Nat → Nat → Nat) (t i : Nat) (mf : Nat → Nat) : Nat → Nat := fun o => mf o &&& pm t i o
theorem FKs.n {L : List Nat} {s i : Nat} {mf : Nat → Nat} {F : Nat → Nat → Bool} {pm : Nat → Nat → Nat → Nat} {par : Nat → Nat → Nat → Nat → Bool} (h : FKs L s mf F) (hL : LOK L) (hs : s < L.length) (hi : i < 16) (hA : PA pm par) : FKs L (s + 1) (nM pm (gL L s) i mf) (nF par (gL L s) i F) := fun j hj hjl => (h j (by omega) hjl).and (hA _ (hL.2 s hs) i hi _ (hL.2 j hjl))
/-- what choosing line i at step s leaves -/
def NQ (σ : St) (L : List Nat) (s i : Nat) (mf : Nat → Nat) (pm : Nat → Nat → Nat → Nat) (z : Int) (σ' : St) : Prop := Fr NC σ σ' ∧ low s σ σ' ∧ ((z = 0 ∧ ∃ j, s < j ∧ j < L.length ∧ nM pm (gL L s) i mf (gL L j) = 0) ∨ (z = 1 ∧ FR σ' L (s + 1) (nM pm (gL L s) i mf)))
theorem MS.fr {σ σ' : St} {L : List Nat} {S : Nat → Prop} (h : MS σ L) (hF : Fr S σ σ') (h1 : ¬ S 98) (h2 : ¬ S 99) : MS σ' L := ⟨by rw [hF.1 98 h1]; exact h.1, fun i hi => by rw [hF.1 99 h2]; exact h.2 i hi⟩
theorem PS.fr {σ σ' : St} {pm : Nat → Nat → Nat → Nat} {S : Nat → Prop} (h : PS σ pm) (hF : Fr S σ σ') (h1 : ¬ S 101) : PS σ' pm := fun t ht i hi o ho => by rw [hF.1 101 h1]; exact h t ht i hi o ho
theorem FR.low {σ σ' : St} {L : List Nat} {s : Nat} {mf : Nat → Nat} (h : FR σ L s mf) (hL : LOK L) (hl : low s σ σ') : FR σ' L s mf := fun j hj hjl => by
  have := hL.2 j hjl
  rw [hl _ (by omega)]; exact h j hj hjl
set_option maxHeartbeats 4000000 in
set_option maxRecDepth 100000 in
theorem c_X1_narrow {κ : Kp} (hI : Ij κ) (l : Launch) (σ : St) {L : List Nat} (hM : MS σ L) (hL : LOK L) {pm : Nat → Nat → Nat → Nat} {par : Nat → Nat → Nat → Nat → Bool} (hP : PS σ pm) (hA : PA pm par) {s i : Nat} {zs zi : Int} (hzs : zs = (s : Int)) (hzi : zi = (i : Int)) (hs : s < L.length) (hi16 : i < 16) {mf : Nat → Nat} {F : Nat → Nat → Bool} (hR : FR σ L s mf) (hK : FKs L s mf F) : CtI κ l 1 yX1_narrow cX1_narrow 6 .boolean [.ref (κ.2.1 98), .int (iZ zs), .int (iZ zi)] σ (fun z σ' => NQ σ L s i mf pm z σ') := by
  refine Ct.ofG (own := RX1) hI (by decide +kernel) rfl (Nat.le_of_ble_eq_true rfl) rfl ?_
  intro M C hMl
  have hl5 := hL.1
  have hrng : ∀ j, j < L.length → gL L j < 5 := hL.2
  refine g_iload_n C dX1_narrow_0 rfl ?_
  refine g_iconst (z := 1) C dX1_narrow_1 rfl ?_
  refine g_iadd C dX1_narrow_2 ?_
  refine g_istore_n (L' := [(3, .int (iZ (zs + 1))), (0, .ref (κ.2.1 98)), (1, .int (iZ zs)), (2, .int (iZ zi))]) C dX1_narrow_3 rfl (by decide) rfl ?_
  have lp4 : ∀ (fz9 : Nat) (j : Nat) (x3 : Int) (q : St), (L.length - j < fz9) → (x3 = (j : Int)) → (s + 1 ≤ j ∧ j ≤ L.length) → (Fr NC σ q) → (low s σ q) → (∀ u, s + 1 ≤ u → u < j → q.1 100 ((s + 1) * 5 + gL L u) = (nM pm (gL L s) i mf (gL L u) : Int)) → G M κ 6 (En M κ (qI κ (fun z σ' => NQ σ L s i mf pm z σ'))) 4 [(0, .ref (κ.2.1 98)), (1, .int (iZ zs)), (2, .int (iZ zi)), (3, .int (iZ x3))] [] q := by
    intro fz9
    induction fz9 with
    | zero => intro j x3 q hm0; exact absurd hm0 (Nat.not_lt_zero _)
    | succ fz9 ih4 =>
      intro j x3 q hm4 hx3 hj hF hl hD
      have hMq := hM.fr hF (by unfold NC; omega) (by unfold NC; omega)
      have hPq := hP.fr hF (by unfold NC; omega)
      have hRq := hR.low hL hl
      have hgs := hL.2 s hs
      refine g_iload_n C dX1_narrow_4 rfl ?_
      refine g_aload_n C dX1_narrow_5 rfl ?_
      refine gf_X1_15 (z := (L.length : Int)) C dX1_narrow_6 rfl hMq.1 ?_
      refine g_pc (pc' := 9) rfl ?_
      refine g_icmp_ge (tgt := 79) C dX1_narrow_9 (by decide) (by unfold R32; omega) (fun h1 => ?_) (fun h1 => ?_)
      · refine g_iconst (z := 1) C dX1_narrow_79 rfl ?_
        exact g_zreturn C dX1_narrow_80 (by omega) ⟨hF, hl, Or.inr ⟨rfl, fun u h1 h2 => hD u h1 (by omega)⟩⟩
      · have hgj := hL.2 j (by omega)
        have hmj := hK j (by omega) (by omega)
        have hpj := hA (gL L s) hgs i hi16 (gL L j) hgj
        refine g_aload_n C dX1_narrow_12 rfl ?_
        refine gf_X1_9 C dX1_narrow_13 rfl ?_
        refine g_iload_n C dX1_narrow_16 rfl ?_
        refine g_iaz (n := j) (N := 5) (v := (gL L j : Int)) C dX1_narrow_17 rfl rfl (by omega) (by omega) (by decide) (hMq.2 j (by omega)) ?_
        refine g_istore (L' := [(4, .int (iZ (gL L j : Int))), (0, .ref (κ.2.1 98)), (1, .int (iZ zs)), (2, .int (iZ zi)), (3, .int (iZ x3))]) C dX1_narrow_18 (by decide) rfl ?_
        refine g_pc (pc' := 20) rfl ?_
        refine g_aload_n C dX1_narrow_20 rfl ?_
        refine gf_X1_19 C dX1_narrow_21 rfl ?_
        refine g_iload_n C dX1_narrow_24 rfl ?_
        refine g_iconst (z := 5) C dX1_narrow_25 rfl ?_
        refine g_imul C dX1_narrow_26 ?_
        refine g_iload C dX1_narrow_27 rfl ?_
        refine g_iadd C dX1_narrow_29 ?_
        refine g_iaz (n := ((s * 5) + (gL L j))) (N := 25) (v := (mf (gL L j) : Int)) C dX1_narrow_30 rfl rfl (by omega) (by omega) (by decide) (hRq j (by omega) (by omega)) ?_
        refine g_pc (pc' := 31) rfl ?_
        refine g_aload_n C dX1_narrow_31 rfl ?_
        refine gf_X1_22 C dX1_narrow_32 rfl ?_
        refine g_aload_n C dX1_narrow_35 rfl ?_
        refine gf_X1_9 C dX1_narrow_36 rfl ?_
        refine g_iload_n C dX1_narrow_39 rfl ?_
        refine g_iaz (n := s) (N := 5) (v := (gL L s : Int)) C dX1_narrow_40 rfl rfl (by omega) (by omega) (by decide) (hMq.2 s (by omega)) ?_
        refine g_iload_n C dX1_narrow_41 rfl ?_
        refine g_iload C dX1_narrow_42 rfl ?_
        refine g_pc (pc' := 44) rfl ?_
        refine gc_X1_104 C dX1_narrow_44 (c_X1_partnersAt hI (Ml M) q (a := (gL L s : Int)) (b := zi) (c := (gL L j : Int))) (by decide) (Nat.le_of_ble_eq_true rfl) (fun z σ1 ⟨hz, hσ⟩ => ?_)
        subst σ1
        replace hz : z = (((((gL L s) * 16 + i) * 5 + (gL L j)) : Nat) : Int) := by omega
        subst z
        refine g_iaz (n := (((gL L s) * 16 + i) * 5 + (gL L j))) (N := 400) (v := (pm (gL L s) i (gL L j) : Int)) C dX1_narrow_47 rfl rfl (by omega) (by omega) (by decide) (hPq (gL L s) hgs i hi16 (gL L j) hgj) ?_
        refine g_iand C dX1_narrow_48 ?_
        refine g_raw (and_raw (by have := hmj.1; omega) (by have := hpj.1; omega)) ?_
        have hnm : nM pm (gL L s) i mf (gL L j) = mf (gL L j) &&& pm (gL L s) i (gL L j) := rfl
        rw [← hnm]
        have hn16 : nM pm (gL L s) i mf (gL L j) < 65536 := Nat.lt_of_le_of_lt Nat.and_le_left hmj.1
        refine g_istore (L' := [(5, .int (iZ (nM pm (gL L s) i mf (gL L j) : Int))), (4, .int (iZ (gL L j : Int))), (0, .ref (κ.2.1 98)), (1, .int (iZ zs)), (2, .int (iZ zi)), (3, .int (iZ x3))]) C dX1_narrow_49 (by decide) rfl ?_
        refine g_iload C dX1_narrow_51 rfl ?_
        refine g_if_ne (tgt := 58) C dX1_narrow_53 (by decide) (by unfold R32; omega) (fun h2 => ?_) (fun h2 => ?_)
        · refine g_aload_n C dX1_narrow_58 rfl ?_
          refine gf_X1_19 C dX1_narrow_59 rfl ?_
          refine g_pc (pc' := 62) rfl ?_
          refine g_iload_n C dX1_narrow_62 rfl ?_
          refine g_iconst (z := 1) C dX1_narrow_63 rfl ?_
          refine g_iadd C dX1_narrow_64 ?_
          refine g_iconst (z := 5) C dX1_narrow_65 rfl ?_
          refine g_imul C dX1_narrow_66 ?_
          refine g_iload C dX1_narrow_67 rfl ?_
          refine g_iadd C dX1_narrow_69 ?_
          refine g_iload C dX1_narrow_70 rfl ?_
          refine g_pc (pc' := 72) rfl ?_
          refine g_iast (n := (((s + 1) * 5) + (gL L j))) (N := 25) C dX1_narrow_72 rfl rfl (by omega) (by omega) (by decide) ?_
          refine g_iinc (q := 5) (v := (x3 + 1)) (L' := [(3, .int (iZ (x3 + 1))), (5, .int (iZ (nM pm (gL L s) i mf (gL L j) : Int))), (4, .int (iZ (gL L j : Int))), (0, .ref (κ.2.1 98)), (1, .int (iZ zs)), (2, .int (iZ zi))]) C dX1_narrow_73 rfl rfl (by decide) rfl ?_
          refine g_goto (tgt := 4) C dX1_narrow_76 (by decide) ?_
          exact g_loc [3, 4, 5, 0] (by rfl) (ih4 (j + 1) (x3 + 1) (sI q 100 (((s + 1) * 5) + (gL L j)) (nM pm (gL L s) i mf (gL L j) : Int)) (by omega) (by omega) (by omega) (hF.sI rfl) (fun u hu => by rw [rI_j (by omega)]; exact hl u hu) (fun u h1 h2 => by by_cases hu : gL L u = gL L j; (rw [hu, rI_s]); (rw [rI_j (by omega)]; exact hD u h1 (by rcases Nat.lt_or_ge u j with k | k; exact k; exact absurd (by rw [show u = j by omega]) hu))))
        · refine g_iconst (z := 0) C dX1_narrow_56 rfl ?_
          exact g_zreturn C dX1_narrow_57 (by omega) ⟨hF, hl, Or.inl ⟨rfl, j, by omega, by omega, by omega⟩⟩
  exact g_loc [1, 2, 3, 0] (by rfl) (lp4 _ (s + 1) (zs + 1) σ (Nat.lt_succ_self _) (by omega) (by omega) Fr.rf (fun _ _ => rfl) (fun u h1 h2 => by omega))

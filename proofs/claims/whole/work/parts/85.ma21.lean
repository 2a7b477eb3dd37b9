/-! THE MODEL: a row read -/
def SAl (k : Nat) : Prop := 105 ≤ k
def TAl (_ : Nat) : Prop := True
theorem Fm.al {S T : Nat → Prop} {σ τ : St} (g : Fm S T σ τ) (hS : ∀ k, S k → 105 ≤ k) : Fm SAl TAl σ τ := g.mono hS (fun _ _ => trivial)
theorem Fm.alY {σ τ : St} (g : Fm SAl TAl σ τ) : Fr YC σ τ := g.toY (fun k e => e)
set_option maxHeartbeats 4000000 in
set_option maxRecDepth 100000 in
theorem c_X10_read {κ : Kp} (hI : Ij κ) (l : Launch) (σ : St) {V : Vw} (hM : MV σ V) (hO : OKV V) {x : Int} (hx : R32 x) : CtI κ l 6 yX10_read cX10_read 5 .int [.ref (κ.2.1 105), .int (iZ x)] σ (fun z σ' => z = (aRead V x).1 ∧ MV σ' (aRead V x).2 ∧ Fr YC σ σ' ∧ OKV (aRead V x).2) := by
  refine Ct.ofG (own := RX10) hI (by decide +kernel) rfl (Nat.le_of_ble_eq_true rfl) rfl ?_
  intro M C hMl
  have hwn := wnr_le V x
  refine g_aload_n C dX10_read_0 rfl ?_
  refine g_iload_n C dX10_read_1 rfl ?_
  refine gc_X10_318 C dX10_read_2 rfl (c_X10_notRow hI (Ml M) σ hM hO hx) (by decide) (Nat.le_of_ble_eq_true rfl) (fun z2 σ9 ⟨hz2, hσ⟩ => ?_)
  subst σ9
  refine g_istore_n (L' := [(2, .int (iZ z2)), (0, .ref (κ.2.1 105)), (1, .int (iZ x))]) C dX10_read_5 rfl (by decide) rfl ?_
  refine g_iload_n C dX10_read_6 rfl ?_
  refine g_if_eq (tgt := 16) C dX10_read_7 (by decide) (by unfold R32; omega) (fun h1 => ?_) (fun h1 => ?_)
  · have hw0 : wnr V x = 0 := by omega
    have hx8 := (wnr_0 hO hw0).1
    have hk1 := (wnr_0 hO hw0).2
    have hn160 := ((hO.2.2.1 x.toNat (by omega)).2.1 hk1).2
    have hMS := (hM.2.2.1 x.toNat (by omega)).2.1 hk1
    have hMs : MV (sI (sI σ 105 54 x) 105 52 (-1)) (vFlt V (-1)) := (hM.scr ((Fm.rf.t (S := SC) (T := SX) (v := x) (by unfold SX; omega : SX 54)))).flt (-1)
    have hSs : SHx (sI (sI σ 105 54 x) 105 52 (-1)) x.toNat (chI (vSh V) x.toNat) (sN (vSh V) x.toNat) := ⟨(rI_j (by decide)).trans (rI_s.trans (by omega)), by omega, hn160, (rI_k (by decide)).trans ((rI_k (by decide)).trans hMS.2.1), fun u hu => by show (σ.2.2 151 (160 * x.toNat + u)).toInt32.toInt = _; rw [hMS.2.2 u hu]; rfl⟩
    have hFs : Fm SAl TAl σ (sI (sI σ 105 54 x) 105 52 (-1)) := (Fm.rf.t trivial).t trivial
    refine g_aload_n C dX10_read_16 rfl ?_
    refine g_pc (pc' := 17) rfl ?_
    refine g_iload_n C dX10_read_17 rfl ?_
    refine gp_X10_338 C dX10_read_18 rfl ?_
    refine g_aload_n C dX10_read_21 rfl ?_
    refine g_iconst (z := (-1)) C dX10_read_22 rfl ?_
    refine gp_X10_135 C dX10_read_23 rfl ?_
    refine g_aload_n C dX10_read_26 rfl ?_
    refine gc_X10_364 C dX10_read_27 rfl (c_X10_readsAll hI (Ml M) (sI (sI σ 105 54 x) 105 52 (-1)) hMs.1 hSs hO.1) (by decide) (Nat.le_of_ble_eq_true rfl) (fun z3 s1 ⟨hF1, hP1⟩ => ?_)
    have hM1 := hMs.scr hF1.rsc
    have hz3r : -1 ≤ z3 ∧ z3 ≤ 161 := by rcases hP1 with ⟨e, -⟩ | ⟨_, _, e, e2, -⟩ <;> omega
    refine g_istore_n (L' := [(3, .int (iZ z3)), (2, .int (iZ z2)), (0, .ref (κ.2.1 105)), (1, .int (iZ x))]) C dX10_read_30 rfl (by decide) rfl ?_
    refine g_pc (pc' := 31) rfl ?_
    refine g_iload_n C dX10_read_31 rfl ?_
    refine g_if_ge (tgt := 50) C dX10_read_32 (by decide) (by unfold R32; omega) (fun h2 => ?_) (fun h2 => ?_)
    · obtain ⟨r1, L1, hz3, hrit, htx, hI1, hT1⟩ := hP1.resolve_left (fun e => by omega)
      have hl80 := hI1.le80
      refine g_iconst (z := 0) C dX10_read_50 rfl ?_
      refine g_istore (L' := [(4, .int (iZ 0)), (3, .int (iZ z3)), (2, .int (iZ z2)), (0, .ref (κ.2.1 105)), (1, .int (iZ x))]) C dX10_read_51 (by decide) rfl ?_
      have lp53 : ∀ (fz9 : Nat) (k : Nat) (x4 : Int) (q : St), (L1.length - k < fz9) → (x4 = (k : Int)) → (k ≤ L1.length) → (MW q (wTk (vW V) L1 k)) → (Fm SLi NoT s1 q) → G M κ 5 (En M κ (qI κ (fun z σ' => z = (aRead V x).1 ∧ MV σ' (aRead V x).2 ∧ Fr YC σ σ' ∧ OKV (aRead V x).2))) 53 [(0, .ref (κ.2.1 105)), (1, .int (iZ x)), (3, .int (iZ z3)), (4, .int (iZ x4))] [] q := by
        intro fz9
        induction fz9 with
        | zero => intro k x4 q hm0; exact absurd hm0 (Nat.not_lt_zero _)
        | succ fz9 ih53 =>
          intro k x4 q hm53 hx4 hk hMq hFq
          refine g_iload C dX10_read_53 rfl ?_
          refine g_aload_n C dX10_read_55 rfl ?_
          refine gf_X10_348 (z := (L1.length : Int)) C dX10_read_56 rfl ((hFq.2 53 (fun e => e)).trans hT1.1) ?_
          refine g_icmp_ge (tgt := 100) C dX10_read_59 (by decide) (by unfold R32; omega) (fun h3 => ?_) (fun h3 => ?_)
          · refine g_pc (pc' := 100) rfl ?_
            refine g_iload_n C dX10_read_100 rfl ?_
            exact g_ireturn C dX10_read_101 (by rw [aRead_r hw0 htx]; exact ⟨hz3, hM1.wor (w := wBring (vW V) r1) (hFq.mono (fun k e => by unfold SLi at e; unfold SW; omega) (fun j e => e.elim)) (MW.ag (by rw [show L1.length = k by omega]; exact hMq) hI1.2.2.1), ((hFs.tr (hF1.al (fun k e => by unfold SRd at e; omega))).tr (hFq.al (fun k e => by unfold SLi at e; omega))).alY, (hO.flt (z := -1) (by unfold R32; omega)).world ((hI1.2.2.2.2 L1.length (Nat.le_refl _)).ag hI1.2.2.1)⟩)
          · refine g_aload_n C dX10_read_62 rfl ?_
            refine g_aload_n C dX10_read_63 rfl ?_
            refine gf_X10_120 C dX10_read_64 rfl ?_
            refine g_iload C dX10_read_67 rfl ?_
            refine g_iaz (n := k) (N := 80) (v := (gE L1 k 0 : Int)) C dX10_read_69 rfl rfl (by omega) (by omega) (by decide) ((congrFun (hFq.1 152 (by decide) (by unfold SLi; omega)).1 k).trans (hT1.2.1 k (by omega)).1) ?_
            refine g_aload_n C dX10_read_70 rfl ?_
            refine g_pc (pc' := 71) rfl ?_
            refine gf_X10_123 C dX10_read_71 rfl ?_
            refine g_iload C dX10_read_74 rfl ?_
            refine g_iaz (n := k) (N := 80) (v := (gE L1 k 1 : Int)) C dX10_read_76 rfl rfl (by omega) (by omega) (by decide) ((congrFun (hFq.1 153 (by decide) (by unfold SLi; omega)).1 k).trans (hT1.2.1 k (by omega)).2.1) ?_
            refine g_aload_n C dX10_read_77 rfl ?_
            refine gf_X10_126 C dX10_read_78 rfl ?_
            refine g_iload C dX10_read_81 rfl ?_
            refine g_iaz (n := k) (N := 80) (v := (gE L1 k 2 : Int)) C dX10_read_83 rfl rfl (by omega) (by omega) (by decide) ((congrFun (hFq.1 154 (by decide) (by unfold SLi; omega)).1 k).trans (hT1.2.1 k (by omega)).2.2.1) ?_
            refine g_aload_n C dX10_read_84 rfl ?_
            refine g_pc (pc' := 85) rfl ?_
            refine gf_X10_129 C dX10_read_85 rfl ?_
            refine g_iload C dX10_read_88 rfl ?_
            refine g_iaz (n := k) (N := 80) (v := (gE L1 k 3 : Int)) C dX10_read_90 rfl rfl (by omega) (by omega) (by decide) ((congrFun (hFq.1 155 (by decide) (by unfold SLi; omega)).1 k).trans (hT1.2.1 k (by omega)).2.2.2) ?_
            have hgk := hI1.2.2.2.1 k (by omega)
            have hOk := hI1.2.2.2.2 k hk
            refine gc_X10_367 C dX10_read_91 rfl (c_X10_putsLine hI (Ml M) q hMq (fun t ht => (hOk.1 t ht).1) (t := gE L1 k 0) (a := gE L1 k 1) (b := gE L1 k 2) (c := gE L1 k 3) rfl rfl rfl rfl hgk.1 hgk.2) (by decide) (Nat.le_of_ble_eq_true rfl) (fun q9 ⟨hMn, hFn⟩ => ?_)
            refine g_iinc (q := 3) (v := (x4 + 1)) (L' := [(4, .int (iZ (x4 + 1))), (0, .ref (κ.2.1 105)), (1, .int (iZ x)), (3, .int (iZ z3))]) C dX10_read_94 rfl rfl (by decide) rfl ?_
            refine g_goto (tgt := 53) C dX10_read_97 (by decide) ?_
            exact g_loc [1, 2, 3, 0] (by rfl) (ih53 (k + 1) (x4 + 1) q9 (by omega) (by omega) (by omega) hMn (hFq.tr hFn))
      exact g_loc [3, 4, 1, 0] (by rfl) (lp53 _ 0 0 s1 (Nat.lt_succ_self _) rfl (Nat.zero_le _) hM1.1 Fm.rf)
    · obtain ⟨-, j, hj1, hj2, hj3⟩ := hP1.resolve_right (fun e => by obtain ⟨_, _, e1, _⟩ := e; omega)
      refine g_aload_n C dX10_read_35 rfl ?_
      refine g_aload_n C dX10_read_36 rfl ?_
      refine g_pc (pc' := 37) rfl ?_
      refine gf_X10_335 (z := (j : Int)) C dX10_read_37 rfl hj2 ?_
      refine gp_X10_135 C dX10_read_40 rfl ?_
      refine g_aload_n C dX10_read_43 rfl ?_
      refine g_bipush (z := (-6)) C dX10_read_44 rfl ?_
      refine gc_X10_274 C dX10_read_46 rfl (c_X10_no hI (Ml M) (sI s1 105 52 (j : Int)) (y := 6) (v := (-6)) (by first | rfl | omega) (by decide)) (by decide) (Nat.le_of_ble_eq_true rfl) (fun z σ9 ⟨hz, hσ⟩ => ?_)
      subst z
      subst σ9
      exact g_ireturn C dX10_read_49 (by rw [aRead_l hw0 hj1]; exact ⟨rfl, (hM1.flt (j : Int)).ref (by omega), (((hFs.tr (hF1.al (fun k e => by unfold SRd at e; omega))).t trivial).alY).tr YC.ref, hO.flt (z := (j : Int)) (by unfold R32; omega)⟩)
  · refine g_aload_n C dX10_read_10 rfl ?_
    refine g_iload_n C dX10_read_11 rfl ?_
    refine g_pc (pc' := 12) rfl ?_
    refine gc_X10_274 C dX10_read_12 rfl (c_X10_no hI (Ml M) σ (y := wnr V x) (v := z2) hz2 (by have := wnr_le V x; omega)) (by decide) (Nat.le_of_ble_eq_true rfl) (fun z σ9 ⟨hz, hσ⟩ => ?_)
    subst z
    subst σ9
    exact g_ireturn C dX10_read_15 (by rw [show aRead V x = rfs (wnr V x) V from if_pos (by omega)]; exact ⟨rfl, hM.ref (by have := wnr_le V x; omega), YC.ref, hO⟩)

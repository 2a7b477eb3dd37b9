/-! THE MODEL: a plan -/
def fl (w : Wv) : List Nat → List Nat
  | [] => []
  | x :: r => PL w x ++ fl w r
theorem fl_app {w : Wv} : ∀ {A B : List Nat}, fl w (A ++ B) = fl w A ++ fl w B
  | [], _ => rfl
  | a :: A, B => by show PL w a ++ fl w (A ++ B) = (PL w a ++ fl w A) ++ fl w B; rw [fl_app, List.append_assoc]
theorem fl_chs {w : Wv} {k : Nat} : fl w (chs w k) = PO' w (kL w k) ++ PO' w (kR w k) := by
  unfold chs
  cases kL w k with
  | none =>
    cases kR w k with
    | none => rfl
    | some r => show fl w [r] = _; show PL w r ++ [] = [] ++ PL w r; rw [List.append_nil]; rfl
  | some l =>
    cases kR w k with
    | none => show PL w l ++ [] = PL w l ++ []; rfl
    | some r => show PL w l ++ (PL w r ++ []) = PL w l ++ PL w r; rw [List.append_nil]
theorem fl_len {w : Wv} (hW : OKW w) : ∀ {L : List Nat}, (∀ x, x ∈ L → tV w x) → L.length ≤ (fl w L).length
  | [], _ => Nat.le_refl _
  | x :: r, h => by
    have ih := fl_len hW (L := r) (fun y hy => h y (List.mem_cons_of_mem _ hy))
    have h1 : 1 ≤ (PL w x).length := by rw [PL_eq hW (h x (List.mem_cons_self ..))]; exact Nat.succ_le_succ (Nat.zero_le _)
    show r.length + 1 ≤ (PL w x ++ fl w r).length
    rw [List.length_append]; omega
theorem chs_v {w : Wv} (hW : OKW w) {k : Nat} (hv : tV w k) : ∀ x, x ∈ chs w k → tV w x := fun x hx => by
  unfold chs at hx
  rcases t_ch hW hv with ⟨e1, e2, -⟩ | ⟨l, e1, e2, v1, -⟩ | ⟨l, r, e1, e2, ⟨v1, -⟩, ⟨v2, -⟩, -⟩
  · rw [e1, e2] at hx; exact absurd hx (List.not_mem_nil)
  · rw [e1, e2] at hx
    have hx' : x ∈ [l] := by simpa using hx
    rw [List.mem_singleton] at hx'; rw [hx']; exact v1
  · rw [e1, e2] at hx
    have hx' : x = l ∨ x = r := by simpa using hx
    rcases hx' with e | e
    · rw [e]; exact v1
    · rw [e]; exact v2
def SPn (k : Nat) : Prop := 132 ≤ k ∧ k ≤ 140
def TPn (j : Nat) : Prop := j = 35 ∨ j = 36
theorem Fm.no {σ τ : St} (g : Fm SNo TNo σ τ) : Fm SPn TPn σ τ := g.mono (fun k e => by unfold SNo at e; unfold SPn; omega) (fun j e => Or.inl e)
theorem Fm.op {σ τ : St} (g : Fm SOp TOp σ τ) : Fm SPn TPn σ τ := g.mono (fun k e => by unfold SOp at e; unfold SPn; omega) (fun j e => Or.inr e)
theorem Fm.sz {σ τ : St} (g : Fm SSz NoT σ τ) : Fm SPn TPn σ τ := g.mono (fun k e => by unfold SSz at e; unfold SPn; omega) (fun j e => e.elim)
theorem MW.pn {σ τ : St} {w : Wv} (h : MW σ w) (g : Fm SPn TPn σ τ) : MW τ w := h.fm g (fun k _ _ e => by unfold SPn at e; omega) (fun j _ _ e => by unfold TPn at e; omega)
theorem KA.pn {σ τ : St} {w : Wv} (h : KA σ w) (g : Fm SPn TPn σ τ) : KA τ w := h.fm g (fun k _ _ e => by unfold SPn at e; omega)
theorem MV.pln {σ τ : St} {V : Vw} (h : MV σ V) (g : Fm SPn TPn σ τ) {L : List Nat} (hD : NdM τ (vW V) L) (hZ : ∀ u, u < L.length → τ.1 137 u = (zS (tC (vW V) (gL L u)) : Int)) {n : Nat} (hn : L.length = n) : MV τ (vPl V (n, fun u j => nodD (vW V) (gL L u) j)) := by
  subst hn
  refine ⟨h.1.pn g, h.2.1.fm g (by unfold SPn; omega) (by unfold TPn; omega), h.2.2.1.fm g (fun k _ _ e => by unfold SPn at e; omega), ⟨hD.1, fun i hi => ?_⟩, h.2.2.2.2.fm g (by unfold SPn; omega) (by unfold TPn; omega)⟩
  obtain ⟨a0, a1, a2, a3, a4, a5⟩ := hD.2 i hi
  exact ⟨a0, a1, a2, a3, a4, hZ i hi, a5⟩
set_option maxHeartbeats 4000000 in
set_option maxRecDepth 100000 in
theorem c_X10_plan {κ : Kp} (hI : Ij κ) (l : Launch) (σ : St) {V : Vw} (hM : MV σ V) (hO : OKV V) {s o : Int} (hs : R32 s) (ho : R32 o) : CtI κ l 9 yX10_plan cX10_plan 4 .int [.ref (κ.2.1 105), .int (iZ s), .int (iZ o)] σ (fun z σ' => z = (aPlan V s o).1 ∧ MV σ' (aPlan V s o).2 ∧ Fr YC σ σ') := by
  refine Ct.ofG (own := RX10) hI (by decide +kernel) rfl (Nat.le_of_ble_eq_true rfl) rfl ?_
  intro M C hMl
  refine g_iload_n C dX10_plan_0 rfl ?_
  refine gc_X10_267 C dX10_plan_1 (c_X10_isSet hI (Ml M) σ (v := s) (by unfold R32; omega)) (by decide) (Nat.le_of_ble_eq_true rfl) (fun z σ9 ⟨hz, hσ⟩ => ?_)
  subst z
  subst σ9
  refine g_ifb_eq (tgt := 14) C dX10_plan_4 (by decide) (fun h1 => ?_) (fun h1 => ?_)
  · refine g_aload_n C dX10_plan_14 rfl ?_
    refine g_bipush (z := (-6)) C dX10_plan_15 rfl ?_
    refine gc_X10_274 C dX10_plan_17 rfl (c_X10_no hI (Ml M) σ (y := 6) (v := (-6)) (by first | rfl | omega) (by decide)) (by decide) (Nat.le_of_ble_eq_true rfl) (fun z σ9 ⟨hz, hσ⟩ => ?_)
    subst z
    subst σ9
    exact g_ireturn C dX10_plan_20 (by first | (rw [show aPlan V s o = rfs 6 V by unfold aPlan; rw [if_pos (by omega)]]; exact ⟨rfl, hM.ref (by omega), YC.ref⟩) | (rw [show aPlan V s o = rfs 5 V by unfold aPlan; rw [if_neg (by omega), if_pos (by omega)]]; exact ⟨rfl, hM1.ref (by omega), hFb.scr.tr YC.ref⟩))
  · refine g_pc (pc' := 7) rfl ?_
    refine g_iload_n C dX10_plan_7 rfl ?_
    refine gc_X10_271 C dX10_plan_8 (c_X10_isOrder hI (Ml M) σ (v := o) (by unfold R32; omega)) (by decide) (Nat.le_of_ble_eq_true rfl) (fun z σ9 ⟨hz, hσ⟩ => ?_)
    subst z
    subst σ9
    refine g_ifb_ne (tgt := 21) C dX10_plan_11 (by decide) (fun h2 => ?_) (fun h2 => ?_)
    · refine g_aload_n C dX10_plan_21 rfl ?_
      refine gc_X10_277 C dX10_plan_22 rfl (c_X10_findBest hI (Ml M) σ hM.1 hO.1) (by decide) (Nat.le_of_ble_eq_true rfl) (fun s1 ⟨hK, hFb⟩ => ?_)
      have hM1 := hM.scr hFb
      have hcell : PKm s1 (16 * s.toNat + (o + 1).toNat) (TT (vW V) s.toNat (o + 1).toNat) := by have h9 := hK (16 * s.toNat + (o + 1).toNat) (by omega); rwa [tC_c (by omega)] at h9
      have hTP := (TT_PO hO.1 s.toNat s.toNat (Nat.le_refl _) (by omega) (by omega)).1 (o + 1).toNat (by omega)
      have hKA : KA s1 (vW V) := hK
      refine g_aload_n C dX10_plan_25 rfl ?_
      refine g_iload_n C dX10_plan_26 rfl ?_
      refine g_iload_n C dX10_plan_27 rfl ?_
      refine g_pc (pc' := 28) rfl ?_
      refine g_iconst (z := 1) C dX10_plan_28 rfl ?_
      refine g_iadd C dX10_plan_29 ?_
      refine gc_X10_213 C dX10_plan_30 rfl (c_X10_isBest hI (Ml M) s1 (s := s.toNat) (o := (o + 1).toNat) (by omega) (by omega) (by omega) (by omega) hcell (PO_W hTP)) (by decide) (Nat.le_of_ble_eq_true rfl) (fun z σ9 ⟨hz, hσ⟩ => ?_)
      subst z
      subst σ9
      refine g_ifb_ne (tgt := 43) C dX10_plan_33 (by decide) (fun h3 => ?_) (fun h3 => ?_)
      · have hv : tV (vW V) (16 * s.toNat + (o + 1).toNat) := ⟨⟨by omega, by omega⟩, by rw [tC_c (by omega)]; assumption⟩
        have hlen := PL_len hO.1 hv
        have hti := t_info hO.1 hv
        rw [tC_c (by omega)] at hlen hti
        refine g_aload_n C dX10_plan_43 rfl ?_
        refine g_iconst (z := 0) C dX10_plan_44 rfl ?_
        refine gp_X10_255 C dX10_plan_45 rfl ?_
        refine g_aload_n C dX10_plan_48 rfl ?_
        refine g_pc (pc' := 49) rfl ?_
        refine g_iconst (z := 0) C dX10_plan_49 rfl ?_
        refine gp_X10_248 C dX10_plan_50 rfl ?_
        have hD0 : NdM (sI (sI s1 105 35 0) 105 36 0) (vW V) [] := ⟨(rI_j (by decide)).trans rI_s, fun u hu => absurd hu (Nat.not_lt_zero _)⟩
        have hSt0 : Stk (sI (sI s1 105 35 0) 105 36 0) [] := ⟨rI_s, fun u hu => absurd hu (Nat.not_lt_zero _)⟩
        have hF00 : Fm SPn TPn s1 (sI (sI s1 105 35 0) 105 36 0) := (Fm.rf.t (Or.inl rfl)).t (Or.inr rfl)
        refine g_aload_n C dX10_plan_53 rfl ?_
        refine g_iload_n C dX10_plan_54 rfl ?_
        refine g_iload_n C dX10_plan_55 rfl ?_
        refine g_iconst (z := 1) C dX10_plan_56 rfl ?_
        refine g_iadd C dX10_plan_57 ?_
        refine gc_X10_251 C dX10_plan_58 rfl (c_X10_opens hI (Ml M) (sI (sI s1 105 35 0) 105 36 0) hSt0 (by decide) (x := (16 * s.toNat + (o + 1).toNat)) (by omega) (by omega)) (by decide) (Nat.le_of_ble_eq_true rfl) (fun s2 ⟨hS0, hFo⟩ => ?_)
        have lp61 : ∀ (fz9 : Nat) (D : List Nat) (Sk : List Nat) (q : St), ((fl (vW V) Sk).length < fz9) → (NdM q (vW V) D) → (Stk q Sk) → (PL (vW V) (16 * s.toNat + (o + 1).toNat) = D ++ fl (vW V) Sk) → (∀ x, x ∈ Sk → tV (vW V) x) → (Fm SPn TPn s1 q) → G M κ 4 (En M κ (qI κ (fun z σ' => z = (aPlan V s o).1 ∧ MV σ' (aPlan V s o).2 ∧ Fr YC σ σ'))) 61 [(0, .ref (κ.2.1 105)), (1, .int (iZ s)), (2, .int (iZ o))] [] q := by
          intro fz9
          induction fz9 with
          | zero => intro D Sk q hm0; exact absurd hm0 (Nat.not_lt_zero _)
          | succ fz9 ih61 =>
            intro D Sk q hm61 hD hS hL hSv hF
            have hMq := hM1.1.pn hF
            have hKq := hKA.pn hF
            have hfl0 := fl_len hO.1 hSv
            have hlen0 : D.length + (fl (vW V) Sk).length = zS (TT (vW V) s.toNat (o + 1).toNat) := by rw [← hlen, hL, List.length_append]
            refine g_pc (pc' := 61) rfl ?_
            refine g_aload_n C dX10_plan_61 rfl ?_
            refine gf_X10_248 (z := (Sk.length : Int)) C dX10_plan_62 rfl hS.1 ?_
            refine g_if_le (tgt := 114) C dX10_plan_65 (by decide) (by unfold R32; omega) (fun h4 => ?_) (fun h4 => ?_)
            · have hnil : Sk = [] := by
                cases Sk with
                | nil => rfl
                | cons x r => exact absurd (show (((x :: r).length : Nat) : Int) ≤ 0 by assumption) (by rw [List.length_cons]; omega)
              subst hnil
              have hDL : PL (vW V) (16 * s.toNat + (o + 1).toNat) = D := by rw [hL]; exact List.append_nil D
              have hmem := PL_mem hO.1 hv
              have hch := PL_ch hO.1 hv
              rw [hDL] at hmem hch
              have hDl : D.length = zS (TT (vW V) s.toNat (o + 1).toNat) := by rw [← hDL]; exact hlen
              refine g_aload_n C dX10_plan_114 rfl ?_
              refine gc_X10_286 C dX10_plan_115 rfl (c_X10_findSizes hI (Ml M) q hO.1 hD (by omega) hmem hch) (by decide) (Nat.le_of_ble_eq_true rfl) (fun z1 ⟨hZ, hFz⟩ => ?_)
              have hDz := hD.fm hFz (fun k _ _ _ e => by unfold SSz at e; omega) (fun e => e)
              refine g_aload_n C dX10_plan_118 rfl ?_
              refine gf_X10_255 (z := (D.length : Int)) C dX10_plan_119 rfl hDz.1 ?_
              exact g_ireturn C dX10_plan_122 (by rw [show aPlan V s o = ((zS (TT (vW V) s.toNat (o + 1).toNat) : Int), vPl V (zS (TT (vW V) s.toNat (o + 1).toNat), fun u j => nodD (vW V) (gL (PL (vW V) (16 * s.toNat + (o + 1).toNat)) u) j)) by unfold aPlan; rw [if_neg (by omega), if_neg (by assumption)]]; rw [hDL]; exact ⟨congrArg (fun n : Nat => (n : Int)) (by rw [← hDL, hlen]), hM1.pln (hF.tr hFz.sz) hDz hZ (by rw [← hDL, hlen]), hFb.scr.tr ((hF.tr hFz.sz).toY (fun k e => by unfold SPn at e; omega))⟩)
            · have hcase : ∃ x r, Sk = x :: r := by
                cases Sk with
                | nil => exact absurd (show (0 : Int) < ((([] : List Nat).length : Nat) : Int) by assumption) (by simp)
                | cons x r => exact ⟨x, r, rfl⟩
              obtain ⟨x, r, rfl⟩ := hcase
              have hcons : (x :: r).length = r.length + 1 := List.length_cons
              have hvx := hSv x (List.mem_cons_self ..)
              have hpop := hS.pop (n := (((x :: r).length : Nat) : Int) - 1) (by omega)
              have hvr : ∀ y, y ∈ r → tV (vW V) y := fun y hy => hSv y (List.mem_cons_of_mem _ hy)
              have hfl := fl_len hO.1 hSv
              have hlenE : D.length + (fl (vW V) (x :: r)).length = zS (TT (vW V) s.toNat (o + 1).toNat) := by rw [← hlen, hL, List.length_append]
              refine g_pc (pc' := 68) rfl ?_
              refine g_aload_n C dX10_plan_68 rfl ?_
              refine g_dup C dX10_plan_69 rfl ?_
              refine gf_X10_248 (z := (((x :: r).length : Nat) : Int)) C dX10_plan_70 rfl hS.1 ?_
              refine g_iconst (z := 1) C dX10_plan_73 rfl ?_
              refine g_isub C dX10_plan_74 ?_
              refine gp_X10_248 C dX10_plan_75 rfl ?_
              refine g_bipush (z := 16) C dX10_plan_78 rfl ?_
              refine g_aload_n C dX10_plan_80 rfl ?_
              refine g_pc (pc' := 81) rfl ?_
              refine gf_X10_92 C dX10_plan_81 rfl ?_
              refine g_aload_n C dX10_plan_84 rfl ?_
              refine gf_X10_248 (z := ((((x :: r).length : Nat) : Int) - 1)) C dX10_plan_85 rfl rI_s ?_
              refine g_iaz (n := r.length) (N := 64) (v := ((x / 16 : Nat) : Int)) C dX10_plan_88 rfl rfl (by omega) (by omega) (by decide) ((rI_k (by decide)).trans hpop.2.1) ?_
              refine g_imul C dX10_plan_89 ?_
              refine g_aload_n C dX10_plan_90 rfl ?_
              refine gf_X10_95 C dX10_plan_91 rfl ?_
              refine g_aload_n C dX10_plan_94 rfl ?_
              refine g_pc (pc' := 95) rfl ?_
              refine gf_X10_248 (z := ((((x :: r).length : Nat) : Int) - 1)) C dX10_plan_95 rfl rI_s ?_
              refine g_iaz (n := r.length) (N := 64) (v := ((x % 16 : Nat) : Int)) C dX10_plan_98 rfl rfl (by omega) (by omega) (by decide) ((rI_k (by decide)).trans hpop.2.2) ?_
              refine g_iadd C dX10_plan_99 ?_
              refine g_int (z' := (x : Int)) (by omega) ?_
              refine g_istore_n (L' := [(3, .int (iZ (x : Int))), (0, .ref (κ.2.1 105)), (1, .int (iZ s)), (2, .int (iZ o))]) C dX10_plan_100 rfl (by decide) rfl ?_
              refine g_aload_n C dX10_plan_101 rfl ?_
              refine g_iload_n C dX10_plan_102 rfl ?_
              have hFx : Fm SPn TPn q (sI q 105 36 ((((x :: r).length : Nat) : Int) - 1)) := Fm.rf.t (Or.inr rfl)
              refine gc_X10_280 C dX10_plan_103 rfl (c_X10_putsNode hI (Ml M) (sI q 105 36 ((((x :: r).length : Nat) : Int) - 1)) (hMq.pn hFx) hO.1 (hKq.pn hFx) rfl hvx (hD.fm (T := TOp) (S := fun _ => False) (Fm.rf.t rfl) (fun _ _ _ _ e => e) (by unfold TOp; decide)) (by omega)) (by decide) (Nat.le_of_ble_eq_true rfl) (fun q2 ⟨hD2, hF2⟩ => ?_)
              have hFx2 := hFx.tr hF2.no
              refine g_aload_n C dX10_plan_106 rfl ?_
              refine g_pc (pc' := 107) rfl ?_
              refine g_iload_n C dX10_plan_107 rfl ?_
              refine gc_X10_283 C dX10_plan_108 rfl (c_X10_opensBelow hI (Ml M) q2 (hMq.pn hFx2) hO.1 (hKq.pn hFx2) rfl hvx (hpop.1.fm hF2 (by unfold SNo; omega) (by unfold SNo; omega) (by unfold TNo; omega)) (by omega)) (by decide) (Nat.le_of_ble_eq_true rfl) (fun q3 ⟨hS3, hF3⟩ => ?_)
              refine g_goto (tgt := 61) C dX10_plan_111 (by decide) ?_
              exact g_loc [1, 2, 3] (by rfl) (ih61 (D ++ [x]) (chs (vW V) x ++ r) q3 (by rw [fl_app, fl_chs, List.length_append]; have h9 : (fl (vW V) (x :: r)).length = (PL (vW V) x).length + (fl (vW V) r).length := List.length_append; rw [PL_eq hO.1 hvx, List.length_cons] at h9; omega) (hD2.fm hF3 (fun k _ _ _ e => by unfold SOp at e; omega) (by unfold TOp; decide)) hS3 (by rw [hL, fl_app, fl_chs, List.append_assoc]; show D ++ (PL (vW V) x ++ fl (vW V) r) = D ++ (x :: _); rw [PL_eq hO.1 hvx]; rfl) (fun y hy => (List.mem_append.mp hy).elim (chs_v hO.1 hvx y) (hvr y)) (((hF.t (Or.inr rfl)).tr hF2.no).tr hF3.op))
        exact g_loc [0, 1, 2] (by rfl) (lp61 _ [] [(16 * s.toNat + (o + 1).toNat)] s2 (Nat.lt_succ_self _) (hD0.fm hFo (fun k _ _ _ e => by unfold SOp at e; omega) (by unfold TOp; decide)) hS0 (by show _ = [] ++ (PL (vW V) (16 * s.toNat + (o + 1).toNat) ++ []); rw [List.append_nil]; rfl) (fun x hx => by rw [List.mem_singleton] at hx; rw [hx]; exact hv) (hF00.tr hFo.op))
      · refine g_aload_n C dX10_plan_36 rfl ?_
        refine g_bipush (z := (-5)) C dX10_plan_37 rfl ?_
        refine gc_X10_274 C dX10_plan_39 rfl (c_X10_no hI (Ml M) s1 (y := 5) (v := (-5)) (by first | rfl | omega) (by decide)) (by decide) (Nat.le_of_ble_eq_true rfl) (fun z σ9 ⟨hz, hσ⟩ => ?_)
        subst z
        subst σ9
        exact g_ireturn C dX10_plan_42 (by first | (rw [show aPlan V s o = rfs 6 V by unfold aPlan; rw [if_pos (by omega)]]; exact ⟨rfl, hM.ref (by omega), YC.ref⟩) | (rw [show aPlan V s o = rfs 5 V by unfold aPlan; rw [if_neg (by omega), if_pos (by omega)]]; exact ⟨rfl, hM1.ref (by omega), hFb.scr.tr YC.ref⟩))
    · refine g_aload_n C dX10_plan_14 rfl ?_
      refine g_pc (pc' := 15) rfl ?_
      refine g_bipush (z := (-6)) C dX10_plan_15 rfl ?_
      refine gc_X10_274 C dX10_plan_17 rfl (c_X10_no hI (Ml M) σ (y := 6) (v := (-6)) (by first | rfl | omega) (by decide)) (by decide) (Nat.le_of_ble_eq_true rfl) (fun z σ9 ⟨hz, hσ⟩ => ?_)
      subst z
      subst σ9
      exact g_ireturn C dX10_plan_20 (by first | (rw [show aPlan V s o = rfs 6 V by unfold aPlan; rw [if_pos (by omega)]]; exact ⟨rfl, hM.ref (by omega), YC.ref⟩) | (rw [show aPlan V s o = rfs 5 V by unfold aPlan; rw [if_neg (by omega), if_pos (by omega)]]; exact ⟨rfl, hM1.ref (by omega), hFb.scr.tr YC.ref⟩))

/-! changes of a shelf -/
def sh3 (s q : Nat) : Prop := 34 + 3 * s ≤ q ∧ q ≤ 36 + 3 * s
theorem hset_s {h : Sh} {s k o n : Nat} {e : Nat → Int64} {d : Nat → Int} : sK (hset h s k o n e d) s = k ∧ sO (hset h s k o n e d) s = o ∧ sN (hset h s k o n e d) s = n ∧ sE (hset h s k o n e d) s = e ∧ sD (hset h s k o n e d) s = d := by
  refine ⟨?_, ?_, ?_, ?_, ?_⟩
  · simp [sK, hset]
  · simp [sO, hset]
  · simp [sN, hset]
  · funext i; simp [sE, hset]
  · funext i; simp [sD, hset]
theorem hset_n {h : Sh} {s a k o n : Nat} {e : Nat → Int64} {d : Nat → Int} (hn : a ≠ s) : sK (hset h s k o n e d) a = sK h a ∧ sO (hset h s k o n e d) a = sO h a ∧ sN (hset h s k o n e d) a = sN h a ∧ sE (hset h s k o n e d) a = sE h a ∧ sD (hset h s k o n e d) a = sD h a := by
  refine ⟨?_, ?_, ?_, ?_, ?_⟩
  · simp [sK, hset, hn]
  · simp [sO, hset, hn]
  · simp [sN, hset, hn]
  · funext i; simp [sE, hset, hn]
  · funext i; simp [sD, hset, hn]
theorem XV.shelf {σ σ' : St} {V : Vw} {s k o n : Nat} {e : Nat → Int64} {d : Nat → Int} (hX : XV σ V) (hO : OKV V) (hs : s < 8) (hF : Fr (sh3 s) σ σ') (h0 : σ'.1 (34 + 3 * s) 0 = (k : Int)) (h1 : 0 ≤ σ'.1 (34 + 3 * s) 1 ∧ σ'.1 (34 + 3 * s) 1 ≤ 3) (h2 : k = 1 → σ'.1 (34 + 3 * s) 1 = (o : Int) ∧ σ'.1 (34 + 3 * s) 2 = (n : Int) ∧ ∀ i, i < n → σ'.2.2 (34 + 3 * s + 1) i = e i) (h3 : k = 2 → ∀ j, j < 7 → σ'.1 (34 + 3 * s + 2) j = d j) : XV σ' (vSet V (hset (vSh V) s k o n e d)) := by
  refine ⟨hX.1.fr hF (fun k _ hk e => by unfold sh3 at e; omega), hX.2.1.fr hF (fun k hk e => by unfold sh3 at e; omega), fun a ha => ?_, hX.2.2.2.1.fr hF hO.2.2.2.1.1 (fun k _ hk e => by unfold sh3 at e; omega), hX.2.2.2.2.fr hF (fun k hk e => by unfold sh3 at e; omega)⟩
  show σ'.1 (34 + 3 * a) 0 = (sK (hset (vSh V) s k o n e d) a : Int) ∧ (0 ≤ σ'.1 (34 + 3 * a) 1 ∧ σ'.1 (34 + 3 * a) 1 ≤ 3) ∧ (sK (hset (vSh V) s k o n e d) a = 1 → σ'.1 (34 + 3 * a) 1 = (sO (hset (vSh V) s k o n e d) a : Int) ∧ σ'.1 (34 + 3 * a) 2 = (sN (hset (vSh V) s k o n e d) a : Int) ∧ ∀ i, i < sN (hset (vSh V) s k o n e d) a → σ'.2.2 (34 + 3 * a + 1) i = sE (hset (vSh V) s k o n e d) a i) ∧ (sK (hset (vSh V) s k o n e d) a = 2 → ∀ j, j < 7 → σ'.1 (34 + 3 * a + 2) j = sD (hset (vSh V) s k o n e d) a j)
  by_cases has : a = s
  · subst has
    obtain ⟨e1, e2, e3, e4, e5⟩ := hset_s (h := vSh V) (s := a) (k := k) (o := o) (n := n) (e := e) (d := d)
    rw [e1, e2, e3, e4, e5]
    exact ⟨h0, h1, h2, h3⟩
  · obtain ⟨e1, e2, e3, e4, e5⟩ := hset_n (h := vSh V) (s := s) (a := a) (k := k) (o := o) (n := n) (e := e) (d := d) has
    rw [e1, e2, e3, e4, e5]
    have f1 := hF.1 (34 + 3 * a) (by unfold sh3; omega)
    have f2 := hF.1 (34 + 3 * a + 2) (by unfold sh3; omega)
    have f3 := hF.2.2 (34 + 3 * a + 1) (by unfold sh3; omega)
    rw [f1, f2, f3]
    exact hX.2.2.1 a ha
theorem OKV.shelf {V : Vw} {s k o n : Nat} {e : Nat → Int64} {d : Nat → Int} (hO : OKV V) (h1 : k ≤ 2) (h2 : k = 1 → o ≤ 3 ∧ n ≤ 160) (h3 : k = 2 → NOK d) : OKV (vSet V (hset (vSh V) s k o n e d)) := by
  refine ⟨hO.1, hO.2.1, fun a ha => ?_, hO.2.2.2⟩
  show sK (hset (vSh V) s k o n e d) a ≤ 2 ∧ (sK (hset (vSh V) s k o n e d) a = 1 → sO (hset (vSh V) s k o n e d) a ≤ 3 ∧ sN (hset (vSh V) s k o n e d) a ≤ 160) ∧ (sK (hset (vSh V) s k o n e d) a = 2 → NOK (sD (hset (vSh V) s k o n e d) a))
  by_cases has : a = s
  · subst has
    obtain ⟨e1, e2, e3, e4, e5⟩ := hset_s (h := vSh V) (s := a) (k := k) (o := o) (n := n) (e := e) (d := d)
    rw [e1, e2, e3, e5]
    exact ⟨h1, h2, h3⟩
  · obtain ⟨e1, e2, e3, e4, e5⟩ := hset_n (h := vSh V) (s := s) (a := a) (k := k) (o := o) (n := n) (e := e) (d := d) has
    rw [e1, e2, e3, e5]
    exact hO.2.2.1 a ha
theorem sh3_C {s : Nat} (hs : s < 8) {σ σ' : St} (h : Fr (sh3 s) σ σ') : Fr XC σ σ' := h.mono (fun k hk => by unfold sh3 at hk; unfold XC; omega)
theorem rL_fs {σ : St} {k n i : Nat} {v : Int64} (h : i < n) : (fillL σ k n v).2.2 k i = v := by
  show (if k = k ∧ i < n then v else σ.2.2 k i) = v
  rw [if_pos ⟨rfl, h⟩]
theorem Fr.fillL {S : Nat → Prop} {σ σ' : St} {k n : Nat} {v : Int64} (h : Fr S σ σ') (hk : S k) : Fr S σ (fillL σ' k n v) := h.tr ⟨fun _ _ => rfl, fun _ _ => rfl, fun q hq => by funext j; show (if q = k ∧ j < n then v else σ'.2.2 q j) = σ'.2.2 q j; rw [if_neg (show ¬ (q = k ∧ j < n) from fun e => hq (e.1 ▸ hk))]⟩
theorem Fr.nBec {S : Nat → Prop} {σ σ' : St} {k k2 : Nat} (h : Fr S σ σ') (hk : S k) : Fr S σ (nBec σ' k k2) := h.tr ⟨fun q hq => nBec_ne (fun e => hq (e ▸ hk)), fun _ _ => rfl, fun _ _ => rfl⟩
theorem shRow_fr {σ : St} {s : Nat} {so n : Int} : Fr (sh3 s) σ (shRow σ (34 + 3 * s) so n) := ((((Fr.rf.sI (by unfold sh3; omega)).sI (by unfold sh3; omega)).sI (by unfold sh3; omega)).fillL (by unfold sh3; omega))
theorem XV.row {σ : St} {V : Vw} {x so n : Int} (hX : XV σ V) (hO : OKV V) (hx : 0 ≤ x ∧ x < 8) (hso : 0 ≤ so ∧ so < 4) (hn : 0 ≤ n ∧ n ≤ 160) : XV (shRow σ (34 + 3 * x.toNat) so n) (vSet V (hset (vSh V) x.toNat 1 so.toNat n.toNat (fun _ => 0) (sD (vSh V) x.toNat))) := by
  have e1 : (shRow σ (34 + 3 * x.toNat) so n).1 (34 + 3 * x.toNat) 1 = so := (rI_j (by decide)).trans rI_s
  refine hX.shelf hO (by omega) shRow_fr ((rI_j (by decide)).trans ((rI_j (by decide)).trans rI_s)) (by rw [e1]; omega) (fun _ => ⟨by rw [e1]; omega, (show (shRow σ (34 + 3 * x.toNat) so n).1 (34 + 3 * x.toNat) 2 = n from rI_s).trans (by omega), fun i hi => rL_fs (by omega)⟩) (fun h => by omega)
theorem XV.keep {σ : St} {V : Vw} {x i : Int} {v : Int64} (hX : XV σ V) (hO : OKV V) (hx : 0 ≤ x ∧ x < 8) (hk : sK (vSh V) x.toNat = 1) : XV (sL σ (34 + 3 * x.toNat + 1) i.toNat v) (vSet V (hset (vSh V) x.toNat 1 (sO (vSh V) x.toNat) (sN (vSh V) x.toNat) (fun q => if q = i.toNat then v else sE (vSh V) x.toNat q) (sD (vSh V) x.toNat))) := by
  obtain ⟨a1, a2, a3, a4⟩ := hX.2.2.1 x.toNat (by omega)
  obtain ⟨b1, b2, b3⟩ := a3 hk
  refine hX.shelf hO (by omega) (Fr.rf.sL (by unfold sh3; omega)) (a1.trans (by rw [hk])) a2 (fun _ => ⟨b1, b2, fun q hq => ?_⟩) (fun h => by omega)
  by_cases hqi : q = i.toNat
  · subst hqi; rw [rL_s]; exact (if_pos rfl).symm
  · rw [rL_j hqi, b3 q hq]; exact (if_neg hqi).symm
theorem XV.none {σ : St} {V : Vw} {x : Int} (hX : XV σ V) (hO : OKV V) (hx : 0 ≤ x ∧ x < 8) : XV (sI σ (34 + 3 * x.toNat) 0 0) (vSet V (hset (vSh V) x.toNat 0 0 0 (fun _ => 0) (fun _ => 0))) := by
  obtain ⟨a1, a2, a3, a4⟩ := hX.2.2.1 x.toNat (by omega)
  exact hX.shelf hO (by omega) (Fr.rf.sI (by unfold sh3; omega)) rI_s (by rw [rI_j (by decide)]; exact a2) (fun h => by omega) (fun h => by omega)
theorem XV.node {σ : St} {V : Vw} {x nd : Int} (hX : XV σ V) (hO : OKV V) (hx : 0 ≤ x ∧ x < 8) (hn : 0 ≤ nd ∧ nd < (vP V : Int)) : XV (nBec (sI σ (34 + 3 * x.toNat) 0 2) (34 + 3 * x.toNat + 2) (58 + nd.toNat)) (vSet V (hset (vSh V) x.toNat 2 0 0 (fun _ => 0) (vD V nd.toNat))) := by
  obtain ⟨a1, a2, a3, a4⟩ := hX.2.2.1 x.toNat (by omega)
  refine hX.shelf hO (by omega) ((Fr.rf.sI (by unfold sh3; omega)).nBec (by unfold sh3; omega)) (by rw [nBec_ne (by omega)]; exact rI_s) (by rw [nBec_ne (by omega), rI_j (by decide)]; exact a2) (fun h => by omega) (fun _ j hj => ?_)
  rw [nBec_at hj, rI_k (by omega)]
  exact hX.2.2.2.1.2 nd.toNat (by have : vP V = V.2.2.2.1.1 := rfl; omega) j hj
theorem wnr_int (V : Vw) (x : Int) : (if 0 ≤ x ∧ x < 8 then (if sK (vSh V) x.toNat = 2 then (2 : Int) else if sK (vSh V) x.toNat = 0 then 3 else 0) else 1) = (wnr V x : Int) := by unfold wnr; (repeat' split) <;> rfl
theorem XV.kinds {σ : St} {V : Vw} (hX : XV σ V) (hO : OKV V) : ∀ s, s < 8 → σ.1 (34 + 3 * s) 0 = (sK (vSh V) s : Int) ∧ sK (vSh V) s ≤ 2 := fun s hs => ⟨(hX.2.2.1 s hs).1, (hO.2.2.1 s hs).1⟩
theorem sh_row {σ : St} {V : Vw} (hX : XV σ V) (hO : OKV V) {s : Nat} (hs : s < 8) (hk : sK (vSh V) s = 1) : σ.1 (34 + 3 * s) 1 = (sO (vSh V) s : Int) ∧ σ.1 (34 + 3 * s) 2 = (sN (vSh V) s : Int) ∧ (∀ i, i < sN (vSh V) s → σ.2.2 (34 + 3 * s + 1) i = sE (vSh V) s i) ∧ sO (vSh V) s ≤ 3 ∧ sN (vSh V) s ≤ 160 := by
  obtain ⟨a1, a2, a3, a4⟩ := hX.2.2.1 s hs
  obtain ⟨b1, b2, b3⟩ := a3 hk
  have c := (hO.2.2.1 s hs).2.1 hk
  exact ⟨b1, b2, b3, c.1, c.2⟩
theorem np_le {V : Vw} (hO : OKV V) : vP V ≤ 18 := hO.2.2.2.1.1
theorem np_rd {σ : St} {V : Vw} (hX : XV σ V) : σ.1 76 9 = (vP V : Int) := hX.2.2.2.1.1
theorem nd_rd {σ : St} {V : Vw} (hX : XV σ V) {i : Nat} (hi : i < vP V) {j : Nat} (hj : j < 7) : σ.1 (58 + i) j = vD V i j := hX.2.2.2.1.2 i hi j hj
theorem nd_ok {V : Vw} (hO : OKV V) {i : Nat} (hi : i < vP V) : NOK (vD V i) := hO.2.2.2.1.2 i hi
set_option maxHeartbeats 4000000 in
set_option maxRecDepth 100000 in
theorem c_X9_row {κ : Kp} (hI : Ij κ) (l : Launch) (σ : St) {V : Vw} (hX : XV σ V) (hO : OKV V) {x so n : Int} (hx : R32 x) (hso : R32 so) (hn : R32 n) : CtI κ l 2 yX9_row cX9_row 4 .int [.ref (κ.2.1 76), .int (iZ x), .int (iZ so), .int (iZ n)] σ (fun z σ' => z = (aRow V x so n).1 ∧ XV σ' (aRow V x so n).2 ∧ Fr XC σ σ') := by
  refine Ct.ofG (own := RX9) hI (by decide +kernel) rfl (Nat.le_of_ble_eq_true rfl) rfl ?_
  intro M C hMl
  refine g_iload_n C dX9_row_0 rfl ?_
  refine g_bipush (z := 8) C dX9_row_1 rfl ?_
  refine gc_X9_80 C dX9_row_3 (c_X9_isBelow hI (Ml M) σ (x := x) (e := 8) (by unfold R32; omega) (by unfold R32; omega)) (by decide) (Nat.le_of_ble_eq_true rfl) (fun z σ1 ⟨hz, hσ⟩ => ?_)
  subst z
  subst σ1
  refine g_ifb_ne (tgt := 15) C dX9_row_6 (by decide) (fun h1 => ?_) (fun h1 => ?_)
  · refine g_iload_n C dX9_row_15 rfl ?_
    refine g_if_ge (tgt := 25) C dX9_row_16 (by decide) (by unfold R32; omega) (fun h2 => ?_) (fun h2 => ?_)
    · refine g_iload_n C dX9_row_25 rfl ?_
      refine g_pc (pc' := 26) rfl ?_
      refine g_iconst (z := 4) C dX9_row_26 rfl ?_
      refine gc_X9_80 C dX9_row_27 (c_X9_isBelow hI (Ml M) σ (x := so) (e := 4) (by unfold R32; omega) (by unfold R32; omega)) (by decide) (Nat.le_of_ble_eq_true rfl) (fun z σ1 ⟨hz, hσ⟩ => ?_)
      subst z
      subst σ1
      refine g_ifb_ne (tgt := 40) C dX9_row_30 (by decide) (fun h3 => ?_) (fun h3 => ?_)
      · refine g_iload_n C dX9_row_40 rfl ?_
        refine g_sipush (z := 160) C dX9_row_41 rfl ?_
        refine g_icmp_le (tgt := 54) C dX9_row_44 (by decide) (by unfold R32; omega) (fun h4 => ?_) (fun h4 => ?_)
        · refine g_aload_n C dX9_row_54 rfl ?_
          refine gf_X9_57 C dX9_row_55 rfl ?_
          refine g_pc (pc' := 58) rfl ?_
          refine g_iload_n C dX9_row_58 rfl ?_
          have hkz5 : kd (34 + 3 * x.toNat) = 4 := kd_shelf x.toNat (by omega)
          refine g_aald (n := x.toNat) (N := 8) (c := 25) (r := (34 + 3 * x.toNat)) C dX9_row_59 rfl (by decide) rfl (by decide) rfl (by omega) (by omega) (by decide) (rf_25 _ _ rfl) ?_
          refine g_iload_n C dX9_row_60 rfl ?_
          refine g_iload_n C dX9_row_61 rfl ?_
          refine gc_X9_88 C dX9_row_62 hkz5 (c_X4_becomeRow hI (Ml M) σ hkz5 so n) (by decide) (Nat.le_of_ble_eq_true rfl) (fun σ1 hσ => ?_)
          subst σ1
          refine g_iconst (z := 1) C dX9_row_65 rfl ?_
          exact g_ireturn C dX9_row_66 (by rw [show aRow V x so n = (1, vSet V (hset (vSh V) x.toNat 1 so.toNat n.toNat (fun _ => 0) (sD (vSh V) x.toNat))) by unfold aRow; (first | rw [if_pos (by omega)] | rw [if_neg (by omega), if_pos (by omega)] | rw [if_neg (by omega), if_neg (by omega), if_pos (by omega)] | rw [if_neg (by omega), if_neg (by omega), if_neg (by omega), if_pos (by omega)] | rw [if_neg (by omega), if_neg (by omega), if_neg (by omega), if_neg (by omega)])]; exact ⟨rfl, hX.row hO (by omega) (by omega) (by omega), sh3_C (by omega) shRow_fr⟩)
        · refine g_aload_n C dX9_row_47 rfl ?_
          refine g_pc (pc' := 48) rfl ?_
          refine g_bipush (z := 7) C dX9_row_48 rfl ?_
          refine gc_X9_84 C dX9_row_50 rfl (c_X9_refuse hI (Ml M) σ (y := 7) rfl (by omega)) (by decide) (Nat.le_of_ble_eq_true rfl) (fun z σ1 ⟨hz, hσ⟩ => ?_)
          subst z
          subst σ1
          exact g_ireturn C dX9_row_53 (by rw [show aRow V x so n = rfs 7 V by unfold aRow; (first | rw [if_pos (by omega)] | rw [if_neg (by omega), if_pos (by omega)] | rw [if_neg (by omega), if_neg (by omega), if_pos (by omega)] | rw [if_neg (by omega), if_neg (by omega), if_neg (by omega), if_pos (by omega)] | rw [if_neg (by omega), if_neg (by omega), if_neg (by omega), if_neg (by omega)])]; exact ⟨rfl, hX.ref hO (by omega), XC.ref⟩)
      · refine g_aload_n C dX9_row_33 rfl ?_
        refine g_bipush (z := 6) C dX9_row_34 rfl ?_
        refine gc_X9_84 C dX9_row_36 rfl (c_X9_refuse hI (Ml M) σ (y := 6) rfl (by omega)) (by decide) (Nat.le_of_ble_eq_true rfl) (fun z σ1 ⟨hz, hσ⟩ => ?_)
        subst z
        subst σ1
        exact g_ireturn C dX9_row_39 (by rw [show aRow V x so n = rfs 6 V by unfold aRow; (first | rw [if_pos (by omega)] | rw [if_neg (by omega), if_pos (by omega)] | rw [if_neg (by omega), if_neg (by omega), if_pos (by omega)] | rw [if_neg (by omega), if_neg (by omega), if_neg (by omega), if_pos (by omega)] | rw [if_neg (by omega), if_neg (by omega), if_neg (by omega), if_neg (by omega)])]; exact ⟨rfl, hX.ref hO (by omega), XC.ref⟩)
    · refine g_aload_n C dX9_row_19 rfl ?_
      refine g_pc (pc' := 20) rfl ?_
      refine g_iconst (z := 4) C dX9_row_20 rfl ?_
      refine gc_X9_84 C dX9_row_21 rfl (c_X9_refuse hI (Ml M) σ (y := 4) rfl (by omega)) (by decide) (Nat.le_of_ble_eq_true rfl) (fun z σ1 ⟨hz, hσ⟩ => ?_)
      subst z
      subst σ1
      exact g_ireturn C dX9_row_24 (by rw [show aRow V x so n = rfs 4 V by unfold aRow; (first | rw [if_pos (by omega)] | rw [if_neg (by omega), if_pos (by omega)] | rw [if_neg (by omega), if_neg (by omega), if_pos (by omega)] | rw [if_neg (by omega), if_neg (by omega), if_neg (by omega), if_pos (by omega)] | rw [if_neg (by omega), if_neg (by omega), if_neg (by omega), if_neg (by omega)])]; exact ⟨rfl, hX.ref hO (by omega), XC.ref⟩)
  · refine g_aload_n C dX9_row_9 rfl ?_
    refine g_iconst (z := 1) C dX9_row_10 rfl ?_
    refine gc_X9_84 C dX9_row_11 rfl (c_X9_refuse hI (Ml M) σ (y := 1) rfl (by omega)) (by decide) (Nat.le_of_ble_eq_true rfl) (fun z σ1 ⟨hz, hσ⟩ => ?_)
    subst z
    subst σ1
    exact g_ireturn C dX9_row_14 (by rw [show aRow V x so n = rfs 1 V by unfold aRow; (first | rw [if_pos (by omega)] | rw [if_neg (by omega), if_pos (by omega)] | rw [if_neg (by omega), if_neg (by omega), if_pos (by omega)] | rw [if_neg (by omega), if_neg (by omega), if_neg (by omega), if_pos (by omega)] | rw [if_neg (by omega), if_neg (by omega), if_neg (by omega), if_neg (by omega)])]; exact ⟨rfl, hX.ref hO (by omega), XC.ref⟩)
set_option maxHeartbeats 4000000 in
set_option maxRecDepth 100000 in
theorem c_X9_set {κ : Kp} (hI : Ij κ) (l : Launch) (σ : St) {V : Vw} (hX : XV σ V) (hO : OKV V) {x i : Int} {v : Int64} (hx : R32 x) (hi : R32 i) : CtI κ l 2 yX9_set cX9_set 6 .int [.ref (κ.2.1 76), .int (iZ x), .int (iZ i), .long v] σ (fun z σ' => z = (aSet V x i v).1 ∧ XV σ' (aSet V x i v).2 ∧ Fr XC σ σ') := by
  refine Ct.ofG (own := RX9) hI (by decide +kernel) rfl (Nat.le_of_ble_eq_true rfl) rfl ?_
  intro M C hMl
  refine g_aload_n C dX9_set_0 rfl ?_
  refine g_iload_n C dX9_set_1 rfl ?_
  refine gc_X9_92 C dX9_set_2 rfl (c_X9_whyNoRow hI (Ml M) σ (x := x) (kn := sK (vSh V)) hx (hX.kinds hO)) (by decide) (Nat.le_of_ble_eq_true rfl) (fun z σ1 ⟨hz, hσ⟩ => ?_)
  rw [wnr_int] at hz
  subst z
  subst σ1
  have hwn := wnr_le V x
  refine g_istore (L' := [(5, .int (iZ (wnr V x : Int))), (0, .ref (κ.2.1 76)), (1, .int (iZ x)), (2, .int (iZ i)), (3, .long v)]) C dX9_set_5 (by decide) rfl ?_
  refine g_iload C dX9_set_7 rfl ?_
  refine g_if_eq (tgt := 19) C dX9_set_9 (by decide) (by unfold R32; omega) (fun h1 => ?_) (fun h1 => ?_)
  · have hxk := wnr_0 (V := V) (x := x) hO (by omega)
    have hrw := sh_row hX hO (s := x.toNat) (by omega) hxk.2
    refine g_iload_n C dX9_set_19 rfl ?_
    refine g_pc (pc' := 20) rfl ?_
    refine g_aload_n C dX9_set_20 rfl ?_
    refine gf_X9_57 C dX9_set_21 rfl ?_
    refine g_iload_n C dX9_set_24 rfl ?_
    have hkz2 : kd (34 + 3 * x.toNat) = 4 := kd_shelf x.toNat (by omega)
    refine g_aald (n := x.toNat) (N := 8) (c := 25) (r := (34 + 3 * x.toNat)) C dX9_set_25 rfl (by decide) rfl (by decide) rfl (by omega) (by omega) (by decide) (rf_25 _ _ rfl) ?_
    refine gf_X9_95 (z := (sN (vSh V) x.toNat : Int)) C dX9_set_26 hkz2 hrw.2.1 ?_
    refine gc_X9_80 C dX9_set_29 (c_X9_isBelow hI (Ml M) σ (x := i) (e := (sN (vSh V) x.toNat : Int)) (by unfold R32; omega) (by unfold R32; omega)) (by decide) (Nat.le_of_ble_eq_true rfl) (fun z σ1 ⟨hz, hσ⟩ => ?_)
    subst z
    subst σ1
    refine g_ifb_ne (tgt := 41) C dX9_set_32 (by decide) (fun h3 => ?_) (fun h3 => ?_)
    · refine g_aload_n C dX9_set_41 rfl ?_
      refine g_pc (pc' := 42) rfl ?_
      refine gf_X9_57 C dX9_set_42 rfl ?_
      refine g_iload_n C dX9_set_45 rfl ?_
      have hkz4 : kd (34 + 3 * x.toNat) = 4 := kd_shelf x.toNat (by omega)
      refine g_aald (n := x.toNat) (N := 8) (c := 25) (r := (34 + 3 * x.toNat)) C dX9_set_46 rfl (by decide) rfl (by decide) rfl (by omega) (by omega) (by decide) (rf_25 _ _ rfl) ?_
      refine g_iload_n C dX9_set_47 rfl ?_
      refine g_lload_n C dX9_set_48 rfl ?_
      refine gc_X9_98 C dX9_set_49 hkz4 (c_X4_keep hI (Ml M) σ hkz4 hrw.1 (by omega) (i := i.toNat) (by omega) (by omega)) (by decide) (Nat.le_of_ble_eq_true rfl) (fun σ1 hσ => ?_)
      subst σ1
      refine g_iconst (z := 1) C dX9_set_52 rfl ?_
      exact g_ireturn C dX9_set_53 (by rw [show aSet V x i v = (1, vSet V (hset (vSh V) x.toNat 1 (sO (vSh V) x.toNat) (sN (vSh V) x.toNat) (fun q => if q = i.toNat then lowb (sO (vSh V) x.toNat : Int) v else sE (vSh V) x.toNat q) (sD (vSh V) x.toNat))) by unfold aSet; (first | rw [if_pos (by omega)] | rw [if_neg (by omega), if_pos (by omega)] | rw [if_neg (by omega), if_neg (by omega)])]; exact ⟨rfl, hX.keep hO (by omega) hxk.2, Fr.rf.sL (by unfold XC; omega)⟩)
    · refine g_pc (pc' := 35) rfl ?_
      refine g_aload_n C dX9_set_35 rfl ?_
      refine g_iconst (z := 5) C dX9_set_36 rfl ?_
      refine gc_X9_84 C dX9_set_37 rfl (c_X9_refuse hI (Ml M) σ (y := 5) rfl (by omega)) (by decide) (Nat.le_of_ble_eq_true rfl) (fun z σ1 ⟨hz, hσ⟩ => ?_)
      subst z
      subst σ1
      exact g_ireturn C dX9_set_40 (by rw [show aSet V x i v = rfs 5 V by unfold aSet; (first | rw [if_pos (by omega)] | rw [if_neg (by omega), if_pos (by omega)] | rw [if_neg (by omega), if_neg (by omega)])]; exact ⟨rfl, hX.ref hO (by omega), XC.ref⟩)
  · refine g_aload_n C dX9_set_12 rfl ?_
    refine g_iload C dX9_set_13 rfl ?_
    refine gc_X9_84 C dX9_set_15 rfl (c_X9_refuse hI (Ml M) σ (y := (wnr V x)) rfl (by omega)) (by decide) (Nat.le_of_ble_eq_true rfl) (fun z σ1 ⟨hz, hσ⟩ => ?_)
    subst z
    subst σ1
    exact g_ireturn C dX9_set_18 (by rw [show aSet V x i v = rfs (wnr V x) V by unfold aSet; (first | rw [if_pos (by omega)] | rw [if_neg (by omega), if_pos (by omega)] | rw [if_neg (by omega), if_neg (by omega)])]; exact ⟨rfl, hX.ref hO (by omega), XC.ref⟩)
set_option maxHeartbeats 4000000 in
set_option maxRecDepth 100000 in
theorem c_X9_element {κ : Kp} (hI : Ij κ) (l : Launch) (σ : St) {V : Vw} (hX : XV σ V) (hO : OKV V) {x i : Int} (hx : R32 x) (hi : R32 i) : CtJ κ l 2 yX9_element cX9_element 3 [.ref (κ.2.1 76), .int (iZ x), .int (iZ i)] σ (fun z σ' => z = aElement V x i ∧ XV σ' V ∧ Fr XC σ σ') := by
  refine Ct.ofG (own := RX9) hI (by decide +kernel) rfl (Nat.le_of_ble_eq_true rfl) rfl ?_
  intro M C hMl
  refine g_iload_n C dX9_element_0 rfl ?_
  refine g_bipush (z := 8) C dX9_element_1 rfl ?_
  refine gc_X9_80 C dX9_element_3 (c_X9_isBelow hI (Ml M) σ (x := x) (e := 8) (by unfold R32; omega) (by unfold R32; omega)) (by decide) (Nat.le_of_ble_eq_true rfl) (fun z σ1 ⟨hz, hσ⟩ => ?_)
  subst z
  subst σ1
  refine g_ifb_eq (tgt := 38) C dX9_element_6 (by decide) (fun h1 => ?_) (fun h1 => ?_)
  · refine g_lconst0 C dX9_element_38 ?_
    exact g_lreturn C dX9_element_39 ⟨by unfold aElement; rw [if_neg (by omega)], hX, Fr.rf⟩
  · have hk2 := (hX.kinds hO x.toNat (by omega)).2
    refine g_aload_n C dX9_element_9 rfl ?_
    refine g_pc (pc' := 10) rfl ?_
    refine gf_X9_57 C dX9_element_10 rfl ?_
    refine g_iload_n C dX9_element_13 rfl ?_
    have hkz2 : kd (34 + 3 * x.toNat) = 4 := kd_shelf x.toNat (by omega)
    refine g_aald (n := x.toNat) (N := 8) (c := 25) (r := (34 + 3 * x.toNat)) C dX9_element_14 rfl (by decide) rfl (by decide) rfl (by omega) (by omega) (by decide) (rf_25 _ _ rfl) ?_
    refine gf_X9_102 (z := (sK (vSh V) x.toNat : Int)) C dX9_element_15 hkz2 ((hX.2.2.1 x.toNat (by omega)).1) ?_
    refine g_iconst (z := 1) C dX9_element_18 rfl ?_
    refine g_icmp_ne (tgt := 38) C dX9_element_19 (by decide) (by unfold R32; omega) (fun h3 => ?_) (fun h3 => ?_)
    · refine g_lconst0 C dX9_element_38 ?_
      exact g_lreturn C dX9_element_39 ⟨by unfold aElement; rw [if_neg (by omega)], hX, Fr.rf⟩
    · have hrw := sh_row hX hO (s := x.toNat) (by omega) (by omega)
      refine g_pc (pc' := 22) rfl ?_
      refine g_iload_n C dX9_element_22 rfl ?_
      refine g_aload_n C dX9_element_23 rfl ?_
      refine gf_X9_57 C dX9_element_24 rfl ?_
      refine g_iload_n C dX9_element_27 rfl ?_
      have hkz4 : kd (34 + 3 * x.toNat) = 4 := kd_shelf x.toNat (by omega)
      refine g_aald (n := x.toNat) (N := 8) (c := 25) (r := (34 + 3 * x.toNat)) C dX9_element_28 rfl (by decide) rfl (by decide) rfl (by omega) (by omega) (by decide) (rf_25 _ _ rfl) ?_
      refine gf_X9_95 (z := (sN (vSh V) x.toNat : Int)) C dX9_element_29 hkz4 hrw.2.1 ?_
      refine gc_X9_80 C dX9_element_32 (c_X9_isBelow hI (Ml M) σ (x := i) (e := (sN (vSh V) x.toNat : Int)) (by unfold R32; omega) (by unfold R32; omega)) (by decide) (Nat.le_of_ble_eq_true rfl) (fun z σ1 ⟨hz, hσ⟩ => ?_)
      subst z
      subst σ1
      refine g_ifb_ne (tgt := 40) C dX9_element_35 (by decide) (fun h5 => ?_) (fun h5 => ?_)
      · refine g_pc (pc' := 40) rfl ?_
        refine g_aload_n C dX9_element_40 rfl ?_
        refine gf_X9_57 C dX9_element_41 rfl ?_
        refine g_iload_n C dX9_element_44 rfl ?_
        have hkz6 : kd (34 + 3 * x.toNat) = 4 := kd_shelf x.toNat (by omega)
        refine g_aald (n := x.toNat) (N := 8) (c := 25) (r := (34 + 3 * x.toNat)) C dX9_element_45 rfl (by decide) rfl (by decide) rfl (by omega) (by omega) (by decide) (rf_25 _ _ rfl) ?_
        refine gf_X9_113 C dX9_element_46 hkz6 ?_
        refine g_iload_n C dX9_element_49 rfl ?_
        refine g_laz (n := i.toNat) (N := 160) (v := (sE (vSh V) x.toNat i.toNat)) C dX9_element_50 (kd4 hkz6).1 (kd4 hkz6).2.1 (by omega) (by omega) (by decide) (hrw.2.2.1 i.toNat (by omega)) ?_
        exact g_lreturn C dX9_element_51 ⟨by unfold aElement; rw [if_pos (by omega)], hX, Fr.rf⟩
      · refine g_pc (pc' := 38) rfl ?_
        refine g_lconst0 C dX9_element_38 ?_
        exact g_lreturn C dX9_element_39 ⟨by unfold aElement; rw [if_neg (by omega)], hX, Fr.rf⟩
set_option maxHeartbeats 4000000 in
set_option maxRecDepth 100000 in
theorem c_X9_show {κ : Kp} (hI : Ij κ) (l : Launch) (σ : St) {V : Vw} (hX : XV σ V) (hO : OKV V) {x nd : Int} (hx : R32 x) (hn : R32 nd) : CtI κ l 2 yX9_show cX9_show 3 .int [.ref (κ.2.1 76), .int (iZ x), .int (iZ nd)] σ (fun z σ' => z = (aShow V x nd).1 ∧ XV σ' (aShow V x nd).2 ∧ Fr XC σ σ') := by
  refine Ct.ofG (own := RX9) hI (by decide +kernel) rfl (Nat.le_of_ble_eq_true rfl) rfl ?_
  intro M C hMl
  refine g_iload_n C dX9_show_0 rfl ?_
  refine g_bipush (z := 8) C dX9_show_1 rfl ?_
  refine gc_X9_80 C dX9_show_3 (c_X9_isBelow hI (Ml M) σ (x := x) (e := 8) (by unfold R32; omega) (by unfold R32; omega)) (by decide) (Nat.le_of_ble_eq_true rfl) (fun z σ1 ⟨hz, hσ⟩ => ?_)
  subst z
  subst σ1
  refine g_ifb_eq (tgt := 22) C dX9_show_6 (by decide) (fun h1 => ?_) (fun h1 => ?_)
  · refine g_aload_n C dX9_show_22 rfl ?_
    refine g_iconst (z := 1) C dX9_show_23 rfl ?_
    refine gc_X9_84 C dX9_show_24 rfl (c_X9_refuse hI (Ml M) σ (y := 1) rfl (by omega)) (by decide) (Nat.le_of_ble_eq_true rfl) (fun z σ1 ⟨hz, hσ⟩ => ?_)
    subst z
    subst σ1
    refine g_pc (pc' := 27) rfl ?_
    exact g_ireturn C dX9_show_27 (by first | (exfalso; omega) | (rw [show aShow V x nd = rfs 1 V by unfold aShow; (first | rw [if_pos (by omega)] | rw [if_neg (by omega), if_pos (by omega)] | rw [if_neg (by omega), if_neg (by omega)])]; exact ⟨rfl, hX.ref hO (by omega), XC.ref⟩))
  · refine g_iload_n C dX9_show_9 rfl ?_
    refine g_iconst (z := (-1)) C dX9_show_10 rfl ?_
    refine g_icmp_eq (tgt := 28) C dX9_show_11 (by decide) (by unfold R32; omega) (fun h2 => ?_) (fun h2 => ?_)
    · refine g_iload_n C dX9_show_28 rfl ?_
      refine g_iconst (z := (-1)) C dX9_show_29 rfl ?_
      refine g_icmp_ne (tgt := 45) C dX9_show_30 (by decide) (by unfold R32; omega) (fun h3 => ?_) (fun h3 => ?_)
      · have hnp := np_le hO
        refine g_aload_n C dX9_show_45 rfl ?_
        refine g_pc (pc' := 46) rfl ?_
        refine gf_X9_57 C dX9_show_46 rfl ?_
        refine g_iload_n C dX9_show_49 rfl ?_
        have hkz4 : kd (34 + 3 * x.toNat) = 4 := kd_shelf x.toNat (by omega)
        refine g_aald (n := x.toNat) (N := 8) (c := 25) (r := (34 + 3 * x.toNat)) C dX9_show_50 rfl (by decide) rfl (by decide) rfl (by omega) (by omega) (by decide) (rf_25 _ _ rfl) ?_
        refine g_aload_n C dX9_show_51 rfl ?_
        refine gf_X9_63 C dX9_show_52 rfl ?_
        refine g_iload_n C dX9_show_55 rfl ?_
        have hkz5 : kd (58 + nd.toNat) = 2 := kd_node nd.toNat (by omega)
        refine g_aald (n := nd.toNat) (N := 18) (c := 24) (r := (58 + nd.toNat)) C dX9_show_56 rfl (by decide) rfl (by decide) rfl (by omega) (by omega) (by decide) (rf_24 _ _ rfl) ?_
        have hnp := np_le hO
        refine gc_X9_127 C dX9_show_57 hkz4 (c_X4_becomeNode hI (Ml M) σ hkz4 hkz5 (by omega)) (by decide) (Nat.le_of_ble_eq_true rfl) (fun σ1 hσ => ?_)
        subst σ1
        refine g_pc (pc' := 60) rfl ?_
        refine g_iconst (z := 1) C dX9_show_60 rfl ?_
        exact g_ireturn C dX9_show_61 (by first | (exfalso; omega) | (rw [show aShow V x nd = (1, vSet V (hset (vSh V) x.toNat 2 0 0 (fun _ => 0) (vD V nd.toNat))) by unfold aShow; (first | rw [if_pos (by omega)] | rw [if_neg (by omega), if_pos (by omega)] | rw [if_neg (by omega), if_neg (by omega)])]; exact ⟨rfl, hX.node hO (by omega) (by omega), (Fr.rf.sI (by unfold XC; omega)).nBec (by unfold XC; omega)⟩))
      · refine g_aload_n C dX9_show_33 rfl ?_
        refine gf_X9_57 C dX9_show_34 rfl ?_
        refine g_iload_n C dX9_show_37 rfl ?_
        have hkz6 : kd (34 + 3 * x.toNat) = 4 := kd_shelf x.toNat (by omega)
        refine g_aald (n := x.toNat) (N := 8) (c := 25) (r := (34 + 3 * x.toNat)) C dX9_show_38 rfl (by decide) rfl (by decide) rfl (by omega) (by omega) (by decide) (rf_25 _ _ rfl) ?_
        refine g_iconst (z := 0) C dX9_show_39 rfl ?_
        refine gp_X9_102 C dX9_show_40 hkz6 ?_
        refine g_pc (pc' := 43) rfl ?_
        refine g_iconst (z := 0) C dX9_show_43 rfl ?_
        exact g_ireturn C dX9_show_44 (by first | (exfalso; omega) | (rw [show aShow V x nd = (0, vSet V (hset (vSh V) x.toNat 0 0 0 (fun _ => 0) (fun _ => 0))) by unfold aShow; (first | rw [if_pos (by omega)] | rw [if_neg (by omega), if_pos (by omega)] | rw [if_neg (by omega), if_neg (by omega)])]; exact ⟨rfl, hX.none hO (by omega), Fr.rf.sI (by unfold XC; omega)⟩))
    · refine g_aload_n C dX9_show_14 rfl ?_
      refine g_iload_n C dX9_show_15 rfl ?_
      refine gc_X9_123 C dX9_show_16 rfl (c_X9_isNode hI (Ml M) σ (x := nd) (np := vP V) (by assumption) (np_rd hX) (np_le hO)) (by decide) (Nat.le_of_ble_eq_true rfl) (fun z σ1 ⟨hz, hσ⟩ => ?_)
      subst z
      subst σ1
      refine g_ifb_ne (tgt := 28) C dX9_show_19 (by decide) (fun h7 => ?_) (fun h7 => ?_)
      · refine g_iload_n C dX9_show_28 rfl ?_
        refine g_iconst (z := (-1)) C dX9_show_29 rfl ?_
        refine g_pc (pc' := 30) rfl ?_
        refine g_icmp_ne (tgt := 45) C dX9_show_30 (by decide) (by unfold R32; omega) (fun h8 => ?_) (fun h8 => ?_)
        · have hnp := np_le hO
          refine g_aload_n C dX9_show_45 rfl ?_
          refine gf_X9_57 C dX9_show_46 rfl ?_
          refine g_iload_n C dX9_show_49 rfl ?_
          have hkz9 : kd (34 + 3 * x.toNat) = 4 := kd_shelf x.toNat (by omega)
          refine g_aald (n := x.toNat) (N := 8) (c := 25) (r := (34 + 3 * x.toNat)) C dX9_show_50 rfl (by decide) rfl (by decide) rfl (by omega) (by omega) (by decide) (rf_25 _ _ rfl) ?_
          refine g_aload_n C dX9_show_51 rfl ?_
          refine gf_X9_63 C dX9_show_52 rfl ?_
          refine g_iload_n C dX9_show_55 rfl ?_
          refine g_pc (pc' := 56) rfl ?_
          have hkz10 : kd (58 + nd.toNat) = 2 := kd_node nd.toNat (by omega)
          refine g_aald (n := nd.toNat) (N := 18) (c := 24) (r := (58 + nd.toNat)) C dX9_show_56 rfl (by decide) rfl (by decide) rfl (by omega) (by omega) (by decide) (rf_24 _ _ rfl) ?_
          have hnp := np_le hO
          refine gc_X9_127 C dX9_show_57 hkz9 (c_X4_becomeNode hI (Ml M) σ hkz9 hkz10 (by omega)) (by decide) (Nat.le_of_ble_eq_true rfl) (fun σ1 hσ => ?_)
          subst σ1
          refine g_iconst (z := 1) C dX9_show_60 rfl ?_
          exact g_ireturn C dX9_show_61 (by first | (exfalso; omega) | (rw [show aShow V x nd = (1, vSet V (hset (vSh V) x.toNat 2 0 0 (fun _ => 0) (vD V nd.toNat))) by unfold aShow; (first | rw [if_pos (by omega)] | rw [if_neg (by omega), if_pos (by omega)] | rw [if_neg (by omega), if_neg (by omega)])]; exact ⟨rfl, hX.node hO (by omega) (by omega), (Fr.rf.sI (by unfold XC; omega)).nBec (by unfold XC; omega)⟩))
        · refine g_aload_n C dX9_show_33 rfl ?_
          refine gf_X9_57 C dX9_show_34 rfl ?_
          refine g_iload_n C dX9_show_37 rfl ?_
          have hkz11 : kd (34 + 3 * x.toNat) = 4 := kd_shelf x.toNat (by omega)
          refine g_aald (n := x.toNat) (N := 8) (c := 25) (r := (34 + 3 * x.toNat)) C dX9_show_38 rfl (by decide) rfl (by decide) rfl (by omega) (by omega) (by decide) (rf_25 _ _ rfl) ?_
          refine g_pc (pc' := 39) rfl ?_
          refine g_iconst (z := 0) C dX9_show_39 rfl ?_
          refine gp_X9_102 C dX9_show_40 hkz11 ?_
          refine g_iconst (z := 0) C dX9_show_43 rfl ?_
          exact g_ireturn C dX9_show_44 (by first | (exfalso; omega) | (rw [show aShow V x nd = (0, vSet V (hset (vSh V) x.toNat 0 0 0 (fun _ => 0) (fun _ => 0))) by unfold aShow; (first | rw [if_pos (by omega)] | rw [if_neg (by omega), if_pos (by omega)] | rw [if_neg (by omega), if_neg (by omega)])]; exact ⟨rfl, hX.none hO (by omega), Fr.rf.sI (by unfold XC; omega)⟩))
      · refine g_aload_n C dX9_show_22 rfl ?_
        refine g_iconst (z := 1) C dX9_show_23 rfl ?_
        refine gc_X9_84 C dX9_show_24 rfl (c_X9_refuse hI (Ml M) σ (y := 1) rfl (by omega)) (by decide) (Nat.le_of_ble_eq_true rfl) (fun z σ1 ⟨hz, hσ⟩ => ?_)
        subst z
        subst σ1
        exact g_ireturn C dX9_show_27 (by first | (exfalso; omega) | (rw [show aShow V x nd = rfs 1 V by unfold aShow; (first | rw [if_pos (by omega)] | rw [if_neg (by omega), if_pos (by omega)] | rw [if_neg (by omega), if_neg (by omega)])]; exact ⟨rfl, hX.ref hO (by omega), XC.ref⟩))
set_option maxHeartbeats 4000000 in
set_option maxRecDepth 100000 in
theorem c_X9_holds {κ : Kp} (hI : Ij κ) (l : Launch) (σ : St) {V : Vw} (hX : XV σ V) (hO : OKV V) {x : Int} (hx : R32 x) : CtI κ l 2 yX9_holds cX9_holds 2 .int [.ref (κ.2.1 76), .int (iZ x)] σ (fun z σ' => z = aHolds V x ∧ XV σ' V ∧ Fr XC σ σ') := by
  refine Ct.ofG (own := RX9) hI (by decide +kernel) rfl (Nat.le_of_ble_eq_true rfl) rfl ?_
  intro M C hMl
  refine g_iload_n C dX9_holds_0 rfl ?_
  refine g_bipush (z := 8) C dX9_holds_1 rfl ?_
  refine gc_X9_80 C dX9_holds_3 (c_X9_isBelow hI (Ml M) σ (x := x) (e := 8) (by unfold R32; omega) (by unfold R32; omega)) (by decide) (Nat.le_of_ble_eq_true rfl) (fun z σ1 ⟨hz, hσ⟩ => ?_)
  subst z
  subst σ1
  refine g_ifb_ne (tgt := 11) C dX9_holds_6 (by decide) (fun h1 => ?_) (fun h1 => ?_)
  · refine g_aload_n C dX9_holds_11 rfl ?_
    refine gf_X9_57 C dX9_holds_12 rfl ?_
    refine g_iload_n C dX9_holds_15 rfl ?_
    refine g_pc (pc' := 16) rfl ?_
    have hkz2 : kd (34 + 3 * x.toNat) = 4 := kd_shelf x.toNat (by omega)
    refine g_aald (n := x.toNat) (N := 8) (c := 25) (r := (34 + 3 * x.toNat)) C dX9_holds_16 rfl (by decide) rfl (by decide) rfl (by omega) (by omega) (by decide) (rf_25 _ _ rfl) ?_
    have hk2 := (hX.kinds hO x.toNat (by omega)).2
    refine gc_X9_131 C dX9_holds_17 hkz2 (c_X4_told hI (Ml M) σ hkz2 (hX.2.2.1 x.toNat (by omega)).1 (by omega) rfl rfl) (by decide) (Nat.le_of_ble_eq_true rfl) (fun z σ1 ⟨hz, hσ⟩ => ?_)
    subst σ1
    exact g_ireturn C dX9_holds_20 ⟨by
        unfold aHolds
        rw [hz, if_neg (show ¬ ¬ (0 ≤ x ∧ x < 8) from by omega)]
        by_cases e0 : sK (vSh V) x.toNat = 0
        · rw [if_pos (by omega), if_pos e0]
        · by_cases e1 : sK (vSh V) x.toNat = 1
          · rw [if_neg (by omega), if_pos (by omega), if_neg e0, if_pos e1, (sh_row hX hO (s := x.toNat) (by omega) e1).1]
          · rw [if_neg (by omega), if_neg (by omega), if_neg e0, if_neg e1, (hX.2.2.1 x.toNat (by omega)).2.2.2 (by omega) 0 (by decide)], hX, Fr.rf⟩
  · refine g_iconst (z := (-1)) C dX9_holds_9 rfl ?_
    exact g_ireturn C dX9_holds_10 ⟨by unfold aHolds; rw [if_pos (by omega)], hX, Fr.rf⟩
theorem XV.snd {σ : St} {V : Vw} (hX : XV σ V) {s : Nat} (hs : s < 8) (hk : sK (vSh V) s = 2) : ∀ j, j < 7 → σ.1 (34 + 3 * s + 2) j = sD (vSh V) s j := (hX.2.2.1 s hs).2.2.2 hk
set_option maxHeartbeats 4000000 in
set_option maxRecDepth 100000 in
theorem c_X9_says {κ : Kp} (hI : Ij κ) (l : Launch) (σ : St) {V : Vw} (hX : XV σ V) (hO : OKV V) {x a : Int} (hx : R32 x) (ha : R32 a) : CtI κ l 2 yX9_says cX9_says 4 .int [.ref (κ.2.1 76), .int (iZ x), .int (iZ a)] σ (fun z σ' => z = (aSays V x a).1 ∧ XV σ' (aSays V x a).2 ∧ Fr XC σ σ') := by
  refine Ct.ofG (own := RX9) hI (by decide +kernel) rfl (Nat.le_of_ble_eq_true rfl) rfl ?_
  intro M C hMl
  refine g_iload_n C dX9_says_0 rfl ?_
  refine g_bipush (z := 8) C dX9_says_1 rfl ?_
  refine gc_X9_80 C dX9_says_3 (c_X9_isBelow hI (Ml M) σ (x := x) (e := 8) (by unfold R32; omega) (by unfold R32; omega)) (by decide) (Nat.le_of_ble_eq_true rfl) (fun z σ1 ⟨hz, hσ⟩ => ?_)
  subst z
  subst σ1
  refine g_ifb_eq (tgt := 17) C dX9_says_6 (by decide) (fun h1 => ?_) (fun h1 => ?_)
  · refine g_aload_n C dX9_says_17 rfl ?_
    refine g_iconst (z := 1) C dX9_says_18 rfl ?_
    refine gc_X9_84 C dX9_says_19 rfl (c_X9_refuse hI (Ml M) σ (y := 1) rfl (by omega)) (by decide) (Nat.le_of_ble_eq_true rfl) (fun z σ1 ⟨hz, hσ⟩ => ?_)
    subst z
    subst σ1
    refine g_pc (pc' := 22) rfl ?_
    exact g_ireturn C dX9_says_22 (by rw [show aSays V x a = rfs 1 V by unfold aSays; (first | rw [if_pos (by omega)] | rw [if_neg (by omega), if_pos (by omega)] | rw [if_neg (by omega), if_neg (by omega), if_pos (by omega)] | rw [if_neg (by omega), if_neg (by omega), if_neg (by omega), if_pos (by omega)] | rw [if_neg (by omega), if_neg (by omega), if_neg (by omega), if_neg (by omega)])]; exact ⟨rfl, hX.ref hO (by omega), XC.ref⟩)
  · refine g_iload_n C dX9_says_9 rfl ?_
    refine g_iconst (z := 5) C dX9_says_10 rfl ?_
    refine gc_X9_80 C dX9_says_11 (c_X9_isBelow hI (Ml M) σ (x := a) (e := 5) (by unfold R32; omega) (by unfold R32; omega)) (by decide) (Nat.le_of_ble_eq_true rfl) (fun z σ1 ⟨hz, hσ⟩ => ?_)
    subst z
    subst σ1
    refine g_ifb_ne (tgt := 23) C dX9_says_14 (by decide) (fun h2 => ?_) (fun h2 => ?_)
    · have hk2 := (hX.kinds hO x.toNat (by omega)).2
      refine g_aload_n C dX9_says_23 rfl ?_
      refine gf_X9_57 C dX9_says_24 rfl ?_
      refine g_iload_n C dX9_says_27 rfl ?_
      refine g_pc (pc' := 28) rfl ?_
      have hkz3 : kd (34 + 3 * x.toNat) = 4 := kd_shelf x.toNat (by omega)
      refine g_aald (n := x.toNat) (N := 8) (c := 25) (r := (34 + 3 * x.toNat)) C dX9_says_28 rfl (by decide) rfl (by decide) rfl (by omega) (by omega) (by decide) (rf_25 _ _ rfl) ?_
      refine g_astore_n (L' := [(3, .ref (κ.2.1 (34 + 3 * x.toNat))), (0, .ref (κ.2.1 76)), (1, .int (iZ x)), (2, .int (iZ a))]) C dX9_says_29 rfl (by decide) rfl ?_
      refine g_aload_n C dX9_says_30 rfl ?_
      refine gf_X9_102 (z := (sK (vSh V) x.toNat : Int)) C dX9_says_31 hkz3 ((hX.2.2.1 x.toNat (by omega)).1) ?_
      refine g_iconst (z := 1) C dX9_says_34 rfl ?_
      refine g_icmp_ne (tgt := 44) C dX9_says_35 (by decide) (by unfold R32; omega) (fun h4 => ?_) (fun h4 => ?_)
      · refine g_aload_n C dX9_says_44 rfl ?_
        refine gf_X9_102 (z := (sK (vSh V) x.toNat : Int)) C dX9_says_45 hkz3 ((hX.2.2.1 x.toNat (by omega)).1) ?_
        refine g_pc (pc' := 48) rfl ?_
        refine g_if_ne (tgt := 57) C dX9_says_48 (by decide) (by unfold R32; omega) (fun h5 => ?_) (fun h5 => ?_)
        · refine g_aload_n C dX9_says_57 rfl ?_
          refine gf_X9_135 C dX9_says_58 hkz3 ?_
          refine g_iload_n C dX9_says_61 rfl ?_
          have hnd := hX.snd (s := x.toNat) (by omega) (by omega)
          have hnk := (hO.2.2.1 x.toNat (by omega)).2.2 (by omega)
          refine gc_X9_139 C dX9_says_62 (kd4 hkz3).2.2 (c_X2_speaks hI (Ml M) σ (kd4 hkz3).2.2 (hnd 0 (by decide)) hnk.1 (by omega)) (by decide) (Nat.le_of_ble_eq_true rfl) (fun z σ1 ⟨hz01, hz, hσ⟩ => ?_)
          subst σ1
          unfold spk at hz
          refine g_if_ne (tgt := 74) C dX9_says_65 (by decide) (by unfold R32; omega) (fun h6 => ?_) (fun h6 => ?_)
          · refine g_aload_n C dX9_says_74 rfl ?_
            refine gf_X9_135 C dX9_says_75 hkz3 ?_
            refine g_pc (pc' := 78) rfl ?_
            refine g_iload_n C dX9_says_78 rfl ?_
            refine gc_X9_142 C dX9_says_79 (kd4 hkz3).2.2 (c_X2_speech hI (Ml M) σ (kd4 hkz3).2.2 (T := (sD (vSh V) x.toNat 1).toNat) (by rw [hnd 1 (by decide)]; have := hnk.2.1; omega) (by have := hnk.2.1; omega) (by omega)) (by decide) (Nat.le_of_ble_eq_true rfl) (fun z2 σ1 ⟨hz2, hσ⟩ => ?_)
            subst σ1
            rw [hnd 3 (by decide), hnd 4 (by decide), hnd 5 (by decide), hnd 2 (by decide)] at hz2
            exact g_ireturn C dX9_says_82 ⟨by unfold aSays; rw [if_neg (by omega), if_neg (by omega), if_neg (by omega), if_neg (by omega)]; exact hz2, by unfold aSays; rw [if_neg (by omega), if_neg (by omega), if_neg (by omega), if_neg (by omega)]; exact hX, Fr.rf⟩
          · refine g_aload_n C dX9_says_68 rfl ?_
            refine g_iconst (z := 2) C dX9_says_69 rfl ?_
            refine gc_X9_84 C dX9_says_70 rfl (c_X9_refuse hI (Ml M) σ (y := 2) rfl (by omega)) (by decide) (Nat.le_of_ble_eq_true rfl) (fun z σ1 ⟨hz, hσ⟩ => ?_)
            subst z
            subst σ1
            exact g_ireturn C dX9_says_73 (by rw [show aSays V x a = rfs 2 V by unfold aSays; (first | rw [if_pos (by omega)] | rw [if_neg (by omega), if_pos (by omega)] | rw [if_neg (by omega), if_neg (by omega), if_pos (by omega)] | rw [if_neg (by omega), if_neg (by omega), if_neg (by omega), if_pos (by omega)] | rw [if_neg (by omega), if_neg (by omega), if_neg (by omega), if_neg (by omega)])]; exact ⟨rfl, hX.ref hO (by omega), XC.ref⟩)
        · refine g_aload_n C dX9_says_51 rfl ?_
          refine g_pc (pc' := 52) rfl ?_
          refine g_iconst (z := 3) C dX9_says_52 rfl ?_
          refine gc_X9_84 C dX9_says_53 rfl (c_X9_refuse hI (Ml M) σ (y := 3) rfl (by omega)) (by decide) (Nat.le_of_ble_eq_true rfl) (fun z σ1 ⟨hz, hσ⟩ => ?_)
          subst z
          subst σ1
          exact g_ireturn C dX9_says_56 (by rw [show aSays V x a = rfs 3 V by unfold aSays; (first | rw [if_pos (by omega)] | rw [if_neg (by omega), if_pos (by omega)] | rw [if_neg (by omega), if_neg (by omega), if_pos (by omega)] | rw [if_neg (by omega), if_neg (by omega), if_neg (by omega), if_pos (by omega)] | rw [if_neg (by omega), if_neg (by omega), if_neg (by omega), if_neg (by omega)])]; exact ⟨rfl, hX.ref hO (by omega), XC.ref⟩)
      · refine g_aload_n C dX9_says_38 rfl ?_
        refine g_iconst (z := 2) C dX9_says_39 rfl ?_
        refine gc_X9_84 C dX9_says_40 rfl (c_X9_refuse hI (Ml M) σ (y := 2) rfl (by omega)) (by decide) (Nat.le_of_ble_eq_true rfl) (fun z σ1 ⟨hz, hσ⟩ => ?_)
        subst z
        subst σ1
        exact g_ireturn C dX9_says_43 (by rw [show aSays V x a = rfs 2 V by unfold aSays; (first | rw [if_pos (by omega)] | rw [if_neg (by omega), if_pos (by omega)] | rw [if_neg (by omega), if_neg (by omega), if_pos (by omega)] | rw [if_neg (by omega), if_neg (by omega), if_neg (by omega), if_pos (by omega)] | rw [if_neg (by omega), if_neg (by omega), if_neg (by omega), if_neg (by omega)])]; exact ⟨rfl, hX.ref hO (by omega), XC.ref⟩)
    · refine g_aload_n C dX9_says_17 rfl ?_
      refine g_pc (pc' := 18) rfl ?_
      refine g_iconst (z := 1) C dX9_says_18 rfl ?_
      refine gc_X9_84 C dX9_says_19 rfl (c_X9_refuse hI (Ml M) σ (y := 1) rfl (by omega)) (by decide) (Nat.le_of_ble_eq_true rfl) (fun z σ1 ⟨hz, hσ⟩ => ?_)
      subst z
      subst σ1
      exact g_ireturn C dX9_says_22 (by rw [show aSays V x a = rfs 1 V by unfold aSays; (first | rw [if_pos (by omega)] | rw [if_neg (by omega), if_pos (by omega)] | rw [if_neg (by omega), if_neg (by omega), if_pos (by omega)] | rw [if_neg (by omega), if_neg (by omega), if_neg (by omega), if_pos (by omega)] | rw [if_neg (by omega), if_neg (by omega), if_neg (by omega), if_neg (by omega)])]; exact ⟨rfl, hX.ref hO (by omega), XC.ref⟩)

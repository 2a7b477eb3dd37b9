/-! what copying, reading, a bucket, a judgement answer -/
def cpE (e e2 : Nat → Int64) (i j n : Nat) : Nat → Int64 := fun q => if j ≤ q ∧ q < j + n then e (i + (q - j)) else e2 q
def aCopy (V : Vw) (x y i j n : Int) : Int × Vw := if ¬ (0 ≤ x ∧ x < 8) ∨ ¬ (0 ≤ y ∧ y < 8) then rfs 1 V else if sK (vSh V) x.toNat = 2 ∨ sK (vSh V) y.toNat = 2 ∨ (sK (vSh V) x.toNat = 1 ∧ sK (vSh V) y.toNat = 1 ∧ sO (vSh V) x.toNat ≠ sO (vSh V) y.toNat) then rfs 2 V else if sK (vSh V) x.toNat = 0 ∨ sK (vSh V) y.toNat = 0 then rfs 3 V else if n < 0 then rfs 4 V else if ¬ (0 ≤ i ∧ i ≤ (sN (vSh V) x.toNat : Int) ∧ n ≤ (sN (vSh V) x.toNat : Int) - i) ∨ ¬ (0 ≤ j ∧ j ≤ (sN (vSh V) y.toNat : Int) ∧ n ≤ (sN (vSh V) y.toNat : Int) - j) then rfs 5 V
  else (1, vSet V (hset (vSh V) y.toNat 1 (sO (vSh V) y.toNat) (sN (vSh V) y.toNat) (cpE (sE (vSh V) x.toNat) (sE (vSh V) y.toNat) i.toNat j.toNat n.toNat) (sD (vSh V) y.toNat)))
def vFlt (V : Vw) (z : Int) : Vw := (V.1, V.2.1, V.2.2.1, V.2.2.2.1, (z, V.2.2.2.2.2))
def chI (h : Sh) (s : Nat) : Nat → Int := fun i => (sE h s i).toInt32.toInt
def aReadT (V : Vw) : Nat ⊕ Rd → Int × Vw
  | .inl i => rfs 6 (vFlt V (i : Int))
  | .inr r => ((rit r : Int), (wBring (vW V) r, (vFlt V (-1)).2))
def aRead (V : Vw) (x : Int) : Int × Vw := if wnr V x ≠ 0 then rfs (wnr V x) V else aReadT V (rtext (vW V) (chI (vSh V) x.toNat) (sN (vSh V) x.toNat))
def aBucket (V : Vw) (p b a : Int) : Int × Vw := if ¬ (0 ≤ p ∧ p < 15) then rfs 1 V else if ¬ (0 ≤ b ∧ b < (bct (wl (vW V) (p.toNat / 3)) (wb (vW V) (p.toNat / 3)) (wb (vW V) (p.toNat / 3)) : Int)) then rfs 5 V
  else if a = 0 then (wsrt (vW V) p.toNat (bA (wl (vW V) (p.toNat / 3)) (wb (vW V) (p.toNat / 3)) b.toNat), V) else if a = 1 then (wsrt (vW V) p.toNat (bB (wl (vW V) (p.toNat / 3)) (wb (vW V) (p.toNat / 3)) b.toNat - 1), V) else if a = 2 then (((bB (wl (vW V) (p.toNat / 3)) (wb (vW V) (p.toNat / 3)) b.toNat - bA (wl (vW V) (p.toNat / 3)) (wb (vW V) (p.toNat / 3)) b.toNat : Nat) : Int), V)
  else if a = 3 then ((dif (wsrt (vW V) p.toNat) (bA (wl (vW V) (p.toNat / 3)) (wb (vW V) (p.toNat / 3)) b.toNat) (bB (wl (vW V) (p.toNat / 3)) (wb (vW V) (p.toNat / 3)) b.toNat) : Int), V) else rfs 5 V
def aDifferent (V : Vw) (p : Int) : Int × Vw := if ¬ (0 ≤ p ∧ p < 15) then rfs 1 V else ((wdif (vW V) p.toNat : Int), V)
/-- the first node from which a row and the plan differ, from i on -/
def jdg (V : Vw) (s : Nat) (n : Nat) : Nat → Nat → Int
  | 0, _ => if n < vP V then (n : Int) else -1
  | k + 1, i => if i < vP V ∧ chI (vSh V) s i = vD V i 0 then jdg V s n k (i + 1) else (i : Int)
def aJudge (V : Vw) (x n : Int) : Int × Vw := if wnr V x ≠ 0 then rfT (wnr V x) V else if n < 0 then rfT 4 V else if (sN (vSh V) x.toNat : Int) < n ∨ vP V = 0 then rfT 5 V else if 40 < n then rfT 6 V else (jdg V x.toNat n.toNat n.toNat 0, V)
theorem XW.setc {b : Nat} {σ : St} {w : Wv} (h : XW b σ w) : XW b (sI (sI σ b 4 0) b 7 0) (wset (wset w 4 0 0 0) 8 0 0 0) := by
  refine ⟨fun u hu => ?_, ⟨?_, fun f hf => ?_⟩, ⟨?_, fun j hj => ?_⟩, ?_⟩
  · obtain ⟨b1, b2, b3, b4⟩ := h.1 u hu
    refine ⟨by rw [rI_k (by omega), rI_k (by omega), b1]; simp [wl, wset], by rw [rI_k (by omega), rI_k (by omega), b2]; simp [wb, wset], by rw [rI_k (by omega), rI_k (by omega), b3]; simp [wst, wset], fun i hi c hc => ?_⟩
    have e0 : wl (wset (wset w 4 0 0 0) 8 0 0 0) u = wl w u := by simp [wl, wset]
    rw [e0] at hi
    rw [rI_k (by omega), rI_k (by omega), b4 i hi c hc]; simp [wv, wset]
  · rw [rI_j (by decide), rI_s]; simp [wnf, wset]
  · have e0 : wnf (wset (wset w 4 0 0 0) 8 0 0 0) = 0 := by simp [wnf, wset]
    omega
  · rw [rI_s]; simp [wnj, wset]
  · have e0 : wnj (wset (wset w 4 0 0 0) 8 0 0 0) = 0 := by simp [wnj, wset]
    omega
  · rw [rI_j (by decide), rI_j (by decide), h.2.2.2]; simp [wsd, wset]
theorem XW.put {b : Nat} {σ : St} {w : Wv} (h : XW b σ w) {t a v : Nat} (ht : t < 5) (ha : a = 2 ∨ a = 3) : XW b (sI σ (b + 2 + 2 * t) a ((v : Int) - (if a = 2 then 0 else 1))) (wset w a t 0 v) := by
  have a1 : ¬ 1 = a := by omega
  have a0 : ¬ 0 = a := by omega
  refine ⟨fun u hu => ?_, ⟨?_, fun f hf => ?_⟩, ⟨?_, fun j hj => ?_⟩, ?_⟩
  · obtain ⟨b1, b2, b3, b4⟩ := h.1 u hu
    have e0 : wl (wset w a t 0 v) u = wl w u := by simp [wl, wset, a0]
    refine ⟨?_, ?_, ?_, fun i hi c hc => ?_⟩
    · rw [e0]
      by_cases hut : u = t
      · subst hut; rw [rI_j (by omega), b1]
      · rw [rI_k (by omega), b1]
    · by_cases hut : u = t
      · subst hut
        rcases ha with ha | ha
        · subst ha; rw [rI_s]; simp [wb, wset]
        · subst ha; rw [rI_j (by omega), b2]; simp [wb, wset]
      · rw [rI_k (by omega), b2]; simp [wb, wset, hut]
    · by_cases hut : u = t
      · subst hut
        rcases ha with ha | ha
        · subst ha; rw [rI_j (by omega), b3]; simp [wst, wset]
        · subst ha; rw [rI_s]; simp [wst, wset]
      · rw [rI_k (by omega), b3]; simp [wst, wset, hut]
    · rw [e0] at hi
      rw [rI_k (by omega), b4 i hi c hc]; simp [wv, wset, a1]
  · rw [rI_k (by omega), h.2.1.1]; have : ¬ 4 = a := by omega
    simp [wnf, wset, this]
  · have n4 : ¬ 4 = a := by omega
    have n5 : ¬ 5 = a := by omega
    have n6 : ¬ 6 = a := by omega
    have n7 : ¬ 7 = a := by omega
    have e0 : wnf (wset w a t 0 v) = wnf w := by simp [wnf, wset, n4]
    rw [e0] at hf
    obtain ⟨c1, c2, c3⟩ := h.2.1.2 f hf
    rw [rI_k (by omega), rI_k (by omega), rI_k (by omega), c1, c2, c3]; simp [wfp, wfs, wfv, wset, n5, n6, n7]
  · rw [rI_k (by omega), h.2.2.1.1]; have : ¬ 8 = a := by omega
    simp [wnj, wset, this]
  · have n4 : ¬ 8 = a := by omega
    have n5 : ¬ 9 = a := by omega
    have n6 : ¬ 10 = a := by omega
    have e0 : wnj (wset w a t 0 v) = wnj w := by simp [wnj, wset, n4]
    rw [e0] at hj
    obtain ⟨c1, c2⟩ := h.2.2.1.2 j hj
    rw [rI_k (by omega), rI_k (by omega), c1, c2]; simp [wja, wjb, wset, n5, n6]
  · rw [rI_k (by omega), h.2.2.2]; simp [wsd, wset]
theorem XV.putb {σ : St} {V : Vw} (hX : XV σ V) (hO : OKV V) {t v : Int} (ht : 0 ≤ t ∧ t < 5) (hv : 1 ≤ v ∧ v ≤ 8) : XV (sI σ (2 + 2 * t.toNat) 2 v) (wset (vW V) 2 t.toNat 0 v.toNat, V.2) := by
  have h9 := hX.1.put (t := t.toNat) (a := 2) (v := v.toNat) (by omega) (Or.inl rfl)
  rw [if_pos rfl, show ((v.toNat : Nat) : Int) - 0 = v by omega, show 0 + 2 + 2 * t.toNat = 2 + 2 * t.toNat by omega] at h9
  exact hX.world hO (S := fun k => k = 2 + 2 * t.toNat) (Fr.rf.sI rfl) (fun k _ _ e => by omega) h9
theorem XV.puts {σ : St} {V : Vw} (hX : XV σ V) (hO : OKV V) {t v : Int} (ht : 0 ≤ t ∧ t < 5) (hv : v = -1 ∨ (0 ≤ v ∧ v < 3)) : XV (sI σ (2 + 2 * t.toNat) 3 v) (wset (vW V) 3 t.toNat 0 (v + 1).toNat, V.2) := by
  have h9 := hX.1.put (t := t.toNat) (a := 3) (v := (v + 1).toNat) (by omega) (Or.inr rfl)
  rw [if_neg (by decide), show (((v + 1).toNat : Nat) : Int) - 1 = v by omega, show 0 + 2 + 2 * t.toNat = 2 + 2 * t.toNat by omega] at h9
  exact hX.world hO (S := fun k => k = 2 + 2 * t.toNat) (Fr.rf.sI rfl) (fun k _ _ e => by omega) h9
theorem drN_OK {w : Wv} (h : OKW w) : ∀ n, OKW (drN w n).1
  | 0 => h
  | n + 1 => (drN_OK h n).draw
theorem XV.image {σ σ' : St} {V : Vw} (hX : XV σ V) (hO : OKV V) (hF : Fr (WC 17) σ σ') (h : XW 17 σ' (vW V)) : XV (sI σ' 76 2 1) (V.1, (1, vW V), V.2.2) := by
  have hF2 : Fr (fun k => WC 17 k ∨ k = 76) σ (sI σ' 76 2 1) := (hF.mono (fun k hk => Or.inl hk)).sI (Or.inr rfl)
  have n1 : σ'.1 76 = σ.1 76 := hF.1 76 (by unfold WC; omega)
  refine ⟨hX.1.fr hF2 (fun k _ hk e => by unfold WC at e; omega), ⟨rI_s, fun _ => h.fr (S := fun k => k = 76) (Fr.rf.sI rfl) (fun k _ hk e => by omega)⟩, hX.2.2.1.fr hF2 (fun k h1 h2 e => by unfold WC at e; omega), ⟨?_, fun i hi j hj => ?_⟩, ⟨?_, fun y hy => ?_⟩⟩
  · rw [rI_j (by decide), n1]; exact hX.2.2.2.1.1
  · have hp : V.2.2.2.1.1 ≤ 18 := hO.2.2.2.1.1
    have hi' : i < V.2.2.2.1.1 := hi
    rw [rI_k (by omega), hF.1 (58 + i) (by unfold WC; omega)]; exact hX.2.2.2.1.2 i hi j hj
  · rw [rI_j (by decide), n1]; exact hX.2.2.2.2.1
  · rw [rI_k (by decide), hF.1 79 (by unfold WC; omega)]; exact hX.2.2.2.2.2 y hy
theorem XV.flt {σ : St} {V : Vw} (hX : XV σ V) (hO : OKV V) (z : Int) : XV (sI σ 76 10 z) (vFlt V z) := by
  have hF : Fr (fun k => k = 76) σ (sI σ 76 10 z) := Fr.rf.sI rfl
  refine ⟨hX.1.fr hF (fun k _ hk e => by omega), ⟨(rI_j (by decide)).trans hX.2.1.1, fun h => (hX.2.1.2 h).fr hF (fun k _ _ e => by omega)⟩, hX.2.2.1.fr hF (fun k h1 h2 e => by omega), ⟨(rI_j (by decide)).trans hX.2.2.2.1.1, fun i hi j hj => ?_⟩, ⟨rI_s, fun y hy => (rI_k (by decide)).trans (hX.2.2.2.2.2 y hy)⟩⟩
  have hp : V.2.2.2.1.1 ≤ 18 := hO.2.2.2.1.1
  have hi' : i < V.2.2.2.1.1 := hi
  rw [rI_k (by omega)]; exact hX.2.2.2.1.2 i hi j hj
theorem XV.cpy {σ : St} {V : Vw} {x y i j n : Int} (hX : XV σ V) (hO : OKV V) (hx : 0 ≤ x ∧ x < 8) (hy : 0 ≤ y ∧ y < 8) (hkx : sK (vSh V) x.toNat = 1) (hky : sK (vSh V) y.toNat = 1) (hi : 0 ≤ i ∧ i ≤ (sN (vSh V) x.toNat : Int) ∧ n ≤ (sN (vSh V) x.toNat : Int) - i) (hn : 0 ≤ n) (hj : 0 ≤ j) : XV (cL σ (34 + 3 * x.toNat + 1) (34 + 3 * y.toNat + 1) i.toNat j.toNat n.toNat) (vSet V (hset (vSh V) y.toNat 1 (sO (vSh V) y.toNat) (sN (vSh V) y.toNat) (cpE (sE (vSh V) x.toNat) (sE (vSh V) y.toNat) i.toNat j.toNat n.toNat) (sD (vSh V) y.toNat))) ∧ Fr XC σ (cL σ (34 + 3 * x.toNat + 1) (34 + 3 * y.toNat + 1) i.toNat j.toNat n.toNat) := by
  have hF : Fr (sh3 y.toNat) σ (cL σ (34 + 3 * x.toNat + 1) (34 + 3 * y.toNat + 1) i.toNat j.toNat n.toNat) := ⟨fun _ _ => rfl, fun _ _ => rfl, fun q hq => by
    funext r
    show (if q = 34 + 3 * y.toNat + 1 ∧ j.toNat ≤ r ∧ r < j.toNat + n.toNat then σ.2.2 (34 + 3 * x.toNat + 1) (i.toNat + (r - j.toNat)) else σ.2.2 q r) = σ.2.2 q r
    rw [if_neg (show ¬ (q = 34 + 3 * y.toNat + 1 ∧ j.toNat ≤ r ∧ r < j.toNat + n.toNat) from fun e => hq (by unfold sh3; omega))]⟩
  obtain ⟨a1, a2, a3, a4⟩ := hX.2.2.1 y.toNat (by omega)
  obtain ⟨b1, b2, b3⟩ := a3 hky
  obtain ⟨c1, c2, c3⟩ := (hX.2.2.1 x.toNat (by omega)).2.2.1 hkx
  refine ⟨hX.shelf hO (by omega) hF (a1.trans (by rw [hky])) a2 (fun _ => ⟨b1, b2, fun q hq => ?_⟩) (fun h => by omega), sh3_C (by omega) hF⟩
  show (if 34 + 3 * y.toNat + 1 = 34 + 3 * y.toNat + 1 ∧ j.toNat ≤ q ∧ q < j.toNat + n.toNat then σ.2.2 (34 + 3 * x.toNat + 1) (i.toNat + (q - j.toNat)) else σ.2.2 (34 + 3 * y.toNat + 1) q) = (if j.toNat ≤ q ∧ q < j.toNat + n.toNat then sE (vSh V) x.toNat (i.toNat + (q - j.toNat)) else sE (vSh V) y.toNat q)
  by_cases hc : j.toNat ≤ q ∧ q < j.toNat + n.toNat
  · rw [if_pos ⟨rfl, hc⟩, if_pos hc, c3 _ (by omega)]
  · rw [if_neg (fun e => hc e.2), if_neg hc, b3 q hq]
theorem jdg_st {V : Vw} {s n i : Nat} (hi : i < n) : jdg V s n (n - i) i = if i < vP V ∧ chI (vSh V) s i = vD V i 0 then jdg V s n (n - (i + 1)) (i + 1) else (i : Int) := by
  rw [show n - i = (n - (i + 1)) + 1 by omega]; rfl
set_option maxHeartbeats 4000000 in
set_option maxRecDepth 100000 in
theorem c_X9_clear {κ : Kp} (hI : Ij κ) (l : Launch) (σ : St) {V : Vw} (hX : XV σ V) (hO : OKV V) : CtI κ l 2 yX9_clear cX9_clear 2 .int [.ref (κ.2.1 76)] σ (fun z σ' => z = (aClear V).1 ∧ XV σ' (aClear V).2 ∧ Fr XC σ σ') := by
  refine Ct.ofG (own := RX9) hI (by decide +kernel) rfl (Nat.le_of_ble_eq_true rfl) rfl ?_
  intro M C hMl
  have hnf8 := hO.1.2.1.1
  have hnj8 := hO.1.2.2.1
  refine g_aload_n C dX9_clear_0 rfl ?_
  refine gf_X9_12 C dX9_clear_1 rfl ?_
  refine gf_X9_211 (z := (wnf (vW V) : Int)) C dX9_clear_4 rfl hX.1.2.1.1 ?_
  refine g_aload_n C dX9_clear_7 rfl ?_
  refine gf_X9_12 C dX9_clear_8 rfl ?_
  refine gf_X9_217 (z := (wnj (vW V) : Int)) C dX9_clear_11 rfl hX.1.2.2.1.1 ?_
  refine g_iadd C dX9_clear_14 ?_
  refine g_pc (pc' := 15) rfl ?_
  refine g_istore_n (L' := [(1, .int (iZ ((wnf (vW V) : Int) + (wnj (vW V) : Int)))), (0, .ref (κ.2.1 76))]) C dX9_clear_15 rfl (by decide) rfl ?_
  refine g_aload_n C dX9_clear_16 rfl ?_
  refine gf_X9_12 C dX9_clear_17 rfl ?_
  refine g_iconst (z := 0) C dX9_clear_20 rfl ?_
  refine gp_X9_211 C dX9_clear_21 rfl ?_
  refine g_aload_n C dX9_clear_24 rfl ?_
  refine gf_X9_12 C dX9_clear_25 rfl ?_
  refine g_iconst (z := 0) C dX9_clear_28 rfl ?_
  refine g_pc (pc' := 29) rfl ?_
  refine gp_X9_217 C dX9_clear_29 rfl ?_
  refine g_iload_n C dX9_clear_32 rfl ?_
  exact g_ireturn C dX9_clear_33 ⟨rfl, hX.world hO (S := fun k => k = 0) ((Fr.rf.sI (S := fun k => k = 0) rfl).sI rfl) (fun k _ _ e => by omega) hX.1.setc, (Fr.rf.sI (by unfold XC; omega)).sI (by unfold XC; omega)⟩
set_option maxHeartbeats 4000000 in
set_option maxRecDepth 100000 in
theorem c_X9_put {κ : Kp} (hI : Ij κ) (l : Launch) (σ : St) {V : Vw} (hX : XV σ V) (hO : OKV V) {t a v : Int} (ht : R32 t) (ha : R32 a) (hv : R32 v) : CtI κ l 2 yX9_put cX9_put 8 .int [.ref (κ.2.1 76), .int (iZ t), .int (iZ a), .int (iZ v)] σ (fun z σ' => z = (aPut V t a v).1 ∧ XV σ' (aPut V t a v).2 ∧ Fr XC σ σ') := by
  refine Ct.ofG (own := RX9) hI (by decide +kernel) rfl (Nat.le_of_ble_eq_true rfl) rfl ?_
  intro M C hMl
  refine g_iload_n C dX9_put_0 rfl ?_
  refine g_iconst (z := 5) C dX9_put_1 rfl ?_
  refine gc_X9_80 C dX9_put_2 (c_X9_isBelow hI (Ml M) σ (x := t) (e := 5) (by unfold R32; omega) (by unfold R32; omega)) (by decide) (Nat.le_of_ble_eq_true rfl) (fun z σ1 ⟨hz, hσ⟩ => ?_)
  subst z
  subst σ1
  refine g_ifb_ne (tgt := 14) C dX9_put_5 (by decide) (fun h1 => ?_) (fun h1 => ?_)
  · refine g_iload_n C dX9_put_14 rfl ?_
    refine g_iconst (z := 2) C dX9_put_15 rfl ?_
    refine gc_X9_80 C dX9_put_16 (c_X9_isBelow hI (Ml M) σ (x := a) (e := 2) (by unfold R32; omega) (by unfold R32; omega)) (by decide) (Nat.le_of_ble_eq_true rfl) (fun z σ1 ⟨hz, hσ⟩ => ?_)
    subst z
    subst σ1
    refine g_pc (pc' := 19) rfl ?_
    refine g_ifb_ne (tgt := 28) C dX9_put_19 (by decide) (fun h2 => ?_) (fun h2 => ?_)
    · refine g_aload_n C dX9_put_28 rfl ?_
      refine gf_X9_12 C dX9_put_29 rfl ?_
      refine gf_X9_145 C dX9_put_32 rfl ?_
      refine g_iload_n C dX9_put_35 rfl ?_
      have hkz3 : kd (2 + 2 * t.toNat) = 5 := kd_tab t.toNat (by omega)
      refine g_aald (n := t.toNat) (N := 5) (c := 23) (r := (2 + 2 * t.toNat)) C dX9_put_36 rfl (by decide) rfl (by decide) rfl (by omega) (by omega) (by decide) (rf_23 _ _ rfl) ?_
      refine g_astore (L' := [(4, .ref (κ.2.1 (2 + 2 * t.toNat))), (0, .ref (κ.2.1 76)), (1, .int (iZ t)), (2, .int (iZ a)), (3, .int (iZ v))]) C dX9_put_37 (by decide) rfl ?_
      refine g_iload_n C dX9_put_39 rfl ?_
      refine g_pc (pc' := 40) rfl ?_
      refine g_if_ne (tgt := 47) C dX9_put_40 (by decide) (by unfold R32; omega) (fun h4 => ?_) (fun h4 => ?_)
      · refine g_iconst (z := 0) C dX9_put_47 rfl ?_
        refine g_istore (L' := [(5, .int (iZ 0)), (4, .ref (κ.2.1 (2 + 2 * t.toNat))), (0, .ref (κ.2.1 76)), (1, .int (iZ t)), (2, .int (iZ a)), (3, .int (iZ v))]) C dX9_put_48 (by decide) rfl ?_
        refine g_iload C dX9_put_50 rfl ?_
        refine g_if_eq (tgt := 74) C dX9_put_52 (by decide) (by unfold R32; omega) (fun h5 => ?_) (fun h5 => ?_)
        · refine g_iload_n C dX9_put_74 rfl ?_
          refine g_iconst (z := (-1)) C dX9_put_75 rfl ?_
          refine g_icmp_eq (tgt := 87) C dX9_put_76 (by decide) (by unfold R32; omega) (fun h6 => ?_) (fun h6 => ?_)
          · refine g_pc (pc' := 87) rfl ?_
            refine g_iconst (z := 1) C dX9_put_87 rfl ?_
            refine g_goto (tgt := 92) C dX9_put_88 (by decide) ?_
            refine g_istore (L' := [(6, .int (iZ 1)), (5, .int (iZ 0)), (4, .ref (κ.2.1 (2 + 2 * t.toNat))), (0, .ref (κ.2.1 76)), (1, .int (iZ t)), (2, .int (iZ a)), (3, .int (iZ v))]) C dX9_put_92 (by decide) rfl ?_
            refine g_iload C dX9_put_94 rfl ?_
            refine g_if_ne (tgt := 106) C dX9_put_96 (by decide) (by unfold R32; omega) (fun h7 => ?_) (fun h7 => ?_)
            · refine g_iload C dX9_put_106 rfl ?_
              refine g_if_eq (tgt := 119) C dX9_put_108 (by decide) (by unfold R32; omega) (fun h8 => ?_) (fun h8 => ?_)
              · refine g_aload C dX9_put_119 rfl ?_
                refine g_pc (pc' := 121) rfl ?_
                refine gf_X9_174 (z := ((wst (vW V) t.toNat : Int) - 1)) C dX9_put_121 hkz3 ((hX.1.1 t.toNat (by omega)).2.2.1) ?_
                refine g_istore (L' := [(7, .int (iZ ((wst (vW V) t.toNat : Int) - 1))), (6, .int (iZ 1)), (5, .int (iZ 0)), (4, .ref (κ.2.1 (2 + 2 * t.toNat))), (0, .ref (κ.2.1 76)), (1, .int (iZ t)), (2, .int (iZ a)), (3, .int (iZ v))]) C dX9_put_124 (by decide) rfl ?_
                refine g_iload C dX9_put_126 rfl ?_
                refine g_if_eq (tgt := 140) C dX9_put_128 (by decide) (by unfold R32; omega) (fun h9 => ?_) (fun h9 => ?_)
                · refine g_aload C dX9_put_140 rfl ?_
                  refine g_iload_n C dX9_put_142 rfl ?_
                  refine gp_X9_174 C dX9_put_143 hkz3 ?_
                  refine g_iload C dX9_put_146 rfl ?_
                  refine g_pc (pc' := 148) rfl ?_
                  exact g_ireturn C dX9_put_148 (by rw [show aPut V t a v = ((wst (vW V) t.toNat : Int) - 1, (wset (vW V) 3 t.toNat 0 (v + 1).toNat, V.2)) by unfold aPut; rw [if_neg (by omega), if_neg (by omega), if_neg (by omega), if_pos (by omega)]]; exact ⟨rfl, hX.puts hO (by omega) (by omega), Fr.rf.sI (by unfold XC; omega)⟩)
                · exfalso; omega
              · exfalso; omega
            · exfalso; omega
          · refine g_iload_n C dX9_put_79 rfl ?_
            refine g_iconst (z := 3) C dX9_put_80 rfl ?_
            refine gc_X9_80 C dX9_put_81 (c_X9_isBelow hI (Ml M) σ (x := v) (e := 3) (by unfold R32; omega) (by unfold R32; omega)) (by decide) (Nat.le_of_ble_eq_true rfl) (fun z σ1 ⟨hz, hσ⟩ => ?_)
            subst z
            subst σ1
            refine g_ifb_eq (tgt := 91) C dX9_put_84 (by decide) (fun h10 => ?_) (fun h10 => ?_)
            · refine g_iconst (z := 0) C dX9_put_91 rfl ?_
              refine g_istore (L' := [(6, .int (iZ 0)), (5, .int (iZ 0)), (4, .ref (κ.2.1 (2 + 2 * t.toNat))), (0, .ref (κ.2.1 76)), (1, .int (iZ t)), (2, .int (iZ a)), (3, .int (iZ v))]) C dX9_put_92 (by decide) rfl ?_
              refine g_iload C dX9_put_94 rfl ?_
              refine g_pc (pc' := 96) rfl ?_
              refine g_if_ne (tgt := 106) C dX9_put_96 (by decide) (by unfold R32; omega) (fun h11 => ?_) (fun h11 => ?_)
              · exfalso; omega
              · refine g_aload_n C dX9_put_99 rfl ?_
                refine g_bipush (z := 6) C dX9_put_100 rfl ?_
                refine gc_X9_168 C dX9_put_102 rfl (c_X9_refuseTenLower hI (Ml M) σ (y := 6) rfl (by omega)) (by decide) (Nat.le_of_ble_eq_true rfl) (fun z σ1 ⟨hz, hσ⟩ => ?_)
                subst z
                subst σ1
                exact g_ireturn C dX9_put_105 (by rw [show aPut V t a v = rfT 6 V by unfold aPut; first | rw [if_pos (by omega)] | rw [if_neg (by omega), if_pos (by omega)] | rw [if_neg (by omega), if_neg (by omega), if_pos (by omega), if_neg (by omega)] | rw [if_neg (by omega), if_neg (by omega), if_neg (by omega), if_neg (by omega)]]; exact ⟨rfl, hX.ref hO (by omega), XC.ref⟩)
            · refine g_iconst (z := 1) C dX9_put_87 rfl ?_
              refine g_goto (tgt := 92) C dX9_put_88 (by decide) ?_
              refine g_istore (L' := [(6, .int (iZ 1)), (5, .int (iZ 0)), (4, .ref (κ.2.1 (2 + 2 * t.toNat))), (0, .ref (κ.2.1 76)), (1, .int (iZ t)), (2, .int (iZ a)), (3, .int (iZ v))]) C dX9_put_92 (by decide) rfl ?_
              refine g_pc (pc' := 94) rfl ?_
              refine g_iload C dX9_put_94 rfl ?_
              refine g_if_ne (tgt := 106) C dX9_put_96 (by decide) (by unfold R32; omega) (fun h12 => ?_) (fun h12 => ?_)
              · refine g_iload C dX9_put_106 rfl ?_
                refine g_if_eq (tgt := 119) C dX9_put_108 (by decide) (by unfold R32; omega) (fun h13 => ?_) (fun h13 => ?_)
                · refine g_aload C dX9_put_119 rfl ?_
                  refine gf_X9_174 (z := ((wst (vW V) t.toNat : Int) - 1)) C dX9_put_121 hkz3 ((hX.1.1 t.toNat (by omega)).2.2.1) ?_
                  refine g_istore (L' := [(7, .int (iZ ((wst (vW V) t.toNat : Int) - 1))), (6, .int (iZ 1)), (5, .int (iZ 0)), (4, .ref (κ.2.1 (2 + 2 * t.toNat))), (0, .ref (κ.2.1 76)), (1, .int (iZ t)), (2, .int (iZ a)), (3, .int (iZ v))]) C dX9_put_124 (by decide) rfl ?_
                  refine g_iload C dX9_put_126 rfl ?_
                  refine g_pc (pc' := 128) rfl ?_
                  refine g_if_eq (tgt := 140) C dX9_put_128 (by decide) (by unfold R32; omega) (fun h14 => ?_) (fun h14 => ?_)
                  · refine g_aload C dX9_put_140 rfl ?_
                    refine g_iload_n C dX9_put_142 rfl ?_
                    refine gp_X9_174 C dX9_put_143 hkz3 ?_
                    refine g_iload C dX9_put_146 rfl ?_
                    exact g_ireturn C dX9_put_148 (by rw [show aPut V t a v = ((wst (vW V) t.toNat : Int) - 1, (wset (vW V) 3 t.toNat 0 (v + 1).toNat, V.2)) by unfold aPut; rw [if_neg (by omega), if_neg (by omega), if_neg (by omega), if_pos (by omega)]]; exact ⟨rfl, hX.puts hO (by omega) (by omega), Fr.rf.sI (by unfold XC; omega)⟩)
                  · exfalso; omega
                · exfalso; omega
              · exfalso; omega
        · exfalso; omega
      · refine g_iconst (z := 1) C dX9_put_43 rfl ?_
        refine g_goto (tgt := 48) C dX9_put_44 (by decide) ?_
        refine g_pc (pc' := 48) rfl ?_
        refine g_istore (L' := [(5, .int (iZ 1)), (4, .ref (κ.2.1 (2 + 2 * t.toNat))), (0, .ref (κ.2.1 76)), (1, .int (iZ t)), (2, .int (iZ a)), (3, .int (iZ v))]) C dX9_put_48 (by decide) rfl ?_
        refine g_iload C dX9_put_50 rfl ?_
        refine g_if_eq (tgt := 74) C dX9_put_52 (by decide) (by unfold R32; omega) (fun h15 => ?_) (fun h15 => ?_)
        · exfalso; omega
        · refine g_iload_n C dX9_put_55 rfl ?_
          refine g_iconst (z := 1) C dX9_put_56 rfl ?_
          refine g_icmp_lt (tgt := 70) C dX9_put_57 (by decide) (by unfold R32; omega) (fun h16 => ?_) (fun h16 => ?_)
          · refine g_iconst (z := 0) C dX9_put_70 rfl ?_
            refine g_goto (tgt := 92) C dX9_put_71 (by decide) ?_
            refine g_pc (pc' := 92) rfl ?_
            refine g_istore (L' := [(6, .int (iZ 0)), (5, .int (iZ 1)), (4, .ref (κ.2.1 (2 + 2 * t.toNat))), (0, .ref (κ.2.1 76)), (1, .int (iZ t)), (2, .int (iZ a)), (3, .int (iZ v))]) C dX9_put_92 (by decide) rfl ?_
            refine g_iload C dX9_put_94 rfl ?_
            refine g_if_ne (tgt := 106) C dX9_put_96 (by decide) (by unfold R32; omega) (fun h17 => ?_) (fun h17 => ?_)
            · exfalso; omega
            · refine g_aload_n C dX9_put_99 rfl ?_
              refine g_bipush (z := 6) C dX9_put_100 rfl ?_
              refine gc_X9_168 C dX9_put_102 rfl (c_X9_refuseTenLower hI (Ml M) σ (y := 6) rfl (by omega)) (by decide) (Nat.le_of_ble_eq_true rfl) (fun z σ1 ⟨hz, hσ⟩ => ?_)
              subst z
              subst σ1
              exact g_ireturn C dX9_put_105 (by rw [show aPut V t a v = rfT 6 V by unfold aPut; first | rw [if_pos (by omega)] | rw [if_neg (by omega), if_pos (by omega)] | rw [if_neg (by omega), if_neg (by omega), if_pos (by omega), if_neg (by omega)] | rw [if_neg (by omega), if_neg (by omega), if_neg (by omega), if_neg (by omega)]]; exact ⟨rfl, hX.ref hO (by omega), XC.ref⟩)
          · refine g_iload_n C dX9_put_60 rfl ?_
            refine g_pc (pc' := 61) rfl ?_
            refine g_bipush (z := 8) C dX9_put_61 rfl ?_
            refine g_icmp_gt (tgt := 70) C dX9_put_63 (by decide) (by unfold R32; omega) (fun h18 => ?_) (fun h18 => ?_)
            · refine g_iconst (z := 0) C dX9_put_70 rfl ?_
              refine g_goto (tgt := 92) C dX9_put_71 (by decide) ?_
              refine g_istore (L' := [(6, .int (iZ 0)), (5, .int (iZ 1)), (4, .ref (κ.2.1 (2 + 2 * t.toNat))), (0, .ref (κ.2.1 76)), (1, .int (iZ t)), (2, .int (iZ a)), (3, .int (iZ v))]) C dX9_put_92 (by decide) rfl ?_
              refine g_iload C dX9_put_94 rfl ?_
              refine g_if_ne (tgt := 106) C dX9_put_96 (by decide) (by unfold R32; omega) (fun h19 => ?_) (fun h19 => ?_)
              · exfalso; omega
              · refine g_aload_n C dX9_put_99 rfl ?_
                refine g_pc (pc' := 100) rfl ?_
                refine g_bipush (z := 6) C dX9_put_100 rfl ?_
                refine gc_X9_168 C dX9_put_102 rfl (c_X9_refuseTenLower hI (Ml M) σ (y := 6) rfl (by omega)) (by decide) (Nat.le_of_ble_eq_true rfl) (fun z σ1 ⟨hz, hσ⟩ => ?_)
                subst z
                subst σ1
                exact g_ireturn C dX9_put_105 (by rw [show aPut V t a v = rfT 6 V by unfold aPut; first | rw [if_pos (by omega)] | rw [if_neg (by omega), if_pos (by omega)] | rw [if_neg (by omega), if_neg (by omega), if_pos (by omega), if_neg (by omega)] | rw [if_neg (by omega), if_neg (by omega), if_neg (by omega), if_neg (by omega)]]; exact ⟨rfl, hX.ref hO (by omega), XC.ref⟩)
            · refine g_iconst (z := 1) C dX9_put_66 rfl ?_
              refine g_goto (tgt := 92) C dX9_put_67 (by decide) ?_
              refine g_istore (L' := [(6, .int (iZ 1)), (5, .int (iZ 1)), (4, .ref (κ.2.1 (2 + 2 * t.toNat))), (0, .ref (κ.2.1 76)), (1, .int (iZ t)), (2, .int (iZ a)), (3, .int (iZ v))]) C dX9_put_92 (by decide) rfl ?_
              refine g_iload C dX9_put_94 rfl ?_
              refine g_if_ne (tgt := 106) C dX9_put_96 (by decide) (by unfold R32; omega) (fun h20 => ?_) (fun h20 => ?_)
              · refine g_pc (pc' := 106) rfl ?_
                refine g_iload C dX9_put_106 rfl ?_
                refine g_if_eq (tgt := 119) C dX9_put_108 (by decide) (by unfold R32; omega) (fun h21 => ?_) (fun h21 => ?_)
                · exfalso; omega
                · refine g_aload C dX9_put_111 rfl ?_
                  refine gf_X9_171 (z := (wb (vW V) t.toNat : Int)) C dX9_put_113 hkz3 ((hX.1.1 t.toNat (by omega)).2.1) ?_
                  refine g_goto (tgt := 124) C dX9_put_116 (by decide) ?_
                  refine g_istore (L' := [(7, .int (iZ (wb (vW V) t.toNat : Int))), (6, .int (iZ 1)), (5, .int (iZ 1)), (4, .ref (κ.2.1 (2 + 2 * t.toNat))), (0, .ref (κ.2.1 76)), (1, .int (iZ t)), (2, .int (iZ a)), (3, .int (iZ v))]) C dX9_put_124 (by decide) rfl ?_
                  refine g_iload C dX9_put_126 rfl ?_
                  refine g_if_eq (tgt := 140) C dX9_put_128 (by decide) (by unfold R32; omega) (fun h22 => ?_) (fun h22 => ?_)
                  · exfalso; omega
                  · refine g_pc (pc' := 131) rfl ?_
                    refine g_aload C dX9_put_131 rfl ?_
                    refine g_iload_n C dX9_put_133 rfl ?_
                    refine gp_X9_171 C dX9_put_134 hkz3 ?_
                    refine g_goto (tgt := 146) C dX9_put_137 (by decide) ?_
                    refine g_iload C dX9_put_146 rfl ?_
                    exact g_ireturn C dX9_put_148 (by rw [show aPut V t a v = ((wb (vW V) t.toNat : Int), (wset (vW V) 2 t.toNat 0 v.toNat, V.2)) by unfold aPut; rw [if_neg (by omega), if_neg (by omega), if_pos (by omega), if_pos (by omega)]]; exact ⟨rfl, hX.putb hO (by omega) (by omega), Fr.rf.sI (by unfold XC; omega)⟩)
              · exfalso; omega
    · refine g_aload_n C dX9_put_22 rfl ?_
      refine g_iconst (z := 5) C dX9_put_23 rfl ?_
      refine g_pc (pc' := 24) rfl ?_
      refine gc_X9_168 C dX9_put_24 rfl (c_X9_refuseTenLower hI (Ml M) σ (y := 5) rfl (by omega)) (by decide) (Nat.le_of_ble_eq_true rfl) (fun z σ1 ⟨hz, hσ⟩ => ?_)
      subst z
      subst σ1
      exact g_ireturn C dX9_put_27 (by rw [show aPut V t a v = rfT 5 V by unfold aPut; first | rw [if_pos (by omega)] | rw [if_neg (by omega), if_pos (by omega)] | rw [if_neg (by omega), if_neg (by omega), if_pos (by omega), if_neg (by omega)] | rw [if_neg (by omega), if_neg (by omega), if_neg (by omega), if_neg (by omega)]]; exact ⟨rfl, hX.ref hO (by omega), XC.ref⟩)
  · refine g_aload_n C dX9_put_8 rfl ?_
    refine g_iconst (z := 1) C dX9_put_9 rfl ?_
    refine gc_X9_168 C dX9_put_10 rfl (c_X9_refuseTenLower hI (Ml M) σ (y := 1) rfl (by omega)) (by decide) (Nat.le_of_ble_eq_true rfl) (fun z σ1 ⟨hz, hσ⟩ => ?_)
    subst z
    subst σ1
    exact g_ireturn C dX9_put_13 (by rw [show aPut V t a v = rfT 1 V by unfold aPut; first | rw [if_pos (by omega)] | rw [if_neg (by omega), if_pos (by omega)] | rw [if_neg (by omega), if_neg (by omega), if_pos (by omega), if_neg (by omega)] | rw [if_neg (by omega), if_neg (by omega), if_neg (by omega), if_neg (by omega)]]; exact ⟨rfl, hX.ref hO (by omega), XC.ref⟩)
set_option maxHeartbeats 4000000 in
set_option maxRecDepth 100000 in
theorem c_X9_drawn {κ : Kp} (hI : Ij κ) (l : Launch) (σ : St) {V : Vw} (hX : XV σ V) (hO : OKV V) {n : Int} (hn : R32 n) : CtI κ l 3 yX9_drawn cX9_drawn 4 .int [.ref (κ.2.1 76), .int (iZ n)] σ (fun z σ' => z = (aDrawn V n).1 ∧ XV σ' (aDrawn V n).2 ∧ Fr XC σ σ') := by
  refine Ct.ofG (own := RX9) hI (by decide +kernel) rfl (Nat.le_of_ble_eq_true rfl) rfl ?_
  intro M C hMl
  refine g_iload_n C dX9_drawn_0 rfl ?_
  refine g_iconst (z := 1) C dX9_drawn_1 rfl ?_
  refine g_icmp_lt (tgt := 11) C dX9_drawn_2 (by decide) (by unfold R32; omega) (fun h1 => ?_) (fun h1 => ?_)
  · refine g_aload_n C dX9_drawn_11 rfl ?_
    refine g_bipush (z := 6) C dX9_drawn_12 rfl ?_
    refine gc_X9_84 C dX9_drawn_14 rfl (c_X9_refuse hI (Ml M) σ (y := 6) rfl (by omega)) (by decide) (Nat.le_of_ble_eq_true rfl) (fun z σ1 ⟨hz, hσ⟩ => ?_)
    subst z
    subst σ1
    exact g_ireturn C dX9_drawn_17 (by rw [show aDrawn V n = rfs 6 V by unfold aDrawn; (first | rw [if_pos (by omega)] | rw [if_neg (by omega)])]; exact ⟨rfl, hX.ref hO (by omega), XC.ref⟩)
  · refine g_pc (pc' := 5) rfl ?_
    refine g_iload_n C dX9_drawn_5 rfl ?_
    refine g_bipush (z := 40) C dX9_drawn_6 rfl ?_
    refine g_icmp_le (tgt := 18) C dX9_drawn_8 (by decide) (by unfold R32; omega) (fun h2 => ?_) (fun h2 => ?_)
    · refine g_iconst (z := 0) C dX9_drawn_18 rfl ?_
      refine g_istore_n (L' := [(2, .int (iZ 0)), (0, .ref (κ.2.1 76)), (1, .int (iZ n))]) C dX9_drawn_19 rfl (by decide) rfl ?_
      refine g_iconst (z := 0) C dX9_drawn_20 rfl ?_
      refine g_istore_n (L' := [(3, .int (iZ 0)), (2, .int (iZ 0)), (0, .ref (κ.2.1 76)), (1, .int (iZ n))]) C dX9_drawn_21 rfl (by decide) rfl ?_
      have lp22 : ∀ (fz9 : Nat) (i : Nat) (x2 : Int) (x3 : Int) (s : St), (n.toNat - i < fz9) → (x3 = (i : Int)) → ((i : Int) ≤ n) → (x2 = ((drN (vW V) i).2 : Int)) → (Fr (fun k => k ≤ 16) σ s) → (XW 0 s (drN (vW V) i).1) → (1 ≤ n ∧ n ≤ 40) → ((drN (vW V) i).2 ≤ i) → G M κ 4 (En M κ (qI κ (fun z σ' => z = (aDrawn V n).1 ∧ XV σ' (aDrawn V n).2 ∧ Fr XC σ σ'))) 22 [(0, .ref (κ.2.1 76)), (1, .int (iZ n)), (2, .int (iZ x2)), (3, .int (iZ x3))] [] s := by
        intro fz9
        induction fz9 with
        | zero => intro i x2 x3 s hm0; exact absurd hm0 (Nat.not_lt_zero _)
        | succ fz9 ih =>
          intro i x2 x3 s hm22 hx3 hi hx2 hF hXs hnn hb
          refine g_iload_n C dX9_drawn_22 rfl ?_
          refine g_pc (pc' := 23) rfl ?_
          refine g_iload_n C dX9_drawn_23 rfl ?_
          refine g_icmp_ge (tgt := 46) C dX9_drawn_24 (by decide) (by unfold R32; omega) (fun h3 => ?_) (fun h3 => ?_)
          · refine g_iload_n C dX9_drawn_46 rfl ?_
            exact g_ireturn C dX9_drawn_47 (by rw [show aDrawn V n = (((drN (vW V) i).2 : Int), ((drN (vW V) i).1, V.2)) by unfold aDrawn; rw [if_neg (by omega), show n.toNat = i by omega]]; exact ⟨hx2, hX.world hO hF (fun k _ _ e => by omega) hXs, hF.mono (fun k hk => by unfold XC; omega)⟩)
          · refine g_aload_n C dX9_drawn_27 rfl ?_
            refine gf_X9_12 C dX9_drawn_28 rfl ?_
            refine gc_X9_320 C dX9_drawn_31 rfl (c_X8_drawLine hI (Ml M) s hXs (drN_OK hO.1 i)) (by decide) (Nat.le_of_ble_eq_true rfl) (fun z s1 ⟨hz, hXs1, hF1⟩ => ?_)
            subst z
            have hF1c := hF1.mono (T := fun k => k ≤ 16) (fun k hk => by unfold W0C at hk; omega)
            refine g_ifb_eq (tgt := 40) C dX9_drawn_34 (by decide) (fun h4 => ?_) (fun h4 => ?_)
            · refine g_pc (pc' := 40) rfl ?_
              refine g_iinc (q := 3) (v := (x3 + 1)) (L' := [(3, .int (iZ (x3 + 1))), (0, .ref (κ.2.1 76)), (1, .int (iZ n)), (2, .int (iZ x2))]) C dX9_drawn_40 rfl rfl (by decide) rfl ?_
              refine g_goto (tgt := 22) C dX9_drawn_43 (by decide) ?_
              exact g_loc [1, 2, 3, 0] (by rfl) (ih (i + 1) x2 (x3 + 1) s1 (by omega) (by omega) (by omega) (by rw [drN]; show _ = ((( drN (vW V) i).2 + _ : Nat) : Int); first | (rw [if_pos (by assumption)]; omega) | (rw [if_neg (by assumption)]; omega)) (hF.tr hF1c) hXs1 hnn (by rw [drN]; show (drN (vW V) i).2 + _ ≤ _; split <;> omega))
            · refine g_iinc (q := 2) (v := (x2 + 1)) (L' := [(2, .int (iZ (x2 + 1))), (0, .ref (κ.2.1 76)), (1, .int (iZ n)), (3, .int (iZ x3))]) C dX9_drawn_37 rfl rfl (by decide) rfl ?_
              refine g_iinc (q := 3) (v := (x3 + 1)) (L' := [(3, .int (iZ (x3 + 1))), (2, .int (iZ (x2 + 1))), (0, .ref (κ.2.1 76)), (1, .int (iZ n))]) C dX9_drawn_40 rfl rfl (by decide) rfl ?_
              refine g_goto (tgt := 22) C dX9_drawn_43 (by decide) ?_
              exact g_loc [2, 3, 1, 0] (by rfl) (ih (i + 1) (x2 + 1) (x3 + 1) s1 (by omega) (by omega) (by omega) (by rw [drN]; show _ = ((( drN (vW V) i).2 + _ : Nat) : Int); first | (rw [if_pos (by assumption)]; omega) | (rw [if_neg (by assumption)]; omega)) (hF.tr hF1c) hXs1 hnn (by rw [drN]; show (drN (vW V) i).2 + _ ≤ _; split <;> omega))
      exact g_loc [2, 3, 1, 0] (by rfl) (lp22 _ 0 0 0 σ (Nat.lt_succ_self _) rfl (by omega) rfl Fr.rf hX.1 (by omega) (Nat.le_refl _))
    · refine g_aload_n C dX9_drawn_11 rfl ?_
      refine g_bipush (z := 6) C dX9_drawn_12 rfl ?_
      refine gc_X9_84 C dX9_drawn_14 rfl (c_X9_refuse hI (Ml M) σ (y := 6) rfl (by omega)) (by decide) (Nat.le_of_ble_eq_true rfl) (fun z σ1 ⟨hz, hσ⟩ => ?_)
      subst z
      subst σ1
      refine g_pc (pc' := 17) rfl ?_
      exact g_ireturn C dX9_drawn_17 (by rw [show aDrawn V n = rfs 6 V by unfold aDrawn; (first | rw [if_pos (by omega)] | rw [if_neg (by omega)])]; exact ⟨rfl, hX.ref hO (by omega), XC.ref⟩)
set_option maxHeartbeats 4000000 in
set_option maxRecDepth 100000 in
theorem c_X9_image {κ : Kp} (hI : Ij κ) (l : Launch) (σ : St) {V : Vw} (hX : XV σ V) (hO : OKV V) : CtI κ l 3 yX9_image cX9_image 1 .int [.ref (κ.2.1 76)] σ (fun z σ' => z = (aImage V).1 ∧ XV σ' (aImage V).2 ∧ Fr XC σ σ') := by
  refine Ct.ofG (own := RX9) hI (by decide +kernel) rfl (Nat.le_of_ble_eq_true rfl) rfl ?_
  intro M C hMl
  refine g_aload_n C dX9_image_0 rfl ?_
  refine gf_X9_16 C dX9_image_1 rfl ?_
  refine g_aload_n C dX9_image_4 rfl ?_
  refine gf_X9_12 C dX9_image_5 rfl ?_
  refine gc_X9_327 C dX9_image_8 rfl (c_X8_become hI (Ml M) σ (k := 17) (k2 := 0) rfl rfl (by omega) hX.1 hO.1) (by decide) (Nat.le_of_ble_eq_true rfl) (fun σ1 ⟨hXW, hF⟩ => ?_)
  refine g_aload_n C dX9_image_11 rfl ?_
  refine g_iconst (z := 1) C dX9_image_12 rfl ?_
  refine g_pc (pc' := 13) rfl ?_
  refine gp_X9_19 C dX9_image_13 rfl (by omega) ?_
  refine g_aload_n C dX9_image_16 rfl ?_
  refine gf_X9_12 C dX9_image_17 rfl ?_
  refine gc_X9_330 C dX9_image_20 rfl (c_X8_allLines hI (Ml M) (sI σ1 76 2 1) (hX.image hO hF hXW).1 hO.1) (by decide) (Nat.le_of_ble_eq_true rfl) (fun z σ9 ⟨hz, hσ⟩ => ?_)
  subst σ9
  exact g_ireturn C dX9_image_23 ⟨hz, hX.image hO hF hXW, (hF.mono (fun k hk => by unfold WC at hk; unfold XC; omega)).sI (by unfold XC; omega)⟩
set_option maxHeartbeats 4000000 in
set_option maxRecDepth 100000 in
theorem c_X9_restore {κ : Kp} (hI : Ij κ) (l : Launch) (σ : St) {V : Vw} (hX : XV σ V) (hO : OKV V) : CtI κ l 3 yX9_restore cX9_restore 1 .int [.ref (κ.2.1 76)] σ (fun z σ' => z = (aRestore V).1 ∧ XV σ' (aRestore V).2 ∧ Fr XC σ σ') := by
  refine Ct.ofG (own := RX9) hI (by decide +kernel) rfl (Nat.le_of_ble_eq_true rfl) rfl ?_
  intro M C hMl
  have hh1 := hO.2.1.1
  refine g_aload_n C dX9_restore_0 rfl ?_
  refine gf_X9_19 (z := (vHas V : Int)) C dX9_restore_1 rfl hX.2.1.1 ?_
  refine g_if_ne (tgt := 14) C dX9_restore_4 (by decide) (by unfold R32; omega) (fun h1 => ?_) (fun h1 => ?_)
  · refine g_aload_n C dX9_restore_14 rfl ?_
    refine gf_X9_12 C dX9_restore_15 rfl ?_
    refine g_aload_n C dX9_restore_18 rfl ?_
    refine gf_X9_16 C dX9_restore_19 rfl ?_
    refine g_pc (pc' := 22) rfl ?_
    refine gc_X9_327 C dX9_restore_22 rfl (c_X8_become hI (Ml M) σ (k := 0) (k2 := 17) rfl rfl (by omega) (hX.2.1.2 (show vHas V = 1 by omega)) (hO.2.1.2 (by omega))) (by decide) (Nat.le_of_ble_eq_true rfl) (fun σ1 ⟨hXW, hF⟩ => ?_)
    refine g_aload_n C dX9_restore_25 rfl ?_
    refine gf_X9_12 C dX9_restore_26 rfl ?_
    refine gc_X9_330 C dX9_restore_29 rfl (c_X8_allLines hI (Ml M) σ1 hXW (hO.2.1.2 (by omega))) (by decide) (Nat.le_of_ble_eq_true rfl) (fun z σ9 ⟨hz, hσ⟩ => ?_)
    subst σ9
    exact g_ireturn C dX9_restore_32 (by rw [show aRestore V = ((wsum (vIm V) 5 : Int), (vIm V, V.2)) by unfold aRestore; (first | rw [if_pos (by omega)] | rw [if_neg (by omega)])]; exact ⟨hz, hX.world hO hF (fun k _ _ e => by unfold WC at e; omega) hXW, hF.mono (fun k hk => by unfold WC at hk; unfold XC; omega)⟩)
  · refine g_aload_n C dX9_restore_7 rfl ?_
    refine g_bipush (z := 6) C dX9_restore_8 rfl ?_
    refine gc_X9_84 C dX9_restore_10 rfl (c_X9_refuse hI (Ml M) σ (y := 6) rfl (by omega)) (by decide) (Nat.le_of_ble_eq_true rfl) (fun z σ1 ⟨hz, hσ⟩ => ?_)
    subst z
    subst σ1
    refine g_pc (pc' := 13) rfl ?_
    exact g_ireturn C dX9_restore_13 (by rw [show aRestore V = rfs 6 V by unfold aRestore; (first | rw [if_pos (by omega)] | rw [if_neg (by omega)])]; exact ⟨rfl, hX.ref hO (by omega), XC.ref⟩)
set_option maxHeartbeats 4000000 in
set_option maxRecDepth 100000 in
theorem c_X9_status {κ : Kp} (hI : Ij κ) (l : Launch) (σ : St) {V : Vw} (hX : XV σ V) (hO : OKV V) {a : Int} (ha : R32 a) : CtI κ l 2 yX9_status cX9_status 2 .int [.ref (κ.2.1 76), .int (iZ a)] σ (fun z σ' => z = aStatus V a ∧ XV σ' V ∧ Fr XC σ σ') := by
  refine Ct.ofG (own := RX9) hI (by decide +kernel) rfl (Nat.le_of_ble_eq_true rfl) rfl ?_
  intro M C hMl
  refine g_iload_n C dX9_status_0 rfl ?_
  refine g_bipush (z := 10) C dX9_status_1 rfl ?_
  refine g_icmp_le (tgt := 22) C dX9_status_3 (by decide) (by unfold R32; omega) (fun h1 => ?_) (fun h1 => ?_)
  · refine g_iload_n C dX9_status_22 rfl ?_
    have hs2 : a < 0 ∨ 4 < a ∨ a = 0 ∨ a = 1 ∨ a = 2 ∨ a = 3 ∨ a = 4 := by omega
    rcases hs2 with hs2 | hs2 | hs2 | hs2 | hs2 | hs2 | hs2
    · refine g_tswd (tgt := 93) C dX9_status_23 (by unfold R32; omega) (by omega) (by decide) ?_
      refine g_iconst (z := (-1)) C dX9_status_93 rfl ?_
      exact g_ireturn C dX9_status_94 (by first | (exfalso; omega) | (rw [show aStatus V a = (-1) by unfold aStatus; (first | rw [if_pos (by omega)] | rw [if_neg (by omega), if_pos (by omega)] | rw [if_neg (by omega), if_neg (by omega), if_pos (by omega)] | rw [if_neg (by omega), if_neg (by omega), if_neg (by omega), if_pos (by omega)] | rw [if_neg (by omega), if_neg (by omega), if_neg (by omega), if_neg (by omega), if_pos (by omega)] | rw [if_neg (by omega), if_neg (by omega), if_neg (by omega), if_neg (by omega), if_neg (by omega), if_pos (by omega)] | rw [if_neg (by omega), if_neg (by omega), if_neg (by omega), if_neg (by omega), if_neg (by omega), if_neg (by omega)])]; exact ⟨rfl, hX, Fr.rf⟩))
    · refine g_tswd (tgt := 93) C dX9_status_23 (by unfold R32; omega) (by omega) (by decide) ?_
      refine g_pc (pc' := 93) rfl ?_
      refine g_iconst (z := (-1)) C dX9_status_93 rfl ?_
      exact g_ireturn C dX9_status_94 (by first | (exfalso; omega) | (rw [show aStatus V a = (-1) by unfold aStatus; (first | rw [if_pos (by omega)] | rw [if_neg (by omega), if_pos (by omega)] | rw [if_neg (by omega), if_neg (by omega), if_pos (by omega)] | rw [if_neg (by omega), if_neg (by omega), if_neg (by omega), if_pos (by omega)] | rw [if_neg (by omega), if_neg (by omega), if_neg (by omega), if_neg (by omega), if_pos (by omega)] | rw [if_neg (by omega), if_neg (by omega), if_neg (by omega), if_neg (by omega), if_neg (by omega), if_pos (by omega)] | rw [if_neg (by omega), if_neg (by omega), if_neg (by omega), if_neg (by omega), if_neg (by omega), if_neg (by omega)])]; exact ⟨rfl, hX, Fr.rf⟩))
    · refine g_int (z' := 0) hs2 ?_
      refine g_tsw (tgt := 56) C dX9_status_23 (by decide) (by decide) rfl (by decide) ?_
      refine g_aload_n C dX9_status_56 rfl ?_
      refine gf_X9_12 C dX9_status_57 rfl ?_
      refine gc_X9_330 C dX9_status_60 rfl (c_X8_allLines hI (Ml M) σ hX.1 hO.1) (by decide) (Nat.le_of_ble_eq_true rfl) (fun z σ9 ⟨hz, hσ⟩ => ?_)
      subst σ9
      exact g_ireturn C dX9_status_63 (by first | (exfalso; omega) | (rw [show aStatus V a = (wsum (vW V) 5 : Int) by unfold aStatus; (first | rw [if_pos (by omega)] | rw [if_neg (by omega), if_pos (by omega)] | rw [if_neg (by omega), if_neg (by omega), if_pos (by omega)] | rw [if_neg (by omega), if_neg (by omega), if_neg (by omega), if_pos (by omega)] | rw [if_neg (by omega), if_neg (by omega), if_neg (by omega), if_neg (by omega), if_pos (by omega)] | rw [if_neg (by omega), if_neg (by omega), if_neg (by omega), if_neg (by omega), if_neg (by omega), if_pos (by omega)] | rw [if_neg (by omega), if_neg (by omega), if_neg (by omega), if_neg (by omega), if_neg (by omega), if_neg (by omega)])]; exact ⟨hz, hX, Fr.rf⟩))
    · refine g_int (z' := 1) hs2 ?_
      refine g_tsw (tgt := 64) C dX9_status_23 (by decide) (by decide) rfl (by decide) ?_
      refine g_aload_n C dX9_status_64 rfl ?_
      refine gf_X9_12 C dX9_status_65 rfl ?_
      refine g_pc (pc' := 68) rfl ?_
      refine gf_X9_211 (z := (wnf (vW V) : Int)) C dX9_status_68 rfl hX.1.2.1.1 ?_
      exact g_ireturn C dX9_status_71 (by first | (exfalso; omega) | (rw [show aStatus V a = (wnf (vW V) : Int) by unfold aStatus; (first | rw [if_pos (by omega)] | rw [if_neg (by omega), if_pos (by omega)] | rw [if_neg (by omega), if_neg (by omega), if_pos (by omega)] | rw [if_neg (by omega), if_neg (by omega), if_neg (by omega), if_pos (by omega)] | rw [if_neg (by omega), if_neg (by omega), if_neg (by omega), if_neg (by omega), if_pos (by omega)] | rw [if_neg (by omega), if_neg (by omega), if_neg (by omega), if_neg (by omega), if_neg (by omega), if_pos (by omega)] | rw [if_neg (by omega), if_neg (by omega), if_neg (by omega), if_neg (by omega), if_neg (by omega), if_neg (by omega)])]; exact ⟨rfl, hX, Fr.rf⟩))
    · refine g_int (z' := 2) hs2 ?_
      refine g_tsw (tgt := 72) C dX9_status_23 (by decide) (by decide) rfl (by decide) ?_
      refine g_aload_n C dX9_status_72 rfl ?_
      refine gf_X9_12 C dX9_status_73 rfl ?_
      refine gf_X9_217 (z := (wnj (vW V) : Int)) C dX9_status_76 rfl hX.1.2.2.1.1 ?_
      exact g_ireturn C dX9_status_79 (by first | (exfalso; omega) | (rw [show aStatus V a = (wnj (vW V) : Int) by unfold aStatus; (first | rw [if_pos (by omega)] | rw [if_neg (by omega), if_pos (by omega)] | rw [if_neg (by omega), if_neg (by omega), if_pos (by omega)] | rw [if_neg (by omega), if_neg (by omega), if_neg (by omega), if_pos (by omega)] | rw [if_neg (by omega), if_neg (by omega), if_neg (by omega), if_neg (by omega), if_pos (by omega)] | rw [if_neg (by omega), if_neg (by omega), if_neg (by omega), if_neg (by omega), if_neg (by omega), if_pos (by omega)] | rw [if_neg (by omega), if_neg (by omega), if_neg (by omega), if_neg (by omega), if_neg (by omega), if_neg (by omega)])]; exact ⟨rfl, hX, Fr.rf⟩))
    · refine g_int (z' := 3) hs2 ?_
      refine g_tsw (tgt := 80) C dX9_status_23 (by decide) (by decide) rfl (by decide) ?_
      refine g_aload_n C dX9_status_80 rfl ?_
      refine gf_X9_67 (z := (vP V : Int)) C dX9_status_81 rfl (np_rd hX) ?_
      refine g_pc (pc' := 84) rfl ?_
      exact g_ireturn C dX9_status_84 (by first | (exfalso; omega) | (rw [show aStatus V a = (vP V : Int) by unfold aStatus; (first | rw [if_pos (by omega)] | rw [if_neg (by omega), if_pos (by omega)] | rw [if_neg (by omega), if_neg (by omega), if_pos (by omega)] | rw [if_neg (by omega), if_neg (by omega), if_neg (by omega), if_pos (by omega)] | rw [if_neg (by omega), if_neg (by omega), if_neg (by omega), if_neg (by omega), if_pos (by omega)] | rw [if_neg (by omega), if_neg (by omega), if_neg (by omega), if_neg (by omega), if_neg (by omega), if_pos (by omega)] | rw [if_neg (by omega), if_neg (by omega), if_neg (by omega), if_neg (by omega), if_neg (by omega), if_neg (by omega)])]; exact ⟨rfl, hX, Fr.rf⟩))
    · refine g_int (z' := 4) hs2 ?_
      refine g_tsw (tgt := 85) C dX9_status_23 (by decide) (by decide) rfl (by decide) ?_
      refine g_aload_n C dX9_status_85 rfl ?_
      refine gf_X9_12 C dX9_status_86 rfl ?_
      refine gf_X9_324 (z := (wsd (vW V))) C dX9_status_89 rfl hX.1.2.2.2 ?_
      exact g_ireturn C dX9_status_92 (by first | (exfalso; omega) | (rw [show aStatus V a = (wsd (vW V)) by unfold aStatus; (first | rw [if_pos (by omega)] | rw [if_neg (by omega), if_pos (by omega)] | rw [if_neg (by omega), if_neg (by omega), if_pos (by omega)] | rw [if_neg (by omega), if_neg (by omega), if_neg (by omega), if_pos (by omega)] | rw [if_neg (by omega), if_neg (by omega), if_neg (by omega), if_neg (by omega), if_pos (by omega)] | rw [if_neg (by omega), if_neg (by omega), if_neg (by omega), if_neg (by omega), if_neg (by omega), if_pos (by omega)] | rw [if_neg (by omega), if_neg (by omega), if_neg (by omega), if_neg (by omega), if_neg (by omega), if_neg (by omega)])]; exact ⟨rfl, hX, Fr.rf⟩))
  · refine g_iload_n C dX9_status_6 rfl ?_
    refine g_bipush (z := 17) C dX9_status_7 rfl ?_
    refine g_icmp_gt (tgt := 22) C dX9_status_9 (by decide) (by unfold R32; omega) (fun h3 => ?_) (fun h3 => ?_)
    · refine g_pc (pc' := 22) rfl ?_
      refine g_iload_n C dX9_status_22 rfl ?_
      have hs4 : a < 0 ∨ 4 < a ∨ a = 0 ∨ a = 1 ∨ a = 2 ∨ a = 3 ∨ a = 4 := by omega
      rcases hs4 with hs4 | hs4 | hs4 | hs4 | hs4 | hs4 | hs4
      · refine g_tswd (tgt := 93) C dX9_status_23 (by unfold R32; omega) (by omega) (by decide) ?_
        refine g_iconst (z := (-1)) C dX9_status_93 rfl ?_
        exact g_ireturn C dX9_status_94 (by first | (exfalso; omega) | (rw [show aStatus V a = (-1) by unfold aStatus; (first | rw [if_pos (by omega)] | rw [if_neg (by omega), if_pos (by omega)] | rw [if_neg (by omega), if_neg (by omega), if_pos (by omega)] | rw [if_neg (by omega), if_neg (by omega), if_neg (by omega), if_pos (by omega)] | rw [if_neg (by omega), if_neg (by omega), if_neg (by omega), if_neg (by omega), if_pos (by omega)] | rw [if_neg (by omega), if_neg (by omega), if_neg (by omega), if_neg (by omega), if_neg (by omega), if_pos (by omega)] | rw [if_neg (by omega), if_neg (by omega), if_neg (by omega), if_neg (by omega), if_neg (by omega), if_neg (by omega)])]; exact ⟨rfl, hX, Fr.rf⟩))
      · refine g_tswd (tgt := 93) C dX9_status_23 (by unfold R32; omega) (by omega) (by decide) ?_
        refine g_iconst (z := (-1)) C dX9_status_93 rfl ?_
        exact g_ireturn C dX9_status_94 (by first | (exfalso; omega) | (rw [show aStatus V a = (-1) by unfold aStatus; (first | rw [if_pos (by omega)] | rw [if_neg (by omega), if_pos (by omega)] | rw [if_neg (by omega), if_neg (by omega), if_pos (by omega)] | rw [if_neg (by omega), if_neg (by omega), if_neg (by omega), if_pos (by omega)] | rw [if_neg (by omega), if_neg (by omega), if_neg (by omega), if_neg (by omega), if_pos (by omega)] | rw [if_neg (by omega), if_neg (by omega), if_neg (by omega), if_neg (by omega), if_neg (by omega), if_pos (by omega)] | rw [if_neg (by omega), if_neg (by omega), if_neg (by omega), if_neg (by omega), if_neg (by omega), if_neg (by omega)])]; exact ⟨rfl, hX, Fr.rf⟩))
      · refine g_int (z' := 0) hs4 ?_
        refine g_tsw (tgt := 56) C dX9_status_23 (by decide) (by decide) rfl (by decide) ?_
        refine g_aload_n C dX9_status_56 rfl ?_
        refine gf_X9_12 C dX9_status_57 rfl ?_
        refine g_pc (pc' := 60) rfl ?_
        refine gc_X9_330 C dX9_status_60 rfl (c_X8_allLines hI (Ml M) σ hX.1 hO.1) (by decide) (Nat.le_of_ble_eq_true rfl) (fun z σ9 ⟨hz, hσ⟩ => ?_)
        subst σ9
        exact g_ireturn C dX9_status_63 (by first | (exfalso; omega) | (rw [show aStatus V a = (wsum (vW V) 5 : Int) by unfold aStatus; (first | rw [if_pos (by omega)] | rw [if_neg (by omega), if_pos (by omega)] | rw [if_neg (by omega), if_neg (by omega), if_pos (by omega)] | rw [if_neg (by omega), if_neg (by omega), if_neg (by omega), if_pos (by omega)] | rw [if_neg (by omega), if_neg (by omega), if_neg (by omega), if_neg (by omega), if_pos (by omega)] | rw [if_neg (by omega), if_neg (by omega), if_neg (by omega), if_neg (by omega), if_neg (by omega), if_pos (by omega)] | rw [if_neg (by omega), if_neg (by omega), if_neg (by omega), if_neg (by omega), if_neg (by omega), if_neg (by omega)])]; exact ⟨hz, hX, Fr.rf⟩))
      · refine g_int (z' := 1) hs4 ?_
        refine g_tsw (tgt := 64) C dX9_status_23 (by decide) (by decide) rfl (by decide) ?_
        refine g_aload_n C dX9_status_64 rfl ?_
        refine gf_X9_12 C dX9_status_65 rfl ?_
        refine gf_X9_211 (z := (wnf (vW V) : Int)) C dX9_status_68 rfl hX.1.2.1.1 ?_
        exact g_ireturn C dX9_status_71 (by first | (exfalso; omega) | (rw [show aStatus V a = (wnf (vW V) : Int) by unfold aStatus; (first | rw [if_pos (by omega)] | rw [if_neg (by omega), if_pos (by omega)] | rw [if_neg (by omega), if_neg (by omega), if_pos (by omega)] | rw [if_neg (by omega), if_neg (by omega), if_neg (by omega), if_pos (by omega)] | rw [if_neg (by omega), if_neg (by omega), if_neg (by omega), if_neg (by omega), if_pos (by omega)] | rw [if_neg (by omega), if_neg (by omega), if_neg (by omega), if_neg (by omega), if_neg (by omega), if_pos (by omega)] | rw [if_neg (by omega), if_neg (by omega), if_neg (by omega), if_neg (by omega), if_neg (by omega), if_neg (by omega)])]; exact ⟨rfl, hX, Fr.rf⟩))
      · refine g_int (z' := 2) hs4 ?_
        refine g_tsw (tgt := 72) C dX9_status_23 (by decide) (by decide) rfl (by decide) ?_
        refine g_aload_n C dX9_status_72 rfl ?_
        refine gf_X9_12 C dX9_status_73 rfl ?_
        refine g_pc (pc' := 76) rfl ?_
        refine gf_X9_217 (z := (wnj (vW V) : Int)) C dX9_status_76 rfl hX.1.2.2.1.1 ?_
        exact g_ireturn C dX9_status_79 (by first | (exfalso; omega) | (rw [show aStatus V a = (wnj (vW V) : Int) by unfold aStatus; (first | rw [if_pos (by omega)] | rw [if_neg (by omega), if_pos (by omega)] | rw [if_neg (by omega), if_neg (by omega), if_pos (by omega)] | rw [if_neg (by omega), if_neg (by omega), if_neg (by omega), if_pos (by omega)] | rw [if_neg (by omega), if_neg (by omega), if_neg (by omega), if_neg (by omega), if_pos (by omega)] | rw [if_neg (by omega), if_neg (by omega), if_neg (by omega), if_neg (by omega), if_neg (by omega), if_pos (by omega)] | rw [if_neg (by omega), if_neg (by omega), if_neg (by omega), if_neg (by omega), if_neg (by omega), if_neg (by omega)])]; exact ⟨rfl, hX, Fr.rf⟩))
      · refine g_int (z' := 3) hs4 ?_
        refine g_tsw (tgt := 80) C dX9_status_23 (by decide) (by decide) rfl (by decide) ?_
        refine g_aload_n C dX9_status_80 rfl ?_
        refine gf_X9_67 (z := (vP V : Int)) C dX9_status_81 rfl (np_rd hX) ?_
        exact g_ireturn C dX9_status_84 (by first | (exfalso; omega) | (rw [show aStatus V a = (vP V : Int) by unfold aStatus; (first | rw [if_pos (by omega)] | rw [if_neg (by omega), if_pos (by omega)] | rw [if_neg (by omega), if_neg (by omega), if_pos (by omega)] | rw [if_neg (by omega), if_neg (by omega), if_neg (by omega), if_pos (by omega)] | rw [if_neg (by omega), if_neg (by omega), if_neg (by omega), if_neg (by omega), if_pos (by omega)] | rw [if_neg (by omega), if_neg (by omega), if_neg (by omega), if_neg (by omega), if_neg (by omega), if_pos (by omega)] | rw [if_neg (by omega), if_neg (by omega), if_neg (by omega), if_neg (by omega), if_neg (by omega), if_neg (by omega)])]; exact ⟨rfl, hX, Fr.rf⟩))
      · refine g_int (z' := 4) hs4 ?_
        refine g_tsw (tgt := 85) C dX9_status_23 (by decide) (by decide) rfl (by decide) ?_
        refine g_aload_n C dX9_status_85 rfl ?_
        refine gf_X9_12 C dX9_status_86 rfl ?_
        refine gf_X9_324 (z := (wsd (vW V))) C dX9_status_89 rfl hX.1.2.2.2 ?_
        refine g_pc (pc' := 92) rfl ?_
        exact g_ireturn C dX9_status_92 (by first | (exfalso; omega) | (rw [show aStatus V a = (wsd (vW V)) by unfold aStatus; (first | rw [if_pos (by omega)] | rw [if_neg (by omega), if_pos (by omega)] | rw [if_neg (by omega), if_neg (by omega), if_pos (by omega)] | rw [if_neg (by omega), if_neg (by omega), if_neg (by omega), if_pos (by omega)] | rw [if_neg (by omega), if_neg (by omega), if_neg (by omega), if_neg (by omega), if_pos (by omega)] | rw [if_neg (by omega), if_neg (by omega), if_neg (by omega), if_neg (by omega), if_neg (by omega), if_pos (by omega)] | rw [if_neg (by omega), if_neg (by omega), if_neg (by omega), if_neg (by omega), if_neg (by omega), if_neg (by omega)])]; exact ⟨rfl, hX, Fr.rf⟩))
    · refine g_aload_n C dX9_status_12 rfl ?_
      refine gf_X9_74 C dX9_status_13 rfl ?_
      refine g_iload_n C dX9_status_16 rfl ?_
      refine g_bipush (z := 10) C dX9_status_17 rfl ?_
      refine g_isub C dX9_status_19 ?_
      refine g_iaz (n := (a - 10).toNat) (N := 8) (v := (vR V (a - 10).toNat)) C dX9_status_20 rfl rfl (by omega) (by omega) (by decide) (hX.2.2.2.2.2 (a - 10).toNat (by omega)) ?_
      exact g_ireturn C dX9_status_21 (by first | (exfalso; omega) | (rw [show aStatus V a = (vR V (a - 10).toNat) by unfold aStatus; (first | rw [if_pos (by omega)] | rw [if_neg (by omega), if_pos (by omega)] | rw [if_neg (by omega), if_neg (by omega), if_pos (by omega)] | rw [if_neg (by omega), if_neg (by omega), if_neg (by omega), if_pos (by omega)] | rw [if_neg (by omega), if_neg (by omega), if_neg (by omega), if_neg (by omega), if_pos (by omega)] | rw [if_neg (by omega), if_neg (by omega), if_neg (by omega), if_neg (by omega), if_neg (by omega), if_pos (by omega)] | rw [if_neg (by omega), if_neg (by omega), if_neg (by omega), if_neg (by omega), if_neg (by omega), if_neg (by omega)])]; exact ⟨rfl, hX, Fr.rf⟩))
set_option maxHeartbeats 4000000 in
set_option maxRecDepth 100000 in
theorem c_X9_nodeOf {κ : Kp} (hI : Ij κ) (l : Launch) (σ : St) {V : Vw} (hX : XV σ V) (hO : OKV V) {i a : Int} (hi : R32 i) (ha : R32 a) : CtI κ l 2 yX9_nodeOf cX9_nodeOf 3 .int [.ref (κ.2.1 76), .int (iZ i), .int (iZ a)] σ (fun z σ' => z = (aNodeOf V i a).1 ∧ XV σ' (aNodeOf V i a).2 ∧ Fr XC σ σ') := by
  refine Ct.ofG (own := RX9) hI (by decide +kernel) rfl (Nat.le_of_ble_eq_true rfl) rfl ?_
  intro M C hMl
  refine g_aload_n C dX9_nodeOf_0 rfl ?_
  refine g_iload_n C dX9_nodeOf_1 rfl ?_
  refine gc_X9_123 C dX9_nodeOf_2 rfl (c_X9_isNode hI (Ml M) σ (x := i) (np := vP V) (by assumption) (np_rd hX) (np_le hO)) (by decide) (Nat.le_of_ble_eq_true rfl) (fun z σ1 ⟨hz, hσ⟩ => ?_)
  subst z
  subst σ1
  refine g_ifb_ne (tgt := 14) C dX9_nodeOf_5 (by decide) (fun h1 => ?_) (fun h1 => ?_)
  · have hnp := np_le hO
    refine g_iload_n C dX9_nodeOf_14 rfl ?_
    have hs2 : a < 0 ∨ 5 < a ∨ a = 0 ∨ a = 1 ∨ a = 2 ∨ a = 3 ∨ a = 4 ∨ a = 5 := by omega
    rcases hs2 with hs2 | hs2 | hs2 | hs2 | hs2 | hs2 | hs2 | hs2
    · refine g_tswd (tgt := 116) C dX9_nodeOf_15 (by unfold R32; omega) (by omega) (by decide) ?_
      refine g_aload_n C dX9_nodeOf_116 rfl ?_
      refine g_pc (pc' := 117) rfl ?_
      refine g_iconst (z := 5) C dX9_nodeOf_117 rfl ?_
      refine gc_X9_84 C dX9_nodeOf_118 rfl (c_X9_refuse hI (Ml M) σ (y := 5) rfl (by omega)) (by decide) (Nat.le_of_ble_eq_true rfl) (fun z σ1 ⟨hz, hσ⟩ => ?_)
      subst z
      subst σ1
      exact g_ireturn C dX9_nodeOf_121 (by rw [show aNodeOf V i a = rfs 5 V by unfold aNodeOf; (first | rw [if_pos (by omega)] | rw [if_neg (by omega), if_pos (by omega)] | rw [if_neg (by omega), if_neg (by omega), if_pos (by omega)] | rw [if_neg (by omega), if_neg (by omega), if_neg (by omega), if_pos (by omega)] | rw [if_neg (by omega), if_neg (by omega), if_neg (by omega), if_neg (by omega), if_pos (by omega)] | rw [if_neg (by omega), if_neg (by omega), if_neg (by omega), if_neg (by omega), if_neg (by omega), if_pos (by omega)] | rw [if_neg (by omega), if_neg (by omega), if_neg (by omega), if_neg (by omega), if_neg (by omega), if_neg (by omega), if_pos (by omega)] | rw [if_neg (by omega), if_neg (by omega), if_neg (by omega), if_neg (by omega), if_neg (by omega), if_neg (by omega), if_neg (by omega)])]; exact ⟨rfl, hX.ref hO (by omega), XC.ref⟩)
    · refine g_tswd (tgt := 116) C dX9_nodeOf_15 (by unfold R32; omega) (by omega) (by decide) ?_
      refine g_aload_n C dX9_nodeOf_116 rfl ?_
      refine g_iconst (z := 5) C dX9_nodeOf_117 rfl ?_
      refine gc_X9_84 C dX9_nodeOf_118 rfl (c_X9_refuse hI (Ml M) σ (y := 5) rfl (by omega)) (by decide) (Nat.le_of_ble_eq_true rfl) (fun z σ1 ⟨hz, hσ⟩ => ?_)
      subst z
      subst σ1
      exact g_ireturn C dX9_nodeOf_121 (by rw [show aNodeOf V i a = rfs 5 V by unfold aNodeOf; (first | rw [if_pos (by omega)] | rw [if_neg (by omega), if_pos (by omega)] | rw [if_neg (by omega), if_neg (by omega), if_pos (by omega)] | rw [if_neg (by omega), if_neg (by omega), if_neg (by omega), if_pos (by omega)] | rw [if_neg (by omega), if_neg (by omega), if_neg (by omega), if_neg (by omega), if_pos (by omega)] | rw [if_neg (by omega), if_neg (by omega), if_neg (by omega), if_neg (by omega), if_neg (by omega), if_pos (by omega)] | rw [if_neg (by omega), if_neg (by omega), if_neg (by omega), if_neg (by omega), if_neg (by omega), if_neg (by omega), if_pos (by omega)] | rw [if_neg (by omega), if_neg (by omega), if_neg (by omega), if_neg (by omega), if_neg (by omega), if_neg (by omega), if_neg (by omega)])]; exact ⟨rfl, hX.ref hO (by omega), XC.ref⟩)
    · refine g_int (z' := 0) hs2 ?_
      refine g_tsw (tgt := 52) C dX9_nodeOf_15 (by decide) (by decide) rfl (by decide) ?_
      refine g_aload_n C dX9_nodeOf_52 rfl ?_
      refine g_pc (pc' := 53) rfl ?_
      refine gf_X9_63 C dX9_nodeOf_53 rfl ?_
      refine g_iload_n C dX9_nodeOf_56 rfl ?_
      have hkz3 : kd (58 + i.toNat) = 2 := kd_node i.toNat (by omega)
      refine g_aald (n := i.toNat) (N := 18) (c := 24) (r := (58 + i.toNat)) C dX9_nodeOf_57 rfl (by decide) rfl (by decide) rfl (by omega) (by omega) (by decide) (rf_24 _ _ rfl) ?_
      refine gf_X9_284 (z := (vD V i.toNat 0)) C dX9_nodeOf_58 hkz3 (nd_rd hX (by omega) (by decide)) ?_
      exact g_ireturn C dX9_nodeOf_61 (by rw [show aNodeOf V i a = ((vD V i.toNat 0), V) by unfold aNodeOf; (first | rw [if_pos (by omega)] | rw [if_neg (by omega), if_pos (by omega)] | rw [if_neg (by omega), if_neg (by omega), if_pos (by omega)] | rw [if_neg (by omega), if_neg (by omega), if_neg (by omega), if_pos (by omega)] | rw [if_neg (by omega), if_neg (by omega), if_neg (by omega), if_neg (by omega), if_pos (by omega)] | rw [if_neg (by omega), if_neg (by omega), if_neg (by omega), if_neg (by omega), if_neg (by omega), if_pos (by omega)] | rw [if_neg (by omega), if_neg (by omega), if_neg (by omega), if_neg (by omega), if_neg (by omega), if_neg (by omega), if_pos (by omega)] | rw [if_neg (by omega), if_neg (by omega), if_neg (by omega), if_neg (by omega), if_neg (by omega), if_neg (by omega), if_neg (by omega)])]; exact ⟨rfl, hX, Fr.rf⟩)
    · refine g_int (z' := 1) hs2 ?_
      refine g_tsw (tgt := 62) C dX9_nodeOf_15 (by decide) (by decide) rfl (by decide) ?_
      refine g_aload_n C dX9_nodeOf_62 rfl ?_
      refine gf_X9_63 C dX9_nodeOf_63 rfl ?_
      refine g_iload_n C dX9_nodeOf_66 rfl ?_
      refine g_pc (pc' := 67) rfl ?_
      have hkz4 : kd (58 + i.toNat) = 2 := kd_node i.toNat (by omega)
      refine g_aald (n := i.toNat) (N := 18) (c := 24) (r := (58 + i.toNat)) C dX9_nodeOf_67 rfl (by decide) rfl (by decide) rfl (by omega) (by omega) (by decide) (rf_24 _ _ rfl) ?_
      refine gf_X9_286 (z := (vD V i.toNat 1)) C dX9_nodeOf_68 hkz4 (nd_rd hX (by omega) (by decide)) ?_
      exact g_ireturn C dX9_nodeOf_71 (by rw [show aNodeOf V i a = ((vD V i.toNat 1), V) by unfold aNodeOf; (first | rw [if_pos (by omega)] | rw [if_neg (by omega), if_pos (by omega)] | rw [if_neg (by omega), if_neg (by omega), if_pos (by omega)] | rw [if_neg (by omega), if_neg (by omega), if_neg (by omega), if_pos (by omega)] | rw [if_neg (by omega), if_neg (by omega), if_neg (by omega), if_neg (by omega), if_pos (by omega)] | rw [if_neg (by omega), if_neg (by omega), if_neg (by omega), if_neg (by omega), if_neg (by omega), if_pos (by omega)] | rw [if_neg (by omega), if_neg (by omega), if_neg (by omega), if_neg (by omega), if_neg (by omega), if_neg (by omega), if_pos (by omega)] | rw [if_neg (by omega), if_neg (by omega), if_neg (by omega), if_neg (by omega), if_neg (by omega), if_neg (by omega), if_neg (by omega)])]; exact ⟨rfl, hX, Fr.rf⟩)
    · refine g_int (z' := 2) hs2 ?_
      refine g_tsw (tgt := 72) C dX9_nodeOf_15 (by decide) (by decide) rfl (by decide) ?_
      refine g_aload_n C dX9_nodeOf_72 rfl ?_
      refine gf_X9_63 C dX9_nodeOf_73 rfl ?_
      refine g_iload_n C dX9_nodeOf_76 rfl ?_
      have hkz5 : kd (58 + i.toNat) = 2 := kd_node i.toNat (by omega)
      refine g_aald (n := i.toNat) (N := 18) (c := 24) (r := (58 + i.toNat)) C dX9_nodeOf_77 rfl (by decide) rfl (by decide) rfl (by omega) (by omega) (by decide) (rf_24 _ _ rfl) ?_
      refine gf_X9_288 (z := (vD V i.toNat 2)) C dX9_nodeOf_78 hkz5 (nd_rd hX (by omega) (by decide)) ?_
      refine g_pc (pc' := 81) rfl ?_
      refine g_iconst (z := 1) C dX9_nodeOf_81 rfl ?_
      refine g_iadd C dX9_nodeOf_82 ?_
      exact g_ireturn C dX9_nodeOf_83 (by rw [show aNodeOf V i a = (((vD V i.toNat 2) + 1), V) by unfold aNodeOf; (first | rw [if_pos (by omega)] | rw [if_neg (by omega), if_pos (by omega)] | rw [if_neg (by omega), if_neg (by omega), if_pos (by omega)] | rw [if_neg (by omega), if_neg (by omega), if_neg (by omega), if_pos (by omega)] | rw [if_neg (by omega), if_neg (by omega), if_neg (by omega), if_neg (by omega), if_pos (by omega)] | rw [if_neg (by omega), if_neg (by omega), if_neg (by omega), if_neg (by omega), if_neg (by omega), if_pos (by omega)] | rw [if_neg (by omega), if_neg (by omega), if_neg (by omega), if_neg (by omega), if_neg (by omega), if_neg (by omega), if_pos (by omega)] | rw [if_neg (by omega), if_neg (by omega), if_neg (by omega), if_neg (by omega), if_neg (by omega), if_neg (by omega), if_neg (by omega)])]; exact ⟨rfl, hX, Fr.rf⟩)
    · refine g_int (z' := 3) hs2 ?_
      refine g_tsw (tgt := 84) C dX9_nodeOf_15 (by decide) (by decide) rfl (by decide) ?_
      refine g_aload_n C dX9_nodeOf_84 rfl ?_
      refine gf_X9_63 C dX9_nodeOf_85 rfl ?_
      refine g_iload_n C dX9_nodeOf_88 rfl ?_
      have hkz6 : kd (58 + i.toNat) = 2 := kd_node i.toNat (by omega)
      refine g_aald (n := i.toNat) (N := 18) (c := 24) (r := (58 + i.toNat)) C dX9_nodeOf_89 rfl (by decide) rfl (by decide) rfl (by omega) (by omega) (by decide) (rf_24 _ _ rfl) ?_
      refine gf_X9_291 (z := (vD V i.toNat 3)) C dX9_nodeOf_90 hkz6 (nd_rd hX (by omega) (by decide)) ?_
      refine g_pc (pc' := 93) rfl ?_
      exact g_ireturn C dX9_nodeOf_93 (by rw [show aNodeOf V i a = ((vD V i.toNat 3), V) by unfold aNodeOf; (first | rw [if_pos (by omega)] | rw [if_neg (by omega), if_pos (by omega)] | rw [if_neg (by omega), if_neg (by omega), if_pos (by omega)] | rw [if_neg (by omega), if_neg (by omega), if_neg (by omega), if_pos (by omega)] | rw [if_neg (by omega), if_neg (by omega), if_neg (by omega), if_neg (by omega), if_pos (by omega)] | rw [if_neg (by omega), if_neg (by omega), if_neg (by omega), if_neg (by omega), if_neg (by omega), if_pos (by omega)] | rw [if_neg (by omega), if_neg (by omega), if_neg (by omega), if_neg (by omega), if_neg (by omega), if_neg (by omega), if_pos (by omega)] | rw [if_neg (by omega), if_neg (by omega), if_neg (by omega), if_neg (by omega), if_neg (by omega), if_neg (by omega), if_neg (by omega)])]; exact ⟨rfl, hX, Fr.rf⟩)
    · refine g_int (z' := 4) hs2 ?_
      refine g_tsw (tgt := 94) C dX9_nodeOf_15 (by decide) (by decide) rfl (by decide) ?_
      refine g_aload_n C dX9_nodeOf_94 rfl ?_
      refine gf_X9_63 C dX9_nodeOf_95 rfl ?_
      refine g_iload_n C dX9_nodeOf_98 rfl ?_
      have hkz7 : kd (58 + i.toNat) = 2 := kd_node i.toNat (by omega)
      refine g_aald (n := i.toNat) (N := 18) (c := 24) (r := (58 + i.toNat)) C dX9_nodeOf_99 rfl (by decide) rfl (by decide) rfl (by omega) (by omega) (by decide) (rf_24 _ _ rfl) ?_
      refine gf_X9_294 (z := (vD V i.toNat 4)) C dX9_nodeOf_100 hkz7 (nd_rd hX (by omega) (by decide)) ?_
      refine g_iconst (z := 1) C dX9_nodeOf_103 rfl ?_
      refine g_iadd C dX9_nodeOf_104 ?_
      refine g_pc (pc' := 105) rfl ?_
      exact g_ireturn C dX9_nodeOf_105 (by rw [show aNodeOf V i a = (((vD V i.toNat 4) + 1), V) by unfold aNodeOf; (first | rw [if_pos (by omega)] | rw [if_neg (by omega), if_pos (by omega)] | rw [if_neg (by omega), if_neg (by omega), if_pos (by omega)] | rw [if_neg (by omega), if_neg (by omega), if_neg (by omega), if_pos (by omega)] | rw [if_neg (by omega), if_neg (by omega), if_neg (by omega), if_neg (by omega), if_pos (by omega)] | rw [if_neg (by omega), if_neg (by omega), if_neg (by omega), if_neg (by omega), if_neg (by omega), if_pos (by omega)] | rw [if_neg (by omega), if_neg (by omega), if_neg (by omega), if_neg (by omega), if_neg (by omega), if_neg (by omega), if_pos (by omega)] | rw [if_neg (by omega), if_neg (by omega), if_neg (by omega), if_neg (by omega), if_neg (by omega), if_neg (by omega), if_neg (by omega)])]; exact ⟨rfl, hX, Fr.rf⟩)
    · refine g_int (z' := 5) hs2 ?_
      refine g_tsw (tgt := 106) C dX9_nodeOf_15 (by decide) (by decide) rfl (by decide) ?_
      refine g_aload_n C dX9_nodeOf_106 rfl ?_
      refine gf_X9_63 C dX9_nodeOf_107 rfl ?_
      refine g_iload_n C dX9_nodeOf_110 rfl ?_
      have hkz8 : kd (58 + i.toNat) = 2 := kd_node i.toNat (by omega)
      refine g_aald (n := i.toNat) (N := 18) (c := 24) (r := (58 + i.toNat)) C dX9_nodeOf_111 rfl (by decide) rfl (by decide) rfl (by omega) (by omega) (by decide) (rf_24 _ _ rfl) ?_
      refine gf_X9_297 (z := (vD V i.toNat 6)) C dX9_nodeOf_112 hkz8 (nd_rd hX (by omega) (by decide)) ?_
      exact g_ireturn C dX9_nodeOf_115 (by rw [show aNodeOf V i a = ((vD V i.toNat 6), V) by unfold aNodeOf; (first | rw [if_pos (by omega)] | rw [if_neg (by omega), if_pos (by omega)] | rw [if_neg (by omega), if_neg (by omega), if_pos (by omega)] | rw [if_neg (by omega), if_neg (by omega), if_neg (by omega), if_pos (by omega)] | rw [if_neg (by omega), if_neg (by omega), if_neg (by omega), if_neg (by omega), if_pos (by omega)] | rw [if_neg (by omega), if_neg (by omega), if_neg (by omega), if_neg (by omega), if_neg (by omega), if_pos (by omega)] | rw [if_neg (by omega), if_neg (by omega), if_neg (by omega), if_neg (by omega), if_neg (by omega), if_neg (by omega), if_pos (by omega)] | rw [if_neg (by omega), if_neg (by omega), if_neg (by omega), if_neg (by omega), if_neg (by omega), if_neg (by omega), if_neg (by omega)])]; exact ⟨rfl, hX, Fr.rf⟩)
  · refine g_aload_n C dX9_nodeOf_8 rfl ?_
    refine g_pc (pc' := 9) rfl ?_
    refine g_iconst (z := 5) C dX9_nodeOf_9 rfl ?_
    refine gc_X9_84 C dX9_nodeOf_10 rfl (c_X9_refuse hI (Ml M) σ (y := 5) rfl (by omega)) (by decide) (Nat.le_of_ble_eq_true rfl) (fun z σ1 ⟨hz, hσ⟩ => ?_)
    subst z
    subst σ1
    exact g_ireturn C dX9_nodeOf_13 (by rw [show aNodeOf V i a = rfs 5 V by unfold aNodeOf; (first | rw [if_pos (by omega)] | rw [if_neg (by omega), if_pos (by omega)] | rw [if_neg (by omega), if_neg (by omega), if_pos (by omega)] | rw [if_neg (by omega), if_neg (by omega), if_neg (by omega), if_pos (by omega)] | rw [if_neg (by omega), if_neg (by omega), if_neg (by omega), if_neg (by omega), if_pos (by omega)] | rw [if_neg (by omega), if_neg (by omega), if_neg (by omega), if_neg (by omega), if_neg (by omega), if_pos (by omega)] | rw [if_neg (by omega), if_neg (by omega), if_neg (by omega), if_neg (by omega), if_neg (by omega), if_neg (by omega), if_pos (by omega)] | rw [if_neg (by omega), if_neg (by omega), if_neg (by omega), if_neg (by omega), if_neg (by omega), if_neg (by omega), if_neg (by omega)])]; exact ⟨rfl, hX.ref hO (by omega), XC.ref⟩)
set_option maxHeartbeats 4000000 in
set_option maxRecDepth 100000 in
theorem c_X9_copy {κ : Kp} (hI : Ij κ) (l : Launch) (σ : St) {V : Vw} (hX : XV σ V) (hO : OKV V) {x y i j n : Int} (hx : R32 x) (hy : R32 y) (hi : R32 i) (hj : R32 j) (hn : R32 n) : CtI κ l 2 yX9_copy cX9_copy 8 .int [.ref (κ.2.1 76), .int (iZ x), .int (iZ y), .int (iZ i), .int (iZ j), .int (iZ n)] σ (fun z σ' => z = (aCopy V x y i j n).1 ∧ XV σ' (aCopy V x y i j n).2 ∧ Fr XC σ σ') := by
  refine Ct.ofG (own := RX9) hI (by decide +kernel) rfl (Nat.le_of_ble_eq_true rfl) rfl ?_
  intro M C hMl
  refine g_iload_n C dX9_copy_0 rfl ?_
  refine g_bipush (z := 8) C dX9_copy_1 rfl ?_
  refine gc_X9_80 C dX9_copy_3 (c_X9_isBelow hI (Ml M) σ (x := x) (e := 8) (by unfold R32; omega) (by unfold R32; omega)) (by decide) (Nat.le_of_ble_eq_true rfl) (fun z σ1 ⟨hz, hσ⟩ => ?_)
  subst z
  subst σ1
  refine g_ifb_eq (tgt := 18) C dX9_copy_6 (by decide) (fun h1 => ?_) (fun h1 => ?_)
  · refine g_aload_n C dX9_copy_18 rfl ?_
    refine g_iconst (z := 1) C dX9_copy_19 rfl ?_
    refine gc_X9_84 C dX9_copy_20 rfl (c_X9_refuse hI (Ml M) σ (y := 1) rfl (by omega)) (by decide) (Nat.le_of_ble_eq_true rfl) (fun z σ1 ⟨hz, hσ⟩ => ?_)
    subst z
    subst σ1
    refine g_pc (pc' := 23) rfl ?_
    exact g_ireturn C dX9_copy_23 (by rw [show aCopy V x y i j n = rfs 1 V by unfold aCopy; (first | rw [if_pos (by omega)] | rw [if_neg (by omega), if_pos (by omega)] | rw [if_neg (by omega), if_neg (by omega), if_pos (by omega)] | rw [if_neg (by omega), if_neg (by omega), if_neg (by omega), if_pos (by omega)] | rw [if_neg (by omega), if_neg (by omega), if_neg (by omega), if_neg (by omega), if_pos (by omega)] | rw [if_neg (by omega), if_neg (by omega), if_neg (by omega), if_neg (by omega), if_neg (by omega)])]; exact ⟨rfl, hX.ref hO (by omega), XC.ref⟩)
  · refine g_iload_n C dX9_copy_9 rfl ?_
    refine g_bipush (z := 8) C dX9_copy_10 rfl ?_
    refine gc_X9_80 C dX9_copy_12 (c_X9_isBelow hI (Ml M) σ (x := y) (e := 8) (by unfold R32; omega) (by unfold R32; omega)) (by decide) (Nat.le_of_ble_eq_true rfl) (fun z σ1 ⟨hz, hσ⟩ => ?_)
    subst z
    subst σ1
    refine g_ifb_ne (tgt := 24) C dX9_copy_15 (by decide) (fun h2 => ?_) (fun h2 => ?_)
    · have hk2x := (hX.kinds hO x.toNat (by omega)).2
      have hk2y := (hX.kinds hO y.toNat (by omega)).2
      refine g_aload_n C dX9_copy_24 rfl ?_
      refine gf_X9_57 C dX9_copy_25 rfl ?_
      refine g_iload_n C dX9_copy_28 rfl ?_
      refine g_pc (pc' := 29) rfl ?_
      have hkz3 : kd (34 + 3 * x.toNat) = 4 := kd_shelf x.toNat (by omega)
      refine g_aald (n := x.toNat) (N := 8) (c := 25) (r := (34 + 3 * x.toNat)) C dX9_copy_29 rfl (by decide) rfl (by decide) rfl (by omega) (by omega) (by decide) (rf_25 _ _ rfl) ?_
      refine g_astore (L' := [(6, .ref (κ.2.1 (34 + 3 * x.toNat))), (0, .ref (κ.2.1 76)), (1, .int (iZ x)), (2, .int (iZ y)), (3, .int (iZ i)), (4, .int (iZ j)), (5, .int (iZ n))]) C dX9_copy_30 (by decide) rfl ?_
      refine g_aload_n C dX9_copy_32 rfl ?_
      refine gf_X9_57 C dX9_copy_33 rfl ?_
      refine g_iload_n C dX9_copy_36 rfl ?_
      have hkz4 : kd (34 + 3 * y.toNat) = 4 := kd_shelf y.toNat (by omega)
      refine g_aald (n := y.toNat) (N := 8) (c := 25) (r := (34 + 3 * y.toNat)) C dX9_copy_37 rfl (by decide) rfl (by decide) rfl (by omega) (by omega) (by decide) (rf_25 _ _ rfl) ?_
      refine g_astore (L' := [(7, .ref (κ.2.1 (34 + 3 * y.toNat))), (6, .ref (κ.2.1 (34 + 3 * x.toNat))), (0, .ref (κ.2.1 76)), (1, .int (iZ x)), (2, .int (iZ y)), (3, .int (iZ i)), (4, .int (iZ j)), (5, .int (iZ n))]) C dX9_copy_38 (by decide) rfl ?_
      refine g_aload C dX9_copy_40 rfl ?_
      refine g_pc (pc' := 42) rfl ?_
      refine gf_X9_102 (z := (sK (vSh V) x.toNat : Int)) C dX9_copy_42 hkz3 ((hX.2.2.1 x.toNat (by omega)).1) ?_
      refine g_iconst (z := 2) C dX9_copy_45 rfl ?_
      refine g_icmp_eq (tgt := 68) C dX9_copy_46 (by decide) (by unfold R32; omega) (fun h5 => ?_) (fun h5 => ?_)
      · refine g_aload_n C dX9_copy_68 rfl ?_
        refine g_iconst (z := 2) C dX9_copy_69 rfl ?_
        refine gc_X9_84 C dX9_copy_70 rfl (c_X9_refuse hI (Ml M) σ (y := 2) rfl (by omega)) (by decide) (Nat.le_of_ble_eq_true rfl) (fun z σ1 ⟨hz, hσ⟩ => ?_)
        subst z
        subst σ1
        exact g_ireturn C dX9_copy_73 (by rw [show aCopy V x y i j n = rfs 2 V by unfold aCopy; (first | rw [if_pos (by omega)] | rw [if_neg (by omega), if_pos (by omega)] | rw [if_neg (by omega), if_neg (by omega), if_pos (by omega)] | rw [if_neg (by omega), if_neg (by omega), if_neg (by omega), if_pos (by omega)] | rw [if_neg (by omega), if_neg (by omega), if_neg (by omega), if_neg (by omega), if_pos (by omega)] | rw [if_neg (by omega), if_neg (by omega), if_neg (by omega), if_neg (by omega), if_neg (by omega)])]; exact ⟨rfl, hX.ref hO (by omega), XC.ref⟩)
      · refine g_aload C dX9_copy_49 rfl ?_
        refine g_pc (pc' := 51) rfl ?_
        refine gf_X9_102 (z := (sK (vSh V) y.toNat : Int)) C dX9_copy_51 hkz4 ((hX.2.2.1 y.toNat (by omega)).1) ?_
        refine g_iconst (z := 2) C dX9_copy_54 rfl ?_
        refine g_icmp_eq (tgt := 68) C dX9_copy_55 (by decide) (by unfold R32; omega) (fun h6 => ?_) (fun h6 => ?_)
        · refine g_aload_n C dX9_copy_68 rfl ?_
          refine g_iconst (z := 2) C dX9_copy_69 rfl ?_
          refine gc_X9_84 C dX9_copy_70 rfl (c_X9_refuse hI (Ml M) σ (y := 2) rfl (by omega)) (by decide) (Nat.le_of_ble_eq_true rfl) (fun z σ1 ⟨hz, hσ⟩ => ?_)
          subst z
          subst σ1
          exact g_ireturn C dX9_copy_73 (by rw [show aCopy V x y i j n = rfs 2 V by unfold aCopy; (first | rw [if_pos (by omega)] | rw [if_neg (by omega), if_pos (by omega)] | rw [if_neg (by omega), if_neg (by omega), if_pos (by omega)] | rw [if_neg (by omega), if_neg (by omega), if_neg (by omega), if_pos (by omega)] | rw [if_neg (by omega), if_neg (by omega), if_neg (by omega), if_neg (by omega), if_pos (by omega)] | rw [if_neg (by omega), if_neg (by omega), if_neg (by omega), if_neg (by omega), if_neg (by omega)])]; exact ⟨rfl, hX.ref hO (by omega), XC.ref⟩)
        · refine g_aload C dX9_copy_58 rfl ?_
          refine g_pc (pc' := 60) rfl ?_
          refine g_aload C dX9_copy_60 rfl ?_
          have hqx := (hX.2.2.1 x.toNat (by omega)).2.1
          have hqy := (hX.2.2.1 y.toNat (by omega)).2.1
          refine gc_X9_105 C dX9_copy_62 (c_X9_areRowsOfTwoSorts hI (Ml M) σ hkz3 hkz4 (hX.2.2.1 x.toNat (by omega)).1 (hX.2.2.1 y.toNat (by omega)).1 rfl rfl (by unfold R32; omega) (fun _ _ => by unfold R32; omega)) (by decide) (Nat.le_of_ble_eq_true rfl) (fun z σ9 ⟨hz, hσ⟩ => ?_)
          subst z
          subst σ9
          have hsox := fun hq => (sh_row hX hO (s := x.toNat) (by omega) hq).1
          have hsoy := fun hq => (sh_row hX hO (s := y.toNat) (by omega) hq).1
          refine g_ifb_eq (tgt := 74) C dX9_copy_65 (by decide) (fun h7 => ?_) (fun h7 => ?_)
          · refine g_aload C dX9_copy_74 rfl ?_
            refine gf_X9_102 (z := (sK (vSh V) x.toNat : Int)) C dX9_copy_76 hkz3 ((hX.2.2.1 x.toNat (by omega)).1) ?_
            refine g_if_eq (tgt := 90) C dX9_copy_79 (by decide) (by unfold R32; omega) (fun h8 => ?_) (fun h8 => ?_)
            · refine g_aload_n C dX9_copy_90 rfl ?_
              refine g_iconst (z := 3) C dX9_copy_91 rfl ?_
              refine g_pc (pc' := 92) rfl ?_
              refine gc_X9_84 C dX9_copy_92 rfl (c_X9_refuse hI (Ml M) σ (y := 3) rfl (by omega)) (by decide) (Nat.le_of_ble_eq_true rfl) (fun z σ1 ⟨hz, hσ⟩ => ?_)
              subst z
              subst σ1
              exact g_ireturn C dX9_copy_95 (by rw [show aCopy V x y i j n = rfs 3 V by unfold aCopy; (first | rw [if_pos (by omega)] | rw [if_neg (by omega), if_pos (by omega)] | rw [if_neg (by omega), if_neg (by omega), if_pos (by omega)] | rw [if_neg (by omega), if_neg (by omega), if_neg (by omega), if_pos (by omega)] | rw [if_neg (by omega), if_neg (by omega), if_neg (by omega), if_neg (by omega), if_pos (by omega)] | rw [if_neg (by omega), if_neg (by omega), if_neg (by omega), if_neg (by omega), if_neg (by omega)])]; exact ⟨rfl, hX.ref hO (by omega), XC.ref⟩)
            · refine g_aload C dX9_copy_82 rfl ?_
              refine gf_X9_102 (z := (sK (vSh V) y.toNat : Int)) C dX9_copy_84 hkz4 ((hX.2.2.1 y.toNat (by omega)).1) ?_
              refine g_if_ne (tgt := 96) C dX9_copy_87 (by decide) (by unfold R32; omega) (fun h9 => ?_) (fun h9 => ?_)
              · have hrx := sh_row hX hO (s := x.toNat) (by omega) (by omega)
                have hry := sh_row hX hO (s := y.toNat) (by omega) (by omega)
                refine g_iload C dX9_copy_96 rfl ?_
                refine g_if_ge (tgt := 107) C dX9_copy_98 (by decide) (by unfold R32; omega) (fun h10 => ?_) (fun h10 => ?_)
                · refine g_aload C dX9_copy_107 rfl ?_
                  refine g_pc (pc' := 109) rfl ?_
                  refine g_iload_n C dX9_copy_109 rfl ?_
                  refine g_iload C dX9_copy_110 rfl ?_
                  refine gc_X9_109 C dX9_copy_112 (c_X9_hasElements hI (Ml M) σ hkz3 hrx.2.1 hrx.2.2.2.2 (by assumption) (by assumption)) (by decide) (Nat.le_of_ble_eq_true rfl) (fun z σ9 ⟨hz, hσ⟩ => ?_)
                  subst z
                  subst σ9
                  refine g_ifb_eq (tgt := 130) C dX9_copy_115 (by decide) (fun h11 => ?_) (fun h11 => ?_)
                  · refine g_aload_n C dX9_copy_130 rfl ?_
                    refine g_iconst (z := 5) C dX9_copy_131 rfl ?_
                    refine gc_X9_84 C dX9_copy_132 rfl (c_X9_refuse hI (Ml M) σ (y := 5) rfl (by omega)) (by decide) (Nat.le_of_ble_eq_true rfl) (fun z σ1 ⟨hz, hσ⟩ => ?_)
                    subst z
                    subst σ1
                    exact g_ireturn C dX9_copy_135 (by rw [show aCopy V x y i j n = rfs 5 V by unfold aCopy; (first | rw [if_pos (by omega)] | rw [if_neg (by omega), if_pos (by omega)] | rw [if_neg (by omega), if_neg (by omega), if_pos (by omega)] | rw [if_neg (by omega), if_neg (by omega), if_neg (by omega), if_pos (by omega)] | rw [if_neg (by omega), if_neg (by omega), if_neg (by omega), if_neg (by omega), if_pos (by omega)] | rw [if_neg (by omega), if_neg (by omega), if_neg (by omega), if_neg (by omega), if_neg (by omega)])]; exact ⟨rfl, hX.ref hO (by omega), XC.ref⟩)
                  · refine g_pc (pc' := 118) rfl ?_
                    refine g_aload C dX9_copy_118 rfl ?_
                    refine g_iload C dX9_copy_120 rfl ?_
                    refine g_iload C dX9_copy_122 rfl ?_
                    refine gc_X9_109 C dX9_copy_124 (c_X9_hasElements hI (Ml M) σ hkz4 hry.2.1 hry.2.2.2.2 (by assumption) (by assumption)) (by decide) (Nat.le_of_ble_eq_true rfl) (fun z σ9 ⟨hz, hσ⟩ => ?_)
                    subst z
                    subst σ9
                    refine g_ifb_ne (tgt := 136) C dX9_copy_127 (by decide) (fun h12 => ?_) (fun h12 => ?_)
                    · refine g_aload C dX9_copy_136 rfl ?_
                      refine gf_X9_113 C dX9_copy_138 hkz3 ?_
                      refine g_iload_n C dX9_copy_141 rfl ?_
                      refine g_pc (pc' := 142) rfl ?_
                      refine g_aload C dX9_copy_142 rfl ?_
                      refine gf_X9_113 C dX9_copy_144 hkz4 ?_
                      refine g_iload C dX9_copy_147 rfl ?_
                      refine g_iload C dX9_copy_149 rfl ?_
                      refine gyl_X9_117 (a := i.toNat) (b := j.toNat) (c := n.toNat) (N := 160) (N2 := 160) C dX9_copy_151 (kd4 hkz3).1 (kd4 hkz3).2.1 (kd4 hkz4).1 (kd4 hkz4).2.1 (by omega) (by omega) (by omega) (by omega) (by decide) (Nat.le_of_ble_eq_true rfl) ?_
                      refine g_iconst (z := 1) C dX9_copy_154 rfl ?_
                      exact g_ireturn C dX9_copy_155 (by rw [show aCopy V x y i j n = (1, vSet V (hset (vSh V) y.toNat 1 (sO (vSh V) y.toNat) (sN (vSh V) y.toNat) (cpE (sE (vSh V) x.toNat) (sE (vSh V) y.toNat) i.toNat j.toNat n.toNat) (sD (vSh V) y.toNat))) by unfold aCopy; (first | rw [if_pos (by omega)] | rw [if_neg (by omega), if_pos (by omega)] | rw [if_neg (by omega), if_neg (by omega), if_pos (by omega)] | rw [if_neg (by omega), if_neg (by omega), if_neg (by omega), if_pos (by omega)] | rw [if_neg (by omega), if_neg (by omega), if_neg (by omega), if_neg (by omega), if_pos (by omega)] | rw [if_neg (by omega), if_neg (by omega), if_neg (by omega), if_neg (by omega), if_neg (by omega)])]; exact ⟨rfl, (hX.cpy hO (by omega) (by omega) (by omega) (by omega) (by omega) (by omega) (by omega)).1, (hX.cpy hO (by omega) (by omega) (by omega) (by omega) (by omega) (by omega) (by omega)).2⟩)
                    · refine g_aload_n C dX9_copy_130 rfl ?_
                      refine g_pc (pc' := 131) rfl ?_
                      refine g_iconst (z := 5) C dX9_copy_131 rfl ?_
                      refine gc_X9_84 C dX9_copy_132 rfl (c_X9_refuse hI (Ml M) σ (y := 5) rfl (by omega)) (by decide) (Nat.le_of_ble_eq_true rfl) (fun z σ1 ⟨hz, hσ⟩ => ?_)
                      subst z
                      subst σ1
                      exact g_ireturn C dX9_copy_135 (by rw [show aCopy V x y i j n = rfs 5 V by unfold aCopy; (first | rw [if_pos (by omega)] | rw [if_neg (by omega), if_pos (by omega)] | rw [if_neg (by omega), if_neg (by omega), if_pos (by omega)] | rw [if_neg (by omega), if_neg (by omega), if_neg (by omega), if_pos (by omega)] | rw [if_neg (by omega), if_neg (by omega), if_neg (by omega), if_neg (by omega), if_pos (by omega)] | rw [if_neg (by omega), if_neg (by omega), if_neg (by omega), if_neg (by omega), if_neg (by omega)])]; exact ⟨rfl, hX.ref hO (by omega), XC.ref⟩)
                · refine g_aload_n C dX9_copy_101 rfl ?_
                  refine g_iconst (z := 4) C dX9_copy_102 rfl ?_
                  refine gc_X9_84 C dX9_copy_103 rfl (c_X9_refuse hI (Ml M) σ (y := 4) rfl (by omega)) (by decide) (Nat.le_of_ble_eq_true rfl) (fun z σ1 ⟨hz, hσ⟩ => ?_)
                  subst z
                  subst σ1
                  exact g_ireturn C dX9_copy_106 (by rw [show aCopy V x y i j n = rfs 4 V by unfold aCopy; (first | rw [if_pos (by omega)] | rw [if_neg (by omega), if_pos (by omega)] | rw [if_neg (by omega), if_neg (by omega), if_pos (by omega)] | rw [if_neg (by omega), if_neg (by omega), if_neg (by omega), if_pos (by omega)] | rw [if_neg (by omega), if_neg (by omega), if_neg (by omega), if_neg (by omega), if_pos (by omega)] | rw [if_neg (by omega), if_neg (by omega), if_neg (by omega), if_neg (by omega), if_neg (by omega)])]; exact ⟨rfl, hX.ref hO (by omega), XC.ref⟩)
              · refine g_aload_n C dX9_copy_90 rfl ?_
                refine g_pc (pc' := 91) rfl ?_
                refine g_iconst (z := 3) C dX9_copy_91 rfl ?_
                refine gc_X9_84 C dX9_copy_92 rfl (c_X9_refuse hI (Ml M) σ (y := 3) rfl (by omega)) (by decide) (Nat.le_of_ble_eq_true rfl) (fun z σ1 ⟨hz, hσ⟩ => ?_)
                subst z
                subst σ1
                exact g_ireturn C dX9_copy_95 (by rw [show aCopy V x y i j n = rfs 3 V by unfold aCopy; (first | rw [if_pos (by omega)] | rw [if_neg (by omega), if_pos (by omega)] | rw [if_neg (by omega), if_neg (by omega), if_pos (by omega)] | rw [if_neg (by omega), if_neg (by omega), if_neg (by omega), if_pos (by omega)] | rw [if_neg (by omega), if_neg (by omega), if_neg (by omega), if_neg (by omega), if_pos (by omega)] | rw [if_neg (by omega), if_neg (by omega), if_neg (by omega), if_neg (by omega), if_neg (by omega)])]; exact ⟨rfl, hX.ref hO (by omega), XC.ref⟩)
          · refine g_aload_n C dX9_copy_68 rfl ?_
            refine g_iconst (z := 2) C dX9_copy_69 rfl ?_
            refine gc_X9_84 C dX9_copy_70 rfl (c_X9_refuse hI (Ml M) σ (y := 2) rfl (by omega)) (by decide) (Nat.le_of_ble_eq_true rfl) (fun z σ1 ⟨hz, hσ⟩ => ?_)
            subst z
            subst σ1
            exact g_ireturn C dX9_copy_73 (by rw [show aCopy V x y i j n = rfs 2 V by unfold aCopy; (first | rw [if_pos (by omega)] | rw [if_neg (by omega), if_pos (by omega)] | rw [if_neg (by omega), if_neg (by omega), if_pos (by omega)] | rw [if_neg (by omega), if_neg (by omega), if_neg (by omega), if_pos (by omega)] | rw [if_neg (by omega), if_neg (by omega), if_neg (by omega), if_neg (by omega), if_pos (by omega)] | rw [if_neg (by omega), if_neg (by omega), if_neg (by omega), if_neg (by omega), if_neg (by omega)])]; exact ⟨rfl, hX.ref hO (by omega), XC.ref⟩)
    · refine g_aload_n C dX9_copy_18 rfl ?_
      refine g_pc (pc' := 19) rfl ?_
      refine g_iconst (z := 1) C dX9_copy_19 rfl ?_
      refine gc_X9_84 C dX9_copy_20 rfl (c_X9_refuse hI (Ml M) σ (y := 1) rfl (by omega)) (by decide) (Nat.le_of_ble_eq_true rfl) (fun z σ1 ⟨hz, hσ⟩ => ?_)
      subst z
      subst σ1
      exact g_ireturn C dX9_copy_23 (by rw [show aCopy V x y i j n = rfs 1 V by unfold aCopy; (first | rw [if_pos (by omega)] | rw [if_neg (by omega), if_pos (by omega)] | rw [if_neg (by omega), if_neg (by omega), if_pos (by omega)] | rw [if_neg (by omega), if_neg (by omega), if_neg (by omega), if_pos (by omega)] | rw [if_neg (by omega), if_neg (by omega), if_neg (by omega), if_neg (by omega), if_pos (by omega)] | rw [if_neg (by omega), if_neg (by omega), if_neg (by omega), if_neg (by omega), if_neg (by omega)])]; exact ⟨rfl, hX.ref hO (by omega), XC.ref⟩)

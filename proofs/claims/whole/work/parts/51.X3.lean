/-! THE PLANNER: the cells in their arrays, offers -/
theorem addP_y {c n : Cel} (h : zW c = -1 ∨ FP.fcmp (zK n) (zK c) = some .lt) : addP c n = n := if_pos h
theorem addP_n {c n : Cel} (h : ¬ (zW c = -1 ∨ FP.fcmp (zK n) (zK c) = some .lt)) : addP c n = c := if_neg h
def PK (σ : St) (k : Nat) (c : Cel) : Prop := σ.1 91 k = zW c ∧ (zW c ≠ -1 → σ.2.1 92 k = zK c ∧ σ.1 93 k = zL c ∧ σ.1 94 k = zR c ∧ σ.1 95 k = zJ c ∧ σ.1 96 k = (zS c : Int))
def PRw (σ : St) (s : Nat) (R : Nat → Cel) : Prop := ∀ o, o < 16 → PK σ (16 * s + o) (R o)
def PLC (k : Nat) : Prop := 91 ≤ k ∧ k ≤ 96
def KK (P : Nat → Prop) (σ σ' : St) : Prop := Fr PLC σ σ' ∧ ∀ a q, ¬ P q → σ'.1 a q = σ.1 a q ∧ σ'.2.1 a q = σ.2.1 a q
theorem KK.rf {P : Nat → Prop} {σ : St} : KK P σ σ := ⟨Fr.rf, fun _ _ _ => ⟨rfl, rfl⟩⟩
theorem KK.tr {P : Nat → Prop} {σ τ ρ : St} (h : KK P σ τ) (g : KK P τ ρ) : KK P σ ρ := ⟨h.1.tr g.1, fun a q hq => ⟨(g.2 a q hq).1.trans (h.2 a q hq).1, (g.2 a q hq).2.trans (h.2 a q hq).2⟩⟩
theorem KK.mono {P Q : Nat → Prop} {σ τ : St} (h : KK P σ τ) (hPQ : ∀ q, P q → Q q) : KK Q σ τ := ⟨h.1, fun a q hq => h.2 a q (fun e => hq (hPQ q e))⟩
theorem PK.kk {P : Nat → Prop} {σ τ : St} {k : Nat} {c : Cel} (h : PK σ k c) (g : KK P σ τ) (hk : ¬ P k) : PK τ k c := by
  unfold PK
  rw [(g.2 91 k hk).1, (g.2 92 k hk).2, (g.2 93 k hk).1, (g.2 94 k hk).1, (g.2 95 k hk).1, (g.2 96 k hk).1]
  exact h
theorem PRw.kk {P : Nat → Prop} {σ τ : St} {s : Nat} {R : Nat → Cel} (h : PRw σ s R) (g : KK P σ τ) (hk : ∀ o, o < 16 → ¬ P (16 * s + o)) : PRw τ s R := fun o ho => (h o ho).kk g (hk o ho)
def upR (R : Nat → Cel) (o : Nat) (c : Cel) : Nat → Cel := fun q => if q = o then c else R q
theorem PRw.set {σ τ : St} {s o : Nat} {R : Nat → Cel} {c : Cel} (h : PRw σ s R) (hc : PK τ (16 * s + o) c) (g : KK (fun q => q = 16 * s + o) σ τ) : PRw τ s (upR R o c) := fun u hu => by
  unfold upR
  split
  · rename_i e; subst e; exact hc
  · exact (h u hu).kk g (fun e => by omega)
theorem PRw.cong {σ : St} {s : Nat} {R R' : Nat → Cel} (h : PRw σ s R) (e : ∀ o, o < 16 → R o = R' o) : PRw σ s R' := fun o ho => e o ho ▸ h o ho
theorem rI_q {σ : St} {k j a q : Nat} {v : Int} (h : q ≠ j) : (sI σ k j v).1 a q = σ.1 a q := by
  show (if a = k ∧ q = j then v else σ.1 a q) = _
  rw [if_neg (fun e => h e.2)]
theorem rF_q {σ : St} {k j a q : Nat} {v : UInt32} (h : q ≠ j) : (sF σ k j v).2.1 a q = σ.2.1 a q := by
  show (if a = k ∧ q = j then v else σ.2.1 a q) = _
  rw [if_neg (fun e => h e.2)]
theorem pk_set {σ : St} {k n : Nat} {y lt rt j v : Int} {x : UInt32} (hv : v = ((n : Nat) : Int)) : PK (sI (sI (sI (sI (sF (sI σ 91 k y) 92 k x) 93 k lt) 94 k rt) 95 k j) 96 k v) k (y, x, lt, rt, j, n) ∧ KK (fun q => q = k) σ (sI (sI (sI (sI (sF (sI σ 91 k y) 92 k x) 93 k lt) 94 k rt) 95 k j) 96 k v) := by
  refine ⟨⟨?_, fun _ => ⟨?_, ?_, ?_, ?_, ?_⟩⟩, ⟨?_, fun a q hq => ⟨?_, ?_⟩⟩⟩
  · rw [rI_k (by decide), rI_k (by decide), rI_k (by decide), rI_k (by decide)]; show (sI σ 91 k y).1 91 k = y; exact rI_s
  · show (sF (sI σ 91 k y) 92 k x).2.1 92 k = x; exact rF_s
  · rw [rI_k (by decide), rI_k (by decide), rI_k (by decide), rI_s]; rfl
  · rw [rI_k (by decide), rI_k (by decide), rI_s]; rfl
  · rw [rI_k (by decide), rI_s]; rfl
  · rw [rI_s]; exact hv
  · exact (((((Fr.rf.sI (by unfold PLC; omega)).sF (by unfold PLC; omega)).sI (by unfold PLC; omega)).sI (by unfold PLC; omega)).sI (by unfold PLC; omega)).sI (by unfold PLC; omega)
  · rw [rI_q hq, rI_q hq, rI_q hq, rI_q hq]; show (sI σ 91 k y).1 a q = _; exact rI_q hq
  · show (sF (sI σ 91 k y) 92 k x).2.1 a q = _; exact rF_q hq
/-- the size read behind a cell number -/
def szR (σ : St) (l : Int) (n : Nat) : Prop := (l = -1 ∧ n = 0) ∨ (0 ≤ l ∧ l < 512 ∧ σ.1 96 l.toNat = (n : Int))
theorem szR_set {σ : St} {k : Nat} {y lt rt j l : Int} {x : UInt32} {n : Nat} (h : szR σ l n) : szR (sI (sI (sI (sF (sI σ 91 k y) 92 k x) 93 k lt) 94 k rt) 95 k j) l n := by
  unfold szR
  rw [rI_k (by decide), rI_k (by decide), rI_k (by decide), show (sF (sI σ 91 k y) 92 k x).1 96 l.toNat = (sI σ 91 k y).1 96 l.toNat from rfl, rI_k (by decide)]
  exact h
theorem XW.frK {P : Nat → Prop} {σ σ' : St} {w : Wv} (h : XW 0 σ w) (hF : KK P σ σ') : XW 0 σ' w := h.fr hF.1 (fun k _ hk e => by unfold PLC at e; omega)
set_option maxHeartbeats 4000000 in
set_option maxRecDepth 100000 in
theorem c_X3_sizeOf {κ : Kp} (hI : Ij κ) (l : Launch) (σ : St) {lt : Int} {n : Nat} (h : szR σ lt n) : CtI κ l 0 yX3_sizeOf cX3_sizeOf 2 .int [.ref (κ.2.1 89), .int (iZ lt)] σ (fun z σ' => z = (n : Int) ∧ σ' = σ) := by
  refine Ct.ofG (own := RX3) hI (by decide +kernel) rfl (Nat.le_of_ble_eq_true rfl) rfl ?_
  intro M C hMl
  unfold szR at h
  refine g_iload_n C dX3_sizeOf_0 rfl ?_
  refine g_iconst (z := (-1)) C dX3_sizeOf_1 rfl ?_
  refine g_icmp_ne (tgt := 9) C dX3_sizeOf_2 (by decide) (by unfold R32; omega) (fun h1 => ?_) (fun h1 => ?_)
  · refine g_aload_n C dX3_sizeOf_9 rfl ?_
    refine gf_X3_31 C dX3_sizeOf_10 rfl ?_
    refine g_iload_n C dX3_sizeOf_13 rfl ?_
    refine g_iaz (n := lt.toNat) (N := 512) (v := (σ.1 96 lt.toNat)) C dX3_sizeOf_14 rfl rfl (by omega) (by omega) (by decide) rfl ?_
    refine g_pc (pc' := 15) rfl ?_
    exact g_ireturn C dX3_sizeOf_15 ⟨by omega, rfl⟩
  · refine g_iconst (z := 0) C dX3_sizeOf_5 rfl ?_
    refine g_goto (tgt := 15) C dX3_sizeOf_6 (by decide) ?_
    exact g_ireturn C dX3_sizeOf_15 ⟨by omega, rfl⟩
set_option maxHeartbeats 4000000 in
set_option maxRecDepth 100000 in
theorem c_X3_offer {κ : Kp} (hI : Ij κ) (l : Launch) (σ : St) {k : Nat} {zk y lt rt j : Int} (hzk : zk = (k : Int)) (hk : k < 512) {c : Cel} {K S m sl sr : Nat} (hc : PK σ k c) (hcO : PO c K S) {x : UInt32} (hx : fB x m) (hlt : szR σ lt sl) (hrt : szR σ rt sr) : CtV κ l 1 yX3_offer cX3_offer 7 [.ref (κ.2.1 89), .int (iZ zk), .int (iZ y), .float x, .int (iZ lt), .int (iZ rt), .int (iZ j)] σ (fun σ' => PK σ' k (addP c (y, x, lt, rt, j, 1 + sl + sr)) ∧ KK (fun q => q = k) σ σ') := by
  refine Ct.ofG (own := RX3) hI (by decide +kernel) rfl (Nat.le_of_ble_eq_true rfl) rfl ?_
  intro M C hMl
  have hcW : R32 (zW c) := by rcases hcO with h | h <;> (unfold R32; omega)
  refine g_aload_n C dX3_offer_0 rfl ?_
  refine gf_X3_15 C dX3_offer_1 rfl ?_
  refine g_iload_n C dX3_offer_4 rfl ?_
  refine g_iaz (n := k) (N := 512) (v := (zW c)) C dX3_offer_5 rfl rfl (by omega) (by omega) (by decide) hc.1 ?_
  refine g_iconst (z := (-1)) C dX3_offer_6 rfl ?_
  refine g_icmp_eq (tgt := 21) C dX3_offer_7 (by decide) ⟨hcW, by unfold R32; omega⟩ (fun h1 => ?_) (fun h1 => ?_)
  · refine g_aload_n C dX3_offer_21 rfl ?_
    refine g_pc (pc' := 22) rfl ?_
    refine gf_X3_15 C dX3_offer_22 rfl ?_
    refine g_iload_n C dX3_offer_25 rfl ?_
    refine g_iload_n C dX3_offer_26 rfl ?_
    refine g_iast (n := k) (N := 512) C dX3_offer_27 rfl rfl (by omega) (by omega) (by decide) ?_
    refine g_aload_n C dX3_offer_28 rfl ?_
    refine gf_X3_19 C dX3_offer_29 rfl ?_
    refine g_iload_n C dX3_offer_32 rfl ?_
    refine g_fload_n C dX3_offer_33 rfl ?_
    refine g_pc (pc' := 34) rfl ?_
    refine g_fast (n := k) (N := 512) C dX3_offer_34 rfl rfl (by omega) (by omega) (by decide) ?_
    refine g_aload_n C dX3_offer_35 rfl ?_
    refine gf_X3_22 C dX3_offer_36 rfl ?_
    refine g_iload_n C dX3_offer_39 rfl ?_
    refine g_iload C dX3_offer_40 rfl ?_
    refine g_iast (n := k) (N := 512) C dX3_offer_42 rfl rfl (by omega) (by omega) (by decide) ?_
    refine g_aload_n C dX3_offer_43 rfl ?_
    refine gf_X3_25 C dX3_offer_44 rfl ?_
    refine g_pc (pc' := 47) rfl ?_
    refine g_iload_n C dX3_offer_47 rfl ?_
    refine g_iload C dX3_offer_48 rfl ?_
    refine g_iast (n := k) (N := 512) C dX3_offer_50 rfl rfl (by omega) (by omega) (by decide) ?_
    refine g_aload_n C dX3_offer_51 rfl ?_
    refine gf_X3_28 C dX3_offer_52 rfl ?_
    refine g_iload_n C dX3_offer_55 rfl ?_
    refine g_iload C dX3_offer_56 rfl ?_
    refine g_iast (n := k) (N := 512) C dX3_offer_58 rfl rfl (by omega) (by omega) (by decide) ?_
    refine g_pc (pc' := 59) rfl ?_
    refine g_aload_n C dX3_offer_59 rfl ?_
    refine gf_X3_31 C dX3_offer_60 rfl ?_
    refine g_iload_n C dX3_offer_63 rfl ?_
    refine g_iconst (z := 1) C dX3_offer_64 rfl ?_
    refine g_aload_n C dX3_offer_65 rfl ?_
    refine g_iload C dX3_offer_66 rfl ?_
    refine gc_X3_118 C dX3_offer_68 rfl (c_X3_sizeOf hI (Ml M) (sI (sI (sI (sF (sI σ 91 k y) 92 k x) 93 k lt) 94 k rt) 95 k j) (lt := lt) (n := sl) (szR_set hlt)) (by decide) (Nat.le_of_ble_eq_true rfl) (fun z σ9 ⟨hz, hσ⟩ => ?_)
    subst z
    subst σ9
    refine g_iadd C dX3_offer_71 ?_
    refine g_pc (pc' := 72) rfl ?_
    refine g_aload_n C dX3_offer_72 rfl ?_
    refine g_iload C dX3_offer_73 rfl ?_
    refine gc_X3_118 C dX3_offer_75 rfl (c_X3_sizeOf hI (Ml M) (sI (sI (sI (sF (sI σ 91 k y) 92 k x) 93 k lt) 94 k rt) 95 k j) (lt := rt) (n := sr) (szR_set hrt)) (by decide) (Nat.le_of_ble_eq_true rfl) (fun z σ9 ⟨hz, hσ⟩ => ?_)
    subst z
    subst σ9
    refine g_iadd C dX3_offer_78 ?_
    refine g_iast (n := k) (N := 512) C dX3_offer_79 rfl rfl (by omega) (by omega) (by decide) ?_
    exact g_return C dX3_offer_80 (by have h9 := pk_set (σ := σ) (k := k) (n := 1 + sl + sr) (y := y) (lt := lt) (rt := rt) (j := j) (x := x) (v := ((1 + (sl : Int)) + (sr : Int))) (by omega); rw [addP_y (c := c) (n := (y, x, lt, rt, j, 1 + sl + sr)) (show zW c = -1 ∨ FP.fcmp x (zK c) = some .lt from Or.inl (by omega))]; exact h9)
  · have hcB := hcO.resolve_left (by omega)
    refine g_fload_n C dX3_offer_10 rfl ?_
    refine g_aload_n C dX3_offer_11 rfl ?_
    refine g_pc (pc' := 12) rfl ?_
    refine gf_X3_19 C dX3_offer_12 rfl ?_
    refine g_iload_n C dX3_offer_15 rfl ?_
    refine g_faz (n := k) (N := 512) (v := (zK c)) C dX3_offer_16 rfl rfl (by omega) (by omega) (by decide) ((hc.2 (by omega)).1) ?_
    refine g_fcmp C dX3_offer_17 ?_
    obtain ⟨zc, hzc, hzr, hzl⟩ := cvN (FN.of hx) (FN.of hcB.2.1) .g
    refine g_raw hzc ?_
    refine g_if_ge (tgt := 80) C dX3_offer_18 (by decide) hzr (fun h2 => ?_) (fun h2 => ?_)
    · exact g_return C dX3_offer_80 ⟨by rw [addP_n (c := c) (n := (y, x, lt, rt, j, 1 + sl + sr)) (show ¬ (zW c = -1 ∨ FP.fcmp x (zK c) = some .lt) from fun e => by rcases e with e | e; omega; have := hzl.mpr e; omega)]; exact hc, KK.rf⟩
    · refine g_aload_n C dX3_offer_21 rfl ?_
      refine gf_X3_15 C dX3_offer_22 rfl ?_
      refine g_pc (pc' := 25) rfl ?_
      refine g_iload_n C dX3_offer_25 rfl ?_
      refine g_iload_n C dX3_offer_26 rfl ?_
      refine g_iast (n := k) (N := 512) C dX3_offer_27 rfl rfl (by omega) (by omega) (by decide) ?_
      refine g_aload_n C dX3_offer_28 rfl ?_
      refine gf_X3_19 C dX3_offer_29 rfl ?_
      refine g_iload_n C dX3_offer_32 rfl ?_
      refine g_fload_n C dX3_offer_33 rfl ?_
      refine g_fast (n := k) (N := 512) C dX3_offer_34 rfl rfl (by omega) (by omega) (by decide) ?_
      refine g_pc (pc' := 35) rfl ?_
      refine g_aload_n C dX3_offer_35 rfl ?_
      refine gf_X3_22 C dX3_offer_36 rfl ?_
      refine g_iload_n C dX3_offer_39 rfl ?_
      refine g_iload C dX3_offer_40 rfl ?_
      refine g_iast (n := k) (N := 512) C dX3_offer_42 rfl rfl (by omega) (by omega) (by decide) ?_
      refine g_aload_n C dX3_offer_43 rfl ?_
      refine gf_X3_25 C dX3_offer_44 rfl ?_
      refine g_iload_n C dX3_offer_47 rfl ?_
      refine g_pc (pc' := 48) rfl ?_
      refine g_iload C dX3_offer_48 rfl ?_
      refine g_iast (n := k) (N := 512) C dX3_offer_50 rfl rfl (by omega) (by omega) (by decide) ?_
      refine g_aload_n C dX3_offer_51 rfl ?_
      refine gf_X3_28 C dX3_offer_52 rfl ?_
      refine g_iload_n C dX3_offer_55 rfl ?_
      refine g_iload C dX3_offer_56 rfl ?_
      refine g_iast (n := k) (N := 512) C dX3_offer_58 rfl rfl (by omega) (by omega) (by decide) ?_
      refine g_aload_n C dX3_offer_59 rfl ?_
      refine g_pc (pc' := 60) rfl ?_
      refine gf_X3_31 C dX3_offer_60 rfl ?_
      refine g_iload_n C dX3_offer_63 rfl ?_
      refine g_iconst (z := 1) C dX3_offer_64 rfl ?_
      refine g_aload_n C dX3_offer_65 rfl ?_
      refine g_iload C dX3_offer_66 rfl ?_
      refine gc_X3_118 C dX3_offer_68 rfl (c_X3_sizeOf hI (Ml M) (sI (sI (sI (sF (sI σ 91 k y) 92 k x) 93 k lt) 94 k rt) 95 k j) (lt := lt) (n := sl) (szR_set hlt)) (by decide) (Nat.le_of_ble_eq_true rfl) (fun z σ9 ⟨hz, hσ⟩ => ?_)
      subst z
      subst σ9
      refine g_iadd C dX3_offer_71 ?_
      refine g_aload_n C dX3_offer_72 rfl ?_
      refine g_pc (pc' := 73) rfl ?_
      refine g_iload C dX3_offer_73 rfl ?_
      refine gc_X3_118 C dX3_offer_75 rfl (c_X3_sizeOf hI (Ml M) (sI (sI (sI (sF (sI σ 91 k y) 92 k x) 93 k lt) 94 k rt) 95 k j) (lt := rt) (n := sr) (szR_set hrt)) (by decide) (Nat.le_of_ble_eq_true rfl) (fun z σ9 ⟨hz, hσ⟩ => ?_)
      subst z
      subst σ9
      refine g_iadd C dX3_offer_78 ?_
      refine g_iast (n := k) (N := 512) C dX3_offer_79 rfl rfl (by omega) (by omega) (by decide) ?_
      exact g_return C dX3_offer_80 (by have h9 := pk_set (σ := σ) (k := k) (n := 1 + sl + sr) (y := y) (lt := lt) (rt := rt) (j := j) (x := x) (v := ((1 + (sl : Int)) + (sr : Int))) (by omega); rw [addP_y (c := c) (n := (y, x, lt, rt, j, 1 + sl + sr)) (show zW c = -1 ∨ FP.fcmp x (zK c) = some .lt from Or.inr (hzl.mp (by omega)))]; exact h9)
theorem jbF_n {w : Wv} {a b n j : Nat} (h : ¬ btw w a b j) : jbF w a b (n + 1) j = jbF w a b n (j + 1) := by rw [jbF, if_neg h]
theorem jbF_y {w : Wv} {a b n j : Nat} (h : btw w a b j) : jbF w a b (n + 1) j = (j : Int) := by rw [jbF, if_pos h]
set_option maxHeartbeats 4000000 in
set_option maxRecDepth 100000 in
theorem c_X3_firstJoinBetween {κ : Kp} (hI : Ij κ) (l : Launch) (σ : St) {w : Wv} (hX : XW 0 σ w) (hW : OKW w) {a b : Nat} {za zb : Int} (hza : za = (a : Int)) (hzb : zb = (b : Int)) (ha : a < 32) (hb : b < 32) : CtI κ l 1 yX3_firstJoinBetween cX3_firstJoinBetween 6 .int [.ref (κ.2.1 89), .int (iZ za), .int (iZ zb)] σ (fun z σ' => z = jB w a b ∧ σ' = σ) := by
  refine Ct.ofG (own := RX3) hI (by decide +kernel) rfl (Nat.le_of_ble_eq_true rfl) rfl ?_
  intro M C hMl
  have hnj8 := hW.2.2.1
  refine g_iconst (z := 0) C dX3_firstJoinBetween_0 rfl ?_
  refine g_istore_n (L' := [(3, .int (iZ 0)), (0, .ref (κ.2.1 89)), (1, .int (iZ za)), (2, .int (iZ zb))]) C dX3_firstJoinBetween_1 rfl (by decide) rfl ?_
  have lp2 : ∀ (fz9 : Nat) (j : Nat) (x3 : Int), (wnj w - j < fz9) → (x3 = (j : Int)) → (j ≤ wnj w) → (jB w a b = jbF w a b (wnj w - j) j) → G M κ 6 (En M κ (qI κ (fun z σ' => z = jB w a b ∧ σ' = σ))) 2 [(0, .ref (κ.2.1 89)), (1, .int (iZ za)), (2, .int (iZ zb)), (3, .int (iZ x3))] [] σ := by
    intro fz9
    induction fz9 with
    | zero => intro j x3 hm0; exact absurd hm0 (Nat.not_lt_zero _)
    | succ fz9 ih2 =>
      intro j x3 hm2 hx3 hj hE
      refine g_iload_n C dX3_firstJoinBetween_2 rfl ?_
      refine g_aload_n C dX3_firstJoinBetween_3 rfl ?_
      refine gf_X3_37 C dX3_firstJoinBetween_4 rfl ?_
      refine gf_X3_98 (z := (wnj w : Int)) C dX3_firstJoinBetween_7 rfl hX.2.2.1.1 ?_
      refine g_icmp_ge (tgt := 79) C dX3_firstJoinBetween_10 (by decide) (by unfold R32; omega) (fun h1 => ?_) (fun h1 => ?_)
      · refine g_pc (pc' := 79) rfl ?_
        refine g_iconst (z := (-1)) C dX3_firstJoinBetween_79 rfl ?_
        exact g_ireturn C dX3_firstJoinBetween_80 ⟨by rw [hE, show wnj w - j = 0 by omega]; rfl, rfl⟩
      · have hjo := hW.2.2.2 j (by omega)
        refine g_aload_n C dX3_firstJoinBetween_13 rfl ?_
        refine gf_X3_37 C dX3_firstJoinBetween_14 rfl ?_
        refine gf_X3_101 C dX3_firstJoinBetween_17 rfl ?_
        refine g_iload_n C dX3_firstJoinBetween_20 rfl ?_
        refine g_iaz (n := j) (N := 8) (v := (wja w j : Int)) C dX3_firstJoinBetween_21 rfl rfl (by omega) (by omega) (by decide) ((hX.2.2.1.2 j (by omega)).1) ?_
        refine g_istore (L' := [(4, .int (iZ (wja w j : Int))), (0, .ref (κ.2.1 89)), (1, .int (iZ za)), (2, .int (iZ zb)), (3, .int (iZ x3))]) C dX3_firstJoinBetween_22 (by decide) rfl ?_
        refine g_pc (pc' := 24) rfl ?_
        refine g_aload_n C dX3_firstJoinBetween_24 rfl ?_
        refine gf_X3_37 C dX3_firstJoinBetween_25 rfl ?_
        refine gf_X3_104 C dX3_firstJoinBetween_28 rfl ?_
        refine g_iload_n C dX3_firstJoinBetween_31 rfl ?_
        refine g_iaz (n := j) (N := 8) (v := (wjb w j : Int)) C dX3_firstJoinBetween_32 rfl rfl (by omega) (by omega) (by decide) ((hX.2.2.1.2 j (by omega)).2) ?_
        refine g_istore (L' := [(5, .int (iZ (wjb w j : Int))), (4, .int (iZ (wja w j : Int))), (0, .ref (κ.2.1 89)), (1, .int (iZ za)), (2, .int (iZ zb)), (3, .int (iZ x3))]) C dX3_firstJoinBetween_33 (by decide) rfl ?_
        refine g_iload_n C dX3_firstJoinBetween_35 rfl ?_
        refine g_iload C dX3_firstJoinBetween_36 rfl ?_
        refine g_pc (pc' := 38) rfl ?_
        refine gc_X3_107 C dX3_firstJoinBetween_38 (c_X9_isWithin hI (Ml M) σ (s := a) (p := (wja w j)) hza (by omega) (by omega) (by omega)) (by decide) (Nat.le_of_ble_eq_true rfl) (fun z σ9 ⟨hz, hσ⟩ => ?_)
        subst z
        subst σ9
        refine g_ifb_eq (tgt := 53) C dX3_firstJoinBetween_41 (by decide) (fun h2 => ?_) (fun h2 => ?_)
        · refine g_iload_n C dX3_firstJoinBetween_53 rfl ?_
          refine g_iload C dX3_firstJoinBetween_54 rfl ?_
          refine gc_X3_107 C dX3_firstJoinBetween_56 (c_X9_isWithin hI (Ml M) σ (s := b) (p := (wja w j)) hzb (by omega) (by omega) (by omega)) (by decide) (Nat.le_of_ble_eq_true rfl) (fun z σ9 ⟨hz, hσ⟩ => ?_)
          subst z
          subst σ9
          refine g_ifb_eq (tgt := 73) C dX3_firstJoinBetween_59 (by decide) (fun h3 => ?_) (fun h3 => ?_)
          · refine g_iinc (q := 5) (v := (x3 + 1)) (L' := [(3, .int (iZ (x3 + 1))), (5, .int (iZ (wjb w j : Int))), (4, .int (iZ (wja w j : Int))), (0, .ref (κ.2.1 89)), (1, .int (iZ za)), (2, .int (iZ zb))]) C dX3_firstJoinBetween_73 rfl rfl (by decide) rfl ?_
            refine g_goto (tgt := 2) C dX3_firstJoinBetween_76 (by decide) ?_
            exact g_loc [3, 4, 5, 0] (by rfl) (ih2 (j + 1) (x3 + 1) (by omega) (by omega) (by omega) (by rw [hE, show wnj w - j = (wnj w - (j + 1)) + 1 by omega]; exact jbF_n (fun e => by unfold btw at e; omega)))
          · refine g_pc (pc' := 62) rfl ?_
            refine g_iload_n C dX3_firstJoinBetween_62 rfl ?_
            refine g_iload C dX3_firstJoinBetween_63 rfl ?_
            refine gc_X3_107 C dX3_firstJoinBetween_65 (c_X9_isWithin hI (Ml M) σ (s := a) (p := (wjb w j)) hza (by omega) (by omega) (by omega)) (by decide) (Nat.le_of_ble_eq_true rfl) (fun z σ9 ⟨hz, hσ⟩ => ?_)
            subst z
            subst σ9
            refine g_ifb_eq (tgt := 73) C dX3_firstJoinBetween_68 (by decide) (fun h4 => ?_) (fun h4 => ?_)
            · refine g_iinc (q := 5) (v := (x3 + 1)) (L' := [(3, .int (iZ (x3 + 1))), (5, .int (iZ (wjb w j : Int))), (4, .int (iZ (wja w j : Int))), (0, .ref (κ.2.1 89)), (1, .int (iZ za)), (2, .int (iZ zb))]) C dX3_firstJoinBetween_73 rfl rfl (by decide) rfl ?_
              refine g_goto (tgt := 2) C dX3_firstJoinBetween_76 (by decide) ?_
              exact g_loc [3, 4, 5, 0] (by rfl) (ih2 (j + 1) (x3 + 1) (by omega) (by omega) (by omega) (by rw [hE, show wnj w - j = (wnj w - (j + 1)) + 1 by omega]; exact jbF_n (fun e => by unfold btw at e; omega)))
            · refine g_iload_n C dX3_firstJoinBetween_71 rfl ?_
              exact g_ireturn C dX3_firstJoinBetween_72 ⟨by rw [hE, show wnj w - j = (wnj w - (j + 1)) + 1 by omega, jbF_y (by unfold btw; omega)]; exact hx3, rfl⟩
        · refine g_pc (pc' := 44) rfl ?_
          refine g_iload_n C dX3_firstJoinBetween_44 rfl ?_
          refine g_iload C dX3_firstJoinBetween_45 rfl ?_
          refine gc_X3_107 C dX3_firstJoinBetween_47 (c_X9_isWithin hI (Ml M) σ (s := b) (p := (wjb w j)) hzb (by omega) (by omega) (by omega)) (by decide) (Nat.le_of_ble_eq_true rfl) (fun z σ9 ⟨hz, hσ⟩ => ?_)
          subst z
          subst σ9
          refine g_ifb_ne (tgt := 71) C dX3_firstJoinBetween_50 (by decide) (fun h5 => ?_) (fun h5 => ?_)
          · refine g_iload_n C dX3_firstJoinBetween_71 rfl ?_
            exact g_ireturn C dX3_firstJoinBetween_72 ⟨by rw [hE, show wnj w - j = (wnj w - (j + 1)) + 1 by omega, jbF_y (by unfold btw; omega)]; exact hx3, rfl⟩
          · refine g_iload_n C dX3_firstJoinBetween_53 rfl ?_
            refine g_iload C dX3_firstJoinBetween_54 rfl ?_
            refine g_pc (pc' := 56) rfl ?_
            refine gc_X3_107 C dX3_firstJoinBetween_56 (c_X9_isWithin hI (Ml M) σ (s := b) (p := (wja w j)) hzb (by omega) (by omega) (by omega)) (by decide) (Nat.le_of_ble_eq_true rfl) (fun z σ9 ⟨hz, hσ⟩ => ?_)
            subst z
            subst σ9
            refine g_ifb_eq (tgt := 73) C dX3_firstJoinBetween_59 (by decide) (fun h6 => ?_) (fun h6 => ?_)
            · refine g_iinc (q := 5) (v := (x3 + 1)) (L' := [(3, .int (iZ (x3 + 1))), (5, .int (iZ (wjb w j : Int))), (4, .int (iZ (wja w j : Int))), (0, .ref (κ.2.1 89)), (1, .int (iZ za)), (2, .int (iZ zb))]) C dX3_firstJoinBetween_73 rfl rfl (by decide) rfl ?_
              refine g_goto (tgt := 2) C dX3_firstJoinBetween_76 (by decide) ?_
              exact g_loc [3, 4, 5, 0] (by rfl) (ih2 (j + 1) (x3 + 1) (by omega) (by omega) (by omega) (by rw [hE, show wnj w - j = (wnj w - (j + 1)) + 1 by omega]; exact jbF_n (fun e => by unfold btw at e; omega)))
            · refine g_iload_n C dX3_firstJoinBetween_62 rfl ?_
              refine g_iload C dX3_firstJoinBetween_63 rfl ?_
              refine gc_X3_107 C dX3_firstJoinBetween_65 (c_X9_isWithin hI (Ml M) σ (s := a) (p := (wjb w j)) hza (by omega) (by omega) (by omega)) (by decide) (Nat.le_of_ble_eq_true rfl) (fun z σ9 ⟨hz, hσ⟩ => ?_)
              subst z
              subst σ9
              refine g_ifb_eq (tgt := 73) C dX3_firstJoinBetween_68 (by decide) (fun h7 => ?_) (fun h7 => ?_)
              · refine g_pc (pc' := 73) rfl ?_
                refine g_iinc (q := 5) (v := (x3 + 1)) (L' := [(3, .int (iZ (x3 + 1))), (5, .int (iZ (wjb w j : Int))), (4, .int (iZ (wja w j : Int))), (0, .ref (κ.2.1 89)), (1, .int (iZ za)), (2, .int (iZ zb))]) C dX3_firstJoinBetween_73 rfl rfl (by decide) rfl ?_
                refine g_goto (tgt := 2) C dX3_firstJoinBetween_76 (by decide) ?_
                exact g_loc [3, 4, 5, 0] (by rfl) (ih2 (j + 1) (x3 + 1) (by omega) (by omega) (by omega) (by rw [hE, show wnj w - j = (wnj w - (j + 1)) + 1 by omega]; exact jbF_n (fun e => by unfold btw at e; omega)))
              · refine g_iload_n C dX3_firstJoinBetween_71 rfl ?_
                exact g_ireturn C dX3_firstJoinBetween_72 ⟨by rw [hE, show wnj w - j = (wnj w - (j + 1)) + 1 by omega, jbF_y (by unfold btw; omega)]; exact hx3, rfl⟩
  exact g_loc [1, 2, 3, 0] (by rfl) (lp2 _ 0 0 (Nat.lt_succ_self _) rfl (Nat.zero_le _) rfl)

/-! MATCHES: the lines that joins pair -/
def PS (σ : St) (pm : Nat → Nat → Nat → Nat) : Prop := ∀ t, t < 5 → ∀ i, i < 16 → ∀ o, o < 5 → σ.1 101 ((t * 16 + i) * 5 + o) = (pm t i o : Int)
def upP (pm : Nat → Nat → Nat → Nat) (t i o v : Nat) : Nat → Nat → Nat → Nat := fun a b c => if a = t ∧ b = i ∧ c = o then v else pm a b c
theorem PS.up {σ : St} {pm : Nat → Nat → Nat → Nat} (h : PS σ pm) {t i o : Nat} (ht : t < 5) (hi : i < 16) (ho : o < 5) (v : Nat) : PS (sI σ 101 ((t * 16 + i) * 5 + o) (v : Int)) (upP pm t i o v) := fun a ha b hb c hc => by
  unfold upP
  by_cases he : a = t ∧ b = i ∧ c = o
  · obtain ⟨e1, e2, e3⟩ := he
    subst e1; subst e2; subst e3
    rw [rI_s, if_pos ⟨rfl, rfl, rfl⟩]
  · rw [rI_j (by omega), if_neg he, h a ha b hb c hc]
def PA (pm : Nat → Nat → Nat → Nat) (par : Nat → Nat → Nat → Nat → Bool) : Prop := ∀ t, t < 5 → ∀ i, i < 16 → ∀ o, o < 5 → MK (pm t i o) (par t i o)
def eqL (w : Wv) (a b i k : Nat) : Bool := decide (wv w (a / 3) i (a % 3) = wv w (b / 3) k (b % 3))
def dn (w : Wv) (b i k x y : Nat) : Bool := decide ((x < i ∧ y < wl w (b / 3)) ∨ (x = i ∧ y < k))
/-- the join of places a and b, as far as lines i, k of its tables -/
def qP (w : Wv) (a b i k : Nat) (par : Nat → Nat → Nat → Nat → Bool) (t x o y : Nat) : Bool := par t x o y && (if t = a / 3 ∧ o = b / 3 then (!dn w b i k x y || eqL w a b x y) else if t = b / 3 ∧ o = a / 3 then (!dn w b i k y x || eqL w a b y x) else true)
theorem qP_0 {w : Wv} {a b : Nat} {par : Nat → Nat → Nat → Nat → Bool} {t x o y : Nat} : qP w a b 0 0 par t x o y = par t x o y := by
  unfold qP
  have h : ∀ x y, dn w b 0 0 x y = false := fun x y => decide_eq_false (by omega)
  rw [h, h]
  simp
theorem qP_r {w : Wv} {a b i : Nat} {par : Nat → Nat → Nat → Nat → Bool} {t x o y : Nat} : qP w a b i (wl w (b / 3)) par t x o y = qP w a b (i + 1) 0 par t x o y := by
  have h : ∀ x y, dn w b i (wl w (b / 3)) x y = dn w b (i + 1) 0 x y := fun x y => decide_eq_decide.mpr (by omega)
  unfold qP
  rw [h, h]
theorem dn_s {w : Wv} {b i k x y : Nat} (hne : ¬ (x = i ∧ y = k)) : dn w b i (k + 1) x y = dn w b i k x y := decide_eq_decide.mpr (by omega)
theorem dn_1 {w : Wv} {b i k : Nat} : dn w b i (k + 1) i k = true := decide_eq_true (by omega)
theorem dn_0 {w : Wv} {b i k : Nat} : dn w b i k i k = false := decide_eq_false (by omega)
theorem qP_s {w : Wv} {a b i k : Nat} {par : Nat → Nat → Nat → Nat → Bool} (he : eqL w a b i k = true) {t x o y : Nat} : qP w a b i k par t x o y = qP w a b i (k + 1) par t x o y := by
  have h : ∀ x y, (!dn w b i k x y || eqL w a b x y) = (!dn w b i (k + 1) x y || eqL w a b x y) := fun x y => by
    by_cases hxy : x = i ∧ y = k
    · obtain ⟨e1, e2⟩ := hxy
      subst e1; subst e2
      rw [he]; simp
    · rw [dn_s hxy]
  unfold qP
  rw [h, h]
theorem qP_c {w : Wv} {a b i k : Nat} {par : Nat → Nat → Nat → Nat → Bool} {pm : Nat → Nat → Nat → Nat} (hab : a / 3 ≠ b / 3) (hi : i < 16) (hk : k < 16) (he : eqL w a b i k = false) (h : PA pm (qP w a b i k par)) (ha : a / 3 < 5) (hb : b / 3 < 5) : PA (upP (upP pm (a / 3) i (b / 3) (clr (pm (a / 3) i (b / 3)) k)) (b / 3) k (a / 3) (clr (pm (b / 3) k (a / 3)) i)) (qP w a b i (k + 1) par) := fun t ht x hx o ho => by
  unfold upP
  by_cases c1 : t = b / 3 ∧ x = k ∧ o = a / 3
  · rw [if_pos c1]
    obtain ⟨e1, e2, e3⟩ := c1
    subst e1; subst e2; subst e3
    refine ((h (b / 3) hb x hx (a / 3) ha).clr hi).cong (fun y hy => ?_)
    unfold qP
    rw [if_neg (fun e => hab e.1.symm), if_pos ⟨rfl, rfl⟩, if_neg (fun e => hab e.1.symm), if_pos ⟨rfl, rfl⟩]
    by_cases hyi : y = i
    · subst hyi; rw [dn_1, he]; simp
    · rw [dn_s (fun e => hyi e.1)]; simp [hyi]
  · rw [if_neg c1]
    by_cases c2 : t = a / 3 ∧ x = i ∧ o = b / 3
    · rw [if_pos c2]
      obtain ⟨e1, e2, e3⟩ := c2
      subst e1; subst e2; subst e3
      refine ((h (a / 3) ha x hx (b / 3) hb).clr hk).cong (fun y hy => ?_)
      unfold qP
      rw [if_pos ⟨rfl, rfl⟩, if_pos ⟨rfl, rfl⟩]
      by_cases hyk : y = k
      · subst hyk; rw [dn_1, he]; simp
      · rw [dn_s (fun e => hyk e.2)]; simp [hyk]
    · rw [if_neg c2]
      refine (h t ht x hx o ho).cong (fun y hy => ?_)
      unfold qP
      by_cases c3 : t = a / 3 ∧ o = b / 3
      · rw [if_pos c3, if_pos c3, dn_s (fun e => c2 ⟨c3.1, e.1, c3.2⟩)]
      · rw [if_neg c3, if_neg c3]
        by_cases c4 : t = b / 3 ∧ o = a / 3
        · rw [if_pos c4, if_pos c4, dn_s (fun e => c1 ⟨c4.1, e.2, c4.2⟩)]
        · rw [if_neg c4, if_neg c4]
def PC (k : Nat) : Prop := k = 101
theorem XW.frP {σ σ' : St} {w : Wv} (h : XW 0 σ w) (hF : Fr PC σ σ') : XW 0 σ' w := h.fr hF (fun k _ hk e => by unfold PC at e; omega)
theorem PA.cong {pm : Nat → Nat → Nat → Nat} {p q : Nat → Nat → Nat → Nat → Bool} (h : PA pm p) (hq : ∀ t x o y, p t x o y = q t x o y) : PA pm q := fun t ht x hx o ho => (h t ht x hx o ho).cong (fun y _ => hq t x o y)
/-- the pairs that n joins within a set allow -/
def jA (w : Wv) (s : Nat) : Nat → Nat → Nat → Nat → Nat → Bool
  | 0 => fun _ _ _ _ => true
  | j + 1 => if bitv s (wja w j / 3) = 1 ∧ bitv s (wjb w j / 3) = 1 then qP w (wja w j) (wjb w j) (wl w (wja w j / 3)) 0 (jA w s j) else jA w s j
theorem MK_16 : MK 65535 (fun _ => true) := (MK_all (n := 16) (Nat.le_refl _)).cong (fun i hi => decide_eq_true hi)
set_option maxHeartbeats 4000000 in
set_option maxRecDepth 100000 in
theorem c_X1_pairLinesBy {κ : Kp} (hI : Ij κ) (l : Launch) (σ : St) {w : Wv} (hX : XW 0 σ w) (hW : OKW w) {a b : Nat} {za zb : Int} (hza : za = (a : Int)) (hzb : zb = (b : Int)) (ha : a ≤ 14) (hb : b ≤ 14) (hab : a / 3 ≠ b / 3) {pm : Nat → Nat → Nat → Nat} {par : Nat → Nat → Nat → Nat → Bool} (hS : PS σ pm) (hA : PA pm par) : CtV κ l 1 yX1_pairLinesBy cX1_pairLinesBy 7 [.ref (κ.2.1 98), .int (iZ za), .int (iZ zb)] σ (fun σ' => Fr PC σ σ' ∧ ∃ pm', PS σ' pm' ∧ PA pm' (qP w a b (wl w (a / 3)) 0 par)) := by
  refine Ct.ofG (own := RX1) hI (by decide +kernel) rfl (Nat.le_of_ble_eq_true rfl) rfl ?_
  intro M C hMl
  have htoa := hW.1 (a / 3) (by omega)
  have htob := hW.1 (b / 3) (by omega)
  have hka : kd (2 + 2 * (a / 3)) = 5 := kd_tab (a / 3) (by omega)
  have hkb : kd (2 + 2 * (b / 3)) = 5 := kd_tab (b / 3) (by omega)
  refine g_aload_n C dX1_pairLinesBy_0 rfl ?_
  refine gf_X1_28 C dX1_pairLinesBy_1 rfl ?_
  refine gf_X1_52 C dX1_pairLinesBy_4 rfl ?_
  refine g_iload_n C dX1_pairLinesBy_7 rfl ?_
  refine g_iconst (z := 3) C dX1_pairLinesBy_8 rfl ?_
  refine g_idiv C dX1_pairLinesBy_9 (by omega) ?_
  have hkz1 : kd (2 + 2 * (a / 3)) = 5 := kd_tab (a / 3) (by omega)
  refine g_aald (n := (a / 3)) (N := 5) (c := 23) (r := (2 + 2 * (a / 3))) C dX1_pairLinesBy_10 rfl (by decide) rfl (by decide) rfl (by omega) (by omega) (by decide) (rf_23 _ _ rfl) ?_
  refine g_pc (pc' := 11) rfl ?_
  refine g_astore_n (L' := [(3, .ref (κ.2.1 (2 + 2 * (a / 3)))), (0, .ref (κ.2.1 98)), (1, .int (iZ za)), (2, .int (iZ zb))]) C dX1_pairLinesBy_11 rfl (by decide) rfl ?_
  refine g_aload_n C dX1_pairLinesBy_12 rfl ?_
  refine gf_X1_28 C dX1_pairLinesBy_13 rfl ?_
  refine gf_X1_52 C dX1_pairLinesBy_16 rfl ?_
  refine g_iload_n C dX1_pairLinesBy_19 rfl ?_
  refine g_iconst (z := 3) C dX1_pairLinesBy_20 rfl ?_
  refine g_idiv C dX1_pairLinesBy_21 (by omega) ?_
  have hkz2 : kd (2 + 2 * (b / 3)) = 5 := kd_tab (b / 3) (by omega)
  refine g_aald (n := (b / 3)) (N := 5) (c := 23) (r := (2 + 2 * (b / 3))) C dX1_pairLinesBy_22 rfl (by decide) rfl (by decide) rfl (by omega) (by omega) (by decide) (rf_23 _ _ rfl) ?_
  refine g_pc (pc' := 23) rfl ?_
  refine g_astore (L' := [(4, .ref (κ.2.1 (2 + 2 * (b / 3)))), (3, .ref (κ.2.1 (2 + 2 * (a / 3)))), (0, .ref (κ.2.1 98)), (1, .int (iZ za)), (2, .int (iZ zb))]) C dX1_pairLinesBy_23 (by decide) rfl ?_
  refine g_iconst (z := 0) C dX1_pairLinesBy_25 rfl ?_
  refine g_istore (L' := [(5, .int (iZ 0)), (4, .ref (κ.2.1 (2 + 2 * (b / 3)))), (3, .ref (κ.2.1 (2 + 2 * (a / 3)))), (0, .ref (κ.2.1 98)), (1, .int (iZ za)), (2, .int (iZ zb))]) C dX1_pairLinesBy_26 (by decide) rfl ?_
  have lp28 : ∀ (fz9 : Nat) (i : Nat) (x5 : Int) (pm1 : Nat → Nat → Nat → Nat) (q1 : St), (wl w (a / 3) - i < fz9) → (x5 = (i : Int)) → (i ≤ wl w (a / 3)) → (Fr PC σ q1) → (PS q1 pm1) → (PA pm1 (qP w a b i 0 par)) → G M κ 7 (En M κ (qV κ (fun σ' => Fr PC σ σ' ∧ ∃ pm', PS σ' pm' ∧ PA pm' (qP w a b (wl w (a / 3)) 0 par)))) 28 [(0, .ref (κ.2.1 98)), (1, .int (iZ za)), (2, .int (iZ zb)), (3, .ref (κ.2.1 (2 + 2 * (a / 3)))), (4, .ref (κ.2.1 (2 + 2 * (b / 3)))), (5, .int (iZ x5))] [] q1 := by
    intro fz9
    induction fz9 with
    | zero => intro i x5 pm1 q1 hm0; exact absurd hm0 (Nat.not_lt_zero _)
    | succ fz9 ih28 =>
      intro i x5 pm1 q1 hm28 hx5 hi hF1 hS1 hA1
      have hXq1 := hX.frP hF1
      refine g_iload C dX1_pairLinesBy_28 rfl ?_
      refine g_aload_n C dX1_pairLinesBy_30 rfl ?_
      refine gf_X1_58 (z := (wl w (a / 3) : Int)) C dX1_pairLinesBy_31 hka ((hXq1.1 (a / 3) (by omega)).1) ?_
      refine g_icmp_ge (tgt := 134) C dX1_pairLinesBy_34 (by decide) (by unfold R32; omega) (fun h3 => ?_) (fun h3 => ?_)
      · exact g_return C dX1_pairLinesBy_134 ⟨hF1, pm1, hS1, by rw [show wl w (a / 3) = i by omega]; exact hA1⟩
      · refine g_pc (pc' := 37) rfl ?_
        refine g_iconst (z := 0) C dX1_pairLinesBy_37 rfl ?_
        refine g_istore (L' := [(6, .int (iZ 0)), (0, .ref (κ.2.1 98)), (1, .int (iZ za)), (2, .int (iZ zb)), (3, .ref (κ.2.1 (2 + 2 * (a / 3)))), (4, .ref (κ.2.1 (2 + 2 * (b / 3)))), (5, .int (iZ x5))]) C dX1_pairLinesBy_38 (by decide) rfl ?_
        have lp40 : ∀ (fz9 : Nat) (k : Nat) (x6 : Int) (pm2 : Nat → Nat → Nat → Nat) (q2 : St), (wl w (b / 3) - k < fz9) → (x6 = (k : Int)) → (k ≤ wl w (b / 3)) → (Fr PC σ q2) → (PS q2 pm2) → (PA pm2 (qP w a b i k par)) → G M κ 7 (En M κ (qV κ (fun σ' => Fr PC σ σ' ∧ ∃ pm', PS σ' pm' ∧ PA pm' (qP w a b (wl w (a / 3)) 0 par)))) 40 [(0, .ref (κ.2.1 98)), (1, .int (iZ za)), (2, .int (iZ zb)), (3, .ref (κ.2.1 (2 + 2 * (a / 3)))), (4, .ref (κ.2.1 (2 + 2 * (b / 3)))), (5, .int (iZ x5)), (6, .int (iZ x6))] [] q2 := by
          intro fz9
          induction fz9 with
          | zero => intro k x6 pm2 q2 hm0; exact absurd hm0 (Nat.not_lt_zero _)
          | succ fz9 ih40 =>
            intro k x6 pm2 q2 hm40 hx6 hk hF2 hS2 hA2
            have hXq2 := hX.frP hF2
            refine g_iload C dX1_pairLinesBy_40 rfl ?_
            refine g_aload C dX1_pairLinesBy_42 rfl ?_
            refine gf_X1_58 (z := (wl w (b / 3) : Int)) C dX1_pairLinesBy_44 hkb ((hXq2.1 (b / 3) (by omega)).1) ?_
            refine g_icmp_ge (tgt := 128) C dX1_pairLinesBy_47 (by decide) (by unfold R32; omega) (fun h4 => ?_) (fun h4 => ?_)
            · refine g_iinc (q := 5) (v := (x5 + 1)) (L' := [(5, .int (iZ (x5 + 1))), (0, .ref (κ.2.1 98)), (1, .int (iZ za)), (2, .int (iZ zb)), (3, .ref (κ.2.1 (2 + 2 * (a / 3)))), (4, .ref (κ.2.1 (2 + 2 * (b / 3)))), (6, .int (iZ x6))]) C dX1_pairLinesBy_128 rfl rfl (by decide) rfl ?_
              refine g_goto (tgt := 28) C dX1_pairLinesBy_131 (by decide) ?_
              exact g_loc [1, 2, 3, 4, 5, 0] (by rfl) (ih28 (i + 1) (x5 + 1) pm2 q2 (by omega) (by omega) (by omega) hF2 hS2 (hA2.cong (fun _ _ _ _ => by rw [show k = wl w (b / 3) by omega]; exact qP_r)))
            · refine g_pc (pc' := 50) rfl ?_
              refine g_aload_n C dX1_pairLinesBy_50 rfl ?_
              refine g_iload C dX1_pairLinesBy_51 rfl ?_
              refine g_iload_n C dX1_pairLinesBy_53 rfl ?_
              refine g_iconst (z := 3) C dX1_pairLinesBy_54 rfl ?_
              refine g_irem C dX1_pairLinesBy_55 (by omega) ?_
              have hvva := (hXq2.1 (a / 3) (by omega)).2.2.2 i (by omega) (a % 3) (by omega)
              have hv99a := htoa.2.2.2 i (by omega) (a % 3) (by omega)
              rw [show 0 + 3 + 2 * (a / 3) = 2 + 2 * (a / 3) + 1 by omega] at hvva
              refine gc_X1_63 C dX1_pairLinesBy_56 hka (c_X5_valueAt hI (Ml M) q2 hka (i := i) (c := a % 3) (by omega) (by omega) ⟨by omega, by omega⟩) (by decide) (Nat.le_of_ble_eq_true rfl) (fun z σ1 ⟨hz, hσ⟩ => ?_)
              subst σ1
              rw [hvva] at hz
              subst z
              refine g_aload C dX1_pairLinesBy_59 rfl ?_
              refine g_iload C dX1_pairLinesBy_61 rfl ?_
              refine g_pc (pc' := 63) rfl ?_
              refine g_iload_n C dX1_pairLinesBy_63 rfl ?_
              refine g_iconst (z := 3) C dX1_pairLinesBy_64 rfl ?_
              refine g_irem C dX1_pairLinesBy_65 (by omega) ?_
              have hvvb := (hXq2.1 (b / 3) (by omega)).2.2.2 k (by omega) (b % 3) (by omega)
              have hv99b := htob.2.2.2 k (by omega) (b % 3) (by omega)
              rw [show 0 + 3 + 2 * (b / 3) = 2 + 2 * (b / 3) + 1 by omega] at hvvb
              refine gc_X1_63 C dX1_pairLinesBy_66 hkb (c_X5_valueAt hI (Ml M) q2 hkb (i := k) (c := b % 3) (by omega) (by omega) ⟨by omega, by omega⟩) (by decide) (Nat.le_of_ble_eq_true rfl) (fun z σ1 ⟨hz, hσ⟩ => ?_)
              subst σ1
              rw [hvvb] at hz
              subst z
              refine g_icmp_eq (tgt := 122) C dX1_pairLinesBy_69 (by decide) (by unfold R32; omega) (fun h5 => ?_) (fun h5 => ?_)
              · refine g_iinc (q := 6) (v := (x6 + 1)) (L' := [(6, .int (iZ (x6 + 1))), (0, .ref (κ.2.1 98)), (1, .int (iZ za)), (2, .int (iZ zb)), (3, .ref (κ.2.1 (2 + 2 * (a / 3)))), (4, .ref (κ.2.1 (2 + 2 * (b / 3)))), (5, .int (iZ x5))]) C dX1_pairLinesBy_122 rfl rfl (by decide) rfl ?_
                refine g_goto (tgt := 40) C dX1_pairLinesBy_125 (by decide) ?_
                exact g_loc [1, 2, 3, 4, 5, 6, 0] (by rfl) (ih40 (k + 1) (x6 + 1) pm2 q2 (by omega) (by omega) (by omega) hF2 hS2 (hA2.cong (fun _ _ _ _ => qP_s (decide_eq_true (by omega)))))
              · have hm1 := hA2 (a / 3) (by omega) i (by omega) (b / 3) (by omega)
                have hm2 := hA2 (b / 3) (by omega) k (by omega) (a / 3) (by omega)
                refine g_aload_n C dX1_pairLinesBy_72 rfl ?_
                refine g_pc (pc' := 73) rfl ?_
                refine gf_X1_22 C dX1_pairLinesBy_73 rfl ?_
                refine g_iload_n C dX1_pairLinesBy_76 rfl ?_
                refine g_iconst (z := 3) C dX1_pairLinesBy_77 rfl ?_
                refine g_idiv C dX1_pairLinesBy_78 (by omega) ?_
                refine g_iload C dX1_pairLinesBy_79 rfl ?_
                refine g_iload_n C dX1_pairLinesBy_81 rfl ?_
                refine g_iconst (z := 3) C dX1_pairLinesBy_82 rfl ?_
                refine g_idiv C dX1_pairLinesBy_83 (by omega) ?_
                refine g_pc (pc' := 84) rfl ?_
                refine gc_X1_104 C dX1_pairLinesBy_84 (c_X1_partnersAt hI (Ml M) q2 (a := (za / 3)) (b := x5) (c := (zb / 3))) (by decide) (Nat.le_of_ble_eq_true rfl) (fun z σ1 ⟨hz, hσ⟩ => ?_)
                subst σ1
                replace hz : z = (((((a / 3) * 16 + i) * 5 + (b / 3)) : Nat) : Int) := by omega
                subst z
                refine g_dup2 C dX1_pairLinesBy_87 rfl rfl ?_
                refine g_iaz (n := (((a / 3) * 16 + i) * 5 + (b / 3))) (N := 400) (v := (pm2 (a / 3) i (b / 3) : Int)) C dX1_pairLinesBy_88 rfl rfl (by omega) (by omega) (by decide) (hS2 (a / 3) (by omega) i (by omega) (b / 3) (by omega)) ?_
                refine g_iconst (z := 1) C dX1_pairLinesBy_89 rfl ?_
                refine g_iload C dX1_pairLinesBy_90 rfl ?_
                refine g_ishl C dX1_pairLinesBy_92 ?_
                refine g_iconst (z := (-1)) C dX1_pairLinesBy_93 rfl ?_
                refine g_ixor C dX1_pairLinesBy_94 ?_
                refine g_pc (pc' := 95) rfl ?_
                refine g_iand C dX1_pairLinesBy_95 ?_
                refine g_raw (clr_rw hx6 hm1.1 (by omega)) ?_
                refine g_iast (n := (((a / 3) * 16 + i) * 5 + (b / 3))) (N := 400) C dX1_pairLinesBy_96 rfl rfl (by omega) (by omega) (by decide) ?_
                refine g_aload_n C dX1_pairLinesBy_97 rfl ?_
                refine gf_X1_22 C dX1_pairLinesBy_98 rfl ?_
                refine g_iload_n C dX1_pairLinesBy_101 rfl ?_
                refine g_iconst (z := 3) C dX1_pairLinesBy_102 rfl ?_
                refine g_idiv C dX1_pairLinesBy_103 (by omega) ?_
                refine g_iload C dX1_pairLinesBy_104 rfl ?_
                refine g_pc (pc' := 106) rfl ?_
                refine g_iload_n C dX1_pairLinesBy_106 rfl ?_
                refine g_iconst (z := 3) C dX1_pairLinesBy_107 rfl ?_
                refine g_idiv C dX1_pairLinesBy_108 (by omega) ?_
                refine gc_X1_104 C dX1_pairLinesBy_109 (c_X1_partnersAt hI (Ml M) (sI q2 101 (((a / 3) * 16 + i) * 5 + (b / 3)) ((clr (pm2 (a / 3) i (b / 3)) k : Nat) : Int)) (a := (zb / 3)) (b := x6) (c := (za / 3))) (by decide) (Nat.le_of_ble_eq_true rfl) (fun z σ1 ⟨hz, hσ⟩ => ?_)
                subst σ1
                replace hz : z = (((((b / 3) * 16 + k) * 5 + (a / 3)) : Nat) : Int) := by omega
                subst z
                refine g_dup2 C dX1_pairLinesBy_112 rfl rfl ?_
                refine g_iaz (n := (((b / 3) * 16 + k) * 5 + (a / 3))) (N := 400) (v := (pm2 (b / 3) k (a / 3) : Int)) C dX1_pairLinesBy_113 rfl rfl (by omega) (by omega) (by decide) ((rI_j (by omega)).trans (hS2 (b / 3) (by omega) k (by omega) (a / 3) (by omega))) ?_
                refine g_iconst (z := 1) C dX1_pairLinesBy_114 rfl ?_
                refine g_iload C dX1_pairLinesBy_115 rfl ?_
                refine g_pc (pc' := 117) rfl ?_
                refine g_ishl C dX1_pairLinesBy_117 ?_
                refine g_iconst (z := (-1)) C dX1_pairLinesBy_118 rfl ?_
                refine g_ixor C dX1_pairLinesBy_119 ?_
                refine g_iand C dX1_pairLinesBy_120 ?_
                refine g_raw (clr_rw hx5 hm2.1 (by omega)) ?_
                refine g_iast (n := (((b / 3) * 16 + k) * 5 + (a / 3))) (N := 400) C dX1_pairLinesBy_121 rfl rfl (by omega) (by omega) (by decide) ?_
                refine g_iinc (q := 6) (v := (x6 + 1)) (L' := [(6, .int (iZ (x6 + 1))), (0, .ref (κ.2.1 98)), (1, .int (iZ za)), (2, .int (iZ zb)), (3, .ref (κ.2.1 (2 + 2 * (a / 3)))), (4, .ref (κ.2.1 (2 + 2 * (b / 3)))), (5, .int (iZ x5))]) C dX1_pairLinesBy_122 rfl rfl (by decide) rfl ?_
                refine g_goto (tgt := 40) C dX1_pairLinesBy_125 (by decide) ?_
                exact g_loc [1, 2, 3, 4, 5, 6, 0] (by rfl) (ih40 (k + 1) (x6 + 1) (upP (upP pm2 (a / 3) i (b / 3) (clr (pm2 (a / 3) i (b / 3)) k)) (b / 3) k (a / 3) (clr (pm2 (b / 3) k (a / 3)) i)) (sI (sI q2 101 (((a / 3) * 16 + i) * 5 + (b / 3)) ((clr (pm2 (a / 3) i (b / 3)) k : Nat) : Int)) 101 (((b / 3) * 16 + k) * 5 + (a / 3)) ((clr (pm2 (b / 3) k (a / 3)) i : Nat) : Int)) (by omega) (by omega) (by omega) ((hF2.sI rfl).sI rfl) ((hS2.up (by omega) (by omega) (by omega) _).up (by omega) (by omega) (by omega) _) (qP_c hab (by omega) (by omega) (decide_eq_false (by omega)) hA2 (by omega) (by omega)))
        exact g_loc [1, 2, 3, 4, 5, 6, 0] (by rfl) (lp40 _ 0 0 pm1 q1 (Nat.lt_succ_self _) rfl (Nat.zero_le _) hF1 hS1 hA1)
  exact g_loc [3, 4, 5, 2, 1, 0] (by rfl) (lp28 _ 0 0 pm σ (Nat.lt_succ_self _) rfl (Nat.zero_le _) Fr.rf hS (hA.cong (fun _ _ _ _ => qP_0.symm)))
theorem fillP_fr {σ : St} : Fr PC σ (fillI σ 101 400 65535) := ⟨fun q hq => by
  funext j
  show (if q = 101 ∧ j < 400 then (65535 : Int) else σ.1 q j) = σ.1 q j
  rw [if_neg (show ¬ (q = 101 ∧ j < 400) from fun e => hq e.1)], fun _ _ => rfl, fun _ _ => rfl⟩
theorem fillP_at {σ : St} {j : Nat} (h : j < 400) : (fillI σ 101 400 65535).1 101 j = ((65535 : Nat) : Int) := by
  show (if 101 = 101 ∧ j < 400 then (65535 : Int) else σ.1 101 j) = _
  rw [if_pos ⟨rfl, h⟩]; rfl
set_option maxHeartbeats 4000000 in
set_option maxRecDepth 100000 in
theorem c_X1_pairLines {κ : Kp} (hI : Ij κ) (l : Launch) (σ : St) {w : Wv} (hX : XW 0 σ w) (hW : OKW w) {s : Nat} {zs : Int} (hs : zs = (s : Int)) (hs32 : s < 32) : CtV κ l 2 yX1_pairLines cX1_pairLines 3 [.ref (κ.2.1 98), .int (iZ zs)] σ (fun σ' => Fr PC σ σ' ∧ ∃ pm, PS σ' pm ∧ PA pm (jA w s (wnj w))) := by
  refine Ct.ofG (own := RX1) hI (by decide +kernel) rfl (Nat.le_of_ble_eq_true rfl) rfl ?_
  intro M C hMl
  have hnj8 := hW.2.2.1
  refine g_aload_n C dX1_pairLines_0 rfl ?_
  refine gf_X1_22 C dX1_pairLines_1 rfl ?_
  refine g_ldc (z := 65535) C dX1_pairLines_4 wq_594 ?_
  refine gc_X1_83 C dX1_pairLines_6 (c_J7_fill_53178 hI (Ml M) σ (k := 101) (N := 400) (v := 65535) rfl rfl (by decide)) (by decide) (Nat.le_of_ble_eq_true rfl) (fun σ1 hσ => ?_)
  subst σ1
  refine g_iconst (z := 0) C dX1_pairLines_9 rfl ?_
  refine g_istore_n (L' := [(2, .int (iZ 0)), (0, .ref (κ.2.1 98)), (1, .int (iZ zs))]) C dX1_pairLines_10 rfl (by decide) rfl ?_
  have lp11 : ∀ (fz9 : Nat) (j : Nat) (x2 : Int) (pm : Nat → Nat → Nat → Nat) (q : St), (wnj w - j < fz9) → (x2 = (j : Int)) → (j ≤ wnj w) → (Fr PC σ q) → (PS q pm) → (PA pm (jA w s j)) → G M κ 3 (En M κ (qV κ (fun σ' => Fr PC σ σ' ∧ ∃ pm, PS σ' pm ∧ PA pm (jA w s (wnj w))))) 11 [(0, .ref (κ.2.1 98)), (1, .int (iZ zs)), (2, .int (iZ x2))] [] q := by
    intro fz9
    induction fz9 with
    | zero => intro j x2 pm q hm0; exact absurd hm0 (Nat.not_lt_zero _)
    | succ fz9 ih11 =>
      intro j x2 pm q hm11 hx2 hj hF hS hA
      have hXq := hX.frP hF
      refine g_iload_n C dX1_pairLines_11 rfl ?_
      refine g_pc (pc' := 12) rfl ?_
      refine g_aload_n C dX1_pairLines_12 rfl ?_
      refine gf_X1_28 C dX1_pairLines_13 rfl ?_
      refine gf_X1_89 (z := (wnj w : Int)) C dX1_pairLines_16 rfl hXq.2.2.1.1 ?_
      refine g_icmp_ge (tgt := 62) C dX1_pairLines_19 (by decide) (by unfold R32; omega) (fun h1 => ?_) (fun h1 => ?_)
      · exact g_return C dX1_pairLines_62 ⟨hF, pm, hS, by rw [show wnj w = j by omega]; exact hA⟩
      · refine g_aload_n C dX1_pairLines_22 rfl ?_
        refine gf_X1_28 C dX1_pairLines_23 rfl ?_
        refine g_iload_n C dX1_pairLines_26 rfl ?_
        refine g_pc (pc' := 27) rfl ?_
        refine g_iload_n C dX1_pairLines_27 rfl ?_
        refine gc_X1_92 C dX1_pairLines_28 rfl (c_X8_hasWithin hI (Ml M) q hXq hW (s := s) (j := j) hs hx2 hs32 (by omega)) (by decide) (Nat.le_of_ble_eq_true rfl) (fun z σ9 ⟨hz, hσ⟩ => ?_)
        subst z
        subst σ9
        refine g_ifb_eq (tgt := 56) C dX1_pairLines_31 (by decide) (fun h2 => ?_) (fun h2 => ?_)
        · refine g_iinc (q := 2) (v := (x2 + 1)) (L' := [(2, .int (iZ (x2 + 1))), (0, .ref (κ.2.1 98)), (1, .int (iZ zs))]) C dX1_pairLines_56 rfl rfl (by decide) rfl ?_
          refine g_goto (tgt := 11) C dX1_pairLines_59 (by decide) ?_
          exact g_loc [1, 2, 0] (by rfl) (ih11 (j + 1) (x2 + 1) pm q (by omega) (by omega) (by omega) hF hS (by rw [jA, if_neg (by assumption)]; exact hA))
        · refine g_aload_n C dX1_pairLines_34 rfl ?_
          refine g_aload_n C dX1_pairLines_35 rfl ?_
          refine gf_X1_28 C dX1_pairLines_36 rfl ?_
          refine g_pc (pc' := 39) rfl ?_
          refine gf_X1_95 C dX1_pairLines_39 rfl ?_
          refine g_iload_n C dX1_pairLines_42 rfl ?_
          refine g_iaz (n := j) (N := 8) (v := (wja w j : Int)) C dX1_pairLines_43 rfl rfl (by omega) (by omega) (by decide) ((hXq.2.2.1.2 j (by omega)).1) ?_
          refine g_aload_n C dX1_pairLines_44 rfl ?_
          refine gf_X1_28 C dX1_pairLines_45 rfl ?_
          refine gf_X1_98 C dX1_pairLines_48 rfl ?_
          refine g_iload_n C dX1_pairLines_51 rfl ?_
          refine g_iaz (n := j) (N := 8) (v := (wjb w j : Int)) C dX1_pairLines_52 rfl rfl (by omega) (by omega) (by decide) ((hXq.2.2.1.2 j (by omega)).2) ?_
          refine g_pc (pc' := 53) rfl ?_
          have hjo := hW.2.2.2 j (by omega)
          refine gc_X1_101 C dX1_pairLines_53 rfl (c_X1_pairLinesBy hI (Ml M) q hXq hW (a := wja w j) (b := wjb w j) rfl rfl (by omega) (by omega) (by omega) hS hA) (by decide) (Nat.le_of_ble_eq_true rfl) (fun q2 ⟨hF2, pm', hS2, hA2⟩ => ?_)
          refine g_iinc (q := 2) (v := (x2 + 1)) (L' := [(2, .int (iZ (x2 + 1))), (0, .ref (κ.2.1 98)), (1, .int (iZ zs))]) C dX1_pairLines_56 rfl rfl (by decide) rfl ?_
          refine g_goto (tgt := 11) C dX1_pairLines_59 (by decide) ?_
          exact g_loc [1, 2, 0] (by rfl) (ih11 (j + 1) (x2 + 1) pm' q2 (by omega) (by omega) (by omega) (hF.tr hF2) hS2 (by rw [jA, if_pos (by assumption)]; exact hA2))
  exact g_loc [1, 2, 0] (by rfl) (lp11 _ 0 0 (fun _ _ _ => 65535) (fillI σ 101 400 65535) (Nat.lt_succ_self _) rfl (Nat.zero_le _) fillP_fr (fun t ht i hi o ho => fillP_at (by omega)) (fun t ht i hi o ho => MK_16))

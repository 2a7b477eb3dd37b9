/-! THE MODEL: what really comes, found -/
def g1 (w : Wv) (s : Nat) : (Nat → Nat) → Nat := fun a => if gR w s a = true then 1 else 0
def gV (w : Wv) (s p : Nat) : (Nat → Nat) → Nat := fun a => if gR w s a = true then wv w (p / 3) (a (p / 3)) (p % 3) else 0
def gO (w : Wv) (s : Nat) (g : (Nat → Nat) → Nat) : Prop := ∀ b, gR w s b = false → g b = 0
theorem g1_O {w : Wv} {s : Nat} : gO w s (g1 w s) := fun b h => by unfold g1; rw [h]; rfl
theorem gV_O {w : Wv} {s p : Nat} : gO w s (gV w s p) := fun b h => by unfold gV; rw [h]; rfl
def mF (s : Nat) (a : Nat → Nat) : Nat → Nat
  | 0 => 0
  | p + 1 => mF s a p + (16 - a (gL (memS s) p)) * 20 ^ (5 - p)
def mT (s p i : Nat) (a : Nat → Nat) (t : Int) : Nat := if t < 0 then 0 else mF s a p + (17 - i) * 20 ^ (5 - p)
theorem mF_up {s p i : Nat} {a : Nat → Nat} (hs : s < 32) (hp : p < (memS s).length) : ∀ q, q ≤ p → mF s (upL a (gL (memS s) p) i) q = mF s a q
  | 0, _ => rfl
  | q + 1, hq => by
    have := ms_lt hs (show q < p by omega) hp
    have e : upL a (gL (memS s) p) i (gL (memS s) q) = a (gL (memS s) q) := by unfold upL; rw [if_neg (by omega)]
    rw [mF, mF, mF_up hs hp q (by omega), e]
theorem up_s {a : Nat → Nat} {t i : Nat} : upL a t i t = i := by unfold upL; rw [if_pos rfl]
theorem p20 (n : Nat) : 0 < 20 ^ n := Nat.pow_pos (by decide)
theorem mT_ff {s p i : Nat} {a : Nat → Nat} {t : Int} (ht : 0 ≤ t) (hi : i < 16) : mT s p (i + 1) a t < mT s p i a t := by
  unfold mT
  rw [if_neg (by omega), if_neg (by omega), show 17 - i = (17 - (i + 1)) + 1 by omega, Nat.add_mul]
  have := p20 (5 - p)
  omega
theorem mT_dn {s p i : Nat} {a : Nat → Nat} {t t' : Int} (hs : s < 32) (hp : p + 1 < (memS s).length) (hl : (memS s).length ≤ 5) (ht : 0 ≤ t) (ht' : 0 ≤ t') (hi : i < 16) : mT s (p + 1) 0 (upL a (gL (memS s) p) i) t' < mT s p i a t := by
  unfold mT
  rw [if_neg (by omega), if_neg (by omega), mF, mF_up hs (by omega) p (Nat.le_refl _), up_s, show 17 - i = (16 - i) + 1 by omega, Nat.add_mul, show 5 - p = (5 - (p + 1)) + 1 by omega, Nat.pow_succ]
  have := p20 (5 - (p + 1))
  omega
theorem mT_up {s p i : Nat} {a : Nat → Nat} {t t' : Int} (ht : 0 ≤ t) (hi : i ≤ 16) (h0 : p = 0 → t' < 0) : mT s (p - 1) (a (gL (memS s) (p - 1)) + 1) a t' < mT s p i a t := by
  have h5 := p20 (5 - p)
  have hm : 20 ^ (5 - p) ≤ (17 - i) * 20 ^ (5 - p) := Nat.le_mul_of_pos_left _ (by omega)
  unfold mT
  rw [if_neg (show ¬ t < 0 by omega)]
  split
  · omega
  · obtain ⟨r, rfl⟩ : ∃ r, p = r + 1 := ⟨p - 1, by omega⟩
    rw [Nat.add_sub_cancel, mF, show 17 - (a (gL (memS s) r) + 1) = 16 - a (gL (memS s) r) by omega]
    omega
def FI (w : Wv) (s : Nat) (g2 : (Nat → Nat) → Nat) (ln : Nat → Int) (p i : Nat) (a : Nat → Nat) (c sm : Nat) (t : Int) : Prop :=
  (t = -1 ∧ c = rN w s ∧ sm = rS (memS s) g2 (fun _ => 0)) ∨ (t = (gL (memS s) p : Int) ∧ p < (memS s).length ∧ i ≤ wl w (gL (memS s) p) ∧ ln (gL (memS s) p) = (i : Int) - 1 ∧ (∀ r, r < p → ln (gL (memS s) r) = (a (gL (memS s) r) : Int) ∧ a (gL (memS s) r) < wl w (gL (memS s) r) ∧ PQ w s a r) ∧ c + TOT s (g1 w s) a p i = rN w s ∧ sm + TOT s g2 a p i = rS (memS s) g2 (fun _ => 0))
/-- at a level, with the line told -/
def FJ (w : Wv) (s : Nat) (g2 : (Nat → Nat) → Nat) (ln : Nat → Int) (p i : Nat) (a : Nat → Nat) (c sm : Nat) : Prop :=
  p < (memS s).length ∧ i ≤ wl w (gL (memS s) p) ∧ ln (gL (memS s) p) = (i : Int) ∧ (∀ r, r < p → ln (gL (memS s) r) = (a (gL (memS s) r) : Int) ∧ a (gL (memS s) r) < wl w (gL (memS s) r) ∧ PQ w s a r) ∧ c + TOT s (g1 w s) a p i = rN w s ∧ sm + TOT s g2 a p i = rS (memS s) g2 (fun _ => 0)
theorem FI.J {w : Wv} {s : Nat} {g2 : (Nat → Nat) → Nat} {q : St} {p i : Nat} {a : Nat → Nat} {c sm : Nat} {v : Int} (hs : s < 32) (h : p < (memS s).length ∧ i ≤ wl w (gL (memS s) p) ∧ q.1 143 (gL (memS s) p) = (i : Int) - 1 ∧ (∀ r, r < p → q.1 143 (gL (memS s) r) = (a (gL (memS s) r) : Int) ∧ a (gL (memS s) r) < wl w (gL (memS s) r) ∧ PQ w s a r) ∧ c + TOT s (g1 w s) a p i = rN w s ∧ sm + TOT s g2 a p i = rS (memS s) g2 (fun _ => 0)) (hv : v = (i : Int)) : FJ w s g2 ((sI q 143 (gL (memS s) p) v).1 143) p i a c sm := by
  refine ⟨h.1, h.2.1, by rw [rI_s]; exact hv, fun r hr => ?_, h.2.2.2.2⟩
  have := ms_lt hs hr h.1
  rw [rI_j (by omega)]
  exact h.2.2.2.1 r hr
theorem fM_ge {w : Wv} {n t i : Nat} (h : wl w t ≤ i) : ¬ fM w n t i = true := fun e => by
  unfold fM at e
  have := of_decide_eq_true (Bool.and_eq_true _ _ ▸ e).1
  omega
theorem fM_t {w : Wv} {n t i : Nat} (h : i < wl w t) (h2 : fA w t i n = true) : fM w n t i = true := by unfold fM; rw [h2, decide_eq_true h]; rfl
theorem fM_f {w : Wv} {n t i : Nat} (h2 : ¬ fA w t i n = true) : ¬ fM w n t i = true := fun e => by
  unfold fM at e
  exact h2 (Bool.and_eq_true _ _ ▸ e).2
theorem TOT_n {w : Wv} (hW : OKW w) {s p i : Nat} {g : (Nat → Nat) → Nat} {a : Nat → Nat} (hg : gO w s g) (hs : s < 32) (hp : p < (memS s).length) (hi : wl w (gL (memS s) p) ≤ i) : TOT s g a p i = LU s g a p := TOT_z (fun c h1 _ => rS_fail hW hg hs hp (fun e => fM_ge (Nat.le_trans hi h1) e.1))
theorem FJ.up {w : Wv} (hW : OKW w) {s : Nat} {g2 : (Nat → Nat) → Nat} {ln : Nat → Int} {p i : Nat} {a : Nat → Nat} {c sm : Nat} (hg : gO w s g2) (hs : s < 32) (h : FJ w s g2 ln p i a c sm) (hi : ¬ i < wl w (gL (memS s) p)) {t : Int} (ht : t = pvF s (gL (memS s) p)) : FI w s g2 ln (p - 1) (a (gL (memS s) (p - 1)) + 1) a c sm t ∧ (p = 0 → t < 0) := by
  have hl := (ms_len ⟨s, hs⟩).1
  dsimp only at hl
  obtain ⟨e1, e2, e3, e4, e5, e6⟩ := h
  have hn := ((nx_all ⟨s, hs⟩).2 ⟨p, by omega⟩ e1).2
  dsimp only at hn
  rw [hn] at ht
  rw [TOT_n hW g1_O hs e1 (by omega)] at e5
  rw [TOT_n hW hg hs e1 (by omega)] at e6
  cases p with
  | zero =>
    rw [if_pos rfl] at ht
    rw [LU] at e5 e6
    exact ⟨Or.inl ⟨ht, by omega, by omega⟩, fun _ => by omega⟩
  | succ p =>
    rw [if_neg (by omega)] at ht
    obtain ⟨f1, f2, f3⟩ := e4 p (by omega)
    rw [LU] at e5 e6
    refine ⟨Or.inr ⟨ht, by omega, ?_, ?_, fun r hr => ?_, ?_, ?_⟩, fun e => absurd e (by omega)⟩
    · exact f2
    · show ln (gL (memS s) p) = ((a (gL (memS s) p) + 1 : Nat) : Int) - 1
      omega
    · exact e4 r (by omega)
    · exact e5
    · exact e6
theorem FJ.ff {w : Wv} (hW : OKW w) {s : Nat} {g2 : (Nat → Nat) → Nat} {ln : Nat → Int} {p i : Nat} {a : Nat → Nat} {c sm : Nat} (hg : gO w s g2) (hs : s < 32) (h : FJ w s g2 ln p i a c sm) (hi : i < wl w (gL (memS s) p)) (h16 : i < 16) (hf : ¬ (fM w (wnf w) (gL (memS s) p) i = true ∧ pJ w s (upL a (gL (memS s) p) i) (gL (memS s) p) (wnj w) = true)) : FI w s g2 ln p (i + 1) a c sm (gL (memS s) p : Int) := by
  obtain ⟨e1, e2, e3, e4, e5, e6⟩ := h
  rw [TOT_i h16, rS_fail hW g1_O hs e1 hf, Nat.zero_add] at e5
  rw [TOT_i h16, rS_fail hW hg hs e1 hf, Nat.zero_add] at e6
  exact Or.inr ⟨rfl, e1, by omega, by omega, e4, e5, e6⟩
theorem FJ.dn {w : Wv} (hW : OKW w) {s : Nat} {g2 : (Nat → Nat) → Nat} {q : St} {p i : Nat} {a : Nat → Nat} {c sm : Nat} (hs : s < 32) (h : FJ w s g2 (q.1 143) p i a c sm) (hi : i < wl w (gL (memS s) p)) (h16 : i < 16) (hf : fM w (wnf w) (gL (memS s) p) i = true ∧ pJ w s (upL a (gL (memS s) p) i) (gL (memS s) p) (wnj w) = true) (hp : p + 1 < (memS s).length) {v : Int} (hv : v = -1) : FI w s g2 ((sI q 143 (gL (memS s) (p + 1)) v).1 143) (p + 1) 0 (upL a (gL (memS s) p) i) c sm (gL (memS s) (p + 1) : Int) := by
  obtain ⟨e1, e2, e3, e4, e5, e6⟩ := h
  refine Or.inr ⟨rfl, hp, Nat.zero_le _, by rw [rI_s, hv]; rfl, fun r hr => ?_, ?_, ?_⟩
  · have hlt := ms_lt hs (show r < p + 1 from hr) hp
    rw [rI_j (by omega)]
    rcases Nat.lt_or_ge r p with k | k
    · have hlt2 := ms_lt hs k e1
      rw [show upL a (gL (memS s) p) i (gL (memS s) r) = a (gL (memS s) r) by unfold upL; rw [if_neg (by omega)]]
      obtain ⟨f1, f2, f3⟩ := e4 r k
      exact ⟨f1, f2, PQ_up hW hs e1 k f3⟩
    · have : r = p := by omega
      subst this
      unfold PQ
      rw [up_s]
      exact ⟨e3, hi, hf.1, hf.2⟩
  · rw [TOT_d hs hp h16, ← TOT_i h16]; exact e5
  · rw [TOT_d hs hp h16, ← TOT_i h16]; exact e6
theorem FJ.cn {w : Wv} (hW : OKW w) {s : Nat} {g2 : (Nat → Nat) → Nat} {ln ln' : Nat → Int} {p i : Nat} {a : Nat → Nat} {c sm v : Nat} (hs : s < 32) (h : FJ w s g2 ln p i a c sm) (hi : i < wl w (gL (memS s) p)) (h16 : i < 16) (hf : fM w (wnf w) (gL (memS s) p) i = true ∧ pJ w s (upL a (gL (memS s) p) i) (gL (memS s) p) (wnj w) = true) (hp : p + 1 = (memS s).length) (hl : ln' = ln) (hv : gR w s (upL a (gL (memS s) p) i) = true → g2 (upL a (gL (memS s) p) i) = v) : FI w s g2 ln' p (i + 1) a (c + 1) (sm + v) (gL (memS s) p : Int) := by
  subst hl
  obtain ⟨e1, e2, e3, e4, e5, e6⟩ := h
  have hg : gR w s (upL a (gL (memS s) p) i) = true := gR_t hW hs (fun q hq => by
    rcases Nat.lt_or_ge q p with k | k
    · exact PQ_up hW hs e1 k (e4 q k).2.2
    · have : q = p := by omega
      subst this
      unfold PQ
      rw [up_s]
      exact hf)
  rw [TOT_i h16, List.drop_eq_nil_of_le (by omega), rS] at e5
  rw [TOT_i h16, List.drop_eq_nil_of_le (by omega), rS, hv hg] at e6
  rw [show g1 w s (upL a (gL (memS s) p) i) = 1 by unfold g1; rw [if_pos hg]] at e5
  exact Or.inr ⟨rfl, e1, by omega, by omega, e4, by omega, by omega⟩
/-- the line told of each table of the set that was passed -/
theorem FJ.ln {w : Wv} {s : Nat} {g2 : (Nat → Nat) → Nat} {ln : Nat → Int} {p i : Nat} {a : Nat → Nat} {c sm : Nat} (hs : s < 32) (h : FJ w s g2 ln p i a c sm) (hi : i < wl w (gL (memS s) p)) : ∀ u, u ≤ gL (memS s) p → bitv s u = 1 → ln u = (upL a (gL (memS s) p) i u : Int) ∧ upL a (gL (memS s) p) i u < wl w u := by
  intro u hu hb
  have hl := (ms_len ⟨s, hs⟩).1
  dsimp only at hl
  have h5 := (ms_b hs h.1).1
  obtain ⟨r, hr, e⟩ := ms_has ⟨s, hs⟩ ⟨u, by omega⟩ hb
  dsimp only at hr e
  rcases Nat.lt_or_ge p r.val with k | k
  · have := ms_lt hs k hr; omega
  · rcases Nat.lt_or_ge r.val p with k2 | k2
    · have := ms_lt hs k2 h.1
      have he := h.2.2.2.1 r.val k2
      rw [e] at he
      rw [show upL a (gL (memS s) p) i u = a u by unfold upL; rw [if_neg (by omega)]]
      exact ⟨he.1, he.2.1⟩
    · have hrp : r.val = p := by omega
      rw [hrp] at e
      subst e
      rw [up_s]
      exact ⟨h.2.2.1, hi⟩
theorem ms_last {s p u : Nat} (hs : s < 32) (hp : p + 1 = (memS s).length) (hu : u < 5) (hb : bitv s u = 1) : u ≤ gL (memS s) p := by
  obtain ⟨r, hr, e⟩ := ms_has ⟨s, hs⟩ ⟨u, hu⟩ hb
  dsimp only at hr e
  rcases Nat.lt_or_ge r.val p with k | k
  · have := ms_lt hs k (show p < (memS s).length by omega); omega
  · rw [show p = r.val by omega, e]; exact Nat.le_refl _
theorem FI.st {w : Wv} {s : Nat} {g2 : (Nat → Nat) → Nat} {ln : Nat → Int} (hs : s < 32) (hs1 : 1 ≤ s) (hl : ln (gL (memS s) 0) = -1) {t : Int} (ht : t = (nxF s (5 - 0) 0 : Int)) : FI w s g2 ln 0 0 (fun _ => 0) 0 0 t := by
  have h1 := (ms_len ⟨s, hs⟩).2 hs1
  dsimp only at h1
  have hn := (nx_all ⟨s, hs⟩).1 hs1
  dsimp only at hn
  refine Or.inr ⟨by rw [ht, ← hn], by omega, Nat.zero_le _, by rw [hl]; rfl, fun r hr => absurd hr (by omega), ?_, ?_⟩
  · rw [TOT_0 h1, Nat.zero_add]; rfl
  · rw [TOT_0 h1, Nat.zero_add]
theorem FI.le {w : Wv} {s : Nat} {g2 : (Nat → Nat) → Nat} {ln : Nat → Int} {p i : Nat} {a : Nat → Nat} {c sm : Nat} {t : Int} (h : FI w s g2 ln p i a c sm t) : c ≤ rN w s := by
  rcases h with ⟨-, h, -⟩ | ⟨-, -, -, -, -, h, -⟩ <;> omega
theorem FI.neg {w : Wv} {s : Nat} {g2 : (Nat → Nat) → Nat} {ln : Nat → Int} {p i : Nat} {a : Nat → Nat} {c sm : Nat} {t : Int} (h : FI w s g2 ln p i a c sm t) (ht : t < 0) : c = rN w s ∧ sm = rS (memS s) g2 (fun _ => 0) := by
  rcases h with ⟨-, h⟩ | ⟨h, -⟩
  · exact h
  · omega
set_option maxHeartbeats 4000000 in
set_option maxRecDepth 100000 in
theorem c_X10_findReally {κ : Kp} (hI : Ij κ) (l : Launch) (σ : St) {w : Wv} (hM : MW σ w) (hW : OKW w) {s P : Nat} {zs zp : Int} {g2 : (Nat → Nat) → Nat} (hzs : zs = (s : Int)) (hs1 : 1 ≤ s) (hs32 : s < 32) (hG : gO w s g2) (hzp : (zp = -1 ∧ g2 = fun _ => 0) ∨ (zp = (P : Int) ∧ P ≤ 14 ∧ bitv s (P / 3) = 1 ∧ g2 = gV w s P)) : CtV κ l 3 yX10_findReally cX10_findReally 5 [.ref (κ.2.1 105), .int (iZ zs), .int (iZ zp)] σ (fun σ' => (rN w s ≤ 100000 → σ'.1 105 38 = (rN w s : Int) ∧ σ'.2.2 105 39 = Int64.ofInt (rS (memS s) g2 (fun _ => 0) : Int)) ∧ (100000 < rN w s → 100000 < σ'.1 105 38 ∧ σ'.1 105 38 ≤ 100001) ∧ Fm SC SX σ σ') := by
  refine Ct.ofG (own := RX10) hI (by decide +kernel) rfl (Nat.le_of_ble_eq_true rfl) rfl ?_
  intro M C hMl
  have hzpr : R32 zp := by rcases hzp with e | e <;> (unfold R32; omega)
  refine g_aload_n C dX10_findReally_0 rfl ?_
  refine g_iconst (z := 0) C dX10_findReally_1 rfl ?_
  refine gp_X10_289 C dX10_findReally_2 rfl ?_
  refine g_aload_n C dX10_findReally_5 rfl ?_
  refine g_lconst0 C dX10_findReally_6 ?_
  refine gp_X10_292 C dX10_findReally_7 rfl ?_
  refine g_iload_n C dX10_findReally_10 rfl ?_
  refine g_pc (pc' := 11) rfl ?_
  refine g_iconst (z := (-1)) C dX10_findReally_11 rfl ?_
  refine gc_X10_296 C dX10_findReally_12 (c_X10_nextOf hI (Ml M) (sL (sI σ 105 38 0) 105 39 0) (s := s) (k := 0) hzs (by rfl) hs32 (by omega)) (by decide) (Nat.le_of_ble_eq_true rfl) (fun z0 σ9 ⟨hz0, hσ⟩ => ?_)
  subst σ9
  have hl1 := (ms_len ⟨s, hs32⟩).2 hs1
  dsimp only at hl1
  have hTb0 := ms_b hs32 (show 0 < (memS s).length by omega)
  have hz00 : z0 = (gL (memS s) 0 : Int) := by rw [hz0]; exact congrArg (fun n : Nat => (n : Int)) ((nx_all ⟨s, hs32⟩).1 hs1)
  subst hz00
  refine g_istore_n (L' := [(3, .int (iZ (gL (memS s) 0 : Int))), (0, .ref (κ.2.1 105)), (1, .int (iZ zs)), (2, .int (iZ zp))]) C dX10_findReally_15 rfl (by decide) rfl ?_
  refine g_aload_n C dX10_findReally_16 rfl ?_
  refine gf_X10_98 C dX10_findReally_17 rfl ?_
  refine g_iload_n C dX10_findReally_20 rfl ?_
  refine g_iconst (z := (-1)) C dX10_findReally_21 rfl ?_
  refine g_iast (n := (gL (memS s) 0)) (N := 5) C dX10_findReally_22 rfl rfl (by omega) (by omega) (by decide) ?_
  have lp23 : ∀ (fz9 : Nat) (p : Nat) (i : Nat) (a : Nat → Nat) (c : Nat) (sm : Nat) (x3 : Int) (q : St), (mT s p i a x3 < fz9) → (FI w s g2 (q.1 143) p i a c sm x3) → (q.1 105 38 = (c : Int)) → (q.2.2 105 39 = Int64.ofInt (sm : Int)) → (c ≤ 100001) → (Fm SC SX σ q) → G M κ 5 (En M κ (qV κ (fun σ' => (rN w s ≤ 100000 → σ'.1 105 38 = (rN w s : Int) ∧ σ'.2.2 105 39 = Int64.ofInt (rS (memS s) g2 (fun _ => 0) : Int)) ∧ (100000 < rN w s → 100000 < σ'.1 105 38 ∧ σ'.1 105 38 ≤ 100001) ∧ Fm SC SX σ σ'))) 23 [(0, .ref (κ.2.1 105)), (1, .int (iZ zs)), (2, .int (iZ zp)), (3, .int (iZ x3))] [] q := by
    intro fz9
    induction fz9 with
    | zero => intro p i a c sm x3 q hm0; exact absurd hm0 (Nat.not_lt_zero _)
    | succ fz9 ih23 =>
      intro p i a c sm x3 q hm23 hx h38 h39 hcl hFq
      have hxr : R32 x3 := by rcases hx with ⟨e, -⟩ | ⟨e, e2, -⟩; (rw [e]; unfold R32; omega); (have hb9 := (ms_b hs32 e2).1; rw [e]; unfold R32; omega)
      have hcle := hx.le
      refine g_pc (pc' := 23) rfl ?_
      refine g_iload_n C dX10_findReally_23 rfl ?_
      refine g_if_lt (tgt := 154) C dX10_findReally_24 (by decide) (by unfold R32; omega) (fun h1 => ?_) (fun h1 => ?_)
      · exact g_return C dX10_findReally_154 ⟨fun hN => by have hcr : c = rN w s ∧ sm = rS (memS s) g2 (fun _ => 0) := (by first | exact hx.neg (by omega) | (exfalso; omega)); rw [h38, h39, ← hcr.2]; exact ⟨by rw [hcr.1], rfl⟩, fun hN => by rw [h38]; first | (exact ⟨by omega, by omega⟩) | (have hcr := hx.neg (by omega); omega), hFq⟩
      · refine g_aload_n C dX10_findReally_27 rfl ?_
        refine gf_X10_289 (z := (c : Int)) C dX10_findReally_28 rfl h38 ?_
        refine g_ldcw (z := 100000) C dX10_findReally_31 wq_404 ?_
        refine g_icmp_gt (tgt := 154) C dX10_findReally_34 (by decide) (by unfold R32; omega) (fun h2 => ?_) (fun h2 => ?_)
        · exact g_return C dX10_findReally_154 ⟨fun hN => by have hcr : c = rN w s ∧ sm = rS (memS s) g2 (fun _ => 0) := (by first | exact hx.neg (by omega) | (exfalso; omega)); rw [h38, h39, ← hcr.2]; exact ⟨by rw [hcr.1], rfl⟩, fun hN => by rw [h38]; first | (exact ⟨by omega, by omega⟩) | (have hcr := hx.neg (by omega); omega), hFq⟩
        · obtain ⟨hxt, hx2⟩ := hx.resolve_left (fun e => by omega)
          subst hxt
          have hTb := ms_b hs32 hx2.1
          have hlen := (ms_len ⟨s, hs32⟩).1
          dsimp only at hlen
          have hto := hW.1 (gL (memS s) p) hTb.1
          refine g_pc (pc' := 37) rfl ?_
          refine g_aload_n C dX10_findReally_37 rfl ?_
          refine gf_X10_98 C dX10_findReally_38 rfl ?_
          refine g_iload_n C dX10_findReally_41 rfl ?_
          refine g_dup2 C dX10_findReally_42 rfl rfl ?_
          refine g_iaz (n := (gL (memS s) p)) (N := 5) (v := ((i : Int) - 1)) C dX10_findReally_43 rfl rfl (by omega) (by omega) (by decide) hx2.2.2.1 ?_
          refine g_iconst (z := 1) C dX10_findReally_44 rfl ?_
          refine g_iadd C dX10_findReally_45 ?_
          refine g_iast (n := (gL (memS s) p)) (N := 5) C dX10_findReally_46 rfl rfl (by omega) (by omega) (by decide) ?_
          have hJ0 := FI.J (g2 := g2) (v := ((i : Int) - 1) + 1) hs32 hx2 (by omega)
          have hM1 : MW (sI q 143 (gL (memS s) p) (((i : Int) - 1) + 1)) w := (hM.scr hFq).fm (Fm.rf.a (S := SC) (T := SX) (by decide) (by unfold SC; omega)) (fun k _ _ e => by unfold SC at e; omega) (fun j _ _ e => by unfold SX at e; omega)
          have hF1 : Fm SC SX σ (sI q 143 (gL (memS s) p) (((i : Int) - 1) + 1)) := hFq.a (by decide) (by unfold SC; omega)
          have h381 : (sI q 143 (gL (memS s) p) (((i : Int) - 1) + 1)).1 105 38 = (c : Int) := (rI_k (by decide)).trans h38
          have h391 : (sI q 143 (gL (memS s) p) (((i : Int) - 1) + 1)).2.2 105 39 = Int64.ofInt (sm : Int) := h39
          generalize sI q 143 (gL (memS s) p) (((i : Int) - 1) + 1) = q1 at hJ0 hM1 hF1 h381 h391 ⊢
          refine g_pc (pc' := 47) rfl ?_
          refine g_aload_n C dX10_findReally_47 rfl ?_
          refine gf_X10_98 C dX10_findReally_48 rfl ?_
          refine g_iload_n C dX10_findReally_51 rfl ?_
          refine g_iaz (n := (gL (memS s) p)) (N := 5) (v := (i : Int)) C dX10_findReally_52 rfl rfl (by omega) (by omega) (by decide) hJ0.2.2.1 ?_
          refine g_aload_n C dX10_findReally_53 rfl ?_
          refine gf_X10_13 C dX10_findReally_54 rfl ?_
          refine g_iload_n C dX10_findReally_57 rfl ?_
          refine g_iaz (n := (gL (memS s) p)) (N := 5) (v := (wl w (gL (memS s) p) : Int)) C dX10_findReally_58 rfl rfl (by omega) (by omega) (by decide) ((hM1.1 (gL (memS s) p) hTb.1).1) ?_
          refine g_pc (pc' := 59) rfl ?_
          refine g_icmp_lt (tgt := 71) C dX10_findReally_59 (by decide) (by unfold R32; omega) (fun h3 => ?_) (fun h3 => ?_)
          · have hil : i < wl w (gL (memS s) p) := by omega
            refine g_aload_n C dX10_findReally_71 rfl ?_
            refine g_iload_n C dX10_findReally_72 rfl ?_
            refine gc_X10_303 C dX10_findReally_73 rfl (c_X10_passesFilters hI (Ml M) q1 hM1 hW (t := (gL (memS s) p)) (i := i) rfl hTb.1 hJ0.2.2.1 hil) (by decide) (Nat.le_of_ble_eq_true rfl) (fun z σ9 ⟨hz, hσ⟩ => ?_)
            subst z
            subst σ9
            refine g_ifb_eq (tgt := 23) C dX10_findReally_76 (by decide) (fun h4 => ?_) (fun h4 => ?_)
            · exact g_loc [0, 1, 2, 3] (by rfl) (ih23 p (i + 1) a c sm ((gL (memS s) p) : Int) q1 (Nat.lt_of_lt_of_le (mT_ff (by omega) (by omega)) (Nat.le_of_lt_succ hm23)) (hJ0.ff hW hG hs32 hil (by omega) (fun e => fM_f (by assumption) e.1)) h381 h391 hcl hF1)
            · have hff : fA w (gL (memS s) p) i (wnf w) = true := by assumption
              refine g_aload_n C dX10_findReally_79 rfl ?_
              refine g_iload_n C dX10_findReally_80 rfl ?_
              refine g_iload_n C dX10_findReally_81 rfl ?_
              refine g_pc (pc' := 82) rfl ?_
              have hln := hJ0.ln hs32 hil
              refine gc_X10_306 C dX10_findReally_82 rfl (c_X10_passesJoins hI (Ml M) q1 hM1 hW (t := (gL (memS s) p)) (s := s) (a := upL a (gL (memS s) p) i) rfl hzs hTb.1 hs32 (fun u hu hb => hln u (by omega) hb) (by rw [up_s]; exact hJ0.2.2.1) (by rw [up_s]; exact hil)) (by decide) (Nat.le_of_ble_eq_true rfl) (fun z σ9 ⟨hz, hσ⟩ => ?_)
              subst z
              subst σ9
              refine g_ifb_eq (tgt := 23) C dX10_findReally_85 (by decide) (fun h5 => ?_) (fun h5 => ?_)
              · exact g_loc [0, 1, 2, 3] (by rfl) (ih23 p (i + 1) a c sm ((gL (memS s) p) : Int) q1 (Nat.lt_of_lt_of_le (mT_ff (by omega) (by omega)) (Nat.le_of_lt_succ hm23)) (hJ0.ff hW hG hs32 hil (by omega) (fun e => absurd e.2 (by assumption))) h381 h391 hcl hF1)
              · have hjj : pJ w s (upL a (gL (memS s) p) i) (gL (memS s) p) (wnj w) = true := by assumption
                have hok : fM w (wnf w) (gL (memS s) p) i = true ∧ pJ w s (upL a (gL (memS s) p) i) (gL (memS s) p) (wnj w) = true := ⟨fM_t hil hff, hjj⟩
                refine g_iload_n C dX10_findReally_88 rfl ?_
                refine g_iload_n C dX10_findReally_89 rfl ?_
                refine gc_X10_296 C dX10_findReally_90 (c_X10_nextOf hI (Ml M) q1 (s := s) (k := (gL (memS s) p) + 1) hzs (by omega) hs32 (by omega)) (by decide) (Nat.le_of_ble_eq_true rfl) (fun z4 σ9 ⟨hz4, hσ⟩ => ?_)
                subst σ9
                have hnx := ((nx_all ⟨s, hs32⟩).2 ⟨p, by omega⟩ hJ0.1).1
                dsimp only at hnx
                rw [hnx] at hz4
                have hz5 : (p + 1 < (memS s).length ∧ z4 = ((gL (memS s) (p + 1)) : Int) ∧ (gL (memS s) (p + 1)) < 5) ∨ (p + 1 = (memS s).length ∧ z4 = 5) := by rcases Nat.lt_or_ge (p + 1) (memS s).length with k | k; (rw [if_pos k] at hz4; exact Or.inl ⟨k, hz4, (ms_b hs32 k).1⟩); (rw [if_neg (by omega)] at hz4; exact Or.inr ⟨by have := hJ0.1; omega, hz4⟩)
                refine g_istore (L' := [(4, .int (iZ z4)), (0, .ref (κ.2.1 105)), (1, .int (iZ zs)), (2, .int (iZ zp)), (3, .int (iZ ((gL (memS s) p) : Int)))]) C dX10_findReally_93 (by decide) rfl ?_
                refine g_iload C dX10_findReally_95 rfl ?_
                refine g_iconst (z := 5) C dX10_findReally_97 rfl ?_
                refine g_pc (pc' := 98) rfl ?_
                refine g_icmp_ge (tgt := 114) C dX10_findReally_98 (by decide) (by unfold R32; omega) (fun h6 => ?_) (fun h6 => ?_)
                · have hpl := (hz5.resolve_left (fun e => by omega)).1
                  refine g_aload_n C dX10_findReally_114 rfl ?_
                  refine g_dup C dX10_findReally_115 rfl ?_
                  refine gf_X10_289 (z := (c : Int)) C dX10_findReally_116 rfl h381 ?_
                  refine g_iconst (z := 1) C dX10_findReally_119 rfl ?_
                  refine g_iadd C dX10_findReally_120 ?_
                  refine gp_X10_289 C dX10_findReally_121 rfl ?_
                  refine g_iload_n C dX10_findReally_124 rfl ?_
                  refine g_pc (pc' := 125) rfl ?_
                  refine g_if_lt (tgt := 151) C dX10_findReally_125 (by decide) (by unfold R32; omega) (fun h7 => ?_) (fun h7 => ?_)
                  · refine g_goto (tgt := 23) C dX10_findReally_151 (by decide) ?_
                    exact g_loc [1, 2, 3, 4] (by rfl) (ih23 p (i + 1) a (c + 1) (sm + 0) ((gL (memS s) p) : Int) (sI q1 105 38 ((c : Int) + 1)) (Nat.lt_of_lt_of_le (mT_ff (by omega) (by omega)) (Nat.le_of_lt_succ hm23)) (hJ0.cn hW hs32 hil (by omega) hok hpl (sI_ne (by decide)) (fun _ => by rcases hzp with ⟨-, e⟩ | e; (rw [e]); (omega))) (by rw [rI_s]; omega) h391 (by omega) (hF1.t (by unfold SX; omega)))
                  · have hPv := hzp.resolve_left (fun e => by omega)
                    have hP5 : P / 3 < 5 := by omega
                    have hlP := hJ0.ln hs32 hil (P / 3) (ms_last hs32 hpl hP5 hPv.2.2.1) hPv.2.2.1
                    have htoP := hW.1 (P / 3) hP5
                    refine g_aload_n C dX10_findReally_128 rfl ?_
                    refine g_dup C dX10_findReally_129 rfl ?_
                    refine gf_X10_292 (z := (Int64.ofInt (sm : Int))) C dX10_findReally_130 rfl h391 ?_
                    refine g_aload_n C dX10_findReally_133 rfl ?_
                    refine g_iload_n C dX10_findReally_134 rfl ?_
                    refine g_aload_n C dX10_findReally_135 rfl ?_
                    refine g_pc (pc' := 136) rfl ?_
                    refine gf_X10_98 C dX10_findReally_136 rfl ?_
                    refine g_iload_n C dX10_findReally_139 rfl ?_
                    refine g_iconst (z := 3) C dX10_findReally_140 rfl ?_
                    refine g_idiv C dX10_findReally_141 (by omega) ?_
                    refine g_iaz (n := (P / 3)) (N := 5) (v := ((upL a (gL (memS s) p) i (P / 3)) : Int)) C dX10_findReally_142 rfl rfl (by omega) (by omega) (by decide) ((rI_k (by decide)).trans hlP.1) ?_
                    have hM2 : MW (sI q1 105 38 ((c : Int) + 1)) w := hM1.fm (Fm.rf.t (S := SC) (T := SX) (by unfold SX; omega)) (fun k _ _ e => by unfold SC at e; omega) (fun j _ _ e => by unfold SX at e; omega)
                    have hvv := (hM2.1 (P / 3) hP5).2.2.2 _ hlP.2 (P % 3) (by omega)
                    have hvb := htoP.2.2.2 _ hlP.2 (P % 3) (by omega)
                    refine gc_X10_149 C dX10_findReally_143 rfl (c_X10_valueAt hI (Ml M) (sI q1 105 38 ((c : Int) + 1)) (p := P) (i := (upL a (gL (memS s) p) i (P / 3))) hPv.1 rfl (by omega) (by omega)) (by decide) (Nat.le_of_ble_eq_true rfl) (fun zv σ9 ⟨hzv, hσ⟩ => ?_)
                    subst σ9
                    rw [hvv] at hzv
                    subst zv
                    refine g_i2l C dX10_findReally_146 ?_
                    refine g_lraw (i2l_z (by unfold R32; omega)) ?_
                    refine g_ladd C dX10_findReally_147 ?_
                    refine g_pc (pc' := 148) rfl ?_
                    refine gp_X10_292 C dX10_findReally_148 rfl ?_
                    refine g_goto (tgt := 23) C dX10_findReally_151 (by decide) ?_
                    exact g_loc [1, 2, 3, 4] (by rfl) (ih23 p (i + 1) a (c + 1) (sm + wv w (P / 3) (upL a (gL (memS s) p) i (P / 3)) (P % 3)) ((gL (memS s) p) : Int) (sL (sI q1 105 38 ((c : Int) + 1)) 105 39 ((Int64.ofInt (sm : Int)) + (Int64.ofInt (wv w (P / 3) (upL a (gL (memS s) p) i (P / 3)) (P % 3) : Int)))) (Nat.lt_of_lt_of_le (mT_ff (by omega) (by omega)) (Nat.le_of_lt_succ hm23)) (hJ0.cn hW hs32 hil (by omega) hok hpl (sI_ne (σ := q1) (k := 105) (j := 38) (k' := 143) (v := ((c : Int) + 1)) (by decide)) (fun hgr => by rw [hPv.2.2.2]; unfold gV; rw [if_pos hgr])) (by show (sI q1 105 38 ((c : Int) + 1)).1 105 38 = ((c + 1 : Nat) : Int); rw [rI_s]; omega) (by rw [rL_s, ← Int64.ofInt_add]; exact congrArg Int64.ofInt (Int.natCast_add _ _).symm) (by omega) ((hF1.t (by unfold SX; omega)).l (Or.inr rfl)))
                · obtain ⟨hpl, hz6, hT15⟩ := hz5.resolve_right (fun e => by omega)
                  subst hz6
                  refine g_iload C dX10_findReally_101 rfl ?_
                  refine g_istore_n (L' := [(3, .int (iZ ((gL (memS s) (p + 1)) : Int))), (4, .int (iZ ((gL (memS s) (p + 1)) : Int))), (0, .ref (κ.2.1 105)), (1, .int (iZ zs)), (2, .int (iZ zp))]) C dX10_findReally_103 rfl (by decide) rfl ?_
                  refine g_aload_n C dX10_findReally_104 rfl ?_
                  refine gf_X10_98 C dX10_findReally_105 rfl ?_
                  refine g_iload_n C dX10_findReally_108 rfl ?_
                  refine g_iconst (z := (-1)) C dX10_findReally_109 rfl ?_
                  refine g_pc (pc' := 110) rfl ?_
                  refine g_iast (n := (gL (memS s) (p + 1))) (N := 5) C dX10_findReally_110 rfl rfl (by omega) (by omega) (by decide) ?_
                  refine g_goto (tgt := 151) C dX10_findReally_111 (by decide) ?_
                  refine g_goto (tgt := 23) C dX10_findReally_151 (by decide) ?_
                  exact g_loc [2, 3, 4, 0] (by rfl) (ih23 (p + 1) 0 (upL a (gL (memS s) p) i) c sm ((gL (memS s) (p + 1)) : Int) (sI q1 143 (gL (memS s) (p + 1)) (-1)) (Nat.lt_of_lt_of_le (mT_dn hs32 hpl hlen (by omega) (by omega) (by omega)) (Nat.le_of_lt_succ hm23)) (hJ0.dn hW hs32 hil (by omega) hok hpl (by rfl)) ((rI_k (by decide)).trans h381) h391 hcl (hF1.a (by decide) (by unfold SC; omega)))
          · have hnil : ¬ i < wl w (gL (memS s) p) := by omega
            refine g_iload_n C dX10_findReally_62 rfl ?_
            refine g_iload_n C dX10_findReally_63 rfl ?_
            refine gc_X10_300 C dX10_findReally_64 (c_X10_aheadOf hI (Ml M) q1 (s := s) (k := (gL (memS s) p)) hzs rfl hs32 (by omega)) (by decide) (Nat.le_of_ble_eq_true rfl) (fun z4 σ9 ⟨hz4, hσ⟩ => ?_)
            subst σ9
            have hU := hJ0.up hW hG hs32 hnil hz4
            refine g_istore_n (L' := [(3, .int (iZ z4)), (0, .ref (κ.2.1 105)), (1, .int (iZ zs)), (2, .int (iZ zp))]) C dX10_findReally_67 rfl (by decide) rfl ?_
            refine g_goto (tgt := 23) C dX10_findReally_68 (by decide) ?_
            exact g_loc [1, 2, 3, 0] (by rfl) (ih23 (p - 1) (a (gL (memS s) (p - 1)) + 1) a c sm z4 q1 (Nat.lt_of_lt_of_le (mT_up (by omega) (by omega) hU.2) (Nat.le_of_lt_succ hm23)) hU.1 h381 h391 hcl hF1)
  exact g_loc [1, 2, 3, 0] (by rfl) (lp23 _ 0 0 (fun _ => 0) 0 0 (gL (memS s) 0 : Int) (sI (sL (sI σ 105 38 0) 105 39 0) 143 (gL (memS s) 0) (-1)) (Nat.lt_succ_self _) (FI.st hs32 hs1 (by rw [rI_s]) hz0) (by rw [rI_k (by decide)]; show (sI σ 105 38 0).1 105 38 = _; exact rI_s) (by show (sL (sI σ 105 38 0) 105 39 0).2.2 105 39 = _; rw [rL_s]; rfl) (by omega) (((Fm.rf.t (Or.inr (Or.inr (Or.inr (Or.inr (Or.inl rfl)))))).l (Or.inr rfl)).a (by decide) (by unfold SC; omega)))

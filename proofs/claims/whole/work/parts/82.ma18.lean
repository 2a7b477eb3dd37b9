/-! THE MODEL: the reader -/
def SHx (σ : St) (x : Nat) (f : Nat → Int) (n : Nat) : Prop := σ.1 105 54 = (x : Int) ∧ x < 8 ∧ n ≤ 160 ∧ σ.1 147 x = (n : Int) ∧ ∀ u, u < n → (σ.2.2 151 (160 * x + u)).toInt32.toInt = f u
def SRd (k : Nat) : Prop := 152 ≤ k ∧ k ≤ 156
def TRd (j : Nat) : Prop := j = 51 ∨ j = 53
def T51 (j : Nat) : Prop := j = 51
def NoS (_ : Nat) : Prop := False
theorem Fm.rd {σ τ : St} (g : Fm NoS T51 σ τ) : Fm SRd TRd σ τ := g.mono (fun k e => e.elim) (fun j e => Or.inl e)
theorem Fm.rsc {σ τ : St} (g : Fm SRd TRd σ τ) : Fm SC SX σ τ := g.mono (fun k e => by unfold SRd at e; unfold SC; omega) (fun j e => by unfold TRd at e; unfold SX; omega)
theorem SHx.fm {σ τ : St} {x n : Nat} {f : Nat → Int} (h : SHx σ x f n) (g : Fm SRd TRd σ τ) : SHx τ x f n := by
  unfold SHx
  rw [g.2 54 (by unfold TRd; omega), (g.1 147 (by decide) (by unfold SRd; omega)).1, (g.1 151 (by decide) (by unfold SRd; omega)).2.2]
  exact h
theorem SHx.r {σ : St} {x n : Nat} {f : Nat → Int} (h : SHx σ x f n) {i : Nat} (hi : i < n) : R32 (f i) := by rw [← h.2.2.2.2 i hi]; exact R32_of _
def sgn (f : Nat → Int) (n i : Nat) : Int := if i < n then f i else -1
theorem SHx.s {σ : St} {x n : Nat} {f : Nat → Int} (h : SHx σ x f n) (i : Nat) : R32 (sgn f n i) := by
  unfold sgn
  split
  · exact h.r (by assumption)
  · unfold R32; omega
theorem sgn_d {f : Nat → Int} {n i : Nat} {a b : Int} (ha : 0 ≤ a) : (a ≤ sgn f n i ∧ sgn f n i ≤ b) ↔ (i < n ∧ a ≤ f i ∧ f i ≤ b) := by
  unfold sgn
  split
  · exact ⟨fun e => ⟨by assumption, e⟩, fun e => e.2⟩
  · exact ⟨fun e => by omega, fun e => by omega⟩
def VK (f : Nat → Int) (n i k : Nat) (v : Int) : Prop := (k = 0 ∧ v = 0) ∨ (k = 1 ∧ Dg f n i ∧ v = f i - 48) ∨ (k = 2 ∧ Dg f n i ∧ Dg f n (i + 1) ∧ v = 10 * (f i - 48) + (f (i + 1) - 48))
theorem VK.nx {f : Nat → Int} {n i k : Nat} {v z : Int} (h : VK f n i k v) (hk : k < 2) (hd : 48 ≤ sgn f n (i + k) ∧ sgn f n (i + k) ≤ 57) (hz : z = 10 * v + sgn f n (i + k) - 48) : VK f n i (k + 1) z := by
  have hd' := (sgn_d (by decide)).mp hd
  have hs : sgn f n (i + k) = f (i + k) := if_pos hd'.1
  rw [hs] at hz
  rcases h with ⟨e1, e2⟩ | ⟨e1, e2, e3⟩ | ⟨e1, -⟩
  · subst e1; exact Or.inr (Or.inl ⟨rfl, hd', by rw [hz, e2]; show _ = f (i + 0) - 48; omega⟩)
  · subst e1; exact Or.inr (Or.inr ⟨rfl, e2, hd', by rw [hz, e3]; omega⟩)
  · omega
theorem VK.le {f : Nat → Int} {n i k : Nat} {v : Int} (h : VK f n i k v) (hi : i ≤ n) : k ≤ 2 ∧ i + k ≤ n := by
  rcases h with ⟨e1, -⟩ | ⟨e1, e2, -⟩ | ⟨e1, -, e2, -⟩
  · omega
  · have := e2.1; omega
  · have := e2.1; omega
theorem VK.fi {f : Nat → Int} {n i k : Nat} {v : Int} (h : VK f n i k v) (hb : k = 2 ∨ ¬ (48 ≤ sgn f n (i + k) ∧ sgn f n (i + k) ≤ 57)) {z : Int} (hz : (k = 0 ∧ z = -1) ∨ (k ≠ 0 ∧ z = v)) : RVp f n i z (i + k) := by
  have hb' : k = 2 ∨ ¬ Dg f n (i + k) := hb.imp id (fun e q => e ((sgn_d (by decide)).mpr q))
  rcases h with ⟨e1, e2⟩ | ⟨e1, e2, e3⟩ | ⟨e1, e2, e3, e4⟩
  · subst e1
    exact Or.inl ⟨hb'.resolve_left (by decide), by omega, rfl⟩
  · subst e1
    exact Or.inr (Or.inl ⟨e2, hb'.resolve_left (by decide), by omega, rfl⟩)
  · subst e1
    exact Or.inr (Or.inr ⟨e2, e3, by omega, rfl⟩)
theorem RVp.neg {f : Nat → Int} {n i i' : Nat} {z : Int} (h : RVp f n i z i') (hz : z < 0) : ¬ Dg f n i ∧ i' = i := by
  rcases h with ⟨e1, -, e3⟩ | ⟨e1, -, e3, -⟩ | ⟨e1, e2, e3, -⟩
  · exact ⟨e1, e3⟩
  · have := e1.2; omega
  · have := e1.2; have := e2.2; omega
/-- the told lines in the state; those under way -/
def TLk (σ : St) (L : List (Nat → Nat)) (g : Nat → Nat) (c t a0 a1 a2 : Nat) : Prop := σ.1 105 53 = (L.length : Int) ∧ (∀ u, u < L.length → σ.1 152 u = (gE L u 0 : Int) ∧ σ.1 153 u = (gE L u 1 : Int) ∧ σ.1 154 u = (gE L u 2 : Int) ∧ σ.1 155 u = (gE L u 3 : Int)) ∧ (∀ u, u < 5 → σ.1 156 u = (g u : Int)) ∧ (0 < c → σ.1 152 L.length = (t : Int)) ∧ (1 < c → σ.1 153 L.length = (a0 : Int)) ∧ (2 < c → σ.1 154 L.length = (a1 : Int)) ∧ (3 < c → σ.1 155 L.length = (a2 : Int))
theorem TLk.fm {σ τ : St} {L : List (Nat → Nat)} {g : Nat → Nat} {c t a0 a1 a2 : Nat} (h : TLk σ L g c t a0 a1 a2) (f : Fm NoS T51 σ τ) : TLk τ L g c t a0 a1 a2 := by
  unfold TLk
  rw [f.2 53 (by unfold T51; omega), (f.1 152 (by decide) (fun e => e)).1, (f.1 153 (by decide) (fun e => e)).1, (f.1 154 (by decide) (fun e => e)).1, (f.1 155 (by decide) (fun e => e)).1, (f.1 156 (by decide) (fun e => e)).1]
  exact h
theorem TLk.p0 {σ : St} {L : List (Nat → Nat)} {g : Nat → Nat} {t : Nat} {v : Int} (h : TLk σ L g 0 0 0 0 0) (hv : v = (t : Int)) : TLk (sI σ 152 L.length v) L g 1 t 0 0 0 := by
  obtain ⟨e1, e2, e3, -⟩ := h
  refine ⟨by rw [rI_k (by decide)]; exact e1, fun u hu => ?_, fun u hu => by rw [rI_k (by decide)]; exact e3 u hu, fun _ => by rw [rI_s]; exact hv, fun q => absurd q (by decide), fun q => absurd q (by decide), fun q => absurd q (by decide)⟩
  rw [rI_j (by omega), rI_k (by decide), rI_k (by decide), rI_k (by decide)]
  exact e2 u hu
theorem TLk.p1 {σ : St} {L : List (Nat → Nat)} {g : Nat → Nat} {t a0 : Nat} {v : Int} (h : TLk σ L g 1 t 0 0 0) (hv : v = (a0 : Int)) : TLk (sI σ 153 L.length v) L g 2 t a0 0 0 := by
  obtain ⟨e1, e2, e3, e4, -⟩ := h
  refine ⟨by rw [rI_k (by decide)]; exact e1, fun u hu => ?_, fun u hu => by rw [rI_k (by decide)]; exact e3 u hu, fun _ => by rw [rI_k (by decide)]; exact e4 (by decide), fun _ => by rw [rI_s]; exact hv, fun q => absurd q (by decide), fun q => absurd q (by decide)⟩
  rw [rI_j (by omega), rI_k (by decide), rI_k (by decide), rI_k (by decide)]
  exact e2 u hu
theorem TLk.p2 {σ : St} {L : List (Nat → Nat)} {g : Nat → Nat} {t a0 a1 : Nat} {v : Int} (h : TLk σ L g 2 t a0 0 0) (hv : v = (a1 : Int)) : TLk (sI σ 154 L.length v) L g 3 t a0 a1 0 := by
  obtain ⟨e1, e2, e3, e4, e5, -⟩ := h
  refine ⟨by rw [rI_k (by decide)]; exact e1, fun u hu => ?_, fun u hu => by rw [rI_k (by decide)]; exact e3 u hu, fun _ => by rw [rI_k (by decide)]; exact e4 (by decide), fun _ => by rw [rI_k (by decide)]; exact e5 (by decide), fun _ => by rw [rI_s]; exact hv, fun q => absurd q (by decide)⟩
  rw [rI_j (by omega), rI_k (by decide), rI_k (by decide), rI_k (by decide)]
  exact e2 u hu
theorem TLk.p3 {σ : St} {L : List (Nat → Nat)} {g : Nat → Nat} {t a0 a1 a2 : Nat} {v : Int} (h : TLk σ L g 3 t a0 a1 0) (hv : v = (a2 : Int)) : TLk (sI σ 155 L.length v) L g 4 t a0 a1 a2 := by
  obtain ⟨e1, e2, e3, e4, e5, e6, -⟩ := h
  refine ⟨by rw [rI_k (by decide)]; exact e1, fun u hu => ?_, fun u hu => by rw [rI_k (by decide)]; exact e3 u hu, fun _ => by rw [rI_k (by decide)]; exact e4 (by decide), fun _ => by rw [rI_k (by decide)]; exact e5 (by decide), fun _ => by rw [rI_k (by decide)]; exact e6 (by decide), fun _ => by rw [rI_s]; exact hv⟩
  rw [rI_j (by omega), rI_k (by decide), rI_k (by decide), rI_k (by decide)]
  exact e2 u hu
theorem TLk.fin {σ : St} {L : List (Nat → Nat)} {g g' : Nat → Nat} {t a0 a1 a2 : Nat} {e : Nat → Nat} {v x : Int} (h : TLk σ L g 4 t a0 a1 a2) (q0 : e 0 = t) (q1 : e 1 = a0) (q2 : e 2 = a1) (q3 : e 3 = a2) (hg : ∀ u, g' u = if u = t then g u + 1 else g u) (hv : v = (L.length : Int) + 1) (hx : x = (g t : Int) + 1) : TLk (sI (sI σ 105 53 v) 156 t x) (L ++ [e]) g' 0 0 0 0 0 := by
  obtain ⟨e1, e2, e3, e4, e5, e6, e7⟩ := h
  refine ⟨by rw [rI_k (by decide), rI_s, List.length_append, List.length_singleton]; omega, fun u hu => ?_, fun u hu => ?_, fun q => absurd q (by decide), fun q => absurd q (by decide), fun q => absurd q (by decide), fun q => absurd q (by decide)⟩
  · rw [List.length_append, List.length_singleton] at hu
    rw [rI_k (by decide), rI_k (by decide), rI_k (by decide), rI_k (by decide), rI_k (by decide), rI_k (by decide), rI_k (by decide), rI_k (by decide)]
    rcases Nat.lt_or_ge u L.length with k | k
    · rw [gE_l k]; exact e2 u k
    · have : u = L.length := by omega
      subst this
      rw [gE_r, q0, q1, q2, q3]
      exact ⟨e4 (by decide), e5 (by decide), e6 (by decide), e7 (by decide)⟩
  · rw [hg]
    by_cases k : u = t
    · subst k; rw [rI_s, if_pos rfl]; omega
    · rw [rI_j k, rI_k (by decide), if_neg k]; exact e3 u hu
theorem TLk.z {σ : St} {L : List (Nat → Nat)} {g : Nat → Nat} {c t a0 a1 a2 : Nat} (h : TLk σ L g c t a0 a1 a2) : TLk σ L g 0 0 0 0 0 := ⟨h.1, h.2.1, h.2.2.1, fun q => absurd q (by decide), fun q => absurd q (by decide), fun q => absurd q (by decide), fun q => absurd q (by decide)⟩
set_option maxHeartbeats 4000000 in
set_option maxRecDepth 100000 in
theorem c_X10_sign {κ : Kp} (hI : Ij κ) (l : Launch) (σ : St) {x n i : Nat} {f : Nat → Int} (hS : SHx σ x f n) (hr : σ.1 105 51 = (i : Int)) (hi : i ≤ n) : CtI κ l 0 yX10_sign cX10_sign 1 .int [.ref (κ.2.1 105)] σ (fun z σ' => z = sgn f n i ∧ σ' = σ) := by
  refine Ct.ofG (own := RX10) hI (by decide +kernel) rfl (Nat.le_of_ble_eq_true rfl) rfl ?_
  intro M C hMl
  have hx8 := hS.2.1
  have hn160 := hS.2.2.1
  refine g_aload_n C dX10_sign_0 rfl ?_
  refine gf_X10_335 (z := (i : Int)) C dX10_sign_1 rfl hr ?_
  refine g_aload_n C dX10_sign_4 rfl ?_
  refine gf_X10_104 C dX10_sign_5 rfl ?_
  refine g_aload_n C dX10_sign_8 rfl ?_
  refine gf_X10_338 (z := (x : Int)) C dX10_sign_9 rfl hS.1 ?_
  refine g_iaz (n := x) (N := 8) (v := (n : Int)) C dX10_sign_12 rfl rfl (by omega) (by omega) (by decide) hS.2.2.2.1 ?_
  refine g_pc (pc' := 13) rfl ?_
  refine g_icmp_ge (tgt := 38) C dX10_sign_13 (by decide) (by unfold R32; omega) (fun h1 => ?_) (fun h1 => ?_)
  · refine g_iconst (z := (-1)) C dX10_sign_38 rfl ?_
    exact g_ireturn C dX10_sign_39 ⟨by unfold sgn; rw [if_neg (by omega)], rfl⟩
  · refine g_aload_n C dX10_sign_16 rfl ?_
    refine gf_X10_116 C dX10_sign_17 rfl ?_
    refine g_sipush (z := 160) C dX10_sign_20 rfl ?_
    refine g_aload_n C dX10_sign_23 rfl ?_
    refine gf_X10_338 (z := (x : Int)) C dX10_sign_24 rfl hS.1 ?_
    refine g_pc (pc' := 27) rfl ?_
    refine g_imul C dX10_sign_27 ?_
    refine g_aload_n C dX10_sign_28 rfl ?_
    refine gf_X10_335 (z := (i : Int)) C dX10_sign_29 rfl hr ?_
    refine g_iadd C dX10_sign_32 ?_
    refine g_laz (n := ((160 * x) + i)) (N := 1280) (v := (σ.2.2 151 ((160 * x) + i))) C dX10_sign_33 rfl rfl (by omega) (by omega) (by decide) rfl ?_
    refine g_l2i C dX10_sign_34 ?_
    refine g_raw (iZ_of _) ?_
    refine g_goto (tgt := 39) C dX10_sign_35 (by decide) ?_
    exact g_ireturn C dX10_sign_39 ⟨by unfold sgn; rw [if_pos (by omega)]; exact hS.2.2.2.2 i (by omega), rfl⟩
set_option maxHeartbeats 4000000 in
set_option maxRecDepth 100000 in
theorem c_X10_isAt {κ : Kp} (hI : Ij κ) (l : Launch) (σ : St) {x n i : Nat} {f : Nat → Int} (hS : SHx σ x f n) (hr : σ.1 105 51 = (i : Int)) (hi : i ≤ n) {c : Int} (hc : R32 c) : CtI κ l 1 yX10_isAt cX10_isAt 2 .boolean [.ref (κ.2.1 105), .int (iZ c)] σ (fun z σ' => z = bZ (i < n ∧ f i = c) ∧ σ' = σ) := by
  refine Ct.ofG (own := RX10) hI (by decide +kernel) rfl (Nat.le_of_ble_eq_true rfl) rfl ?_
  intro M C hMl
  have hx8 := hS.2.1
  have hn160 := hS.2.2.1
  refine g_aload_n C dX10_isAt_0 rfl ?_
  refine gf_X10_335 (z := (i : Int)) C dX10_isAt_1 rfl hr ?_
  refine g_aload_n C dX10_isAt_4 rfl ?_
  refine gf_X10_104 C dX10_isAt_5 rfl ?_
  refine g_aload_n C dX10_isAt_8 rfl ?_
  refine gf_X10_338 (z := (x : Int)) C dX10_isAt_9 rfl hS.1 ?_
  refine g_iaz (n := x) (N := 8) (v := (n : Int)) C dX10_isAt_12 rfl rfl (by omega) (by omega) (by decide) hS.2.2.2.1 ?_
  refine g_pc (pc' := 13) rfl ?_
  refine g_icmp_ge (tgt := 28) C dX10_isAt_13 (by decide) (by unfold R32; omega) (fun h1 => ?_) (fun h1 => ?_)
  · refine g_iconst (z := 0) C dX10_isAt_28 rfl ?_
    exact g_zreturn C dX10_isAt_29 (by omega) ⟨(bZ_f (fun e => by have e1 := e.1; have e2 := e.2; first | omega | (unfold sgn at hz; rw [if_pos e1] at hz; omega))).symm, rfl⟩
  · refine g_aload_n C dX10_isAt_16 rfl ?_
    refine gc_X10_341 C dX10_isAt_17 rfl (c_X10_sign hI (Ml M) σ hS hr hi) (by decide) (Nat.le_of_ble_eq_true rfl) (fun z σ9 ⟨hz, hσ⟩ => ?_)
    subst σ9
    have hrz : R32 z := by rw [hz]; exact hS.s _
    refine g_iload_n C dX10_isAt_20 rfl ?_
    refine g_icmp_ne (tgt := 28) C dX10_isAt_21 (by decide) (by unfold R32; omega) (fun h2 => ?_) (fun h2 => ?_)
    · refine g_iconst (z := 0) C dX10_isAt_28 rfl ?_
      refine g_pc (pc' := 29) rfl ?_
      exact g_zreturn C dX10_isAt_29 (by omega) ⟨(bZ_f (fun e => by have e1 := e.1; have e2 := e.2; first | omega | (unfold sgn at hz; rw [if_pos e1] at hz; omega))).symm, rfl⟩
    · refine g_iconst (z := 1) C dX10_isAt_24 rfl ?_
      refine g_goto (tgt := 29) C dX10_isAt_25 (by decide) ?_
      exact g_zreturn C dX10_isAt_29 (by omega) ⟨(bZ_t ⟨by omega, by rw [← show z = c by omega, hz]; exact (if_pos (by omega)).symm⟩).symm, rfl⟩
set_option maxHeartbeats 4000000 in
set_option maxRecDepth 100000 in
theorem c_X10_reads {κ : Kp} (hI : Ij κ) (l : Launch) (σ : St) {x n i : Nat} {f : Nat → Int} (hS : SHx σ x f n) (hr : σ.1 105 51 = (i : Int)) (hi : i ≤ n) {c : Int} (hc : R32 c) : CtI κ l 2 yX10_reads cX10_reads 2 .boolean [.ref (κ.2.1 105), .int (iZ c)] σ (fun z σ' => z = bZ (i < n ∧ f i = c) ∧ Fm NoS T51 σ σ' ∧ ((i < n ∧ f i = c) → σ'.1 105 51 = ((i + 1 : Nat) : Int)) ∧ (¬ (i < n ∧ f i = c) → σ'.1 105 51 = (i : Int))) := by
  refine Ct.ofG (own := RX10) hI (by decide +kernel) rfl (Nat.le_of_ble_eq_true rfl) rfl ?_
  intro M C hMl
  have hx8 := hS.2.1
  have hn160 := hS.2.2.1
  refine g_aload_n C dX10_reads_0 rfl ?_
  refine g_iload_n C dX10_reads_1 rfl ?_
  refine gc_X10_345 C dX10_reads_2 rfl (c_X10_isAt hI (Ml M) σ hS hr hi (c := c) hc) (by decide) (Nat.le_of_ble_eq_true rfl) (fun z σ9 ⟨hz, hσ⟩ => ?_)
  subst z
  subst σ9
  refine g_ifb_ne (tgt := 10) C dX10_reads_5 (by decide) (fun h1 => ?_) (fun h1 => ?_)
  · refine g_aload_n C dX10_reads_10 rfl ?_
    refine g_dup C dX10_reads_11 rfl ?_
    refine gf_X10_335 (z := (i : Int)) C dX10_reads_12 rfl hr ?_
    refine g_pc (pc' := 15) rfl ?_
    refine g_iconst (z := 1) C dX10_reads_15 rfl ?_
    refine g_iadd C dX10_reads_16 ?_
    refine gp_X10_335 C dX10_reads_17 rfl ?_
    refine g_iconst (z := 1) C dX10_reads_20 rfl ?_
    exact g_zreturn C dX10_reads_21 (by omega) ⟨(bZ_t (by assumption)).symm, Fm.rf.t rfl, fun _ => by rw [rI_s]; omega, fun e => absurd (by assumption) e⟩
  · refine g_iconst (z := 0) C dX10_reads_8 rfl ?_
    exact g_zreturn C dX10_reads_9 (by omega) ⟨(bZ_f (by assumption)).symm, Fm.rf, fun e => absurd e (by assumption), fun _ => hr⟩
set_option maxHeartbeats 4000000 in
set_option maxRecDepth 100000 in
theorem c_X10_readsValue {κ : Kp} (hI : Ij κ) (l : Launch) (σ : St) {x n i : Nat} {f : Nat → Int} (hS : SHx σ x f n) (hr : σ.1 105 51 = (i : Int)) (hi : i ≤ n) : CtI κ l 2 yX10_readsValue cX10_readsValue 3 .int [.ref (κ.2.1 105)] σ (fun z σ' => ∃ i' : Nat, RVp f n i z i' ∧ σ'.1 105 51 = (i' : Int) ∧ Fm NoS T51 σ σ') := by
  refine Ct.ofG (own := RX10) hI (by decide +kernel) rfl (Nat.le_of_ble_eq_true rfl) rfl ?_
  intro M C hMl
  have hx8 := hS.2.1
  have hn160 := hS.2.2.1
  refine g_iconst (z := 0) C dX10_readsValue_0 rfl ?_
  refine g_istore_n (L' := [(1, .int (iZ 0)), (0, .ref (κ.2.1 105))]) C dX10_readsValue_1 rfl (by decide) rfl ?_
  refine g_iconst (z := 0) C dX10_readsValue_2 rfl ?_
  refine g_istore_n (L' := [(2, .int (iZ 0)), (1, .int (iZ 0)), (0, .ref (κ.2.1 105))]) C dX10_readsValue_3 rfl (by decide) rfl ?_
  have lp4 : ∀ (fz9 : Nat) (k : Nat) (x1 : Int) (x2 : Int) (q : St), (2 - k < fz9) → (x2 = (k : Int)) → (VK f n i k x1) → (q.1 105 51 = ((i + k : Nat) : Int)) → (Fm NoS T51 σ q) → G M κ 3 (En M κ (qI κ (fun z σ' => ∃ i' : Nat, RVp f n i z i' ∧ σ'.1 105 51 = (i' : Int) ∧ Fm NoS T51 σ σ'))) 4 [(0, .ref (κ.2.1 105)), (1, .int (iZ x1)), (2, .int (iZ x2))] [] q := by
    intro fz9
    induction fz9 with
    | zero => intro k x1 x2 q hm0; exact absurd hm0 (Nat.not_lt_zero _)
    | succ fz9 ih4 =>
      intro k x1 x2 q hm4 hx2 hV hrq hF
      have hkl := hV.le hi
      have hSq := hS.fm hF.rd
      refine g_iload_n C dX10_readsValue_4 rfl ?_
      refine g_iconst (z := 2) C dX10_readsValue_5 rfl ?_
      refine g_icmp_ge (tgt := 52) C dX10_readsValue_6 (by decide) (by unfold R32; omega) (fun h1 => ?_) (fun h1 => ?_)
      · refine g_pc (pc' := 52) rfl ?_
        refine g_iload_n C dX10_readsValue_52 rfl ?_
        refine g_if_ne (tgt := 60) C dX10_readsValue_53 (by decide) (by unfold R32; omega) (fun h2 => ?_) (fun h2 => ?_)
        · refine g_iload_n C dX10_readsValue_60 rfl ?_
          exact g_ireturn C dX10_readsValue_61 ⟨i + k, hV.fi (by first | exact Or.inl (by omega) | exact Or.inr (by rw [← hz1]; assumption)) (by first | exact Or.inl ⟨by omega, rfl⟩ | exact Or.inr ⟨by omega, rfl⟩), hrq, hF⟩
        · refine g_iconst (z := (-1)) C dX10_readsValue_56 rfl ?_
          refine g_goto (tgt := 61) C dX10_readsValue_57 (by decide) ?_
          exact g_ireturn C dX10_readsValue_61 ⟨i + k, hV.fi (by first | exact Or.inl (by omega) | exact Or.inr (by rw [← hz1]; assumption)) (by first | exact Or.inl ⟨by omega, rfl⟩ | exact Or.inr ⟨by omega, rfl⟩), hrq, hF⟩
      · refine g_aload_n C dX10_readsValue_9 rfl ?_
        refine g_pc (pc' := 10) rfl ?_
        refine gc_X10_341 C dX10_readsValue_10 rfl (c_X10_sign hI (Ml M) q hSq hrq hkl.2) (by decide) (Nat.le_of_ble_eq_true rfl) (fun z1 σ9 ⟨hz1, hσ⟩ => ?_)
        subst σ9
        have hrz1 : R32 z1 := by rw [hz1]; exact hSq.s _
        refine g_bipush (z := 48) C dX10_readsValue_13 rfl ?_
        refine g_bipush (z := 57) C dX10_readsValue_15 rfl ?_
        refine gc_X10_145 C dX10_readsValue_17 (c_X10_isIn hI (Ml M) q (v := z1) (a := 48) (b := 57) (by unfold R32; omega) (by unfold R32; omega) (by unfold R32; omega)) (by decide) (Nat.le_of_ble_eq_true rfl) (fun z σ9 ⟨hz, hσ⟩ => ?_)
        subst z
        subst σ9
        refine g_ifb_eq (tgt := 52) C dX10_readsValue_20 (by decide) (fun h3 => ?_) (fun h3 => ?_)
        · refine g_iload_n C dX10_readsValue_52 rfl ?_
          refine g_if_ne (tgt := 60) C dX10_readsValue_53 (by decide) (by unfold R32; omega) (fun h4 => ?_) (fun h4 => ?_)
          · refine g_iload_n C dX10_readsValue_60 rfl ?_
            refine g_pc (pc' := 61) rfl ?_
            exact g_ireturn C dX10_readsValue_61 ⟨i + k, hV.fi (by first | exact Or.inl (by omega) | exact Or.inr (by rw [← hz1]; assumption)) (by first | exact Or.inl ⟨by omega, rfl⟩ | exact Or.inr ⟨by omega, rfl⟩), hrq, hF⟩
          · refine g_iconst (z := (-1)) C dX10_readsValue_56 rfl ?_
            refine g_goto (tgt := 61) C dX10_readsValue_57 (by decide) ?_
            exact g_ireturn C dX10_readsValue_61 ⟨i + k, hV.fi (by first | exact Or.inl (by omega) | exact Or.inr (by rw [← hz1]; assumption)) (by first | exact Or.inl ⟨by omega, rfl⟩ | exact Or.inr ⟨by omega, rfl⟩), hrq, hF⟩
        · have hdg : 48 ≤ sgn f n (i + k) ∧ sgn f n (i + k) ≤ 57 := by rw [← hz1]; assumption
          refine g_bipush (z := 10) C dX10_readsValue_23 rfl ?_
          refine g_iload_n C dX10_readsValue_25 rfl ?_
          refine g_imul C dX10_readsValue_26 ?_
          refine g_aload_n C dX10_readsValue_27 rfl ?_
          refine g_pc (pc' := 28) rfl ?_
          refine gc_X10_341 C dX10_readsValue_28 rfl (c_X10_sign hI (Ml M) q hSq hrq hkl.2) (by decide) (Nat.le_of_ble_eq_true rfl) (fun z2 σ9 ⟨hz2, hσ⟩ => ?_)
          subst σ9
          have hrz2 : R32 z2 := by rw [hz2]; exact hSq.s _
          refine g_iadd C dX10_readsValue_31 ?_
          refine g_bipush (z := 48) C dX10_readsValue_32 rfl ?_
          refine g_isub C dX10_readsValue_34 ?_
          refine g_istore_n (L' := [(1, .int (iZ (((10 * x1) + z2) - 48))), (0, .ref (κ.2.1 105)), (2, .int (iZ x2))]) C dX10_readsValue_35 rfl (by decide) rfl ?_
          refine g_aload_n C dX10_readsValue_36 rfl ?_
          refine g_dup C dX10_readsValue_37 rfl ?_
          refine gf_X10_335 (z := ((i + k : Nat) : Int)) C dX10_readsValue_38 rfl hrq ?_
          refine g_pc (pc' := 41) rfl ?_
          refine g_iconst (z := 1) C dX10_readsValue_41 rfl ?_
          refine g_iadd C dX10_readsValue_42 ?_
          refine gp_X10_335 C dX10_readsValue_43 rfl ?_
          refine g_iinc (q := 2) (v := (x2 + 1)) (L' := [(2, .int (iZ (x2 + 1))), (1, .int (iZ (((10 * x1) + z2) - 48))), (0, .ref (κ.2.1 105))]) C dX10_readsValue_46 rfl rfl (by decide) rfl ?_
          refine g_goto (tgt := 4) C dX10_readsValue_49 (by decide) ?_
          exact g_loc [2, 1, 0] (by rfl) (ih4 (k + 1) (((10 * x1) + z2) - 48) (x2 + 1) (sI q 105 51 (((i + k : Nat) : Int) + 1)) (by omega) (by omega) (hV.nx (by omega) hdg (by rw [hz2])) (by rw [rI_s]; omega) (hF.t rfl))
  exact g_loc [2, 1, 0] (by rfl) (lp4 _ 0 0 0 σ (Nat.lt_succ_self _) rfl (Or.inl ⟨rfl, rfl⟩) hr Fm.rf)

/-! MATCHES: the filters -/
def fP (w : Wv) (f v : Nat) : Bool := if wfs w f = 0 then decide (v < wfv w f) else if wfs w f = 1 then decide (v = wfv w f) else decide (wfv w f < v)
/-- the first n filters let line i of t pass -/
def fA (w : Wv) (t i : Nat) : Nat → Bool
  | 0 => true
  | f + 1 => fA w t i f && (if wfp w f / 3 = t then fP w f (wv w t i (wfp w f % 3)) else true)
theorem clr_rw {m i : Nat} {zi : Int} (hz : zi = (i : Int)) (hm : m < 65536) (hi : i < 16) : iZ (m : Int) &&& ((iZ 1 <<< (iZ zi &&& 31)) ^^^ iZ (-1)) = iZ ((clr m i : Nat) : Int) := by subst hz; exact clr_raw hm hi
theorem shl1_rw {n : Nat} {z : Int} (hz : z = (n : Int)) (hn : n ≤ 16) : (iZ 1 <<< (iZ z &&& 31)) = iZ ((2 ^ n : Nat) : Int) := by subst hz; exact shl1_raw hn
def fM (w : Wv) (f t : Nat) : Nat → Bool := fun i => decide (i < wl w t) && fA w t i f
/-- on the way through the lines of table T, by filter f -/
def fK (w : Wv) (f T k t : Nat) : Nat → Bool := fun i => fM w f t i && (if t = T then (decide (k ≤ i) || fP w f (wv w t i (wfp w f % 3))) else true)
theorem fK_0 {w : Wv} {f T t i : Nat} : fM w f t i = fK w f T 0 t i := by unfold fK; split <;> simp
theorem fK_n {w : Wv} {f t i : Nat} : fK w f (wfp w f / 3) (wl w (wfp w f / 3)) t i = fM w (f + 1) t i := by
  unfold fK fM
  rw [fA]
  by_cases h : wfp w f / 3 = t
  · rw [if_pos h.symm, if_pos h, h]
    by_cases h2 : i < wl w t
    · simp [h2, show ¬ wl w t ≤ i by omega]
    · simp [h2]
  · rw [if_neg (fun e => h e.symm), if_neg h]; simp
def upM (mf : Nat → Nat) (T v : Nat) : Nat → Nat := fun t => if t = T then v else mf t
theorem fK_s {w : Wv} {f T k t i : Nat} (h : fP w f (wv w T k (wfp w f % 3)) = true) : fK w f T k t i = fK w f T (k + 1) t i := by
  unfold fK
  by_cases ht : t = T
  · subst ht
    rw [if_pos rfl, if_pos rfl]
    by_cases hi : i = k
    · subst hi; simp [h]
    · by_cases h2 : k ≤ i
      · simp [h2, show k + 1 ≤ i by omega]
      · simp [h2, show ¬ k + 1 ≤ i by omega]
  · rw [if_neg ht, if_neg ht]
theorem fK_c {w : Wv} {f T k : Nat} {mf : Nat → Nat} (hk : k < 16) (hM : ∀ t, t < 5 → MK (mf t) (fK w f T k t)) (hT : T < 5) (h : fP w f (wv w T k (wfp w f % 3)) = false) : ∀ t, t < 5 → MK (upM mf T (clr (mf T) k) t) (fK w f T (k + 1) t) := fun t ht => by
  unfold upM
  by_cases htT : t = T
  · rw [if_pos htT]
    subst htT
    refine ((hM t ht).clr hk).cong (fun i hi => ?_)
    show (fK w f t k t i && decide (i ≠ k)) = fK w f t (k + 1) t i
    unfold fK
    rw [if_pos rfl, if_pos rfl]
    by_cases hik : i = k
    · subst hik; simp [h]
    · by_cases h2 : k ≤ i
      · simp [h2, hik, show k + 1 ≤ i by omega]
      · simp [h2, hik, show ¬ k + 1 ≤ i by omega]
  · rw [if_neg htT]
    refine (hM t ht).cong (fun i hi => ?_)
    unfold fK
    rw [if_neg htT, if_neg htT]
def FC (k : Nat) : Prop := k = 100
def FS (σ : St) (mf : Nat → Nat) : Prop := ∀ t, t < 5 → σ.1 100 t = (mf t : Int)
theorem FS.up {σ : St} {mf : Nat → Nat} (h : FS σ mf) (T v : Nat) : FS (sI σ 100 T (v : Int)) (upM mf T v) := fun t ht => by
  unfold upM
  by_cases htT : t = T
  · subst htT; rw [rI_s, if_pos rfl]
  · rw [rI_j htT, if_neg htT, h t ht]
theorem XW.frF {σ σ' : St} {w : Wv} (h : XW 0 σ w) (hF : Fr FC σ σ') : XW 0 σ' w := h.fr hF (fun k _ hk e => by unfold FC at e; omega)
set_option maxHeartbeats 4000000 in
set_option maxRecDepth 100000 in
theorem c_X1_passes {κ : Kp} (hI : Ij κ) (l : Launch) (σ : St) {w : Wv} (hX : XW 0 σ w) (hW : OKW w) {f v : Nat} {zf zv : Int} (hf : zf = (f : Int)) (hv : zv = (v : Int)) (hfn : f < wnf w) (hv99 : v ≤ 99) : CtI κ l 0 yX1_passes cX1_passes 4 .boolean [.ref (κ.2.1 98), .int (iZ zf), .int (iZ zv)] σ (fun z σ' => z = bZ (fP w f v = true) ∧ σ' = σ) := by
  refine Ct.ofG (own := RX1) hI (by decide +kernel) rfl (Nat.le_of_ble_eq_true rfl) rfl ?_
  intro M C hMl
  have hnf8 := hW.2.1.1
  have hfo := hW.2.1.2 f hfn
  refine g_aload_n C dX1_passes_0 rfl ?_
  refine gf_X1_28 C dX1_passes_1 rfl ?_
  refine gf_X1_76 C dX1_passes_4 rfl ?_
  refine g_iload_n C dX1_passes_7 rfl ?_
  refine g_iaz (n := f) (N := 8) (v := (wfv w f : Int)) C dX1_passes_8 rfl rfl (by omega) (by omega) (by decide) ((hX.2.1.2 f (by omega)).2.2) ?_
  refine g_istore_n (L' := [(3, .int (iZ (wfv w f : Int))), (0, .ref (κ.2.1 98)), (1, .int (iZ zf)), (2, .int (iZ zv))]) C dX1_passes_9 rfl (by decide) rfl ?_
  refine g_aload_n C dX1_passes_10 rfl ?_
  refine g_pc (pc' := 11) rfl ?_
  refine gf_X1_28 C dX1_passes_11 rfl ?_
  refine gf_X1_79 C dX1_passes_14 rfl ?_
  refine g_iload_n C dX1_passes_17 rfl ?_
  refine g_iaz (n := f) (N := 8) (v := (wfs w f : Int)) C dX1_passes_18 rfl rfl (by omega) (by omega) (by decide) ((hX.2.1.2 f (by omega)).2.1) ?_
  refine g_if_ne (tgt := 33) C dX1_passes_19 (by decide) (by unfold R32; omega) (fun h1 => ?_) (fun h1 => ?_)
  · refine g_aload_n C dX1_passes_33 rfl ?_
    refine gf_X1_28 C dX1_passes_34 rfl ?_
    refine gf_X1_79 C dX1_passes_37 rfl ?_
    refine g_pc (pc' := 40) rfl ?_
    refine g_iload_n C dX1_passes_40 rfl ?_
    refine g_iaz (n := f) (N := 8) (v := (wfs w f : Int)) C dX1_passes_41 rfl rfl (by omega) (by omega) (by decide) ((hX.2.1.2 f (by omega)).2.1) ?_
    refine g_iconst (z := 1) C dX1_passes_42 rfl ?_
    refine g_icmp_ne (tgt := 59) C dX1_passes_43 (by decide) (by unfold R32; omega) (fun h2 => ?_) (fun h2 => ?_)
    · refine g_iload_n C dX1_passes_59 rfl ?_
      refine g_iload_n C dX1_passes_60 rfl ?_
      refine g_icmp_le (tgt := 68) C dX1_passes_61 (by decide) (by unfold R32; omega) (fun h3 => ?_) (fun h3 => ?_)
      · refine g_iconst (z := 0) C dX1_passes_68 rfl ?_
        refine g_pc (pc' := 69) rfl ?_
        exact g_zreturn C dX1_passes_69 (by omega) ⟨by unfold fP; first | (rw [if_pos (by omega)]; simp only [decide_eq_true_eq, bZ]; first | rw [if_pos (by omega)] | rw [if_neg (by omega)]) | (rw [if_neg (by omega), if_pos (by omega)]; simp only [decide_eq_true_eq, bZ]; first | rw [if_pos (by omega)] | rw [if_neg (by omega)]) | (rw [if_neg (by omega), if_neg (by omega)]; simp only [decide_eq_true_eq, bZ]; first | rw [if_pos (by omega)] | rw [if_neg (by omega)]), rfl⟩
      · refine g_iconst (z := 1) C dX1_passes_64 rfl ?_
        refine g_goto (tgt := 69) C dX1_passes_65 (by decide) ?_
        exact g_zreturn C dX1_passes_69 (by omega) ⟨by unfold fP; first | (rw [if_pos (by omega)]; simp only [decide_eq_true_eq, bZ]; first | rw [if_pos (by omega)] | rw [if_neg (by omega)]) | (rw [if_neg (by omega), if_pos (by omega)]; simp only [decide_eq_true_eq, bZ]; first | rw [if_pos (by omega)] | rw [if_neg (by omega)]) | (rw [if_neg (by omega), if_neg (by omega)]; simp only [decide_eq_true_eq, bZ]; first | rw [if_pos (by omega)] | rw [if_neg (by omega)]), rfl⟩
    · refine g_iload_n C dX1_passes_46 rfl ?_
      refine g_iload_n C dX1_passes_47 rfl ?_
      refine g_icmp_ne (tgt := 55) C dX1_passes_48 (by decide) (by unfold R32; omega) (fun h4 => ?_) (fun h4 => ?_)
      · refine g_iconst (z := 0) C dX1_passes_55 rfl ?_
        refine g_pc (pc' := 56) rfl ?_
        refine g_goto (tgt := 69) C dX1_passes_56 (by decide) ?_
        exact g_zreturn C dX1_passes_69 (by omega) ⟨by unfold fP; first | (rw [if_pos (by omega)]; simp only [decide_eq_true_eq, bZ]; first | rw [if_pos (by omega)] | rw [if_neg (by omega)]) | (rw [if_neg (by omega), if_pos (by omega)]; simp only [decide_eq_true_eq, bZ]; first | rw [if_pos (by omega)] | rw [if_neg (by omega)]) | (rw [if_neg (by omega), if_neg (by omega)]; simp only [decide_eq_true_eq, bZ]; first | rw [if_pos (by omega)] | rw [if_neg (by omega)]), rfl⟩
      · refine g_iconst (z := 1) C dX1_passes_51 rfl ?_
        refine g_goto (tgt := 69) C dX1_passes_52 (by decide) ?_
        exact g_zreturn C dX1_passes_69 (by omega) ⟨by unfold fP; first | (rw [if_pos (by omega)]; simp only [decide_eq_true_eq, bZ]; first | rw [if_pos (by omega)] | rw [if_neg (by omega)]) | (rw [if_neg (by omega), if_pos (by omega)]; simp only [decide_eq_true_eq, bZ]; first | rw [if_pos (by omega)] | rw [if_neg (by omega)]) | (rw [if_neg (by omega), if_neg (by omega)]; simp only [decide_eq_true_eq, bZ]; first | rw [if_pos (by omega)] | rw [if_neg (by omega)]), rfl⟩
  · refine g_iload_n C dX1_passes_22 rfl ?_
    refine g_iload_n C dX1_passes_23 rfl ?_
    refine g_icmp_ge (tgt := 31) C dX1_passes_24 (by decide) (by unfold R32; omega) (fun h5 => ?_) (fun h5 => ?_)
    · refine g_pc (pc' := 31) rfl ?_
      refine g_iconst (z := 0) C dX1_passes_31 rfl ?_
      exact g_zreturn C dX1_passes_32 (by omega) ⟨by unfold fP; first | (rw [if_pos (by omega)]; simp only [decide_eq_true_eq, bZ]; first | rw [if_pos (by omega)] | rw [if_neg (by omega)]) | (rw [if_neg (by omega), if_pos (by omega)]; simp only [decide_eq_true_eq, bZ]; first | rw [if_pos (by omega)] | rw [if_neg (by omega)]) | (rw [if_neg (by omega), if_neg (by omega)]; simp only [decide_eq_true_eq, bZ]; first | rw [if_pos (by omega)] | rw [if_neg (by omega)]), rfl⟩
    · refine g_iconst (z := 1) C dX1_passes_27 rfl ?_
      refine g_goto (tgt := 32) C dX1_passes_28 (by decide) ?_
      exact g_zreturn C dX1_passes_32 (by omega) ⟨by unfold fP; first | (rw [if_pos (by omega)]; simp only [decide_eq_true_eq, bZ]; first | rw [if_pos (by omega)] | rw [if_neg (by omega)]) | (rw [if_neg (by omega), if_pos (by omega)]; simp only [decide_eq_true_eq, bZ]; first | rw [if_pos (by omega)] | rw [if_neg (by omega)]) | (rw [if_neg (by omega), if_neg (by omega)]; simp only [decide_eq_true_eq, bZ]; first | rw [if_pos (by omega)] | rw [if_neg (by omega)]), rfl⟩
set_option maxHeartbeats 4000000 in
set_option maxRecDepth 100000 in
theorem c_X1_passFilters {κ : Kp} (hI : Ij κ) (l : Launch) (σ : St) {w : Wv} (hX : XW 0 σ w) (hW : OKW w) : CtV κ l 1 yX1_passFilters cX1_passFilters 5 [.ref (κ.2.1 98)] σ (fun σ' => Fr FC σ σ' ∧ ∃ mf, FS σ' mf ∧ ∀ u, u < 5 → MK (mf u) (fM w (wnf w) u)) := by
  refine Ct.ofG (own := RX1) hI (by decide +kernel) rfl (Nat.le_of_ble_eq_true rfl) rfl ?_
  intro M C hMl
  have hnf8 := hW.2.1.1
  refine g_iconst (z := 0) C dX1_passFilters_0 rfl ?_
  refine g_istore_n (L' := [(1, .int (iZ 0)), (0, .ref (κ.2.1 98))]) C dX1_passFilters_1 rfl (by decide) rfl ?_
  have lp2 : ∀ (fz9 : Nat) (t : Nat) (x1 : Int) (q : St), (5 - t < fz9) → (x1 = (t : Int)) → (t ≤ 5) → (Fr FC σ q) → (∀ u, u < t → q.1 100 u = ((2 ^ wl w u - 1 : Nat) : Int)) → G M κ 5 (En M κ (qV κ (fun σ' => Fr FC σ σ' ∧ ∃ mf, FS σ' mf ∧ ∀ u, u < 5 → MK (mf u) (fM w (wnf w) u)))) 2 [(0, .ref (κ.2.1 98)), (1, .int (iZ x1))] [] q := by
    intro fz9
    induction fz9 with
    | zero => intro t x1 q hm0; exact absurd hm0 (Nat.not_lt_zero _)
    | succ fz9 ih2 =>
      intro t x1 q hm2 hx1 ht hF hM
      have hXq := hX.frF hF
      refine g_iload_n C dX1_passFilters_2 rfl ?_
      refine g_iconst (z := 5) C dX1_passFilters_3 rfl ?_
      refine g_icmp_ge (tgt := 35) C dX1_passFilters_4 (by decide) (by unfold R32; omega) (fun h1 => ?_) (fun h1 => ?_)
      · refine g_iconst (z := 0) C dX1_passFilters_35 rfl ?_
        refine g_istore_n (L' := [(1, .int (iZ 0)), (0, .ref (κ.2.1 98))]) C dX1_passFilters_36 rfl (by decide) rfl ?_
        have lp37 : ∀ (fz9 : Nat) (f : Nat) (x1 : Int) (mf : Nat → Nat) (q : St), (wnf w - f < fz9) → (x1 = (f : Int)) → (f ≤ wnf w) → (Fr FC σ q) → (FS q mf) → (∀ u, u < 5 → MK (mf u) (fM w f u)) → G M κ 5 (En M κ (qV κ (fun σ' => Fr FC σ σ' ∧ ∃ mf, FS σ' mf ∧ ∀ u, u < 5 → MK (mf u) (fM w (wnf w) u)))) 37 [(0, .ref (κ.2.1 98)), (1, .int (iZ x1))] [] q := by
          intro fz9
          induction fz9 with
          | zero => intro f x1 mf q hm0; exact absurd hm0 (Nat.not_lt_zero _)
          | succ fz9 ih37 =>
            intro f x1 mf q hm37 hx1f hfn hF2 hS2 hM2
            have hXq := hX.frF hF2
            refine g_pc (pc' := 37) rfl ?_
            refine g_iload_n C dX1_passFilters_37 rfl ?_
            refine g_aload_n C dX1_passFilters_38 rfl ?_
            refine gf_X1_28 C dX1_passFilters_39 rfl ?_
            refine gf_X1_67 (z := (wnf w : Int)) C dX1_passFilters_42 rfl hXq.2.1.1 ?_
            refine g_icmp_ge (tgt := 128) C dX1_passFilters_45 (by decide) (by unfold R32; omega) (fun h2 => ?_) (fun h2 => ?_)
            · exact g_return C dX1_passFilters_128 ⟨hF2, mf, hS2, by rw [show wnf w = f by omega]; exact hM2⟩
            · have hfo := hW.2.1.2 f (by omega)
              have hto := hW.1 (wfp w f / 3) (by omega)
              have hkt : kd (2 + 2 * (wfp w f / 3)) = 5 := kd_tab (wfp w f / 3) (by omega)
              refine g_aload_n C dX1_passFilters_48 rfl ?_
              refine gf_X1_28 C dX1_passFilters_49 rfl ?_
              refine g_pc (pc' := 52) rfl ?_
              refine gf_X1_70 C dX1_passFilters_52 rfl ?_
              refine g_iload_n C dX1_passFilters_55 rfl ?_
              refine g_iaz (n := f) (N := 8) (v := (wfp w f : Int)) C dX1_passFilters_56 rfl rfl (by omega) (by omega) (by decide) ((hXq.2.1.2 f (by omega)).1) ?_
              refine g_istore_n (L' := [(2, .int (iZ (wfp w f : Int))), (0, .ref (κ.2.1 98)), (1, .int (iZ x1))]) C dX1_passFilters_57 rfl (by decide) rfl ?_
              refine g_aload_n C dX1_passFilters_58 rfl ?_
              refine gf_X1_28 C dX1_passFilters_59 rfl ?_
              refine gf_X1_52 C dX1_passFilters_62 rfl ?_
              refine g_iload_n C dX1_passFilters_65 rfl ?_
              refine g_pc (pc' := 66) rfl ?_
              refine g_iconst (z := 3) C dX1_passFilters_66 rfl ?_
              refine g_idiv C dX1_passFilters_67 (by omega) ?_
              have hkz3 : kd (2 + 2 * ((wfp w f) / 3)) = 5 := kd_tab ((wfp w f) / 3) (by omega)
              refine g_aald (n := ((wfp w f) / 3)) (N := 5) (c := 23) (r := (2 + 2 * ((wfp w f) / 3))) C dX1_passFilters_68 rfl (by decide) rfl (by decide) rfl (by omega) (by omega) (by decide) (rf_23 _ _ rfl) ?_
              refine g_astore_n (L' := [(3, .ref (κ.2.1 (2 + 2 * ((wfp w f) / 3)))), (2, .int (iZ (wfp w f : Int))), (0, .ref (κ.2.1 98)), (1, .int (iZ x1))]) C dX1_passFilters_69 rfl (by decide) rfl ?_
              refine g_iconst (z := 0) C dX1_passFilters_70 rfl ?_
              refine g_istore (L' := [(4, .int (iZ 0)), (3, .ref (κ.2.1 (2 + 2 * ((wfp w f) / 3)))), (2, .int (iZ (wfp w f : Int))), (0, .ref (κ.2.1 98)), (1, .int (iZ x1))]) C dX1_passFilters_71 (by decide) rfl ?_
              have lp73 : ∀ (fz9 : Nat) (k : Nat) (x4 : Int) (mf2 : Nat → Nat) (q3 : St), (wl w (wfp w f / 3) - k < fz9) → (x4 = (k : Int)) → (k ≤ wl w (wfp w f / 3)) → (Fr FC σ q3) → (FS q3 mf2) → (∀ u, u < 5 → MK (mf2 u) (fK w f (wfp w f / 3) k u)) → G M κ 5 (En M κ (qV κ (fun σ' => Fr FC σ σ' ∧ ∃ mf, FS σ' mf ∧ ∀ u, u < 5 → MK (mf u) (fM w (wnf w) u)))) 73 [(0, .ref (κ.2.1 98)), (1, .int (iZ x1)), (2, .int (iZ (wfp w f : Int))), (3, .ref (κ.2.1 (2 + 2 * (wfp w f / 3)))), (4, .int (iZ x4))] [] q3 := by
                intro fz9
                induction fz9 with
                | zero => intro k x4 mf2 q3 hm0; exact absurd hm0 (Nat.not_lt_zero _)
                | succ fz9 ih73 =>
                  intro k x4 mf2 q3 hm73 hx4 hk hF3 hS3 hM3
                  have hXq3 := hX.frF hF3
                  have hm3 := hM3 (wfp w f / 3) (by omega)
                  refine g_iload C dX1_passFilters_73 rfl ?_
                  refine g_aload_n C dX1_passFilters_75 rfl ?_
                  refine g_pc (pc' := 76) rfl ?_
                  refine gf_X1_58 (z := (wl w (wfp w f / 3) : Int)) C dX1_passFilters_76 hkt ((hXq3.1 (wfp w f / 3) (by omega)).1) ?_
                  refine g_icmp_ge (tgt := 122) C dX1_passFilters_79 (by decide) (by unfold R32; omega) (fun h4 => ?_) (fun h4 => ?_)
                  · refine g_iinc (q := 1) (v := (x1 + 1)) (L' := [(1, .int (iZ (x1 + 1))), (0, .ref (κ.2.1 98)), (2, .int (iZ (wfp w f : Int))), (3, .ref (κ.2.1 (2 + 2 * (wfp w f / 3)))), (4, .int (iZ x4))]) C dX1_passFilters_122 rfl rfl (by decide) rfl ?_
                    refine g_goto (tgt := 37) C dX1_passFilters_125 (by decide) ?_
                    exact g_loc [1, 0] (by rfl) (ih37 (f + 1) (x1 + 1) mf2 q3 (by omega) (by omega) (by omega) hF3 hS3 (fun u hu => (hM3 u hu).cong (fun i hi => by rw [show k = wl w (wfp w f / 3) by omega]; exact fK_n)))
                  · refine g_aload_n C dX1_passFilters_82 rfl ?_
                    refine g_iload_n C dX1_passFilters_83 rfl ?_
                    refine g_aload_n C dX1_passFilters_84 rfl ?_
                    refine g_iload C dX1_passFilters_85 rfl ?_
                    refine g_pc (pc' := 87) rfl ?_
                    refine g_iload_n C dX1_passFilters_87 rfl ?_
                    refine g_iconst (z := 3) C dX1_passFilters_88 rfl ?_
                    refine g_irem C dX1_passFilters_89 (by omega) ?_
                    have hvv := (hXq3.1 (wfp w f / 3) (by omega)).2.2.2 k (by omega) (wfp w f % 3) (by omega)
                    have hv99 := hto.2.2.2 k (by omega) (wfp w f % 3) (by omega)
                    rw [show 0 + 3 + 2 * (wfp w f / 3) = 2 + 2 * (wfp w f / 3) + 1 by omega] at hvv
                    refine gc_X1_63 C dX1_passFilters_90 hkt (c_X5_valueAt hI (Ml M) q3 hkt (i := k) (c := wfp w f % 3) (by omega) (by omega) ⟨by omega, by omega⟩) (by decide) (Nat.le_of_ble_eq_true rfl) (fun z σ1 ⟨hz, hσ⟩ => ?_)
                    subst σ1
                    rw [hvv] at hz
                    subst z
                    refine gc_X1_73 C dX1_passFilters_93 rfl (c_X1_passes hI (Ml M) q3 hXq3 hW (f := f) (v := wv w (wfp w f / 3) k (wfp w f % 3)) hx1f rfl (by omega) hv99) (by decide) (Nat.le_of_ble_eq_true rfl) (fun z σ1 ⟨hz, hσ⟩ => ?_)
                    subst σ1
                    subst z
                    refine g_ifb_ne (tgt := 116) C dX1_passFilters_96 (by decide) (fun h5 => ?_) (fun h5 => ?_)
                    · refine g_iinc (q := 4) (v := (x4 + 1)) (L' := [(4, .int (iZ (x4 + 1))), (0, .ref (κ.2.1 98)), (1, .int (iZ x1)), (2, .int (iZ (wfp w f : Int))), (3, .ref (κ.2.1 (2 + 2 * (wfp w f / 3))))]) C dX1_passFilters_116 rfl rfl (by decide) rfl ?_
                      refine g_goto (tgt := 73) C dX1_passFilters_119 (by decide) ?_
                      exact g_loc [1, 2, 3, 4, 0] (by rfl) (ih73 (k + 1) (x4 + 1) mf2 q3 (by omega) (by omega) (by omega) hF3 hS3 (fun u hu => (hM3 u hu).cong (fun i hi => fK_s (by assumption))))
                    · refine g_pc (pc' := 99) rfl ?_
                      refine g_aload_n C dX1_passFilters_99 rfl ?_
                      refine gf_X1_19 C dX1_passFilters_100 rfl ?_
                      refine g_iload_n C dX1_passFilters_103 rfl ?_
                      refine g_iconst (z := 3) C dX1_passFilters_104 rfl ?_
                      refine g_idiv C dX1_passFilters_105 (by omega) ?_
                      refine g_dup2 C dX1_passFilters_106 rfl rfl ?_
                      refine g_iaz (n := ((wfp w f) / 3)) (N := 25) (v := (mf2 ((wfp w f) / 3) : Int)) C dX1_passFilters_107 rfl rfl (by omega) (by omega) (by decide) (hS3 ((wfp w f) / 3) (by omega)) ?_
                      refine g_iconst (z := 1) C dX1_passFilters_108 rfl ?_
                      refine g_pc (pc' := 109) rfl ?_
                      refine g_iload C dX1_passFilters_109 rfl ?_
                      refine g_ishl C dX1_passFilters_111 ?_
                      refine g_iconst (z := (-1)) C dX1_passFilters_112 rfl ?_
                      refine g_ixor C dX1_passFilters_113 ?_
                      refine g_iand C dX1_passFilters_114 ?_
                      refine g_raw (clr_rw hx4 hm3.1 (by omega)) ?_
                      refine g_iast (n := ((wfp w f) / 3)) (N := 25) C dX1_passFilters_115 rfl rfl (by omega) (by omega) (by decide) ?_
                      refine g_iinc (q := 4) (v := (x4 + 1)) (L' := [(4, .int (iZ (x4 + 1))), (0, .ref (κ.2.1 98)), (1, .int (iZ x1)), (2, .int (iZ (wfp w f : Int))), (3, .ref (κ.2.1 (2 + 2 * (wfp w f / 3))))]) C dX1_passFilters_116 rfl rfl (by decide) rfl ?_
                      refine g_goto (tgt := 73) C dX1_passFilters_119 (by decide) ?_
                      exact g_loc [1, 2, 3, 4, 0] (by rfl) (ih73 (k + 1) (x4 + 1) (upM mf2 (wfp w f / 3) (clr (mf2 (wfp w f / 3)) k)) (sI q3 100 ((wfp w f) / 3) ((clr (mf2 (wfp w f / 3)) k : Nat) : Int)) (by omega) (by omega) (by omega) (hF3.sI rfl) (hS3.up _ _) (fK_c (by omega) hM3 (by omega) (by simpa using h5)))
              exact g_loc [3, 4, 2, 1, 0] (by rfl) (lp73 _ 0 0 mf q (Nat.lt_succ_self _) rfl (Nat.zero_le _) hF2 hS2 (fun u hu => (hM2 u hu).cong (fun i hi => fK_0)))
        exact g_loc [1, 0] (by rfl) (lp37 _ 0 0 (fun u => 2 ^ wl w u - 1) q (Nat.lt_succ_self _) rfl (Nat.zero_le _) hF (fun u hu => hM u (by omega)) (fun u hu => (MK_all (hW.1 u hu).1).cong (fun i hi => by simp [fM, fA])))
      · refine g_pc (pc' := 7) rfl ?_
        refine g_aload_n C dX1_passFilters_7 rfl ?_
        refine gf_X1_19 C dX1_passFilters_8 rfl ?_
        have hto := hW.1 t (by omega)
        refine g_iload_n C dX1_passFilters_11 rfl ?_
        refine g_iconst (z := 1) C dX1_passFilters_12 rfl ?_
        refine g_aload_n C dX1_passFilters_13 rfl ?_
        refine gf_X1_28 C dX1_passFilters_14 rfl ?_
        refine gf_X1_52 C dX1_passFilters_17 rfl ?_
        refine g_iload_n C dX1_passFilters_20 rfl ?_
        refine g_pc (pc' := 21) rfl ?_
        have hkz6 : kd (2 + 2 * t) = 5 := kd_tab t (by omega)
        refine g_aald (n := t) (N := 5) (c := 23) (r := (2 + 2 * t)) C dX1_passFilters_21 rfl (by decide) rfl (by decide) rfl (by omega) (by omega) (by decide) (rf_23 _ _ rfl) ?_
        refine gf_X1_58 (z := (wl w t : Int)) C dX1_passFilters_22 hkz6 ((hXq.1 t (by omega)).1) ?_
        refine g_ishl C dX1_passFilters_25 ?_
        refine g_raw (shl1_rw rfl (by omega)) ?_
        refine g_iconst (z := 1) C dX1_passFilters_26 rfl ?_
        refine g_isub C dX1_passFilters_27 ?_
        refine g_iast (n := t) (N := 25) C dX1_passFilters_28 rfl rfl (by omega) (by omega) (by decide) ?_
        refine g_iinc (q := 1) (v := (x1 + 1)) (L' := [(1, .int (iZ (x1 + 1))), (0, .ref (κ.2.1 98))]) C dX1_passFilters_29 rfl rfl (by decide) rfl ?_
        refine g_goto (tgt := 2) C dX1_passFilters_32 (by decide) ?_
        exact g_loc [1, 0] (by rfl) (ih2 (t + 1) (x1 + 1) (sI q 100 t (((2 ^ wl w t : Nat) : Int) - 1)) (by omega) (by omega) (by omega) (hF.sI rfl) (fun u hu => by rcases Nat.lt_or_ge u t with k | k; (rw [rI_j (by omega)]; exact hM u k); (rw [show u = t by omega, rI_s]; have := Nat.two_pow_pos (wl w t); omega)))
  exact g_loc [1, 0] (by rfl) (lp2 _ 0 0 σ (Nat.lt_succ_self _) rfl (by omega) Fr.rf (fun u hu => absurd hu (Nat.not_lt_zero u)))

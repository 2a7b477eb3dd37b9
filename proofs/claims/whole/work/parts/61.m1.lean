/-! THE MODEL: small things -/
theorem wAdd_l {w : Wv} {t a b c : Nat} (u : Nat) : wl (wAdd w t a b c) u = if u = t ∧ wl w t < 16 then wl w t + 1 else wl w u := by
  unfold wAdd
  by_cases h : wl w t < 16
  · rw [if_pos h]
    by_cases e : u = t
    · subst e; rw [if_pos ⟨rfl, h⟩]; simp [wl, wset]
    · rw [if_neg (fun q => e q.1)]; simp [wl, wset, e]
  · rw [if_neg h, if_neg (fun q => h q.2)]
theorem MW.put4 {σ : St} {w : Wv} (h : MW σ w) (hl : ∀ t, t < 5 → wl w t ≤ 16) {t : Nat} (ht : t < 5) (hn : wl w t < 16) {A A1 A2 a b c : Nat} {za zb zc v : Int} (hA : A = 48 * t + wl w t * 3) (hA1 : A1 = 48 * t + (wl w t * 3 + 1)) (hA2 : A2 = 48 * t + (wl w t * 3 + 2)) (hza : za = (a : Int)) (hzb : zb = (b : Int)) (hzc : zc = (c : Int)) (hv : v = (wl w t : Int) + 1) : MW (sI (sI (sI (sI σ 108 A za) 108 A1 zb) 108 A2 zc) 107 t v) (wAdd w t a b c) := by
  subst hA; subst hA1; subst hA2; subst hza; subst hzb; subst hzc; subst hv
  refine MW.of (((h.X hl).add ht a b c).e1 ?_) (fun u hu => by rw [wAdd_l]; have := hl u hu; split <;> omega)
  unfold tAdd
  rw [if_pos hn]
  exact Vq.tr (vst_l ht) (Vq.sI (Vq.tr (vst_v ht (by omega)) (Vq.sI (Vq.tr (vst_v ht (by omega)) (Vq.sI (vst_v ht (by omega)))))))
theorem MW.fil {σ : St} {w : Wv} (h : MW σ w) (hl : ∀ t, t < 5 → wl w t ≤ 16) {a b c : Nat} {za zb zc v : Int} (hza : za = (a : Int)) (hzb : zb = (b : Int)) (hzc : zc = (c : Int)) (hv : v = (wnf w : Int) + 1) : MW (sI (sI (sI (sI σ 111 (wnf w) za) 112 (wnf w) zb) 113 (wnf w) zc) 105 10 v) (wAddF w a b c) := by
  subst hza; subst hzb; subst hzc; subst hv
  refine MW.of (((h.X hl).addF a b c).e1 ?_) (fun u hu => by have := hl u hu; simpa [wl, wAddF, wset] using this)
  exact Vq.tr vst_nf (Vq.sI (Vq.tr vst_fv (Vq.sI (Vq.tr vst_fs (Vq.sI vst_fp)))))
theorem MW.joi {σ : St} {w : Wv} (h : MW σ w) (hl : ∀ t, t < 5 → wl w t ≤ 16) {a b : Nat} {za zb v : Int} (hza : za = (a : Int)) (hzb : zb = (b : Int)) (hv : v = (wnj w : Int) + 1) : MW (sI (sI (sI σ 114 (wnj w) za) 115 (wnj w) zb) 105 11 v) (wAddJ w a b) := by
  subst hza; subst hzb; subst hv
  refine MW.of (((h.X hl).addJ a b).e1 ?_) (fun u hu => by have := hl u hu; simpa [wl, wAddJ, wset] using this)
  exact Vq.tr vst_nj (Vq.sI (Vq.tr vst_jb (Vq.sI vst_ja)))
theorem MW.sed {σ : St} {w : Wv} (h : MW σ w) (hl : ∀ t, t < 5 → wl w t ≤ 16) (v : Int) : MW (sI σ 105 12 v) (wseed w v) := MW.of (((h.X hl).seed v).e1 vst_sd) hl
theorem MW.emp {σ : St} {w : Wv} (h : MW σ w) (hl : ∀ t, t < 5 → wl w t ≤ 16) {t : Nat} (ht : t < 5) : MW (sI σ 107 t 0) (wset w 0 t 0 0) := MW.of (((h.X hl).empty ht).e1 (vst_l ht)) (fun u hu => by
  have := hl u hu
  by_cases e : u = t
  · simp [wl, wset, e]
  · simpa [wl, wset, e] using this)
theorem MW.pub {σ : St} {w : Wv} (h : MW σ w) (hl : ∀ t, t < 5 → wl w t ≤ 16) {t v : Nat} {z : Int} (ht : t < 5) (hz : z = (v : Int)) : MW (sI σ 109 t z) (wset w 2 t 0 v) := MW.of (((h.X hl).put (a := 2) (v := v) ht (Or.inl rfl)).e1 (by rw [if_pos rfl, show (v : Int) - 0 = z by omega]; exact vst_b ht)) (fun u hu => by have := hl u hu; simpa [wl, wset] using this)
theorem MW.pus {σ : St} {w : Wv} (h : MW σ w) (hl : ∀ t, t < 5 → wl w t ≤ 16) {t v : Nat} {z : Int} (ht : t < 5) (hz : z = (v : Int) - 1) : MW (sI σ 110 t z) (wset w 3 t 0 v) := MW.of (((h.X hl).put (a := 3) (v := v) ht (Or.inr rfl)).e1 (by rw [if_neg (by decide), show (v : Int) - 1 = z by omega]; exact vst_s ht)) (fun u hu => by have := hl u hu; simpa [wl, wset] using this)
theorem MW.clr {σ : St} {w : Wv} (h : MW σ w) (hl : ∀ t, t < 5 → wl w t ≤ 16) : MW (sI (sI σ 105 10 0) 105 11 0) (wset (wset w 4 0 0 0) 8 0 0 0) := MW.of (((h.X hl).setc).e1 (Vq.tr vst_nj (Vq.sI vst_nf))) (fun u hu => by have := hl u hu; simpa [wl, wset] using this)
/-- lines alone change -/
def SLi (k : Nat) : Prop := k = 107 ∨ k = 108
def NoT (_ : Nat) : Prop := False
set_option maxHeartbeats 4000000 in
set_option maxRecDepth 100000 in
theorem c_X10_no {κ : Kp} (hI : Ij κ) (l : Launch) (σ : St) {y : Nat} {v : Int} (hv : v = -(y : Int)) (hy : y < 8) : CtI κ l 0 yX10_no cX10_no 2 .int [.ref (κ.2.1 105), .int (iZ v)] σ (fun z σ' => z = -((y : Nat) : Int) ∧ σ' = sI σ 106 y (σ.1 106 y + 1)) := by
  refine Ct.ofG (own := RX10) hI (by decide +kernel) rfl (Nat.le_of_ble_eq_true rfl) rfl ?_
  intro M C hMl
  refine g_aload_n C dX10_no_0 rfl ?_
  refine gf_X10_7 C dX10_no_1 rfl ?_
  refine g_iload_n C dX10_no_4 rfl ?_
  refine g_ineg C dX10_no_5 ?_
  refine g_dup2 C dX10_no_6 rfl rfl ?_
  refine g_iaz (n := y) (N := 8) (v := (σ.1 106 y)) C dX10_no_7 rfl rfl (by omega) (by omega) (by decide) rfl ?_
  refine g_iconst (z := 1) C dX10_no_8 rfl ?_
  refine g_pc (pc' := 9) rfl ?_
  refine g_iadd C dX10_no_9 ?_
  refine g_iast (n := y) (N := 8) C dX10_no_10 rfl rfl (by omega) (by omega) (by decide) ?_
  refine g_iload_n C dX10_no_11 rfl ?_
  exact g_ireturn C dX10_no_12 ⟨hv, rfl⟩
set_option maxHeartbeats 4000000 in
set_option maxRecDepth 100000 in
theorem c_X10_isIn {κ : Kp} (hI : Ij κ) (l : Launch) (σ : St) {v a b : Int} (hv : R32 v) (ha : R32 a) (hb : R32 b) : CtI κ l 0 yX10_isIn cX10_isIn 3 .boolean [.int (iZ v), .int (iZ a), .int (iZ b)] σ (fun z σ' => z = bZ (a ≤ v ∧ v ≤ b) ∧ σ' = σ) := by
  refine Ct.ofG (own := RX10) hI (by decide +kernel) rfl (Nat.le_of_ble_eq_true rfl) rfl ?_
  intro M C hMl
  refine g_iload_n C dX10_isIn_0 rfl ?_
  refine g_iload_n C dX10_isIn_1 rfl ?_
  refine g_icmp_lt (tgt := 14) C dX10_isIn_2 (by decide) (by unfold R32; omega) (fun h1 => ?_) (fun h1 => ?_)
  · refine g_iconst (z := 0) C dX10_isIn_14 rfl ?_
    exact g_zreturn C dX10_isIn_15 (by omega) ⟨(bZ_f (by omega)).symm, rfl⟩
  · refine g_iload_n C dX10_isIn_5 rfl ?_
    refine g_iload_n C dX10_isIn_6 rfl ?_
    refine g_pc (pc' := 7) rfl ?_
    refine g_icmp_gt (tgt := 14) C dX10_isIn_7 (by decide) (by unfold R32; omega) (fun h2 => ?_) (fun h2 => ?_)
    · refine g_iconst (z := 0) C dX10_isIn_14 rfl ?_
      exact g_zreturn C dX10_isIn_15 (by omega) ⟨(bZ_f (by omega)).symm, rfl⟩
    · refine g_iconst (z := 1) C dX10_isIn_10 rfl ?_
      refine g_goto (tgt := 15) C dX10_isIn_11 (by decide) ?_
      exact g_zreturn C dX10_isIn_15 (by omega) ⟨(bZ_t (by omega)).symm, rfl⟩
set_option maxHeartbeats 4000000 in
set_option maxRecDepth 100000 in
theorem c_X10_has {κ : Kp} (hI : Ij κ) (l : Launch) (σ : St) {s k : Nat} {zs zk : Int} (hs : zs = (s : Int)) (hk : zk = (k : Int)) (hs31 : s < 2147483648) (hk32 : k < 32) : CtI κ l 0 yX10_has cX10_has 2 .boolean [.int (iZ zs), .int (iZ zk)] σ (fun z σ' => z = bZ (bitv s k = 1) ∧ σ' = σ) := by
  refine Ct.ofG (own := RX10) hI (by decide +kernel) rfl (Nat.le_of_ble_eq_true rfl) rfl ?_
  intro M C hMl
  refine g_iload_n C dX10_has_0 rfl ?_
  refine g_iload_n C dX10_has_1 rfl ?_
  refine g_ishr C dX10_has_2 ?_
  refine g_iconst (z := 1) C dX10_has_3 rfl ?_
  refine g_iand C dX10_has_4 ?_
  refine g_raw (bit_raw hs hk hs31 hk32) ?_
  have hb01 := bitv_01 s k
  refine g_iconst (z := 1) C dX10_has_5 rfl ?_
  refine g_icmp_ne (tgt := 13) C dX10_has_6 (by decide) (by unfold R32; omega) (fun h1 => ?_) (fun h1 => ?_)
  · refine g_pc (pc' := 13) rfl ?_
    refine g_iconst (z := 0) C dX10_has_13 rfl ?_
    exact g_zreturn C dX10_has_14 (by omega) ⟨(bZ_f (by omega)).symm, rfl⟩
  · refine g_iconst (z := 1) C dX10_has_9 rfl ?_
    refine g_goto (tgt := 14) C dX10_has_10 (by decide) ?_
    exact g_zreturn C dX10_has_14 (by omega) ⟨(bZ_t (by omega)).symm, rfl⟩
set_option maxHeartbeats 4000000 in
set_option maxRecDepth 100000 in
theorem c_X10_isTable {κ : Kp} (hI : Ij κ) (l : Launch) (σ : St) {v : Int} (hv : R32 v) : CtI κ l 1 yX10_isTable cX10_isTable 1 .boolean [.int (iZ v)] σ (fun z σ' => z = bZ (0 ≤ v ∧ v ≤ 4) ∧ σ' = σ) := by
  refine Ct.ofG (own := RX10) hI (by decide +kernel) rfl (Nat.le_of_ble_eq_true rfl) rfl ?_
  intro M C hMl
  refine g_iload_n C dX10_isTable_0 rfl ?_
  refine g_iconst (z := 0) C dX10_isTable_1 rfl ?_
  refine g_iconst (z := 4) C dX10_isTable_2 rfl ?_
  refine gc_X10_145 C dX10_isTable_3 (c_X10_isIn hI (Ml M) σ (v := v) (a := 0) (b := 4) (by unfold R32; omega) (by unfold R32; omega) (by unfold R32; omega)) (by decide) (Nat.le_of_ble_eq_true rfl) (fun z σ9 ⟨hz, hσ⟩ => ?_)
  subst z
  subst σ9
  exact g_zreturn C dX10_isTable_6 (bZ_01 _) ⟨rfl, rfl⟩
set_option maxHeartbeats 4000000 in
set_option maxRecDepth 100000 in
theorem c_X10_isPlace {κ : Kp} (hI : Ij κ) (l : Launch) (σ : St) {v : Int} (hv : R32 v) : CtI κ l 1 yX10_isPlace cX10_isPlace 1 .boolean [.int (iZ v)] σ (fun z σ' => z = bZ (0 ≤ v ∧ v ≤ 14) ∧ σ' = σ) := by
  refine Ct.ofG (own := RX10) hI (by decide +kernel) rfl (Nat.le_of_ble_eq_true rfl) rfl ?_
  intro M C hMl
  refine g_iload_n C dX10_isPlace_0 rfl ?_
  refine g_iconst (z := 0) C dX10_isPlace_1 rfl ?_
  refine g_bipush (z := 14) C dX10_isPlace_2 rfl ?_
  refine gc_X10_145 C dX10_isPlace_4 (c_X10_isIn hI (Ml M) σ (v := v) (a := 0) (b := 14) (by unfold R32; omega) (by unfold R32; omega) (by unfold R32; omega)) (by decide) (Nat.le_of_ble_eq_true rfl) (fun z σ9 ⟨hz, hσ⟩ => ?_)
  subst z
  subst σ9
  exact g_zreturn C dX10_isPlace_7 (bZ_01 _) ⟨rfl, rfl⟩
set_option maxHeartbeats 4000000 in
set_option maxRecDepth 100000 in
theorem c_X10_isSet {κ : Kp} (hI : Ij κ) (l : Launch) (σ : St) {v : Int} (hv : R32 v) : CtI κ l 1 yX10_isSet cX10_isSet 1 .boolean [.int (iZ v)] σ (fun z σ' => z = bZ (1 ≤ v ∧ v ≤ 31) ∧ σ' = σ) := by
  refine Ct.ofG (own := RX10) hI (by decide +kernel) rfl (Nat.le_of_ble_eq_true rfl) rfl ?_
  intro M C hMl
  refine g_iload_n C dX10_isSet_0 rfl ?_
  refine g_iconst (z := 1) C dX10_isSet_1 rfl ?_
  refine g_bipush (z := 31) C dX10_isSet_2 rfl ?_
  refine gc_X10_145 C dX10_isSet_4 (c_X10_isIn hI (Ml M) σ (v := v) (a := 1) (b := 31) (by unfold R32; omega) (by unfold R32; omega) (by unfold R32; omega)) (by decide) (Nat.le_of_ble_eq_true rfl) (fun z σ9 ⟨hz, hσ⟩ => ?_)
  subst z
  subst σ9
  exact g_zreturn C dX10_isSet_7 (bZ_01 _) ⟨rfl, rfl⟩
set_option maxHeartbeats 4000000 in
set_option maxRecDepth 100000 in
theorem c_X10_isOrder {κ : Kp} (hI : Ij κ) (l : Launch) (σ : St) {v : Int} (hv : R32 v) : CtI κ l 1 yX10_isOrder cX10_isOrder 1 .boolean [.int (iZ v)] σ (fun z σ' => z = bZ ((-1) ≤ v ∧ v ≤ 14) ∧ σ' = σ) := by
  refine Ct.ofG (own := RX10) hI (by decide +kernel) rfl (Nat.le_of_ble_eq_true rfl) rfl ?_
  intro M C hMl
  refine g_iload_n C dX10_isOrder_0 rfl ?_
  refine g_iconst (z := (-1)) C dX10_isOrder_1 rfl ?_
  refine g_bipush (z := 14) C dX10_isOrder_2 rfl ?_
  refine gc_X10_145 C dX10_isOrder_4 (c_X10_isIn hI (Ml M) σ (v := v) (a := (-1)) (b := 14) (by unfold R32; omega) (by unfold R32; omega) (by unfold R32; omega)) (by decide) (Nat.le_of_ble_eq_true rfl) (fun z σ9 ⟨hz, hσ⟩ => ?_)
  subst z
  subst σ9
  exact g_zreturn C dX10_isOrder_7 (bZ_01 _) ⟨rfl, rfl⟩
set_option maxHeartbeats 4000000 in
set_option maxRecDepth 100000 in
theorem c_X10_isShelf {κ : Kp} (hI : Ij κ) (l : Launch) (σ : St) {v : Int} (hv : R32 v) : CtI κ l 1 yX10_isShelf cX10_isShelf 1 .boolean [.int (iZ v)] σ (fun z σ' => z = bZ (0 ≤ v ∧ v ≤ 7) ∧ σ' = σ) := by
  refine Ct.ofG (own := RX10) hI (by decide +kernel) rfl (Nat.le_of_ble_eq_true rfl) rfl ?_
  intro M C hMl
  refine g_iload_n C dX10_isShelf_0 rfl ?_
  refine g_iconst (z := 0) C dX10_isShelf_1 rfl ?_
  refine g_bipush (z := 7) C dX10_isShelf_2 rfl ?_
  refine gc_X10_145 C dX10_isShelf_4 (c_X10_isIn hI (Ml M) σ (v := v) (a := 0) (b := 7) (by unfold R32; omega) (by unfold R32; omega) (by unfold R32; omega)) (by decide) (Nat.le_of_ble_eq_true rfl) (fun z σ9 ⟨hz, hσ⟩ => ?_)
  subst z
  subst σ9
  exact g_zreturn C dX10_isShelf_7 (bZ_01 _) ⟨rfl, rfl⟩
set_option maxHeartbeats 4000000 in
set_option maxRecDepth 100000 in
theorem c_X10_valueAt {κ : Kp} (hI : Ij κ) (l : Launch) (σ : St) {p i : Nat} {zp zi : Int} (hp : zp = (p : Int)) (hi : zi = (i : Int)) (hp14 : p ≤ 14) (hi16 : i < 16) : CtI κ l 0 yX10_valueAt cX10_valueAt 3 .int [.ref (κ.2.1 105), .int (iZ zp), .int (iZ zi)] σ (fun z σ' => z = σ.1 108 (48 * (p / 3) + (i * 3 + p % 3)) ∧ σ' = σ) := by
  refine Ct.ofG (own := RX10) hI (by decide +kernel) rfl (Nat.le_of_ble_eq_true rfl) rfl ?_
  intro M C hMl
  refine g_aload_n C dX10_valueAt_0 rfl ?_
  refine gf_X10_16 C dX10_valueAt_1 rfl ?_
  refine g_bipush (z := 48) C dX10_valueAt_4 rfl ?_
  refine g_iload_n C dX10_valueAt_6 rfl ?_
  refine g_iconst (z := 3) C dX10_valueAt_7 rfl ?_
  refine g_idiv C dX10_valueAt_8 (by omega) ?_
  refine g_imul C dX10_valueAt_9 ?_
  refine g_pc (pc' := 10) rfl ?_
  refine g_iconst (z := 3) C dX10_valueAt_10 rfl ?_
  refine g_iload_n C dX10_valueAt_11 rfl ?_
  refine g_imul C dX10_valueAt_12 ?_
  refine g_iadd C dX10_valueAt_13 ?_
  refine g_iload_n C dX10_valueAt_14 rfl ?_
  refine g_iconst (z := 3) C dX10_valueAt_15 rfl ?_
  refine g_irem C dX10_valueAt_16 (by omega) ?_
  refine g_iadd C dX10_valueAt_17 ?_
  refine g_pc (pc' := 18) rfl ?_
  refine g_iaz (n := (((48 * (p / 3)) + (3 * i)) + (p % 3))) (N := 240) (v := (σ.1 108 (((48 * (p / 3)) + (3 * i)) + (p % 3)))) C dX10_valueAt_18 rfl rfl (by omega) (by omega) (by decide) rfl ?_
  exact g_ireturn C dX10_valueAt_19 ⟨congrArg (σ.1 108) (by omega), rfl⟩
set_option maxHeartbeats 4000000 in
set_option maxRecDepth 100000 in
theorem c_X10_putsLine {κ : Kp} (hI : Ij κ) (l : Launch) (σ : St) {w : Wv} (hM : MW σ w) (hl : ∀ t, t < 5 → wl w t ≤ 16) {t a b c : Nat} {zt za zb zc : Int} (hzt : zt = (t : Int)) (hza : za = (a : Int)) (hzb : zb = (b : Int)) (hzc : zc = (c : Int)) (ht : t < 5) (hn : wl w t < 16) : CtV κ l 0 yX10_putsLine cX10_putsLine 6 [.ref (κ.2.1 105), .int (iZ zt), .int (iZ za), .int (iZ zb), .int (iZ zc)] σ (fun σ' => MW σ' (wAdd w t a b c) ∧ Fm SLi NoT σ σ') := by
  refine Ct.ofG (own := RX10) hI (by decide +kernel) rfl (Nat.le_of_ble_eq_true rfl) rfl ?_
  intro M C hMl
  refine g_bipush (z := 48) C dX10_putsLine_0 rfl ?_
  refine g_iload_n C dX10_putsLine_2 rfl ?_
  refine g_imul C dX10_putsLine_3 ?_
  refine g_iconst (z := 3) C dX10_putsLine_4 rfl ?_
  refine g_aload_n C dX10_putsLine_5 rfl ?_
  refine gf_X10_13 C dX10_putsLine_6 rfl ?_
  refine g_iload_n C dX10_putsLine_9 rfl ?_
  refine g_pc (pc' := 10) rfl ?_
  refine g_iaz (n := t) (N := 5) (v := (wl w t : Int)) C dX10_putsLine_10 rfl rfl (by omega) (by omega) (by decide) ((hM.1 t (by omega)).1) ?_
  refine g_imul C dX10_putsLine_11 ?_
  refine g_iadd C dX10_putsLine_12 ?_
  refine g_istore (L' := [(5, .int (iZ ((48 * zt) + (3 * (wl w t : Int))))), (0, .ref (κ.2.1 105)), (1, .int (iZ zt)), (2, .int (iZ za)), (3, .int (iZ zb)), (4, .int (iZ zc))]) C dX10_putsLine_13 (by decide) rfl ?_
  refine g_aload_n C dX10_putsLine_15 rfl ?_
  refine gf_X10_16 C dX10_putsLine_16 rfl ?_
  refine g_iload C dX10_putsLine_19 rfl ?_
  refine g_iload_n C dX10_putsLine_21 rfl ?_
  refine g_pc (pc' := 22) rfl ?_
  refine g_iast (n := ((48 * t) + (3 * (wl w t)))) (N := 240) C dX10_putsLine_22 rfl rfl (by omega) (by omega) (by decide) ?_
  refine g_aload_n C dX10_putsLine_23 rfl ?_
  refine gf_X10_16 C dX10_putsLine_24 rfl ?_
  refine g_iload C dX10_putsLine_27 rfl ?_
  refine g_iconst (z := 1) C dX10_putsLine_29 rfl ?_
  refine g_iadd C dX10_putsLine_30 ?_
  refine g_iload_n C dX10_putsLine_31 rfl ?_
  refine g_iast (n := (((48 * t) + (3 * (wl w t))) + 1)) (N := 240) C dX10_putsLine_32 rfl rfl (by omega) (by omega) (by decide) ?_
  refine g_pc (pc' := 33) rfl ?_
  refine g_aload_n C dX10_putsLine_33 rfl ?_
  refine gf_X10_16 C dX10_putsLine_34 rfl ?_
  refine g_iload C dX10_putsLine_37 rfl ?_
  refine g_iconst (z := 2) C dX10_putsLine_39 rfl ?_
  refine g_iadd C dX10_putsLine_40 ?_
  refine g_iload C dX10_putsLine_41 rfl ?_
  refine g_iast (n := (((48 * t) + (3 * (wl w t))) + 2)) (N := 240) C dX10_putsLine_43 rfl rfl (by omega) (by omega) (by decide) ?_
  refine g_aload_n C dX10_putsLine_44 rfl ?_
  refine g_pc (pc' := 45) rfl ?_
  refine gf_X10_13 C dX10_putsLine_45 rfl ?_
  refine g_iload_n C dX10_putsLine_48 rfl ?_
  refine g_dup2 C dX10_putsLine_49 rfl rfl ?_
  refine g_iaz (n := t) (N := 5) (v := (wl w t : Int)) C dX10_putsLine_50 rfl rfl (by omega) (by omega) (by decide) ((rI_k (by decide)).trans ((rI_k (by decide)).trans ((rI_k (by decide)).trans ((hM.1 t (by omega)).1)))) ?_
  refine g_iconst (z := 1) C dX10_putsLine_51 rfl ?_
  refine g_iadd C dX10_putsLine_52 ?_
  refine g_iast (n := t) (N := 5) C dX10_putsLine_53 rfl rfl (by omega) (by omega) (by decide) ?_
  exact g_return C dX10_putsLine_54 ⟨hM.put4 hl ht hn (by omega) (by omega) (by omega) hza hzb hzc (by omega), (((Fm.rf.a (by decide) (Or.inr rfl)).a (by decide) (Or.inr rfl)).a (by decide) (Or.inr rfl)).a (by decide) (Or.inl rfl)⟩
set_option maxHeartbeats 4000000 in
set_option maxRecDepth 100000 in
theorem c_X10_allLines {κ : Kp} (hI : Ij κ) (l : Launch) (σ : St) {w : Wv} (hM : MW σ w) (hl : ∀ t, t < 5 → wl w t ≤ 16) : CtI κ l 0 yX10_allLines cX10_allLines 3 .int [.ref (κ.2.1 105)] σ (fun z σ' => z = (wsum w 5 : Int) ∧ σ' = σ) := by
  refine Ct.ofG (own := RX10) hI (by decide +kernel) rfl (Nat.le_of_ble_eq_true rfl) rfl ?_
  intro M C hMl
  refine g_iconst (z := 0) C dX10_allLines_0 rfl ?_
  refine g_istore_n (L' := [(1, .int (iZ 0)), (0, .ref (κ.2.1 105))]) C dX10_allLines_1 rfl (by decide) rfl ?_
  refine g_iconst (z := 0) C dX10_allLines_2 rfl ?_
  refine g_istore_n (L' := [(2, .int (iZ 0)), (1, .int (iZ 0)), (0, .ref (κ.2.1 105))]) C dX10_allLines_3 rfl (by decide) rfl ?_
  have lp4 : ∀ (fz9 : Nat) (t : Nat) (x1 : Int) (x2 : Int), (5 - t < fz9) → (x2 = (t : Int)) → (t ≤ 5) → (x1 = (wsum w t : Int)) → G M κ 3 (En M κ (qI κ (fun z σ' => z = (wsum w 5 : Int) ∧ σ' = σ))) 4 [(0, .ref (κ.2.1 105)), (1, .int (iZ x1)), (2, .int (iZ x2))] [] σ := by
    intro fz9
    induction fz9 with
    | zero => intro t x1 x2 hm0; exact absurd hm0 (Nat.not_lt_zero _)
    | succ fz9 ih4 =>
      intro t x1 x2 hm4 hx2 ht hx1
      refine g_iload_n C dX10_allLines_4 rfl ?_
      refine g_iconst (z := 5) C dX10_allLines_5 rfl ?_
      refine g_icmp_ge (tgt := 24) C dX10_allLines_6 (by decide) (by unfold R32; omega) (fun h1 => ?_) (fun h1 => ?_)
      · refine g_pc (pc' := 24) rfl ?_
        refine g_iload_n C dX10_allLines_24 rfl ?_
        exact g_ireturn C dX10_allLines_25 ⟨by rw [hx1, show t = 5 by omega], rfl⟩
      · refine g_iload_n C dX10_allLines_9 rfl ?_
        refine g_aload_n C dX10_allLines_10 rfl ?_
        refine gf_X10_13 C dX10_allLines_11 rfl ?_
        refine g_iload_n C dX10_allLines_14 rfl ?_
        refine g_iaz (n := t) (N := 5) (v := (wl w t : Int)) C dX10_allLines_15 rfl rfl (by omega) (by omega) (by decide) ((hM.1 t (by omega)).1) ?_
        refine g_iadd C dX10_allLines_16 ?_
        refine g_pc (pc' := 17) rfl ?_
        refine g_istore_n (L' := [(1, .int (iZ (x1 + (wl w t : Int)))), (0, .ref (κ.2.1 105)), (2, .int (iZ x2))]) C dX10_allLines_17 rfl (by decide) rfl ?_
        refine g_iinc (q := 2) (v := (x2 + 1)) (L' := [(2, .int (iZ (x2 + 1))), (1, .int (iZ (x1 + (wl w t : Int)))), (0, .ref (κ.2.1 105))]) C dX10_allLines_18 rfl rfl (by decide) rfl ?_
        refine g_goto (tgt := 4) C dX10_allLines_21 (by decide) ?_
        exact g_loc [2, 1, 0] (by rfl) (ih4 (t + 1) (x1 + (wl w t : Int)) (x2 + 1) (by omega) (by omega) (by omega) (by rw [hx1]; exact (Int.natCast_add _ _).symm))
  exact g_loc [2, 1, 0] (by rfl) (lp4 _ 0 0 0 (Nat.lt_succ_self _) rfl (by omega) rfl)

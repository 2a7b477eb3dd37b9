/-! MATCHES: sums, masks, members -/
def nsum : Nat → (Nat → Nat) → Nat
  | 0, _ => 0
  | n + 1, f => nsum n f + f n
theorem nsum_cong {f g : Nat → Nat} : ∀ {n : Nat}, (∀ i, i < n → f i = g i) → nsum n f = nsum n g
  | 0, _ => rfl
  | n + 1, h => by rw [nsum, nsum, nsum_cong (fun i hi => h i (by omega)), h n (by omega)]
theorem nsum_0 {f : Nat → Nat} : ∀ {n : Nat}, (∀ i, i < n → f i = 0) → nsum n f = 0
  | 0, _ => rfl
  | n + 1, h => by rw [nsum, nsum_0 (fun i hi => h i (by omega)), h n (by omega)]
theorem nsum_le {f : Nat → Nat} {b : Nat} : ∀ {n : Nat}, (∀ i, i < n → f i ≤ b) → nsum n f ≤ n * b
  | 0, _ => by simp [nsum]
  | n + 1, h => by have := nsum_le (n := n) (fun i hi => h i (by omega)); have := h n (by omega); rw [nsum, Nat.succ_mul]; omega
theorem nsum_add {f g : Nat → Nat} : ∀ {n : Nat}, nsum n (fun i => f i + g i) = nsum n f + nsum n g
  | 0 => rfl
  | n + 1 => by rw [nsum, nsum, nsum, nsum_add]; omega
theorem nsum_comm {f : Nat → Nat → Nat} {m : Nat} : ∀ {n : Nat}, nsum n (fun i => nsum m (fun j => f i j)) = nsum m (fun j => nsum n (fun i => f i j))
  | 0 => (nsum_0 (fun _ _ => rfl)).symm
  | n + 1 => by
    rw [nsum, nsum_comm]
    exact (nsum_add (f := fun j => nsum n (fun i => f i j)) (g := fun j => f n j)).symm
theorem nsum_mul {f : Nat → Nat} {c : Nat} : ∀ {n : Nat}, nsum n f * c = nsum n (fun i => f i * c)
  | 0 => Nat.zero_mul _
  | n + 1 => by rw [nsum, nsum, Nat.add_mul, nsum_mul]
/-- m tells the lines of which p holds -/
def MK (m : Nat) (p : Nat → Bool) : Prop := m < 65536 ∧ ∀ i, i < 16 → m.testBit i = p i
theorem tb_bitv {m i : Nat} : m.testBit i = decide (bitv m i = 1) := Nat.testBit_eq_decide_div_mod_eq
theorem MK.cong {m : Nat} {p q : Nat → Bool} (h : MK m p) (hq : ∀ i, i < 16 → p i = q i) : MK m q := ⟨h.1, fun i hi => (h.2 i hi).trans (hq i hi)⟩
theorem MK.zero {m : Nat} {p : Nat → Bool} (h : MK m p) : m = 0 ↔ ∀ i, i < 16 → p i = false := by
  refine ⟨fun e i hi => by rw [← h.2 i hi, e, Nat.zero_testBit], fun e => ?_⟩
  refine Nat.eq_of_testBit_eq (fun i => ?_)
  rw [Nat.zero_testBit]
  rcases Nat.lt_or_ge i 16 with k | k
  · rw [h.2 i k, e i k]
  · exact Nat.testBit_lt_two_pow (Nat.lt_of_lt_of_le h.1 (show 2 ^ 16 ≤ 2 ^ i from Nat.pow_le_pow_right (by decide) k))
theorem MK.and {a b : Nat} {p q : Nat → Bool} (ha : MK a p) (hb : MK b q) : MK (a &&& b) (fun i => p i && q i) := ⟨Nat.lt_of_le_of_lt Nat.and_le_left ha.1, fun i hi => by rw [Nat.testBit_and, ha.2 i hi, hb.2 i hi]⟩
theorem all_tb : ∀ n : Fin 17, ∀ i : Fin 16, (2 ^ n.val - 1).testBit i.val = decide (i.val < n.val) := by decide +kernel
theorem MK_all {n : Nat} (hn : n ≤ 16) : MK (2 ^ n - 1) (fun i => decide (i < n)) := ⟨by have h1 : 2 ^ n ≤ 2 ^ 16 := Nat.pow_le_pow_right (by decide) hn; have h2 := Nat.two_pow_pos n; omega, fun i hi => all_tb ⟨n, by omega⟩ ⟨i, hi⟩⟩
theorem all_raw_ : ∀ n : Fin 17, (iZ 1 <<< (iZ (n.val : Int) &&& 31)) = iZ ((2 ^ n.val : Nat) : Int) := by decide +kernel
theorem shl1_raw {n : Nat} (hn : n ≤ 16) : (iZ 1 <<< (iZ (n : Int) &&& 31)) = iZ ((2 ^ n : Nat) : Int) := all_raw_ ⟨n, by omega⟩
def clr (m i : Nat) : Nat := m &&& (4294967295 - 2 ^ i)
theorem clr_tb : ∀ i : Fin 16, ∀ j : Fin 16, (4294967295 - 2 ^ i.val).testBit j.val = decide (j.val ≠ i.val) := by decide +kernel
theorem MK.clr {m i : Nat} {p : Nat → Bool} (h : MK m p) (hi : i < 16) : MK (clr m i) (fun j => p j && decide (j ≠ i)) := ⟨Nat.lt_of_le_of_lt Nat.and_le_left h.1, fun j hj => by
  unfold Jvm.Pilot.@@N@@.clr
  rw [Nat.testBit_and, h.2 j hj, clr_tb ⟨i, hi⟩ ⟨j, hj⟩]⟩
theorem iZ_nat {n : Nat} (h : n < 4294967296) : (iZ (n : Int)).toBitVec.toNat = n := by
  show (Int32.ofInt (n : Int)).toBitVec.toNat = n
  rw [Int32.toBitVec_ofInt, BitVec.ofInt_natCast, BitVec.toNat_ofNat]
  exact Nat.mod_eq_of_lt h
theorem and_raw {a b : Nat} (ha : a < 4294967296) (hb : b < 4294967296) : iZ (a : Int) &&& iZ (b : Int) = iZ ((a &&& b : Nat) : Int) := by
  refine Int32.toBitVec_inj.mp (BitVec.eq_of_toNat_eq ?_)
  rw [Int32.toBitVec_and, BitVec.toNat_and, iZ_nat ha, iZ_nat hb, iZ_nat (Nat.lt_of_le_of_lt Nat.and_le_left ha)]
theorem not_raw_ : ∀ i : Fin 16, iZ ((2 ^ i.val : Nat) : Int) ^^^ iZ (-1) = iZ ((4294967295 - 2 ^ i.val : Nat) : Int) := by decide +kernel
theorem clr_raw {m i : Nat} (hm : m < 65536) (hi : i < 16) : iZ (m : Int) &&& ((iZ 1 <<< (iZ (i : Int) &&& 31)) ^^^ iZ (-1)) = iZ ((clr m i : Nat) : Int) := by
  rw [shl1_raw (by omega), not_raw_ ⟨i, hi⟩]
  exact and_raw (by omega) (Nat.lt_of_le_of_lt (Nat.sub_le _ _) (by decide))
/-- the members: the first, then the others ascending -/
def mL (s f : Nat) : Nat → List Nat
  | 0 => [f]
  | t + 1 => if t ≠ f ∧ bitv s t = 1 then mL s f t ++ [t] else mL s f t
def gL (L : List Nat) (i : Nat) : Nat := L[i]?.getD 0
theorem gL_l {L : List Nat} {i t : Nat} (h : i < L.length) : gL (L ++ [t]) i = gL L i := by unfold gL; rw [List.getElem?_append_left h]
theorem gL_r {L : List Nat} {t : Nat} : gL (L ++ [t]) L.length = t := by unfold gL; rw [List.getElem?_append_right (Nat.le_refl _), Nat.sub_self]; rfl
theorem mL_len {s f : Nat} : ∀ t, 1 ≤ (mL s f t).length ∧ (mL s f t).length ≤ if f < t then t else t + 1
  | 0 => by simp [mL]
  | t + 1 => by
    have := mL_len (s := s) (f := f) t
    rw [mL]
    split
    · rename_i h
      rw [List.length_append, List.length_singleton]
      split at this <;> split <;> omega
    · split at this <;> split <;> omega
def MS (σ : St) (L : List Nat) : Prop := σ.1 98 2 = (L.length : Int) ∧ ∀ i, i < L.length → σ.1 99 i = (gL L i : Int)
theorem MS.app {σ : St} {L : List Nat} (h : MS σ L) (t : Nat) : MS (sI (sI σ 99 L.length (t : Int)) 98 2 ((L.length : Int) + 1)) (L ++ [t]) := by
  refine ⟨by rw [rI_s, List.length_append, List.length_singleton]; omega, fun i hi => ?_⟩
  rw [List.length_append, List.length_singleton] at hi
  rw [rI_k (by decide)]
  rcases Nat.lt_or_ge i L.length with k | k
  · rw [rI_j (by omega), h.2 i k, gL_l k]
  · rw [show i = L.length by omega, rI_s, gL_r]
def MC1 (k : Nat) : Prop := k = 98 ∨ k = 99
set_option maxHeartbeats 4000000 in
set_option maxRecDepth 100000 in
theorem c_X1_partnersAt {κ : Kp} (hI : Ij κ) (l : Launch) (σ : St) {a b c : Int} : CtI κ l 0 yX1_partnersAt cX1_partnersAt 3 .int [.int (iZ a), .int (iZ b), .int (iZ c)] σ (fun z σ' => z = (a * 16 + b) * 5 + c ∧ σ' = σ) := by
  refine Ct.ofG (own := RX1) hI (by decide +kernel) rfl (Nat.le_of_ble_eq_true rfl) rfl ?_
  intro M C hMl
  refine g_iload_n C dX1_partnersAt_0 rfl ?_
  refine g_bipush (z := 16) C dX1_partnersAt_1 rfl ?_
  refine g_imul C dX1_partnersAt_3 ?_
  refine g_iload_n C dX1_partnersAt_4 rfl ?_
  refine g_iadd C dX1_partnersAt_5 ?_
  refine g_iconst (z := 5) C dX1_partnersAt_6 rfl ?_
  refine g_imul C dX1_partnersAt_7 ?_
  refine g_pc (pc' := 8) rfl ?_
  refine g_iload_n C dX1_partnersAt_8 rfl ?_
  refine g_iadd C dX1_partnersAt_9 ?_
  exact g_ireturn C dX1_partnersAt_10 ⟨rfl, rfl⟩
set_option maxHeartbeats 4000000 in
set_option maxRecDepth 100000 in
theorem c_X1_chooseMembers {κ : Kp} (hI : Ij κ) (l : Launch) (σ : St) {s f : Nat} {zs zf : Int} (hs : zs = (s : Int)) (hf : zf = (f : Int)) (hs32 : s < 32) (hf5 : f < 5) : CtV κ l 0 yX1_chooseMembers cX1_chooseMembers 4 [.ref (κ.2.1 98), .int (iZ zs), .int (iZ zf)] σ (fun σ' => MS σ' (mL s f 5) ∧ Fr MC1 σ σ') := by
  refine Ct.ofG (own := RX1) hI (by decide +kernel) rfl (Nat.le_of_ble_eq_true rfl) rfl ?_
  intro M C hMl
  refine g_aload_n C dX1_chooseMembers_0 rfl ?_
  refine gf_X1_9 C dX1_chooseMembers_1 rfl ?_
  refine g_iconst (z := 0) C dX1_chooseMembers_4 rfl ?_
  refine g_iload_n C dX1_chooseMembers_5 rfl ?_
  refine g_iast (n := 0) (N := 5) C dX1_chooseMembers_6 rfl rfl (by omega) (by omega) (by decide) ?_
  refine g_aload_n C dX1_chooseMembers_7 rfl ?_
  refine g_iconst (z := 1) C dX1_chooseMembers_8 rfl ?_
  refine g_pc (pc' := 9) rfl ?_
  refine gp_X1_15 C dX1_chooseMembers_9 rfl ?_
  refine g_iconst (z := 0) C dX1_chooseMembers_12 rfl ?_
  refine g_istore_n (L' := [(3, .int (iZ 0)), (0, .ref (κ.2.1 98)), (1, .int (iZ zs)), (2, .int (iZ zf))]) C dX1_chooseMembers_13 rfl (by decide) rfl ?_
  have lp14 : ∀ (fz9 : Nat) (t : Nat) (x3 : Int) (q : St), (5 - t < fz9) → (x3 = (t : Int)) → (t ≤ 5) → (MS q (mL s f t)) → (Fr MC1 σ q) → G M κ 4 (En M κ (qV κ (fun σ' => MS σ' (mL s f 5) ∧ Fr MC1 σ σ'))) 14 [(0, .ref (κ.2.1 98)), (1, .int (iZ zs)), (2, .int (iZ zf)), (3, .int (iZ x3))] [] q := by
    intro fz9
    induction fz9 with
    | zero => intro t x3 q hm0; exact absurd hm0 (Nat.not_lt_zero _)
    | succ fz9 ih =>
      intro t x3 q hm14 hx3 ht hM hF
      have hml := mL_len (s := s) (f := f) t
      have hml6 : (mL s f t).length ≤ t + 1 := by have := hml.2; split at this <;> omega
      refine g_iload_n C dX1_chooseMembers_14 rfl ?_
      refine g_iconst (z := 5) C dX1_chooseMembers_15 rfl ?_
      refine g_icmp_ge (tgt := 67) C dX1_chooseMembers_16 (by decide) (by unfold R32; omega) (fun h1 => ?_) (fun h1 => ?_)
      · exact g_return C dX1_chooseMembers_67 ⟨by rw [show t = 5 by omega] at hM; exact hM, hF⟩
      · refine g_iload_n C dX1_chooseMembers_19 rfl ?_
        refine g_pc (pc' := 20) rfl ?_
        refine g_iload_n C dX1_chooseMembers_20 rfl ?_
        refine g_icmp_eq (tgt := 61) C dX1_chooseMembers_21 (by decide) (by unfold R32; omega) (fun h2 => ?_) (fun h2 => ?_)
        · refine g_iinc (q := 3) (v := (x3 + 1)) (L' := [(3, .int (iZ (x3 + 1))), (0, .ref (κ.2.1 98)), (1, .int (iZ zs)), (2, .int (iZ zf))]) C dX1_chooseMembers_61 rfl rfl (by decide) rfl ?_
          refine g_goto (tgt := 14) C dX1_chooseMembers_64 (by decide) ?_
          exact g_loc [1, 2, 3, 0] (by rfl) (ih (t + 1) (x3 + 1) q (by omega) (by omega) (by omega) (by rw [mL, if_neg (by omega)]; exact hM) hF)
        · refine g_iload_n C dX1_chooseMembers_24 rfl ?_
          refine g_iload_n C dX1_chooseMembers_25 rfl ?_
          refine g_ishr C dX1_chooseMembers_26 ?_
          refine g_iconst (z := 1) C dX1_chooseMembers_27 rfl ?_
          refine g_pc (pc' := 28) rfl ?_
          refine g_iand C dX1_chooseMembers_28 ?_
          refine g_raw (bit_raw hs hx3 (by omega) (by omega)) ?_
          have hb01 := bitv_01 s t
          refine g_iconst (z := 1) C dX1_chooseMembers_29 rfl ?_
          refine g_icmp_ne (tgt := 61) C dX1_chooseMembers_30 (by decide) (by unfold R32; omega) (fun h3 => ?_) (fun h3 => ?_)
          · refine g_iinc (q := 3) (v := (x3 + 1)) (L' := [(3, .int (iZ (x3 + 1))), (0, .ref (κ.2.1 98)), (1, .int (iZ zs)), (2, .int (iZ zf))]) C dX1_chooseMembers_61 rfl rfl (by decide) rfl ?_
            refine g_goto (tgt := 14) C dX1_chooseMembers_64 (by decide) ?_
            exact g_loc [1, 2, 3, 0] (by rfl) (ih (t + 1) (x3 + 1) q (by omega) (by omega) (by omega) (by rw [mL, if_neg (by omega)]; exact hM) hF)
          · refine g_aload_n C dX1_chooseMembers_33 rfl ?_
            refine gf_X1_15 (z := ((mL s f t).length : Int)) C dX1_chooseMembers_34 rfl hM.1 ?_
            refine g_iconst (z := 5) C dX1_chooseMembers_37 rfl ?_
            refine g_pc (pc' := 38) rfl ?_
            refine g_icmp_ge (tgt := 61) C dX1_chooseMembers_38 (by decide) (by unfold R32; omega) (fun h4 => ?_) (fun h4 => ?_)
            · exfalso; split at hml <;> omega
            · have hml5 : (mL s f t).length < 5 := by split at hml <;> omega
              refine g_aload_n C dX1_chooseMembers_41 rfl ?_
              refine gf_X1_9 C dX1_chooseMembers_42 rfl ?_
              refine g_aload_n C dX1_chooseMembers_45 rfl ?_
              refine gf_X1_15 (z := ((mL s f t).length : Int)) C dX1_chooseMembers_46 rfl hM.1 ?_
              refine g_iload_n C dX1_chooseMembers_49 rfl ?_
              refine g_iast (n := (mL s f t).length) (N := 5) C dX1_chooseMembers_50 rfl rfl (by omega) (by omega) (by decide) ?_
              refine g_aload_n C dX1_chooseMembers_51 rfl ?_
              refine g_pc (pc' := 52) rfl ?_
              refine g_dup C dX1_chooseMembers_52 rfl ?_
              refine gf_X1_15 (z := ((mL s f t).length : Int)) C dX1_chooseMembers_53 rfl ((rI_k (by decide)).trans hM.1) ?_
              refine g_iconst (z := 1) C dX1_chooseMembers_56 rfl ?_
              refine g_iadd C dX1_chooseMembers_57 ?_
              refine gp_X1_15 C dX1_chooseMembers_58 rfl ?_
              refine g_iinc (q := 3) (v := (x3 + 1)) (L' := [(3, .int (iZ (x3 + 1))), (0, .ref (κ.2.1 98)), (1, .int (iZ zs)), (2, .int (iZ zf))]) C dX1_chooseMembers_61 rfl rfl (by decide) rfl ?_
              refine g_goto (tgt := 14) C dX1_chooseMembers_64 (by decide) ?_
              exact g_loc [1, 2, 3, 0] (by rfl) (ih (t + 1) (x3 + 1) (sI (sI q 99 (mL s f t).length x3) 98 2 (((mL s f t).length : Int) + 1)) (by omega) (by omega) (by omega) (by rw [mL, if_pos ⟨by omega, by omega⟩]; have h9 := hM.app t; rw [hx3]; exact h9) ((hF.sI (by unfold MC1; omega)).sI (by unfold MC1; omega)))
  exact g_loc [1, 2, 3, 0] (by rfl) (lp14 _ 0 0 (sI (sI σ 99 0 zf) 98 2 1) (Nat.lt_succ_self _) rfl (by omega) ⟨rI_s, fun i hi => by rw [show i = 0 by simp [mL] at hi; omega, rI_k (by decide), rI_s, hf]; rfl⟩ ((Fr.rf.sI (by unfold MC1; omega)).sI (by unfold MC1; omega)))

/-! the JDK's count of bits -/
theorem wq_bc265 : Cond.constant RJ6 265 (iZ 1431655765) ∈ lw_g := mg (mk4 (List.mem_of_getElem? (i := 110) rfl)) rfl
theorem wq_bc266 : Cond.constant RJ6 266 (iZ 858993459) ∈ lw_g := mg (mk4 (List.mem_of_getElem? (i := 111) rfl)) rfl
theorem wq_bc267 : Cond.constant RJ6 267 (iZ 252645135) ∈ lw_g := mg (mk4 (List.mem_of_getElem? (i := 112) rfl)) rfl
theorem and_z {za zb : Int} {a b : Nat} (ha : za = (a : Int)) (hb : zb = (b : Int)) (h1 : a < 4294967296) (h2 : b < 4294967296) : iZ za &&& iZ zb = iZ ((a &&& b : Nat) : Int) := by subst ha; subst hb; exact and_raw h1 h2
theorem ush_all : ∀ k : Fin 32, ((iZ (k.val : Int)).toUInt32 &&& Int32.toUInt32 31).toNat = k.val := by decide +kernel
theorem ush_z {z zk : Int} {n k : Nat} (h : z = (n : Int)) (hk : zk = (k : Int)) (hn : n < 4294967296) (hk32 : k < 32) : ((iZ z).toUInt32 >>> ((iZ zk).toUInt32 &&& Int32.toUInt32 31)).toInt32 = iZ ((n / 2 ^ k : Nat) : Int) := by
  subst h; subst hk
  refine Int32.toBitVec_inj.mp (BitVec.eq_of_toNat_eq ?_)
  rw [iZ_nat (Nat.lt_of_le_of_lt (Nat.div_le_self _ _) hn)]
  show ((iZ (n : Int)).toUInt32 >>> ((iZ (k : Int)).toUInt32 &&& Int32.toUInt32 31)).toNat = _
  rw [UInt32.toNat_shiftRight, ush_all ⟨k, hk32⟩, Nat.mod_eq_of_lt hk32, Nat.shiftRight_eq_div_pow]
  congr 1
  exact iZ_nat hn
def bc1 (m : Nat) : Nat := m - (m / 2 ^ 1 &&& 1431655765)
def bc2 (m : Nat) : Nat := (bc1 m &&& 858993459) + (bc1 m / 2 ^ 2 &&& 858993459)
def bc3 (m : Nat) : Nat := (bc2 m + bc2 m / 2 ^ 4) &&& 252645135
def bc4 (m : Nat) : Nat := bc3 m + bc3 m / 2 ^ 8
def bc5 (m : Nat) : Nat := bc4 m + bc4 m / 2 ^ 16
def bc6 (m : Nat) : Nat := bc5 m &&& 63
theorem bc1_le (m : Nat) : bc1 m ≤ m ∧ (m / 2 ^ 1 &&& 1431655765) ≤ m := ⟨Nat.sub_le _ _, Nat.le_trans Nat.and_le_left (Nat.div_le_self _ _)⟩
theorem bc2_le (m : Nat) : bc2 m ≤ 2 * m := by
  have h1 := (bc1_le m).1
  have h2 : (bc1 m &&& 858993459) ≤ bc1 m := Nat.and_le_left
  have h3 : (bc1 m / 2 ^ 2 &&& 858993459) ≤ bc1 m := Nat.le_trans Nat.and_le_left (Nat.div_le_self _ _)
  unfold bc2
  omega
theorem bc3_le (m : Nat) : bc3 m ≤ 4 * m := by
  have h1 := bc2_le m
  have h2 := Nat.div_le_self (bc2 m) (2 ^ 4)
  have h3 : bc3 m ≤ bc2 m + bc2 m / 2 ^ 4 := Nat.and_le_left
  omega
theorem bc5_le (m : Nat) : bc4 m ≤ 8 * m ∧ bc5 m ≤ 16 * m := by
  have h1 := bc3_le m
  have h2 := Nat.div_le_self (bc3 m) (2 ^ 8)
  have h3 := Nat.div_le_self (bc4 m) (2 ^ 16)
  have h4 : bc4 m = bc3 m + bc3 m / 2 ^ 8 := rfl
  have h5 : bc5 m = bc4 m + bc4 m / 2 ^ 16 := rfl
  omega
def tbN (m : Nat) : Nat := nsum 16 (fun i => if m.testBit i = true then 1 else 0)
theorem bq_spl {a b c d : Nat} (hb : b < 256) (hd : d < 256) : (256 * a + b) &&& (256 * c + d) = 256 * (a &&& c) + (b &&& d) := by
  have h8 : (256 : Nat) = 2 ^ 8 := rfl
  have hbd : b &&& d < 2 ^ 8 := Nat.and_lt_two_pow b (by omega)
  refine Nat.eq_of_testBit_eq (fun i => ?_)
  rw [h8] at hb hd ⊢
  rw [Nat.testBit_and, Nat.testBit_two_pow_mul_add _ hb, Nat.testBit_two_pow_mul_add _ hd, Nat.testBit_two_pow_mul_add _ hbd]
  by_cases h : i < 8
  · rw [if_pos h, if_pos h, if_pos h, Nat.testBit_and]
  · rw [if_neg h, if_neg h, if_neg h, Nat.testBit_and]
def bq1 (x : Nat) : Nat := x - (x / 2 &&& 85)
def bq2 (x : Nat) : Nat := (bq1 x &&& 51) + (bq1 x / 4 &&& 51)
def bq3 (x : Nat) : Nat := (bq2 x + bq2 x / 16) &&& 15
theorem bqa : ∀ l : Fin 256, ∀ p : Fin 2, ((128 * p.val + l.val / 2) &&& 85) = (l.val / 2 &&& 85) := by decide +kernel
theorem bqb : ∀ h : Fin 256, (h.val / 2 &&& 5592405) = (h.val / 2 &&& 85) ∧ (h.val / 2 &&& 85) ≤ h.val ∧ bq1 h.val < 256 := by decide +kernel
theorem bqc : ∀ l : Fin 256, ∀ p : Fin 4, ((64 * p.val + l.val / 4) &&& 51) = (l.val / 4 &&& 51) := by decide +kernel
theorem bqd : ∀ h : Fin 256, (h.val &&& 3355443) = (h.val &&& 51) ∧ (h.val / 4 &&& 3355443) = (h.val / 4 &&& 51) ∧ bq2 h.val ≤ 68 ∧ bq2 h.val % 16 ≤ 4 := by decide +kernel
theorem bqe : ∀ h : Fin 256, bq3 h.val = nsum 8 (fun i => if h.val.testBit i = true then 1 else 0) ∧ bq3 h.val ≤ 8 ∧ ((bq2 h.val + bq2 h.val / 16) &&& 986895) = bq3 h.val := by decide +kernel
theorem bq_1 {h l : Nat} (hh : h < 256) (hl : l < 256) : bc1 (256 * h + l) = 256 * bq1 h + bq1 l := by
  have e1 : (256 * h + l) / 2 ^ 1 = 256 * (h / 2) + (128 * (h % 2) + l / 2) := by omega
  have a1 := bqa ⟨l, hl⟩ ⟨h % 2, by omega⟩
  have a2 := bqb ⟨h, hh⟩
  have a3 := bqb ⟨l, hl⟩
  dsimp only at a1 a2 a3
  have e2 : ((256 * h + l) / 2 ^ 1 &&& 1431655765) = 256 * (h / 2 &&& 85) + (l / 2 &&& 85) := by
    rw [e1, show (1431655765 : Nat) = 256 * 5592405 + 85 from rfl, bq_spl (by omega) (by decide), a1, a2.1]
  show (256 * h + l) - ((256 * h + l) / 2 ^ 1 &&& 1431655765) = 256 * (h - (h / 2 &&& 85)) + (l - (l / 2 &&& 85))
  rw [e2]
  omega
theorem bq_2 {h l : Nat} (hh : h < 256) (hl : l < 256) : bc2 (256 * h + l) = 256 * bq2 h + bq2 l := by
  have a2 := (bqb ⟨h, hh⟩).2.2
  have a3 := (bqb ⟨l, hl⟩).2.2
  have a4 := bqd ⟨bq1 h, a2⟩
  have a5 := bqc ⟨bq1 l, a3⟩ ⟨bq1 h % 4, by omega⟩
  dsimp only at a2 a3 a4 a5
  show (bc1 (256 * h + l) &&& 858993459) + (bc1 (256 * h + l) / 2 ^ 2 &&& 858993459) = 256 * ((bq1 h &&& 51) + (bq1 h / 4 &&& 51)) + ((bq1 l &&& 51) + (bq1 l / 4 &&& 51))
  rw [bq_1 hh hl, show (256 * bq1 h + bq1 l) / 2 ^ 2 = 256 * (bq1 h / 4) + (64 * (bq1 h % 4) + bq1 l / 4) by omega, show (858993459 : Nat) = 256 * 3355443 + 51 from rfl,
    bq_spl a3 (by decide), bq_spl (by omega) (by decide), a4.1, a4.2.1, a5]
  omega
theorem bq15 (x : Nat) : x &&& 15 = x % 16 := Nat.and_two_pow_sub_one_eq_mod x 4
theorem bq63 (x : Nat) : x &&& 63 = x % 64 := Nat.and_two_pow_sub_one_eq_mod x 6
theorem bq_3 {h l : Nat} (hh : h < 256) (hl : l < 256) : bc3 (256 * h + l) = 256 * bq3 h + bq3 l := by
  have a2 := (bqd ⟨h, hh⟩).2.2.1
  have a7 := (bqd ⟨h, hh⟩).2.2.2
  have a3 := (bqd ⟨l, hl⟩).2.2.1
  have a6 := (bqe ⟨h, hh⟩).2.2
  dsimp only at a2 a3 a6 a7
  show (bc2 (256 * h + l) + bc2 (256 * h + l) / 2 ^ 4) &&& 252645135 = 256 * bq3 h + ((bq2 l + bq2 l / 16) &&& 15)
  rw [bq_2 hh hl, show (256 * bq2 h + bq2 l) + (256 * bq2 h + bq2 l) / 2 ^ 4 = 256 * (bq2 h + bq2 h / 16) + (16 * (bq2 h % 16) + bq2 l / 16 + bq2 l) by omega, show (252645135 : Nat) = 256 * 986895 + 15 from rfl,
    bq_spl (by omega) (by decide), a6, bq15, bq15]
  omega
theorem bq_tb {h l : Nat} (hl : l < 256) : tbN (256 * h + l) = nsum 8 (fun i => if h.testBit i = true then 1 else 0) + nsum 8 (fun i => if l.testBit i = true then 1 else 0) := by
  have e : ∀ i, (256 * h + l).testBit i = if i < 8 then l.testBit i else h.testBit (i - 8) := fun i => Nat.testBit_two_pow_mul_add (i := 8) h hl i
  simp only [tbN, nsum, e]
  simp
  omega
theorem bc6_tb {m : Nat} (hm : m < 65536) : bc6 m = tbN m := by
  have e : m = 256 * (m / 256) + m % 256 := by omega
  generalize hh0 : m / 256 = h at e
  generalize hl0 : m % 256 = l at e
  have hh : h < 256 := by omega
  have hl : l < 256 := by omega
  have a1 := bqe ⟨h, hh⟩
  have a2 := bqe ⟨l, hl⟩
  dsimp only at a1 a2
  have e3 := bq_3 hh hl
  rw [e, bq_tb hl, ← a1.1, ← a2.1]
  show (bc5 _ &&& 63) = _
  rw [bq63]
  show (bc4 _ + bc4 _ / 2 ^ 16) % 64 = _
  rw [show bc4 (256 * h + l) = bc3 (256 * h + l) + bc3 (256 * h + l) / 2 ^ 8 from rfl, e3]
  have b1' := a1.2.1
  have b2' := a2.2.1
  clear a1 a2 e3
  generalize bq3 h = c at b1' ⊢
  generalize bq3 l = d at b2' ⊢
  rw [show (256 * c + d) / 2 ^ 8 = c by omega, show (256 * c + d + c) / 2 ^ 16 = 0 by omega]
  omega
set_option maxHeartbeats 4000000 in
set_option maxRecDepth 100000 in
theorem c_J6_bitCount_0f7a4 {κ : Kp} (hI : Ij κ) (l : Launch) (σ : St) {m : Nat} {zm : Int} (hm : zm = (m : Int)) (hm16 : m < 65536) : CtI κ l 0 yJ6_bitCount_0f7a4 cJ6_bitCount_0f7a4 1 .int [.int (iZ zm)] σ (fun z σ' => z = (tbN m : Int) ∧ σ' = σ) := by
  refine Ct.ofG (own := RJ6) hI (by decide +kernel) rfl (Nat.le_of_ble_eq_true rfl) rfl ?_
  intro M C hMl
  have g1 := bc1_le m
  have g2 := bc2_le m
  have g3 := bc3_le m
  have g5 := bc5_le m
  have e1 : bc1 m = m - (m / 2 ^ 1 &&& 1431655765) := rfl
  have e2 : bc2 m = (bc1 m &&& 858993459) + (bc1 m / 2 ^ 2 &&& 858993459) := rfl
  have e4 : bc4 m = bc3 m + bc3 m / 2 ^ 8 := rfl
  have e5 : bc5 m = bc4 m + bc4 m / 2 ^ 16 := rfl
  have k1 := Nat.div_le_self m (2 ^ 1)
  have k2 := Nat.div_le_self (bc1 m) (2 ^ 2)
  have k3 := Nat.div_le_self (bc2 m) (2 ^ 4)
  refine g_iload_n C dJ6_bitCount_0f7a4_0 rfl ?_
  refine g_iload_n C dJ6_bitCount_0f7a4_1 rfl ?_
  refine g_iconst (z := 1) C dJ6_bitCount_0f7a4_2 rfl ?_
  refine g_iushr C dJ6_bitCount_0f7a4_3 ?_
  refine g_raw (ush_z (n := m) (k := 1) hm rfl (by omega) (by decide)) ?_
  refine g_ldcw (z := 1431655765) C dJ6_bitCount_0f7a4_4 wq_bc265 ?_
  refine g_iand C dJ6_bitCount_0f7a4_7 ?_
  refine g_raw (and_z (a := m / 2 ^ 1) (b := 1431655765) rfl rfl (by omega) (by decide)) ?_
  refine g_isub C dJ6_bitCount_0f7a4_8 ?_
  refine g_pc (pc' := 9) rfl ?_
  refine g_istore_n (L' := [(0, .int (iZ (zm - (((m / 2 ^ 1 &&& 1431655765) : Nat) : Int))))]) C dJ6_bitCount_0f7a4_9 rfl (by decide) rfl ?_
  refine g_iload_n C dJ6_bitCount_0f7a4_10 rfl ?_
  refine g_ldcw (z := 858993459) C dJ6_bitCount_0f7a4_11 wq_bc266 ?_
  refine g_iand C dJ6_bitCount_0f7a4_14 ?_
  refine g_raw (and_z (a := bc1 m) (b := 858993459) (by omega) rfl (by omega) (by decide)) ?_
  refine g_iload_n C dJ6_bitCount_0f7a4_15 rfl ?_
  refine g_iconst (z := 2) C dJ6_bitCount_0f7a4_16 rfl ?_
  refine g_iushr C dJ6_bitCount_0f7a4_17 ?_
  refine g_raw (ush_z (n := bc1 m) (k := 2) (by omega) rfl (by omega) (by decide)) ?_
  refine g_ldcw (z := 858993459) C dJ6_bitCount_0f7a4_18 wq_bc266 ?_
  refine g_pc (pc' := 21) rfl ?_
  refine g_iand C dJ6_bitCount_0f7a4_21 ?_
  refine g_raw (and_z (a := bc1 m / 2 ^ 2) (b := 858993459) rfl rfl (by omega) (by decide)) ?_
  refine g_iadd C dJ6_bitCount_0f7a4_22 ?_
  refine g_istore_n (L' := [(0, .int (iZ ((((bc1 m &&& 858993459) : Nat) : Int) + (((bc1 m / 2 ^ 2 &&& 858993459) : Nat) : Int))))]) C dJ6_bitCount_0f7a4_23 rfl (by decide) rfl ?_
  refine g_iload_n C dJ6_bitCount_0f7a4_24 rfl ?_
  refine g_iload_n C dJ6_bitCount_0f7a4_25 rfl ?_
  refine g_iconst (z := 4) C dJ6_bitCount_0f7a4_26 rfl ?_
  refine g_iushr C dJ6_bitCount_0f7a4_27 ?_
  refine g_raw (ush_z (n := bc2 m) (k := 4) (by omega) rfl (by omega) (by decide)) ?_
  refine g_iadd C dJ6_bitCount_0f7a4_28 ?_
  refine g_pc (pc' := 29) rfl ?_
  refine g_ldcw (z := 252645135) C dJ6_bitCount_0f7a4_29 wq_bc267 ?_
  refine g_iand C dJ6_bitCount_0f7a4_32 ?_
  refine g_raw (and_z (a := bc2 m + bc2 m / 2 ^ 4) (b := 252645135) (by omega) rfl (by omega) (by decide)) ?_
  refine g_istore_n (L' := [(0, .int (iZ ((bc3 m : Nat) : Int)))]) C dJ6_bitCount_0f7a4_33 rfl (by decide) rfl ?_
  refine g_iload_n C dJ6_bitCount_0f7a4_34 rfl ?_
  refine g_iload_n C dJ6_bitCount_0f7a4_35 rfl ?_
  refine g_bipush (z := 8) C dJ6_bitCount_0f7a4_36 rfl ?_
  refine g_iushr C dJ6_bitCount_0f7a4_38 ?_
  refine g_raw (ush_z (n := bc3 m) (k := 8) rfl rfl (by omega) (by decide)) ?_
  refine g_iadd C dJ6_bitCount_0f7a4_39 ?_
  refine g_pc (pc' := 40) rfl ?_
  refine g_istore_n (L' := [(0, .int (iZ (((bc3 m : Nat) : Int) + ((bc3 m / 2 ^ 8 : Nat) : Int))))]) C dJ6_bitCount_0f7a4_40 rfl (by decide) rfl ?_
  refine g_iload_n C dJ6_bitCount_0f7a4_41 rfl ?_
  refine g_iload_n C dJ6_bitCount_0f7a4_42 rfl ?_
  refine g_bipush (z := 16) C dJ6_bitCount_0f7a4_43 rfl ?_
  refine g_iushr C dJ6_bitCount_0f7a4_45 ?_
  refine g_raw (ush_z (n := bc4 m) (k := 16) (by omega) rfl (by omega) (by decide)) ?_
  refine g_iadd C dJ6_bitCount_0f7a4_46 ?_
  refine g_istore_n (L' := [(0, .int (iZ ((((bc3 m : Nat) : Int) + ((bc3 m / 2 ^ 8 : Nat) : Int)) + ((bc4 m / 2 ^ 16 : Nat) : Int))))]) C dJ6_bitCount_0f7a4_47 rfl (by decide) rfl ?_
  refine g_iload_n C dJ6_bitCount_0f7a4_48 rfl ?_
  refine g_pc (pc' := 49) rfl ?_
  refine g_bipush (z := 63) C dJ6_bitCount_0f7a4_49 rfl ?_
  refine g_iand C dJ6_bitCount_0f7a4_51 ?_
  refine g_raw (and_z (a := bc5 m) (b := 63) (by omega) rfl (by omega) (by decide)) ?_
  exact g_ireturn C dJ6_bitCount_0f7a4_52 ⟨congrArg (fun n : Nat => (n : Int)) (bc6_tb hm16), rfl⟩

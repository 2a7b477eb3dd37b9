/-- the tables' words that a call keeps -/
def lw_g : List Cond := lw_tbl.filter goodWord
/-! THE LAYER: ints told as whole numbers; one world of cells, by numbers; the rows of the kit said of it -/
def iZ (z : Int) : Int32 := Int32.ofInt z
abbrev R32 (z : Int) : Prop := -2147483648 ≤ z ∧ z < 2147483648
theorem iZ_add (a b : Int) : iZ a + iZ b = iZ (a + b) := (Int32.ofInt_add a b).symm
theorem iZ_sub (a b : Int) : iZ a - iZ b = iZ (a - b) := (Int32.ofInt_sub a b).symm
theorem iZ_mul (a b : Int) : iZ a * iZ b = iZ (a * b) := (Int32.ofInt_mul a b).symm
theorem iZ_neg (a : Int) : - iZ a = iZ (-a) := (Int32.ofInt_neg a).symm
theorem iZ_toInt {z : Int} (h : R32 z) : (iZ z).toInt = z := Int32.toInt_ofInt_of_le (by have := h.1; omega) (by have := h.2; omega)
theorem iZ_of (x : Int32) : x = iZ x.toInt := (Int32.ofInt_toInt x).symm
theorem R32_of (x : Int32) : R32 x.toInt := by
  have h1 := Int32.le_toInt x
  have h2 := Int32.toInt_lt x
  constructor <;> omega
theorem iZ_eq {a b : Int} (ha : R32 a) (hb : R32 b) : iZ a = iZ b ↔ a = b := by rw [← Int32.toInt_inj, iZ_toInt ha, iZ_toInt hb]
theorem iZ_lt {a b : Int} (ha : R32 a) (hb : R32 b) : iZ a < iZ b ↔ a < b := by rw [Int32.lt_iff_toInt_lt, iZ_toInt ha, iZ_toInt hb]
theorem iZ_le {a b : Int} (ha : R32 a) (hb : R32 b) : iZ a ≤ iZ b ↔ a ≤ b := by rw [Int32.le_iff_toInt_le, iZ_toInt ha, iZ_toInt hb]
theorem iZ_0 : (0 : Int32) = iZ 0 := rfl
theorem iZ_cmp {a b : Int} (ha : R32 a) (hb : R32 b) : (iZ a = iZ b ↔ a = b) ∧ (iZ a < iZ b ↔ a < b) ∧ (iZ b < iZ a ↔ b < a) ∧ (iZ a ≤ iZ b ↔ a ≤ b) ∧ (iZ b ≤ iZ a ↔ b ≤ a) := ⟨iZ_eq ha hb, iZ_lt ha hb, iZ_lt hb ha, iZ_le ha hb, iZ_le hb ha⟩
theorem iZ_cmp0 {a : Int} (ha : R32 a) : (iZ a = 0 ↔ a = 0) ∧ (iZ a < 0 ↔ a < 0) ∧ (0 < iZ a ↔ 0 < a) ∧ (iZ a ≤ 0 ↔ a ≤ 0) ∧ (0 ≤ iZ a ↔ 0 ≤ a) := iZ_cmp ha (b := 0) ⟨by omega, by omega⟩
theorem iZ_clamp {n : Nat} (h : n < 2147483648) : (iZ (n : Int)).toNatClampNeg = n := by
  show (iZ (n : Int)).toInt.toNat = n
  rw [iZ_toInt ⟨by omega, by omega⟩]
  rfl
theorem iZ_in {z : Int} {n N : Nat} (h : z = (n : Int)) (hn : n < N) (hN : N < 2147483648) : vp_in (iZ z) N := by
  subst h
  rw [vp_in_iff, iZ_toInt ⟨by omega, by omega⟩]
  omega
theorem iZ_ne0 {a b : Int} (h : 0 ≤ a ∧ a < 2147483648 ∧ 0 < b ∧ b < 2147483648) : ¬ iZ b = 0 := by
  rw [(iZ_cmp0 ⟨by omega, by omega⟩).1]; omega
theorem iZ_div {a b : Int} (h : 0 ≤ a ∧ a < 2147483648 ∧ 0 < b ∧ b < 2147483648) : iZ a / iZ b = iZ (a / b) := by
  obtain ⟨h1, h2, h3, h4⟩ := h
  obtain ⟨m, rfl⟩ := Int.eq_ofNat_of_zero_le h1
  obtain ⟨n, rfl⟩ := Int.eq_ofNat_of_zero_le (by omega : 0 ≤ b)
  exact pk_div (by omega) (by omega) (by omega)
theorem iZ_rem {a b : Int} (h : 0 ≤ a ∧ a < 2147483648 ∧ 0 < b ∧ b < 2147483648) : iZ a - iZ a / iZ b * iZ b = iZ (a % b) := by
  obtain ⟨h1, h2, h3, h4⟩ := h
  obtain ⟨m, rfl⟩ := Int.eq_ofNat_of_zero_le h1
  obtain ⟨n, rfl⟩ := Int.eq_ofNat_of_zero_le (by omega : 0 ≤ b)
  exact pk_rem (by omega) (by omega) (by omega)
def bZ (P : Prop) [Decidable P] : Int := if P then 1 else 0
theorem bZ_R (P : Prop) [Decidable P] : R32 (bZ P) := by unfold bZ; split <;> constructor <;> omega
theorem bZ_01 (P : Prop) [Decidable P] : bZ P = 0 ∨ bZ P = 1 := by unfold bZ; split <;> simp
theorem bZ_t {P : Prop} [Decidable P] (h : P) : bZ P = 1 := if_pos h
theorem bZ_f {P : Prop} [Decidable P] (h : ¬ P) : bZ P = 0 := if_neg h
/-- the state of all cells: ints (as whole numbers), floats (their bits), longs -/
abbrev St : Type := (Nat → Nat → Int) × (Nat → Nat → UInt32) × (Nat → Nat → Int64)
def sI (σ : St) (k j : Nat) (v : Int) : St := (fun a b => if a = k ∧ b = j then v else σ.1 a b, σ.2)
def sF (σ : St) (k j : Nat) (v : UInt32) : St := (σ.1, fun a b => if a = k ∧ b = j then v else σ.2.1 a b, σ.2.2)
def sL (σ : St) (k j : Nat) (v : Int64) : St := (σ.1, σ.2.1, fun a b => if a = k ∧ b = j then v else σ.2.2 a b)
/-! the cells by their numbers: kind (0 to 10 a class of vwCl, 20 ints, 21 floats, 22 longs, 23 .. references, 99 no cell), length, layout of a class, target of a reference -/
def kdl : List Nat := [8, 23, 5, 20, 5, 20, 5, 20, 5, 20, 5, 20, 20, 20, 20, 20, 20, 8, 23, 5, 20, 5, 20, 5, 20, 5, 20, 5, 20, 20, 20, 20, 20, 20, 4, 22, 2, 4, 22, 2, 4, 22, 2, 4, 22, 2, 4, 22, 2, 4, 22, 2, 4, 22, 2, 4, 22, 2, 2, 2, 2, 2, 2, 2, 2, 2, 2, 2, 2, 2, 2, 2, 2, 2, 2, 2, 9, 25, 24, 20, 7, 0, 20, 20, 20, 20, 20, 21, 21, 3, 21, 20, 21, 20, 20, 20, 20, 20, 1, 20, 20, 20, 20, 6, 20, 10, 20, 20, 20, 20, 20, 20, 20, 20, 20, 20, 99, 99, 99, 20, 20, 20, 20, 20, 99, 21, 21, 20, 20, 20, 99, 99, 20, 20, 20, 20, 20, 20, 20, 20, 20, 99, 99, 20, 99, 99, 20, 20, 20, 20, 20, 22, 20, 20, 20, 20, 20, 99, 99, 99, 99, 20, 99, 99, 99]
def lnl : List Nat := [0, 5, 0, 48, 0, 48, 0, 48, 0, 48, 0, 48, 8, 8, 8, 8, 8, 0, 5, 0, 48, 0, 48, 0, 48, 0, 48, 0, 48, 8, 8, 8, 8, 8, 0, 160, 0, 0, 160, 0, 0, 160, 0, 0, 160, 0, 0, 160, 0, 0, 160, 0, 0, 160, 0, 0, 160, 0, 0, 0, 0, 0, 0, 0, 0, 0, 0, 0, 0, 0, 0, 0, 0, 0, 0, 0, 0, 8, 18, 8, 0, 0, 16, 8, 8, 8, 8, 5, 8, 0, 32, 512, 512, 512, 512, 512, 512, 18, 0, 5, 25, 400, 16, 0, 5, 0, 8, 5, 240, 5, 5, 8, 8, 8, 8, 8, 0, 0, 0, 16, 8, 8, 8, 8, 0, 32, 512, 512, 512, 512, 0, 0, 64, 64, 64, 64, 64, 64, 64, 64, 64, 0, 0, 5, 0, 0, 8, 8, 8, 8, 8, 1280, 80, 80, 80, 80, 5, 0, 0, 0, 0, 310, 0, 0, 0]
def lyl : List (List Nat) := [[1, 0, 1, 1, 1, 1, 0], [1, 1, 0, 1, 1, 1], [0, 0, 0, 0, 0, 0, 0], [1, 1, 1, 1, 1, 1, 1, 1, 1, 1], [0, 0, 0, 1, 1], [1, 0, 0, 0], [1, 1, 0, 0, 0, 0, 0], [1, 1, 1, 1], [1, 1, 1, 1, 0, 1, 1, 0, 0], [1, 1, 0, 1, 1, 1, 1, 1, 1, 0, 0, 1], [1, 1, 1, 1, 1, 1, 1, 1, 1, 1, 0, 0, 0, 1, 1, 1, 1, 1, 0, 1, 1, 1, 1, 1, 0, 0, 1, 1, 1, 1, 1, 1, 1, 1, 1, 0, 0, 1, 0, 2, 1, 1, 1, 1, 1, 1, 1, 1, 1, 1, 1, 0, 0, 0, 0, 1, 0, 0, 0]]
def rfl0 : List (List Nat) := [[82, 0, 83, 84, 85, 86, 0], [0, 99, 0, 100, 101, 102], [], [0, 80, 90, 91, 92, 93, 94, 95, 96, 97], [], [], [0, 104, 0, 0, 0, 0, 0], [0, 81, 87, 88], [], [0, 17, 0, 80, 89, 98, 103, 77, 78, 0, 0, 79]]

def kd (k : Nat) : Nat := kdl.getD k 99
def len (k : Nat) : Nat := lnl.getD k 0
def lay (c : Nat) : List Nat := lyl.getD c []
def rf (k j : Nat) : Nat :=
  if kd k = 5 then k + 1
  else if kd k = 4 then k + (j - 2)
  else if kd k = 8 then (if j = 0 then k + 1 else if j ≤ 3 then k + 11 + j else k + 10 + j)
  else if kd k = 23 then k + 1 + 2 * j
  else if kd k = 24 then 58 + j
  else if kd k = 25 then 34 + 3 * j
  else if kd k = 10 then 106 + j
  else (rfl0.getD (kd k) []).getD j 0
def cns : List Nat := (List.range 165).filter (fun k => kd k != 99)
abbrev Kp : Type := va_G × (Nat → Nat) × (Nat → ClassId)
def fld (κ : Kp) (σ : St) (k j b : Nat) : Value := if b = 0 then .int (iZ (σ.1 k j)) else if b = 1 then .ref (κ.2.1 (rf k j)) else .long (σ.2.2 k j)
def cel (κ : Kp) (σ : St) (k : Nat) : va_E :=
  if kd k = 20 then .inl (κ.2.2 0, len k, .inl (fun j => iZ (σ.1 k j)))
  else if kd k = 21 then .inl (κ.2.2 1, len k, .inr (.inr (.inl (fun j => σ.2.1 k j))))
  else if kd k = 22 then .inl (κ.2.2 2, len k, .inr (.inl (fun j => σ.2.2 k j)))
  else if kd k < 20 then .inr (kd k, (lay (kd k)).mapIdx (fun j b => fld κ σ k j b))
  else .inl (κ.2.2 (kd k - 20), len k, .inr (.inr (.inr (.inr (fun j => some (κ.2.1 (rf k j)))))))
def wld (κ : Kp) (σ : St) : va_W := cns.map (fun k => (κ.2.1 k, cel κ σ k))
def tyk (κ : Kp) : List (ClassId × FieldType) := [(κ.2.2 0, .int), (κ.2.2 1, .float), (κ.2.2 2, .long), (κ.2.2 3, .object RX5), (κ.2.2 4, .object RX2), (κ.2.2 5, .object RX4)]
def Ak (κ : Kp) : Nat → Prop := fun q => ∃ k, k ∈ cns ∧ q = κ.2.1 k
def Ij (κ : Kp) : Prop := ∀ i j, i ∈ cns → j ∈ cns → κ.2.1 i = κ.2.1 j → i = j
theorem kd_big {k : Nat} (h : 165 ≤ k) : kd k = 99 := by
  unfold kd
  rw [List.getD_eq_getElem?_getD, List.getElem?_eq_none (by show 165 ≤ k; exact h)]
  rfl
theorem cns_mem {k : Nat} (h : kd k ≠ 99) : k ∈ cns := by
  refine List.mem_filter.mpr ⟨List.mem_range.mpr ?_, by simpa using h⟩
  rcases Nat.lt_or_ge k 165 with q | q
  · exact q
  · exact absurd (kd_big q) h
theorem cns_nd : va_nd cns = true := by decide +kernel
theorem wld_at (κ : Kp) (σ : St) {k : Nat} (h : kd k ≠ 99) : ∃ q : Nat, cns[q]? = some k ∧ (wld κ σ)[q]? = some (κ.2.1 k, cel κ σ k) := by
  obtain ⟨q, hq⟩ : ∃ q : Nat, cns[q]? = some k := List.getElem?_of_mem (cns_mem h)
  exact ⟨q, hq, by unfold wld; rw [List.getElem?_map, hq]; rfl⟩
theorem wld_set {κ : Kp} {q k : Nat} {σ σ' : St} (hq : cns[q]? = some k) (h : ∀ k', k' ≠ k → cel κ σ' k' = cel κ σ k') : (wld κ σ).set q (κ.2.1 k, cel κ σ' k) = wld κ σ' := by
  have hl : q < (wld κ σ).length := by
    unfold wld; rw [List.length_map]; exact (List.getElem?_eq_some_iff.mp hq).1
  apply List.ext_getElem?
  intro i
  by_cases hi : i = q
  · subst hi
    rw [List.getElem?_set_self hl]
    unfold wld
    rw [List.getElem?_map, hq]
    rfl
  · rw [List.getElem?_set_ne (Ne.symm hi)]
    unfold wld
    rw [List.getElem?_map, List.getElem?_map]
    cases hc : cns[i]? with
    | none => rfl
    | some k' =>
      have hk : k' ≠ k := fun e => hi (va_nd_inj cns cns_nd i q k (e ▸ hc) hq)
      simp only [Option.map_some, h k' hk]
theorem wld_D {κ : Kp} (hI : Ij κ) (σ : St) : va_D (Ak κ) (wld κ σ) := by
  have key : ∀ (i : Nat) (x : Nat × va_E), (wld κ σ)[i]? = some x → ∃ k, cns[i]? = some k ∧ x.1 = κ.2.1 k := by
    intro i x hx
    unfold wld at hx
    rw [List.getElem?_map] at hx
    cases hc : cns[i]? with
    | none => rw [hc] at hx; cases hx
    | some k => rw [hc] at hx; cases hx; exact ⟨k, rfl, rfl⟩
  refine ⟨fun i j x y hi hj hxy => ?_, fun i x hi => ?_⟩
  · obtain ⟨a, h1, h2⟩ := key i x hi
    obtain ⟨b, h3, h4⟩ := key j y hj
    have hab := hI a b (List.mem_of_getElem? h1) (List.mem_of_getElem? h3) (h2.symm.trans (hxy.trans h4))
    subst hab
    exact va_nd_inj cns cns_nd i j a h1 h3
  · obtain ⟨a, h1, h2⟩ := key i x hi
    exact ⟨a, List.mem_of_getElem? h1, h2⟩
theorem cel_neI {κ : Kp} {σ : St} {k j : Nat} {v : Int} {k' : Nat} (h : k' ≠ k) : cel κ (sI σ k j v) k' = cel κ σ k' := by simp [cel, fld, sI, h]
theorem cel_neF {κ : Kp} {σ : St} {k j : Nat} {v : UInt32} {k' : Nat} (h : k' ≠ k) : cel κ (sF σ k j v) k' = cel κ σ k' := by simp [cel, fld, sF, h]
theorem cel_neL {κ : Kp} {σ : St} {k j : Nat} {v : Int64} {k' : Nat} (h : k' ≠ k) : cel κ (sL σ k j v) k' = cel κ σ k' := by simp [cel, fld, sL, h]
theorem cel_o {κ : Kp} {σ : St} {k c : Nat} (hk : kd k = c) (hc : c < 20) : cel κ σ k = .inr (c, (lay c).mapIdx (fun j b => fld κ σ k j b)) := by
  subst hk
  unfold cel
  rw [if_neg (by omega), if_neg (by omega), if_neg (by omega), if_pos hc]
theorem cel_i {κ : Kp} {σ : St} {k : Nat} (hk : kd k = 20) : cel κ σ k = .inl (κ.2.2 0, len k, .inl (fun j => iZ (σ.1 k j))) := by unfold cel; rw [if_pos hk]
theorem cel_f {κ : Kp} {σ : St} {k : Nat} (hk : kd k = 21) : cel κ σ k = .inl (κ.2.2 1, len k, .inr (.inr (.inl (fun j => σ.2.1 k j)))) := by unfold cel; rw [if_neg (by omega), if_pos hk]
theorem cel_l {κ : Kp} {σ : St} {k : Nat} (hk : kd k = 22) : cel κ σ k = .inl (κ.2.2 2, len k, .inr (.inl (fun j => σ.2.2 k j))) := by unfold cel; rw [if_neg (by omega), if_neg (by omega), if_pos hk]
theorem cel_r {κ : Kp} {σ : St} {k c : Nat} (hk : kd k = c) (hc : 22 < c) : cel κ σ k = .inl (κ.2.2 (c - 20), len k, .inr (.inr (.inr (.inr (fun j => some (κ.2.1 (rf k j))))))) := by
  subst hk
  unfold cel
  rw [if_neg (by omega), if_neg (by omega), if_neg (by omega), if_neg (by omega)]
/-! contexts, goals, contracts -/
abbrev MC : Type := Program × Launch × Env × Room × State × MethodId × Array Value × List Frame × Method × Code
abbrev Mp (M : MC) : Program := M.1
abbrev Ml (M : MC) : Launch := M.2.1
abbrev Me (M : MC) : Env := M.2.2.1
abbrev MR (M : MC) : Room := M.2.2.2.1
abbrev Ms (M : MC) : State := M.2.2.2.2.1
abbrev Mm (M : MC) : MethodId := M.2.2.2.2.2.1
abbrev Ma (M : MC) : Array Value := M.2.2.2.2.2.2.1
abbrev Mb (M : MC) : List Frame := M.2.2.2.2.2.2.2.1
abbrev Mt (M : MC) : Method := M.2.2.2.2.2.2.2.2.1
abbrev Mc (M : MC) : Code := M.2.2.2.2.2.2.2.2.2
/-- links to the outer class's private methods: of the tables, kept by every warming -/
def nst : List Cond := [.methodLinkNest RX2 33 yX9_leastOf RX9, .methodLinkNest RX8 44 yX9_isWithin RX9, .methodLinkNest RX3 55 yX9_cellOf RX9, .methodLinkNest RX3 68 yX9_leastOf RX9, .methodLinkNest RX3 107 yX9_isWithin RX9, .methodLinkNest RX3 114 yX9_costOfSorting RX9, .methodLinkNest RX3 143 yX9_bitsOf RX9]
def NK (U : State) : Prop := ∀ w ∈ nst, va_Nw w U
theorem nst_shape {w : Cond} (h : w ∈ nst) : ∃ a i x g, w = .methodLinkNest a i x g := by
  unfold nst at h
  simp only [List.mem_cons, List.not_mem_nil, or_false] at h
  rcases h with rfl | rfl | rfl | rfl | rfl | rfl | rfl <;> exact ⟨_, _, _, _, rfl⟩
theorem NK.warm {s U : State} (h : NK s) (hW : s.WarmedH U.vm) : NK U := by
  intro w hw
  obtain ⟨a, i, x, g, rfl⟩ := nst_shape hw
  exact va_Nw.warmM hW (h _ hw)
theorem NK.vm {s U : State} (h : NK s) (hv : s.vm = U.vm) : NK U := by
  intro w hw
  obtain ⟨a, i, x, g, rfl⟩ := nst_shape hw
  exact va_tabs rfl hv (h _ hw)
def rmd (d : Nat) : Room := { frames := d, cells := 0, slots := 0, locals := 64 * d }
def Cx (M : MC) (κ : Kp) (own : String) (cc : ByteArray) (nL : Nat) (ret : Option FieldType) (d : Nat) : Prop :=
  (Mp M).tables.exec = Jvm.exec ∧ (Mc M).code = cc ∧ (Mc M).maxLocals = nL ∧ (Mt M).sig.returnType = ret ∧ (Ms M).vm.findClass own = some (Mm M).cls ∧ (∀ w ∈ lw_g, w.before (Ma M) (Ms M) = true) ∧ (Mt M).locks = false ∧ MR M = rmd d ∧ va_K κ.1 vwCl (tyk κ) (Ms M) ∧ Ij κ ∧ NK (Ms M)
section CX
variable {M : MC} {κ : Kp} {own : String} {cc : ByteArray} {nL : Nat} {ret : Option FieldType} {d : Nat}
theorem Cx.ow (C : Cx M κ own cc nL ret d) : (Ms M).vm.findClass own = some (Mm M).cls := C.2.2.2.2.1
theorem Cx.hts (C : Cx M κ own cc nL ret d) : ∀ w ∈ lw_g, w.before (Ma M) (Ms M) = true := C.2.2.2.2.2.1
theorem Cx.w (C : Cx M κ own cc nL ret d) {w : Cond} (h : w ∈ lw_g) : w.before (Ma M) (Ms M) = true := C.2.2.2.2.2.1 w h
theorem Cx.locks (C : Cx M κ own cc nL ret d) : (Mt M).locks = false := C.2.2.2.2.2.2.1
theorem Cx.room (C : Cx M κ own cc nL ret d) : MR M = rmd d := C.2.2.2.2.2.2.2.1
theorem Cx.K (C : Cx M κ own cc nL ret d) : va_K κ.1 vwCl (tyk κ) (Ms M) := C.2.2.2.2.2.2.2.2.1
theorem Cx.I (C : Cx M κ own cc nL ret d) : Ij κ := C.2.2.2.2.2.2.2.2.2.1
theorem Cx.N (C : Cx M κ own cc nL ret d) : NK (Ms M) := C.2.2.2.2.2.2.2.2.2.2
end CX
def G (M : MC) (κ : Kp) (nL : Nat) (Q : State → Prop) (pc : Nat) (L : List (Nat × Value)) (st : List Value) (σ : St) : Prop :=
  ∀ (H : Heap) (locs : List Loc) (ls : Array Slot), va_P κ.1 vwCl (wld κ σ) H → va_S (Ak κ) (Ms M).heap H locs → lv_has ls nL L → W (Mp M) (Ml M) (Me M) (MR M) (Ms M) (Mm M) (Ma M) (Mb M) (Mt M) (Mc M) H locs 0 0 Q (F0 (Mm M) pc ls st)
def Wd (κ : Kp) (σ : St) (U : State) : Prop := va_P κ.1 vwCl (wld κ σ) U.heap ∧ va_K κ.1 vwCl (tyk κ) U ∧ NK U
def wsm (y : MethodName) (cc : ByteArray) (mL : Nat) (ret : Option FieldType) : List Cond := .code y cc mL ret :: lw_g
def lk : List (Nat × Value) → Nat → Option Value
  | [], _ => none
  | (i, v) :: l, k => if i = k then some v else lk l k
theorem lk_mem : ∀ {l : List (Nat × Value)} {k : Nat} {v : Value}, lk l k = some v → (k, v) ∈ l
  | [], _, _, h => by cases h
  | (i, w) :: l, k, v, h => by
    unfold lk at h
    by_cases e : i = k
    · rw [if_pos e] at h
      cases h
      subst e
      exact List.mem_cons_self
    · rw [if_neg e] at h
      exact List.mem_cons_of_mem _ (lk_mem h)
theorem lk_at {ls : Array Slot} {nL : Nat} {L : List (Nat × Value)} (h : lv_has ls nL L) {k : Nat} {v : Value} (hk : lk L k = some v) : ls[k]? = some (.val v) := h.2.2 (k, v) (lk_mem hk)
def lq1 (L : List (Nat × Value)) (i : Nat) (v : Value) : List (Nat × Value) := (i, v) :: L.filter (fun q => !(q.1 == i) && !(q.1 + 1 == i && q.2.category == 2))
def lq2 (L : List (Nat × Value)) (i : Nat) (v : Value) : List (Nat × Value) := (i, v) :: L.filter (fun q => !(q.1 == i) && (!(q.1 == i + 1) && !(q.1 + 1 == i && q.2.category == 2)))
section ROWS
variable {M : MC} {κ : Kp} {own : String} {cc : ByteArray} {nL : Nat} {ret : Option FieldType} {d : Nat} {Q : State → Prop} {pc : Nat} {L : List (Nat × Value)} {st : List Value} {σ : St}
theorem g_iconst (C : Cx M κ own cc nL ret d) {n : Int} {z : Int} (hd : decode cc pc = .ok (.iconst n, 1)) (h : Int32.ofInt n = iZ z)
    (k : G M κ nL Q (pc + 1) L (.int (iZ z) :: st) σ) : G M κ nL Q pc L (st) σ := by
  intro H locs ls hP hS hl
  exact lv_iconst C.1 C.2.1 hd h (k H locs ls hP hS hl)
theorem g_bipush (C : Cx M κ own cc nL ret d) {n : Int} {z : Int} (hd : decode cc pc = .ok (.bipush n, 2)) (h : (Int8.ofInt n).toInt32 = iZ z)
    (k : G M κ nL Q (pc + 2) L (.int (iZ z) :: st) σ) : G M κ nL Q pc L (st) σ := by
  intro H locs ls hP hS hl
  exact lv_bipush C.1 C.2.1 hd h (k H locs ls hP hS hl)
theorem g_sipush (C : Cx M κ own cc nL ret d) {n : Int} {z : Int} (hd : decode cc pc = .ok (.sipush n, 3)) (h : (Int16.ofInt n).toInt32 = iZ z)
    (k : G M κ nL Q (pc + 3) L (.int (iZ z) :: st) σ) : G M κ nL Q pc L (st) σ := by
  intro H locs ls hP hS hl
  exact lv_sipush C.1 C.2.1 hd h (k H locs ls hP hS hl)
theorem g_lconst0 (C : Cx M κ own cc nL ret d)  (hd : decode cc pc = .ok (.lconst 0, 1)) 
    (k : G M κ nL Q (pc + 1) L (.long 0 :: st) σ) : G M κ nL Q pc L (st) σ := by
  intro H locs ls hP hS hl
  exact lv_lconst C.1 C.2.1 hd rfl (k H locs ls hP hS hl)
theorem g_fconst0 (C : Cx M κ own cc nL ret d)  (hd : decode cc pc = .ok (.fconst 0, 1)) 
    (k : G M κ nL Q (pc + 1) L (.float FP.fconst0 :: st) σ) : G M κ nL Q pc L (st) σ := by
  intro H locs ls hP hS hl
  exact lv_fconst0 C.1 C.2.1 hd (k H locs ls hP hS hl)
theorem g_fconst1 (C : Cx M κ own cc nL ret d)  (hd : decode cc pc = .ok (.fconst 1, 1)) 
    (k : G M κ nL Q (pc + 1) L (.float FP.fconst1 :: st) σ) : G M κ nL Q pc L (st) σ := by
  intro H locs ls hP hS hl
  exact lv_fconst1 C.1 C.2.1 hd (k H locs ls hP hS hl)
theorem g_fconst2 (C : Cx M κ own cc nL ret d)  (hd : decode cc pc = .ok (.fconst 2, 1)) 
    (k : G M κ nL Q (pc + 1) L (.float FP.fconst2 :: st) σ) : G M κ nL Q pc L (st) σ := by
  intro H locs ls hP hS hl
  exact lv_fconst2 C.1 C.2.1 hd (k H locs ls hP hS hl)
theorem g_dconst1 (C : Cx M κ own cc nL ret d)  (hd : decode cc pc = .ok (.dconst 1, 1)) 
    (k : G M κ nL Q (pc + 1) L (.double FP.dconst1 :: st) σ) : G M κ nL Q pc L (st) σ := by
  intro H locs ls hP hS hl
  exact lv_dconst1 C.1 C.2.1 hd (k H locs ls hP hS hl)
theorem g_iload_n (C : Cx M κ own cc nL ret d) {i : Fin 4} {x : Int32} (hd : decode cc pc = .ok (.iload_n i, 1)) (h : lk L i = some (.int x))
    (k : G M κ nL Q (pc + 1) L (.int x :: st) σ) : G M κ nL Q pc L (st) σ := by
  intro H locs ls hP hS hl
  exact lv_iload_n C.1 C.2.1 hd rfl (lk_at hl h) (k H locs ls hP hS hl)
theorem g_iload (C : Cx M κ own cc nL ret d) {i : Nat} {x : Int32} (hd : decode cc pc = .ok (.iload i, 2)) (h : lk L i = some (.int x))
    (k : G M κ nL Q (pc + 2) L (.int x :: st) σ) : G M κ nL Q pc L (st) σ := by
  intro H locs ls hP hS hl
  exact lv_iload C.1 C.2.1 hd (lk_at hl h) (k H locs ls hP hS hl)
theorem g_lload_n (C : Cx M κ own cc nL ret d) {i : Fin 4} {x : Int64} (hd : decode cc pc = .ok (.lload_n i, 1)) (h : lk L i = some (.long x))
    (k : G M κ nL Q (pc + 1) L (.long x :: st) σ) : G M κ nL Q pc L (st) σ := by
  intro H locs ls hP hS hl
  exact lv_lload_n C.1 C.2.1 hd rfl (lk_at hl h) (k H locs ls hP hS hl)
theorem g_lload (C : Cx M κ own cc nL ret d) {i : Nat} {x : Int64} (hd : decode cc pc = .ok (.lload i, 2)) (h : lk L i = some (.long x))
    (k : G M κ nL Q (pc + 2) L (.long x :: st) σ) : G M κ nL Q pc L (st) σ := by
  intro H locs ls hP hS hl
  exact lv_lload C.1 C.2.1 hd (lk_at hl h) (k H locs ls hP hS hl)
theorem g_fload_n (C : Cx M κ own cc nL ret d) {i : Fin 4} {x : UInt32} (hd : decode cc pc = .ok (.fload_n i, 1)) (h : lk L i = some (.float x))
    (k : G M κ nL Q (pc + 1) L (.float x :: st) σ) : G M κ nL Q pc L (st) σ := by
  intro H locs ls hP hS hl
  exact lv_fload_n C.1 C.2.1 hd rfl (lk_at hl h) (k H locs ls hP hS hl)
theorem g_fload (C : Cx M κ own cc nL ret d) {i : Nat} {x : UInt32} (hd : decode cc pc = .ok (.fload i, 2)) (h : lk L i = some (.float x))
    (k : G M κ nL Q (pc + 2) L (.float x :: st) σ) : G M κ nL Q pc L (st) σ := by
  intro H locs ls hP hS hl
  exact lv_fload C.1 C.2.1 hd (lk_at hl h) (k H locs ls hP hS hl)
theorem g_dload_n (C : Cx M κ own cc nL ret d) {i : Fin 4} {x : UInt64} (hd : decode cc pc = .ok (.dload_n i, 1)) (h : lk L i = some (.double x))
    (k : G M κ nL Q (pc + 1) L (.double x :: st) σ) : G M κ nL Q pc L (st) σ := by
  intro H locs ls hP hS hl
  exact lv_dload_n C.1 C.2.1 hd rfl (lk_at hl h) (k H locs ls hP hS hl)
theorem g_dload (C : Cx M κ own cc nL ret d) {i : Nat} {x : UInt64} (hd : decode cc pc = .ok (.dload i, 2)) (h : lk L i = some (.double x))
    (k : G M κ nL Q (pc + 2) L (.double x :: st) σ) : G M κ nL Q pc L (st) σ := by
  intro H locs ls hP hS hl
  exact lv_dload C.1 C.2.1 hd (lk_at hl h) (k H locs ls hP hS hl)
theorem g_aload_n (C : Cx M κ own cc nL ret d) {i : Fin 4} {x : Nat} (hd : decode cc pc = .ok (.aload_n i, 1)) (h : lk L i = some (.ref x))
    (k : G M κ nL Q (pc + 1) L (.ref x :: st) σ) : G M κ nL Q pc L (st) σ := by
  intro H locs ls hP hS hl
  exact lv_aload_n C.1 C.2.1 hd rfl (lk_at hl h) (k H locs ls hP hS hl)
theorem g_aload (C : Cx M κ own cc nL ret d) {i : Nat} {x : Nat} (hd : decode cc pc = .ok (.aload i, 2)) (h : lk L i = some (.ref x))
    (k : G M κ nL Q (pc + 2) L (.ref x :: st) σ) : G M κ nL Q pc L (st) σ := by
  intro H locs ls hP hS hl
  exact lv_aload C.1 C.2.1 hd (lk_at hl h) (k H locs ls hP hS hl)
theorem g_istore_n (C : Cx M κ own cc nL ret d) {i0 : Fin 4} {i : Nat} {x : Int32} {L' : List (Nat × Value)} (hd : decode cc pc = .ok (.istore_n i0, 1)) (hi : (i0 : Nat) = i) (hn : i < nL) (hL : lq1 L i (.int x) = L')
    (k : G M κ nL Q (pc + 1) L' st σ) : G M κ nL Q pc L (.int x :: st) σ := by
  intro H locs ls hP hS hl
  exact lv_istore_n C.1 C.2.1 hd hi hl hn hL (fun ls' hl' => k H locs ls' hP hS hl')
theorem g_istore (C : Cx M κ own cc nL ret d) {i : Nat} {x : Int32} {L' : List (Nat × Value)} (hd : decode cc pc = .ok (.istore i, 2)) (hn : i < nL) (hL : lq1 L i (.int x) = L')
    (k : G M κ nL Q (pc + 2) L' st σ) : G M κ nL Q pc L (.int x :: st) σ := by
  intro H locs ls hP hS hl
  exact lv_istore C.1 C.2.1 hd hl hn hL (fun ls' hl' => k H locs ls' hP hS hl')
theorem g_fstore_n (C : Cx M κ own cc nL ret d) {i0 : Fin 4} {i : Nat} {x : UInt32} {L' : List (Nat × Value)} (hd : decode cc pc = .ok (.fstore_n i0, 1)) (hi : (i0 : Nat) = i) (hn : i < nL) (hL : lq1 L i (.float x) = L')
    (k : G M κ nL Q (pc + 1) L' st σ) : G M κ nL Q pc L (.float x :: st) σ := by
  intro H locs ls hP hS hl
  exact lv_fstore_n C.1 C.2.1 hd hi hl hn hL (fun ls' hl' => k H locs ls' hP hS hl')
theorem g_fstore (C : Cx M κ own cc nL ret d) {i : Nat} {x : UInt32} {L' : List (Nat × Value)} (hd : decode cc pc = .ok (.fstore i, 2)) (hn : i < nL) (hL : lq1 L i (.float x) = L')
    (k : G M κ nL Q (pc + 2) L' st σ) : G M κ nL Q pc L (.float x :: st) σ := by
  intro H locs ls hP hS hl
  exact lv_fstore C.1 C.2.1 hd hl hn hL (fun ls' hl' => k H locs ls' hP hS hl')
theorem g_astore_n (C : Cx M κ own cc nL ret d) {i0 : Fin 4} {i : Nat} {x : Nat} {L' : List (Nat × Value)} (hd : decode cc pc = .ok (.astore_n i0, 1)) (hi : (i0 : Nat) = i) (hn : i < nL) (hL : lq1 L i (.ref x) = L')
    (k : G M κ nL Q (pc + 1) L' st σ) : G M κ nL Q pc L (.ref x :: st) σ := by
  intro H locs ls hP hS hl
  exact lv_astore_n C.1 C.2.1 hd hi hl hn hL (fun ls' hl' => k H locs ls' hP hS hl')
theorem g_astore (C : Cx M κ own cc nL ret d) {i : Nat} {x : Nat} {L' : List (Nat × Value)} (hd : decode cc pc = .ok (.astore i, 2)) (hn : i < nL) (hL : lq1 L i (.ref x) = L')
    (k : G M κ nL Q (pc + 2) L' st σ) : G M κ nL Q pc L (.ref x :: st) σ := by
  intro H locs ls hP hS hl
  exact lv_astore C.1 C.2.1 hd hl hn hL (fun ls' hl' => k H locs ls' hP hS hl')
theorem g_lstore_n (C : Cx M κ own cc nL ret d) {i0 : Fin 4} {i : Nat} {x : Int64} {L' : List (Nat × Value)} (hd : decode cc pc = .ok (.lstore_n i0, 1)) (hi : (i0 : Nat) = i) (hn : i + 1 < nL) (hL : lq2 L i (.long x) = L')
    (k : G M κ nL Q (pc + 1) L' st σ) : G M κ nL Q pc L (.long x :: st) σ := by
  intro H locs ls hP hS hl
  exact lv_lstore_n C.1 C.2.1 hd hi hl hn hL (fun ls' hl' => k H locs ls' hP hS hl')
theorem g_lstore (C : Cx M κ own cc nL ret d) {i : Nat} {x : Int64} {L' : List (Nat × Value)} (hd : decode cc pc = .ok (.lstore i, 2)) (hn : i + 1 < nL) (hL : lq2 L i (.long x) = L')
    (k : G M κ nL Q (pc + 2) L' st σ) : G M κ nL Q pc L (.long x :: st) σ := by
  intro H locs ls hP hS hl
  exact lv_lstore C.1 C.2.1 hd hl hn hL (fun ls' hl' => k H locs ls' hP hS hl')
theorem g_dstore_n (C : Cx M κ own cc nL ret d) {i0 : Fin 4} {i : Nat} {x : UInt64} {L' : List (Nat × Value)} (hd : decode cc pc = .ok (.dstore_n i0, 1)) (hi : (i0 : Nat) = i) (hn : i + 1 < nL) (hL : lq2 L i (.double x) = L')
    (k : G M κ nL Q (pc + 1) L' st σ) : G M κ nL Q pc L (.double x :: st) σ := by
  intro H locs ls hP hS hl
  exact lv_dstore_n C.1 C.2.1 hd hi hl hn hL (fun ls' hl' => k H locs ls' hP hS hl')
theorem g_dstore (C : Cx M κ own cc nL ret d) {i : Nat} {x : UInt64} {L' : List (Nat × Value)} (hd : decode cc pc = .ok (.dstore i, 2)) (hn : i + 1 < nL) (hL : lq2 L i (.double x) = L')
    (k : G M κ nL Q (pc + 2) L' st σ) : G M κ nL Q pc L (.double x :: st) σ := by
  intro H locs ls hP hS hl
  exact lv_dstore C.1 C.2.1 hd hl hn hL (fun ls' hl' => k H locs ls' hP hS hl')
theorem g_iinc (C : Cx M κ own cc nL ret d) {i q : Nat} {n z v : Int} {L' : List (Nat × Value)} (hd : decode cc pc = .ok (.iinc i n, 3)) (hk : L[q]? = some (i, .int (iZ z))) (hv : z + n = v) (hn : i < nL) (hL : lq1 L i (.int (iZ v)) = L')
    (k : G M κ nL Q (pc + 3) L' st σ) : G M κ nL Q pc L st σ := by
  intro H locs ls hP hS hl
  exact lv_iinc C.1 C.2.1 hd hl hk (by rw [← hv, ← iZ_add]; rfl) hn hL (fun ls' hl' => k H locs ls' hP hS hl')
theorem g_iadd (C : Cx M κ own cc nL ret d) {a b : Int} (hd : decode cc pc = .ok (.iadd, 1)) 
    (k : G M κ nL Q (pc + 1) L (.int (iZ (a + b)) :: st) σ) : G M κ nL Q pc L (.int (iZ b) :: .int (iZ a) :: st) σ := by
  intro H locs ls hP hS hl
  refine lv_iadd C.1 C.2.1 hd ?_
  rw [iZ_add]
  exact k H locs ls hP hS hl
theorem g_isub (C : Cx M κ own cc nL ret d) {a b : Int} (hd : decode cc pc = .ok (.isub, 1)) 
    (k : G M κ nL Q (pc + 1) L (.int (iZ (a - b)) :: st) σ) : G M κ nL Q pc L (.int (iZ b) :: .int (iZ a) :: st) σ := by
  intro H locs ls hP hS hl
  refine lv_isub C.1 C.2.1 hd ?_
  rw [iZ_sub]
  exact k H locs ls hP hS hl
theorem g_imul (C : Cx M κ own cc nL ret d) {a b : Int} (hd : decode cc pc = .ok (.imul, 1)) 
    (k : G M κ nL Q (pc + 1) L (.int (iZ (a * b)) :: st) σ) : G M κ nL Q pc L (.int (iZ b) :: .int (iZ a) :: st) σ := by
  intro H locs ls hP hS hl
  refine lv_imul C.1 C.2.1 hd ?_
  rw [iZ_mul]
  exact k H locs ls hP hS hl
theorem g_ineg (C : Cx M κ own cc nL ret d) {a : Int} (hd : decode cc pc = .ok (.ineg, 1)) 
    (k : G M κ nL Q (pc + 1) L (.int (iZ (-a)) :: st) σ) : G M κ nL Q pc L (.int (iZ a) :: st) σ := by
  intro H locs ls hP hS hl
  refine lv_ineg C.1 C.2.1 hd ?_
  rw [iZ_neg]
  exact k H locs ls hP hS hl
theorem g_idiv (C : Cx M κ own cc nL ret d) {a b : Int} (hd : decode cc pc = .ok (.idiv, 1)) (h : 0 ≤ a ∧ a < 2147483648 ∧ 0 < b ∧ b < 2147483648)
    (k : G M κ nL Q (pc + 1) L (.int (iZ (a / b)) :: st) σ) : G M κ nL Q pc L (.int (iZ b) :: .int (iZ a) :: st) σ := by
  intro H locs ls hP hS hl
  refine lv_idiv C.1 C.2.1 hd (iZ_ne0 h) ?_
  rw [iZ_div h]
  exact k H locs ls hP hS hl
theorem g_irem (C : Cx M κ own cc nL ret d) {a b : Int} (hd : decode cc pc = .ok (.irem, 1)) (h : 0 ≤ a ∧ a < 2147483648 ∧ 0 < b ∧ b < 2147483648)
    (k : G M κ nL Q (pc + 1) L (.int (iZ (a % b)) :: st) σ) : G M κ nL Q pc L (.int (iZ b) :: .int (iZ a) :: st) σ := by
  intro H locs ls hP hS hl
  refine lv_irem C.1 C.2.1 hd (iZ_ne0 h) ?_
  rw [iZ_rem h]
  exact k H locs ls hP hS hl
theorem g_iand (C : Cx M κ own cc nL ret d) {x y : Int32} (hd : decode cc pc = .ok (.iand, 1)) 
    (k : G M κ nL Q (pc + 1) L (.int (x &&& y) :: st) σ) : G M κ nL Q pc L (.int y :: .int x :: st) σ := by
  intro H locs ls hP hS hl
  exact lv_iand C.1 C.2.1 hd (k H locs ls hP hS hl)
theorem g_ior (C : Cx M κ own cc nL ret d) {x y : Int32} (hd : decode cc pc = .ok (.ior, 1)) 
    (k : G M κ nL Q (pc + 1) L (.int (x ||| y) :: st) σ) : G M κ nL Q pc L (.int y :: .int x :: st) σ := by
  intro H locs ls hP hS hl
  exact lv_ior C.1 C.2.1 hd (k H locs ls hP hS hl)
theorem g_ixor (C : Cx M κ own cc nL ret d) {x y : Int32} (hd : decode cc pc = .ok (.ixor, 1)) 
    (k : G M κ nL Q (pc + 1) L (.int (x ^^^ y) :: st) σ) : G M κ nL Q pc L (.int y :: .int x :: st) σ := by
  intro H locs ls hP hS hl
  exact lv_ixor C.1 C.2.1 hd (k H locs ls hP hS hl)
theorem g_ishl (C : Cx M κ own cc nL ret d) {x y : Int32} (hd : decode cc pc = .ok (.ishl, 1)) 
    (k : G M κ nL Q (pc + 1) L (.int (x <<< (y &&& 31)) :: st) σ) : G M κ nL Q pc L (.int y :: .int x :: st) σ := by
  intro H locs ls hP hS hl
  exact lv_ishl C.1 C.2.1 hd (k H locs ls hP hS hl)
theorem g_ishr (C : Cx M κ own cc nL ret d) {x y : Int32} (hd : decode cc pc = .ok (.ishr, 1)) 
    (k : G M κ nL Q (pc + 1) L (.int (x >>> (y &&& 31)) :: st) σ) : G M κ nL Q pc L (.int y :: .int x :: st) σ := by
  intro H locs ls hP hS hl
  exact lv_ishr C.1 C.2.1 hd (k H locs ls hP hS hl)
theorem g_iushr (C : Cx M κ own cc nL ret d) {x y : Int32} (hd : decode cc pc = .ok (.iushr, 1)) 
    (k : G M κ nL Q (pc + 1) L (.int ((x.toUInt32 >>> (y.toUInt32 &&& Int32.toUInt32 31)).toInt32) :: st) σ) : G M κ nL Q pc L (.int y :: .int x :: st) σ := by
  intro H locs ls hP hS hl
  exact lv_iushr C.1 C.2.1 hd rfl (k H locs ls hP hS hl)
theorem g_ladd (C : Cx M κ own cc nL ret d) {x y : Int64} (hd : decode cc pc = .ok (.ladd, 1)) 
    (k : G M κ nL Q (pc + 1) L (.long (x + y) :: st) σ) : G M κ nL Q pc L (.long y :: .long x :: st) σ := by
  intro H locs ls hP hS hl
  exact lv_ladd C.1 C.2.1 hd (k H locs ls hP hS hl)
theorem g_lmul (C : Cx M κ own cc nL ret d) {x y : Int64} (hd : decode cc pc = .ok (.lmul, 1)) 
    (k : G M κ nL Q (pc + 1) L (.long (x * y) :: st) σ) : G M κ nL Q pc L (.long y :: .long x :: st) σ := by
  intro H locs ls hP hS hl
  exact lv_lmul C.1 C.2.1 hd (k H locs ls hP hS hl)
theorem g_land (C : Cx M κ own cc nL ret d) {x y : Int64} (hd : decode cc pc = .ok (.land, 1)) 
    (k : G M κ nL Q (pc + 1) L (.long (x &&& y) :: st) σ) : G M κ nL Q pc L (.long y :: .long x :: st) σ := by
  intro H locs ls hP hS hl
  exact lv_land C.1 C.2.1 hd (k H locs ls hP hS hl)
theorem g_lor (C : Cx M κ own cc nL ret d) {x y : Int64} (hd : decode cc pc = .ok (.lor, 1)) 
    (k : G M κ nL Q (pc + 1) L (.long (x ||| y) :: st) σ) : G M κ nL Q pc L (.long y :: .long x :: st) σ := by
  intro H locs ls hP hS hl
  exact lv_lor C.1 C.2.1 hd (k H locs ls hP hS hl)
theorem g_lshl (C : Cx M κ own cc nL ret d) {x : Int64} {y : Int32} (hd : decode cc pc = .ok (.lshl, 1)) 
    (k : G M κ nL Q (pc + 1) L (.long (x <<< (y.toInt64 &&& 63)) :: st) σ) : G M κ nL Q pc L (.int y :: .long x :: st) σ := by
  intro H locs ls hP hS hl
  exact lv_lshl C.1 C.2.1 hd rfl (k H locs ls hP hS hl)
theorem g_i2l (C : Cx M κ own cc nL ret d) {x : Int32} (hd : decode cc pc = .ok (.i2l, 1)) 
    (k : G M κ nL Q (pc + 1) L (.long x.toInt64 :: st) σ) : G M κ nL Q pc L (.int x :: st) σ := by
  intro H locs ls hP hS hl
  exact lv_i2l C.1 C.2.1 hd rfl (k H locs ls hP hS hl)
theorem g_l2i (C : Cx M κ own cc nL ret d) {x : Int64} (hd : decode cc pc = .ok (.l2i, 1)) 
    (k : G M κ nL Q (pc + 1) L (.int x.toInt32 :: st) σ) : G M κ nL Q pc L (.long x :: st) σ := by
  intro H locs ls hP hS hl
  exact lv_l2i C.1 C.2.1 hd rfl (k H locs ls hP hS hl)
theorem g_i2b (C : Cx M κ own cc nL ret d) {x : Int32} (hd : decode cc pc = .ok (.i2b, 1)) 
    (k : G M κ nL Q (pc + 1) L (.int x.toInt8.toInt32 :: st) σ) : G M κ nL Q pc L (.int x :: st) σ := by
  intro H locs ls hP hS hl
  exact lv_i2b C.1 C.2.1 hd rfl (k H locs ls hP hS hl)
theorem g_i2s (C : Cx M κ own cc nL ret d) {x : Int32} (hd : decode cc pc = .ok (.i2s, 1)) 
    (k : G M κ nL Q (pc + 1) L (.int x.toInt16.toInt32 :: st) σ) : G M κ nL Q pc L (.int x :: st) σ := by
  intro H locs ls hP hS hl
  exact lv_i2s C.1 C.2.1 hd rfl (k H locs ls hP hS hl)
theorem g_lcmp (C : Cx M κ own cc nL ret d) {x y : Int64} (hd : decode cc pc = .ok (.lcmp, 1)) 
    (k : G M κ nL Q (pc + 1) L (.int (lg_cmp x y) :: st) σ) : G M κ nL Q pc L (.long y :: .long x :: st) σ := by
  intro H locs ls hP hS hl
  exact W.lcmp C.1 C.2.1 hd (k H locs ls hP hS hl)
theorem g_fadd (C : Cx M κ own cc nL ret d) {x y : UInt32} (hd : decode cc pc = .ok (.fadd, 1)) (h : vf_n32 (FP.fadd x y))
    (k : G M κ nL Q (pc + 1) L (.float (FP.fadd x y) :: st) σ) : G M κ nL Q pc L (.float y :: .float x :: st) σ := by
  intro H locs ls hP hS hl
  exact lv_fadd C.1 C.2.1 hd h (k H locs ls hP hS hl)
theorem g_fsub (C : Cx M κ own cc nL ret d) {x y : UInt32} (hd : decode cc pc = .ok (.fsub, 1)) (h : vf_n32 (FP.fsub x y))
    (k : G M κ nL Q (pc + 1) L (.float (FP.fsub x y) :: st) σ) : G M κ nL Q pc L (.float y :: .float x :: st) σ := by
  intro H locs ls hP hS hl
  exact lv_fsub C.1 C.2.1 hd h (k H locs ls hP hS hl)
theorem g_fmul (C : Cx M κ own cc nL ret d) {x y : UInt32} (hd : decode cc pc = .ok (.fmul, 1)) (h : vf_n32 (FP.fmul x y))
    (k : G M κ nL Q (pc + 1) L (.float (FP.fmul x y) :: st) σ) : G M κ nL Q pc L (.float y :: .float x :: st) σ := by
  intro H locs ls hP hS hl
  exact lv_fmul C.1 C.2.1 hd h (k H locs ls hP hS hl)
theorem g_fdiv (C : Cx M κ own cc nL ret d) {x y : UInt32} (hd : decode cc pc = .ok (.fdiv, 1)) (h : vf_n32 (FP.fdiv x y))
    (k : G M κ nL Q (pc + 1) L (.float (FP.fdiv x y) :: st) σ) : G M κ nL Q pc L (.float y :: .float x :: st) σ := by
  intro H locs ls hP hS hl
  exact lv_fdiv C.1 C.2.1 hd h (k H locs ls hP hS hl)
theorem g_dmul (C : Cx M κ own cc nL ret d) {x y : UInt64} (hd : decode cc pc = .ok (.dmul, 1)) (h : vf_n64 (FP.dmul x y))
    (k : G M κ nL Q (pc + 1) L (.double (FP.dmul x y) :: st) σ) : G M κ nL Q pc L (.double y :: .double x :: st) σ := by
  intro H locs ls hP hS hl
  exact lv_dmul C.1 C.2.1 hd h (k H locs ls hP hS hl)
theorem g_ddiv (C : Cx M κ own cc nL ret d) {x y : UInt64} (hd : decode cc pc = .ok (.ddiv, 1)) (h : vf_n64 (FP.ddiv x y))
    (k : G M κ nL Q (pc + 1) L (.double (FP.ddiv x y) :: st) σ) : G M κ nL Q pc L (.double y :: .double x :: st) σ := by
  intro H locs ls hP hS hl
  exact lv_ddiv C.1 C.2.1 hd h (k H locs ls hP hS hl)
theorem g_fcmp (C : Cx M κ own cc nL ret d) {x y : UInt32} {op : CmpOp} (hd : decode cc pc = .ok (.fcmp op, 1)) 
    (k : G M κ nL Q (pc + 1) L (.int (Op.cmpValue (FP.fcmp x y) op) :: st) σ) : G M κ nL Q pc L (.float y :: .float x :: st) σ := by
  intro H locs ls hP hS hl
  exact lv_fcmp C.1 C.2.1 hd (k H locs ls hP hS hl)
theorem g_dcmp (C : Cx M κ own cc nL ret d) {x y : UInt64} {op : CmpOp} (hd : decode cc pc = .ok (.dcmp op, 1)) 
    (k : G M κ nL Q (pc + 1) L (.int (Op.cmpValue (FP.dcmp x y) op) :: st) σ) : G M κ nL Q pc L (.double y :: .double x :: st) σ := by
  intro H locs ls hP hS hl
  exact lv_dcmp C.1 C.2.1 hd (k H locs ls hP hS hl)
theorem g_i2f (C : Cx M κ own cc nL ret d) {x : Int32} (hd : decode cc pc = .ok (.i2f, 1)) 
    (k : G M κ nL Q (pc + 1) L (.float (FP.i2f x) :: st) σ) : G M κ nL Q pc L (.int x :: st) σ := by
  intro H locs ls hP hS hl
  exact lv_i2f C.1 C.2.1 hd (k H locs ls hP hS hl)
theorem g_f2i (C : Cx M κ own cc nL ret d) {x : UInt32} (hd : decode cc pc = .ok (.f2i, 1)) 
    (k : G M κ nL Q (pc + 1) L (.int (FP.f2i x) :: st) σ) : G M κ nL Q pc L (.float x :: st) σ := by
  intro H locs ls hP hS hl
  exact lv_f2i C.1 C.2.1 hd (k H locs ls hP hS hl)
theorem g_d2i (C : Cx M κ own cc nL ret d) {x : UInt64} (hd : decode cc pc = .ok (.d2i, 1)) 
    (k : G M κ nL Q (pc + 1) L (.int (FP.d2i x) :: st) σ) : G M κ nL Q pc L (.double x :: st) σ := by
  intro H locs ls hP hS hl
  exact lv_d2i C.1 C.2.1 hd (k H locs ls hP hS hl)
theorem g_f2d (C : Cx M κ own cc nL ret d) {x : UInt32} (hd : decode cc pc = .ok (.f2d, 1)) (h : vf_n64 (FP.f2d x))
    (k : G M κ nL Q (pc + 1) L (.double (FP.f2d x) :: st) σ) : G M κ nL Q pc L (.float x :: st) σ := by
  intro H locs ls hP hS hl
  exact lv_f2d C.1 C.2.1 hd h (k H locs ls hP hS hl)
theorem g_dup (C : Cx M κ own cc nL ret d) {v : Value} (hd : decode cc pc = .ok (.dup, 1)) (h : v.category = 1)
    (k : G M κ nL Q (pc + 1) L (v :: v :: st) σ) : G M κ nL Q pc L (v :: st) σ := by
  intro H locs ls hP hS hl
  exact lv_dup C.1 C.2.1 hd h (k H locs ls hP hS hl)
theorem g_dup2 (C : Cx M κ own cc nL ret d) {v w : Value} (hd : decode cc pc = .ok (.dup2, 1)) (h : v.category = 1) (h2 : w.category = 1)
    (k : G M κ nL Q (pc + 1) L (v :: w :: v :: w :: st) σ) : G M κ nL Q pc L (v :: w :: st) σ := by
  intro H locs ls hP hS hl
  exact lv_dup2_11 C.1 C.2.1 hd h h2 (k H locs ls hP hS hl)
theorem g_ldc (C : Cx M κ own cc nL ret d) {i : Nat} {z : Int} (hd : decode cc pc = .ok (.ldc i, 2)) (h : Cond.constant own i (iZ z) ∈ lw_g)
    (k : G M κ nL Q (pc + 2) L (.int (iZ z) :: st) σ) : G M κ nL Q pc L (st) σ := by
  intro H locs ls hP hS hl
  exact lv_ldc C.1 C.2.1 C.ow (C.w h) hd (k H locs ls hP hS hl)
theorem g_ldcw (C : Cx M κ own cc nL ret d) {i : Nat} {z : Int} (hd : decode cc pc = .ok (.ldc_w i, 3)) (h : Cond.constant own i (iZ z) ∈ lw_g)
    (k : G M κ nL Q (pc + 3) L (.int (iZ z) :: st) σ) : G M κ nL Q pc L (st) σ := by
  intro H locs ls hP hS hl
  exact lv_ldcw C.1 C.2.1 C.ow (C.w h) hd (k H locs ls hP hS hl)
theorem g_ldc2l (C : Cx M κ own cc nL ret d) {i : Nat} {z : Int64} (hd : decode cc pc = .ok (.ldc2_w i, 3)) (h : Cond.constantLong own i z ∈ lw_g)
    (k : G M κ nL Q (pc + 3) L (.long z :: st) σ) : G M κ nL Q pc L (st) σ := by
  intro H locs ls hP hS hl
  exact lv_ldc2 C.1 C.2.1 C.ow (C.w h) hd (k H locs ls hP hS hl)
theorem g_ldc2d (C : Cx M κ own cc nL ret d) {i : Nat} {z : UInt64} (hd : decode cc pc = .ok (.ldc2_w i, 3)) (h : Cond.constantDouble own i z ∈ lw_g)
    (k : G M κ nL Q (pc + 3) L (.double z :: st) σ) : G M κ nL Q pc L (st) σ := by
  intro H locs ls hP hS hl
  exact lv_ldc2d C.1 C.2.1 C.ow (C.w h) hd (k H locs ls hP hS hl)
theorem g_if_eq (C : Cx M κ own cc nL ret d) {a off : Int} {tgt : Nat} (hd : decode cc pc = .ok (.ifCond .eq off, 3)) (ht : (pc : Int) + off = (tgt : Int)) (ha : R32 a)
    (kt : a = 0 → G M κ nL Q tgt L st σ) (kf : ¬ a = 0 → G M κ nL Q (pc + 3) L st σ) : G M κ nL Q pc L (.int (iZ a) :: st) σ := by
  intro H locs ls hP hS hl
  have e := iZ_cmp0 ha
  exact lv_if_eq C.1 C.2.1 hd ht (fun h => kt (by have := e; simp only [e] at h; omega) H locs ls hP hS hl) (fun h => kf (by have := e; simp only [e] at h; omega) H locs ls hP hS hl)
theorem g_icmp_eq (C : Cx M κ own cc nL ret d) {a b off : Int} {tgt : Nat} (hd : decode cc pc = .ok (.if_icmp .eq off, 3)) (ht : (pc : Int) + off = (tgt : Int)) (hab : R32 a ∧ R32 b)
    (kt : a = b → G M κ nL Q tgt L st σ) (kf : ¬ a = b → G M κ nL Q (pc + 3) L st σ) : G M κ nL Q pc L (.int (iZ b) :: .int (iZ a) :: st) σ := by
  intro H locs ls hP hS hl
  have e := iZ_cmp hab.1 hab.2
  exact lv_icmp_eq C.1 C.2.1 hd ht (fun h => kt (by simp only [e] at h; omega) H locs ls hP hS hl) (fun h => kf (by simp only [e] at h; omega) H locs ls hP hS hl)
theorem g_ifr_eq (C : Cx M κ own cc nL ret d) {x : Int32} {off : Int} {tgt : Nat} (hd : decode cc pc = .ok (.ifCond .eq off, 3)) (ht : (pc : Int) + off = (tgt : Int))
    (kt : x = 0 → G M κ nL Q tgt L st σ) (kf : ¬ (x = 0) → G M κ nL Q (pc + 3) L st σ) : G M κ nL Q pc L (.int x :: st) σ := by
  intro H locs ls hP hS hl
  exact lv_if_eq C.1 C.2.1 hd ht (fun h => kt h H locs ls hP hS hl) (fun h => kf (by first | exact h | simpa using h) H locs ls hP hS hl)
theorem g_if_ne (C : Cx M κ own cc nL ret d) {a off : Int} {tgt : Nat} (hd : decode cc pc = .ok (.ifCond .ne off, 3)) (ht : (pc : Int) + off = (tgt : Int)) (ha : R32 a)
    (kt : ¬ a = 0 → G M κ nL Q tgt L st σ) (kf : a = 0 → G M κ nL Q (pc + 3) L st σ) : G M κ nL Q pc L (.int (iZ a) :: st) σ := by
  intro H locs ls hP hS hl
  have e := iZ_cmp0 ha
  exact lv_if_ne C.1 C.2.1 hd ht (fun h => kt (by have := e; simp only [e] at h; omega) H locs ls hP hS hl) (fun h => kf (by have := e; simp only [e] at h; omega) H locs ls hP hS hl)
theorem g_icmp_ne (C : Cx M κ own cc nL ret d) {a b off : Int} {tgt : Nat} (hd : decode cc pc = .ok (.if_icmp .ne off, 3)) (ht : (pc : Int) + off = (tgt : Int)) (hab : R32 a ∧ R32 b)
    (kt : ¬ a = b → G M κ nL Q tgt L st σ) (kf : a = b → G M κ nL Q (pc + 3) L st σ) : G M κ nL Q pc L (.int (iZ b) :: .int (iZ a) :: st) σ := by
  intro H locs ls hP hS hl
  have e := iZ_cmp hab.1 hab.2
  exact lv_icmp_ne C.1 C.2.1 hd ht (fun h => kt (by simp only [e] at h; omega) H locs ls hP hS hl) (fun h => kf (by simp only [e] at h; omega) H locs ls hP hS hl)
theorem g_ifr_ne (C : Cx M κ own cc nL ret d) {x : Int32} {off : Int} {tgt : Nat} (hd : decode cc pc = .ok (.ifCond .ne off, 3)) (ht : (pc : Int) + off = (tgt : Int))
    (kt : ¬ x = 0 → G M κ nL Q tgt L st σ) (kf : ¬ (¬ x = 0) → G M κ nL Q (pc + 3) L st σ) : G M κ nL Q pc L (.int x :: st) σ := by
  intro H locs ls hP hS hl
  exact lv_if_ne C.1 C.2.1 hd ht (fun h => kt h H locs ls hP hS hl) (fun h => kf (by first | exact h | simpa using h) H locs ls hP hS hl)
theorem g_if_lt (C : Cx M κ own cc nL ret d) {a off : Int} {tgt : Nat} (hd : decode cc pc = .ok (.ifCond .lt off, 3)) (ht : (pc : Int) + off = (tgt : Int)) (ha : R32 a)
    (kt : a < 0 → G M κ nL Q tgt L st σ) (kf : 0 ≤ a → G M κ nL Q (pc + 3) L st σ) : G M κ nL Q pc L (.int (iZ a) :: st) σ := by
  intro H locs ls hP hS hl
  have e := iZ_cmp0 ha
  exact lv_if_lt C.1 C.2.1 hd ht (fun h => kt (by have := e; simp only [e] at h; omega) H locs ls hP hS hl) (fun h => kf (by have := e; simp only [e] at h; omega) H locs ls hP hS hl)
theorem g_icmp_lt (C : Cx M κ own cc nL ret d) {a b off : Int} {tgt : Nat} (hd : decode cc pc = .ok (.if_icmp .lt off, 3)) (ht : (pc : Int) + off = (tgt : Int)) (hab : R32 a ∧ R32 b)
    (kt : a < b → G M κ nL Q tgt L st σ) (kf : b ≤ a → G M κ nL Q (pc + 3) L st σ) : G M κ nL Q pc L (.int (iZ b) :: .int (iZ a) :: st) σ := by
  intro H locs ls hP hS hl
  have e := iZ_cmp hab.1 hab.2
  exact lv_icmp_lt C.1 C.2.1 hd ht (fun h => kt (by simp only [e] at h; omega) H locs ls hP hS hl) (fun h => kf (by simp only [e] at h; omega) H locs ls hP hS hl)
theorem g_ifr_lt (C : Cx M κ own cc nL ret d) {x : Int32} {off : Int} {tgt : Nat} (hd : decode cc pc = .ok (.ifCond .lt off, 3)) (ht : (pc : Int) + off = (tgt : Int))
    (kt : x < 0 → G M κ nL Q tgt L st σ) (kf : ¬ (x < 0) → G M κ nL Q (pc + 3) L st σ) : G M κ nL Q pc L (.int x :: st) σ := by
  intro H locs ls hP hS hl
  exact lv_if_lt C.1 C.2.1 hd ht (fun h => kt h H locs ls hP hS hl) (fun h => kf (by first | exact h | simpa using h) H locs ls hP hS hl)
theorem g_if_ge (C : Cx M κ own cc nL ret d) {a off : Int} {tgt : Nat} (hd : decode cc pc = .ok (.ifCond .ge off, 3)) (ht : (pc : Int) + off = (tgt : Int)) (ha : R32 a)
    (kt : 0 ≤ a → G M κ nL Q tgt L st σ) (kf : a < 0 → G M κ nL Q (pc + 3) L st σ) : G M κ nL Q pc L (.int (iZ a) :: st) σ := by
  intro H locs ls hP hS hl
  have e := iZ_cmp0 ha
  exact lv_if_ge C.1 C.2.1 hd ht (fun h => kt (by have := e; simp only [e] at h; omega) H locs ls hP hS hl) (fun h => kf (by have := e; simp only [e] at h; omega) H locs ls hP hS hl)
theorem g_icmp_ge (C : Cx M κ own cc nL ret d) {a b off : Int} {tgt : Nat} (hd : decode cc pc = .ok (.if_icmp .ge off, 3)) (ht : (pc : Int) + off = (tgt : Int)) (hab : R32 a ∧ R32 b)
    (kt : b ≤ a → G M κ nL Q tgt L st σ) (kf : a < b → G M κ nL Q (pc + 3) L st σ) : G M κ nL Q pc L (.int (iZ b) :: .int (iZ a) :: st) σ := by
  intro H locs ls hP hS hl
  have e := iZ_cmp hab.1 hab.2
  exact lv_icmp_ge C.1 C.2.1 hd ht (fun h => kt (by simp only [e] at h; omega) H locs ls hP hS hl) (fun h => kf (by simp only [e] at h; omega) H locs ls hP hS hl)
theorem g_ifr_ge (C : Cx M κ own cc nL ret d) {x : Int32} {off : Int} {tgt : Nat} (hd : decode cc pc = .ok (.ifCond .ge off, 3)) (ht : (pc : Int) + off = (tgt : Int))
    (kt : 0 ≤ x → G M κ nL Q tgt L st σ) (kf : ¬ (0 ≤ x) → G M κ nL Q (pc + 3) L st σ) : G M κ nL Q pc L (.int x :: st) σ := by
  intro H locs ls hP hS hl
  exact lv_if_ge C.1 C.2.1 hd ht (fun h => kt h H locs ls hP hS hl) (fun h => kf (by first | exact h | simpa using h) H locs ls hP hS hl)
theorem g_if_gt (C : Cx M κ own cc nL ret d) {a off : Int} {tgt : Nat} (hd : decode cc pc = .ok (.ifCond .gt off, 3)) (ht : (pc : Int) + off = (tgt : Int)) (ha : R32 a)
    (kt : 0 < a → G M κ nL Q tgt L st σ) (kf : a ≤ 0 → G M κ nL Q (pc + 3) L st σ) : G M κ nL Q pc L (.int (iZ a) :: st) σ := by
  intro H locs ls hP hS hl
  have e := iZ_cmp0 ha
  exact lv_if_gt C.1 C.2.1 hd ht (fun h => kt (by have := e; simp only [e] at h; omega) H locs ls hP hS hl) (fun h => kf (by have := e; simp only [e] at h; omega) H locs ls hP hS hl)
theorem g_icmp_gt (C : Cx M κ own cc nL ret d) {a b off : Int} {tgt : Nat} (hd : decode cc pc = .ok (.if_icmp .gt off, 3)) (ht : (pc : Int) + off = (tgt : Int)) (hab : R32 a ∧ R32 b)
    (kt : b < a → G M κ nL Q tgt L st σ) (kf : a ≤ b → G M κ nL Q (pc + 3) L st σ) : G M κ nL Q pc L (.int (iZ b) :: .int (iZ a) :: st) σ := by
  intro H locs ls hP hS hl
  have e := iZ_cmp hab.1 hab.2
  exact lv_icmp_gt C.1 C.2.1 hd ht (fun h => kt (by simp only [e] at h; omega) H locs ls hP hS hl) (fun h => kf (by simp only [e] at h; omega) H locs ls hP hS hl)
theorem g_ifr_gt (C : Cx M κ own cc nL ret d) {x : Int32} {off : Int} {tgt : Nat} (hd : decode cc pc = .ok (.ifCond .gt off, 3)) (ht : (pc : Int) + off = (tgt : Int))
    (kt : 0 < x → G M κ nL Q tgt L st σ) (kf : ¬ (0 < x) → G M κ nL Q (pc + 3) L st σ) : G M κ nL Q pc L (.int x :: st) σ := by
  intro H locs ls hP hS hl
  exact lv_if_gt C.1 C.2.1 hd ht (fun h => kt h H locs ls hP hS hl) (fun h => kf (by first | exact h | simpa using h) H locs ls hP hS hl)
theorem g_if_le (C : Cx M κ own cc nL ret d) {a off : Int} {tgt : Nat} (hd : decode cc pc = .ok (.ifCond .le off, 3)) (ht : (pc : Int) + off = (tgt : Int)) (ha : R32 a)
    (kt : a ≤ 0 → G M κ nL Q tgt L st σ) (kf : 0 < a → G M κ nL Q (pc + 3) L st σ) : G M κ nL Q pc L (.int (iZ a) :: st) σ := by
  intro H locs ls hP hS hl
  have e := iZ_cmp0 ha
  exact lv_if_le C.1 C.2.1 hd ht (fun h => kt (by have := e; simp only [e] at h; omega) H locs ls hP hS hl) (fun h => kf (by have := e; simp only [e] at h; omega) H locs ls hP hS hl)
theorem g_icmp_le (C : Cx M κ own cc nL ret d) {a b off : Int} {tgt : Nat} (hd : decode cc pc = .ok (.if_icmp .le off, 3)) (ht : (pc : Int) + off = (tgt : Int)) (hab : R32 a ∧ R32 b)
    (kt : a ≤ b → G M κ nL Q tgt L st σ) (kf : b < a → G M κ nL Q (pc + 3) L st σ) : G M κ nL Q pc L (.int (iZ b) :: .int (iZ a) :: st) σ := by
  intro H locs ls hP hS hl
  have e := iZ_cmp hab.1 hab.2
  exact lv_icmp_le C.1 C.2.1 hd ht (fun h => kt (by simp only [e] at h; omega) H locs ls hP hS hl) (fun h => kf (by simp only [e] at h; omega) H locs ls hP hS hl)
theorem g_ifr_le (C : Cx M κ own cc nL ret d) {x : Int32} {off : Int} {tgt : Nat} (hd : decode cc pc = .ok (.ifCond .le off, 3)) (ht : (pc : Int) + off = (tgt : Int))
    (kt : x ≤ 0 → G M κ nL Q tgt L st σ) (kf : ¬ (x ≤ 0) → G M κ nL Q (pc + 3) L st σ) : G M κ nL Q pc L (.int x :: st) σ := by
  intro H locs ls hP hS hl
  exact lv_if_le C.1 C.2.1 hd ht (fun h => kt h H locs ls hP hS hl) (fun h => kf (by first | exact h | simpa using h) H locs ls hP hS hl)
theorem g_ifb_eq (C : Cx M κ own cc nL ret d) {P : Prop} [Decidable P] {off : Int} {tgt : Nat} (hd : decode cc pc = .ok (.ifCond .eq off, 3)) (ht : (pc : Int) + off = (tgt : Int))
    (kt : ¬ P → G M κ nL Q tgt L st σ) (kf : P → G M κ nL Q (pc + 3) L st σ) : G M κ nL Q pc L (.int (iZ (bZ P)) :: st) σ :=
  g_if_eq C hd ht (bZ_R P) (fun h => kt (by unfold bZ at h; split at h <;> simp_all)) (fun h => kf (by unfold bZ at h; split at h <;> simp_all))
theorem g_ifb_ne (C : Cx M κ own cc nL ret d) {P : Prop} [Decidable P] {off : Int} {tgt : Nat} (hd : decode cc pc = .ok (.ifCond .ne off, 3)) (ht : (pc : Int) + off = (tgt : Int))
    (kt : P → G M κ nL Q tgt L st σ) (kf : ¬ P → G M κ nL Q (pc + 3) L st σ) : G M κ nL Q pc L (.int (iZ (bZ P)) :: st) σ :=
  g_if_ne C hd ht (bZ_R P) (fun h => kt (by unfold bZ at h; split at h <;> simp_all)) (fun h => kf (by unfold bZ at h; split at h <;> simp_all))
theorem g_goto (C : Cx M κ own cc nL ret d) {off : Int} {tgt : Nat} (hd : decode cc pc = .ok (.goto off, 3)) (ht : (pc : Int) + off = (tgt : Int))
    (k : G M κ nL Q tgt L st σ) : G M κ nL Q pc L st σ := by
  intro H locs ls hP hS hl
  exact lv_goto C.1 C.2.1 hd ht (k H locs ls hP hS hl)
theorem g_tsw (C : Cx M κ own cc nL ret d) {dflt lo hi a off : Int} {offs : Array Int} {len tgt : Nat} (hd : decode cc pc = .ok (.tableswitch dflt lo hi offs, len)) (ha : R32 a) (h1 : lo ≤ a ∧ a ≤ hi) (ho : offs[(a - lo).toNat]? = some off) (ht : (pc : Int) + off = (tgt : Int))
    (k : G M κ nL Q tgt L st σ) : G M κ nL Q pc L (.int (iZ a) :: st) σ := by
  intro H locs ls hP hS hl
  have e := iZ_toInt ha
  exact lv_tableIn C.1 C.2.1 hd (by rw [e]; omega) (by rw [e]; omega) (by rw [e]; exact ho) ht (k H locs ls hP hS hl)
theorem g_tswd (C : Cx M κ own cc nL ret d) {dflt lo hi a : Int} {offs : Array Int} {len tgt : Nat} (hd : decode cc pc = .ok (.tableswitch dflt lo hi offs, len)) (ha : R32 a) (h1 : a < lo ∨ hi < a) (ht : (pc : Int) + dflt = (tgt : Int))
    (k : G M κ nL Q tgt L st σ) : G M κ nL Q pc L (.int (iZ a) :: st) σ := by
  intro H locs ls hP hS hl
  have e := iZ_toInt ha
  exact lv_tableOut C.1 C.2.1 hd (by rw [e]; exact h1) ht (k H locs ls hP hS hl)
/-- the same goal with another list of locals, another stack, another state, where they are equal -/
theorem g_loc {L' : List (Nat × Value)} (is : List Nat) (h : lv_pick L is = L') (k : G M κ nL Q pc L' st σ) : G M κ nL Q pc L st σ := fun H locs ls hP hS hl => k H locs ls hP hS (lv_sub hl is h)
theorem g_top {v w : Value} (h : v = w) (k : G M κ nL Q pc L (w :: st) σ) : G M κ nL Q pc L (v :: st) σ := h ▸ k
theorem g_st {st' : List Value} (h : st = st') (k : G M κ nL Q pc L st' σ) : G M κ nL Q pc L st σ := h ▸ k
theorem g_sig {σ' : St} (h : σ = σ') (k : G M κ nL Q pc L st σ') : G M κ nL Q pc L st σ := h ▸ k
theorem g_int {z z' : Int} (h : z = z') (k : G M κ nL Q pc L (.int (iZ z') :: st) σ) : G M κ nL Q pc L (.int (iZ z) :: st) σ := h ▸ k
theorem g_raw {x : Int32} {z : Int} (h : x = iZ z) (k : G M κ nL Q pc L (.int (iZ z) :: st) σ) : G M κ nL Q pc L (.int x :: st) σ := h ▸ k
/-! arrays -/
theorem g_iald (C : Cx M κ own cc nL ret d) {k n N : Nat} {z : Int} (hd : decode cc pc = .ok (.iaload, 1)) (hk : kd k = 20) (hN : len k = N) (hz : z = (n : Int)) (hn : n < N) (hb : N < 2147483648)
    (kk : G M κ nL Q (pc + 1) L (.int (iZ (σ.1 k n)) :: st) σ) : G M κ nL Q pc L (.int (iZ z) :: .ref (κ.2.1 k) :: st) σ := by
  intro H locs ls hP hS hl
  obtain ⟨q, hq, hw⟩ := wld_at κ σ (k := k) (by omega)
  rw [cel_i hk] at hw
  subst hz
  refine va_iald C.1 C.2.1 C.K hP q 0 hw rfl (iZ_in rfl (by omega) (by omega)) hd ?_
  rw [iZ_clamp (by omega)]
  exact kk H locs ls hP hS hl
theorem g_fald (C : Cx M κ own cc nL ret d) {k n N : Nat} {z : Int} (hd : decode cc pc = .ok (.faload, 1)) (hk : kd k = 21) (hN : len k = N) (hz : z = (n : Int)) (hn : n < N) (hb : N < 2147483648)
    (kk : G M κ nL Q (pc + 1) L (.float (σ.2.1 k n) :: st) σ) : G M κ nL Q pc L (.int (iZ z) :: .ref (κ.2.1 k) :: st) σ := by
  intro H locs ls hP hS hl
  obtain ⟨q, hq, hw⟩ := wld_at κ σ (k := k) (by omega)
  rw [cel_f hk] at hw
  subst hz
  refine va_fald C.1 C.2.1 C.K hP q 1 hw rfl (iZ_in rfl (by omega) (by omega)) hd ?_
  rw [iZ_clamp (by omega)]
  exact kk H locs ls hP hS hl
theorem g_lald (C : Cx M κ own cc nL ret d) {k n N : Nat} {z : Int} (hd : decode cc pc = .ok (.laload, 1)) (hk : kd k = 22) (hN : len k = N) (hz : z = (n : Int)) (hn : n < N) (hb : N < 2147483648)
    (kk : G M κ nL Q (pc + 1) L (.long (σ.2.2 k n) :: st) σ) : G M κ nL Q pc L (.int (iZ z) :: .ref (κ.2.1 k) :: st) σ := by
  intro H locs ls hP hS hl
  obtain ⟨q, hq, hw⟩ := wld_at κ σ (k := k) (by omega)
  rw [cel_l hk] at hw
  subst hz
  refine va_lald C.1 C.2.1 C.K hP q 2 hw rfl (iZ_in rfl (by omega) (by omega)) hd ?_
  rw [iZ_clamp (by omega)]
  exact kk H locs ls hP hS hl
theorem g_aald (C : Cx M κ own cc nL ret d) {k n N c : Nat} {z : Int} {K : String} (hd : decode cc pc = .ok (.aaload, 1)) (hk : kd k = c) (hc : 22 < c) (ht : (tyk κ)[c - 20]? = some (κ.2.2 (c - 20), .object K)) (hc9 : c ≠ 99) (hN : len k = N) (hz : z = (n : Int)) (hn : n < N) (hb : N < 2147483648) {r : Nat} (hr : rf k n = r)
    (kk : G M κ nL Q (pc + 1) L (.ref (κ.2.1 r) :: st) σ) : G M κ nL Q pc L (.int (iZ z) :: .ref (κ.2.1 k) :: st) σ := by
  intro H locs ls hP hS hl
  obtain ⟨q, hq, hw⟩ := wld_at κ σ (k := k) (by omega)
  rw [cel_r hk hc] at hw
  subst hz
  refine va_aldq C.1 C.2.1 C.K hP q (c - 20) hw ht (iZ_in rfl (by omega) (by omega)) hd ?_
  rw [iZ_clamp (by omega), hr]
  exact kk H locs ls hP hS hl
theorem g_iast (C : Cx M κ own cc nL ret d) {k n N : Nat} {z v : Int} (hd : decode cc pc = .ok (.iastore, 1)) (hk : kd k = 20) (hN : len k = N) (hz : z = (n : Int)) (hn : n < N) (hb : N < 2147483648)
    (kk : G M κ nL Q (pc + 1) L st (sI σ k n v)) : G M κ nL Q pc L (.int (iZ v) :: .int (iZ z) :: .ref (κ.2.1 k) :: st) σ := by
  intro H locs ls hP hS hl
  obtain ⟨q, hq, hw⟩ := wld_at κ σ (k := k) (by omega)
  rw [cel_i hk] at hw
  subst hz
  refine va_iast C.1 C.2.1 C.K hP (wld_D C.I σ) hS q 0 hw rfl (iZ_in rfl (by omega) (by omega)) hd (fun H1 locs1 hP1 _ hS1 => ?_)
  have e : (.inl (κ.2.2 0, len k, .inl (upd (fun j => iZ (σ.1 k j)) (iZ (n : Int)).toNatClampNeg (iZ v))) : va_E) = cel κ (sI σ k n v) k := by
    rw [cel_i hk, iZ_clamp (by omega)]
    congr 3
    congr 1
    funext j
    by_cases hj : j = n
    · simp [upd, sI, hj]
    · simp [upd, sI, hj]
  rw [e, wld_set hq (fun k' h => cel_neI h)] at hP1
  exact kk H1 locs1 ls hP1 hS1 hl
theorem g_fast (C : Cx M κ own cc nL ret d) {k n N : Nat} {z : Int} {v : UInt32} (hd : decode cc pc = .ok (.fastore, 1)) (hk : kd k = 21) (hN : len k = N) (hz : z = (n : Int)) (hn : n < N) (hb : N < 2147483648)
    (kk : G M κ nL Q (pc + 1) L st (sF σ k n v)) : G M κ nL Q pc L (.float v :: .int (iZ z) :: .ref (κ.2.1 k) :: st) σ := by
  intro H locs ls hP hS hl
  obtain ⟨q, hq, hw⟩ := wld_at κ σ (k := k) (by omega)
  rw [cel_f hk] at hw
  subst hz
  refine va_fast C.1 C.2.1 C.K hP (wld_D C.I σ) hS q 1 hw rfl (iZ_in rfl (by omega) (by omega)) hd (fun H1 locs1 hP1 _ hS1 => ?_)
  have e : (.inl (κ.2.2 1, len k, .inr (.inr (.inl (vf_upd (fun j => σ.2.1 k j) (iZ (n : Int)).toNatClampNeg v)))) : va_E) = cel κ (sF σ k n v) k := by
    rw [cel_f hk, iZ_clamp (by omega)]
    congr 5
    congr 1
    funext j
    by_cases hj : j = n
    · simp [vf_upd, sF, hj]
    · simp [vf_upd, sF, hj]
  rw [e, wld_set hq (fun k' h => cel_neF h)] at hP1
  exact kk H1 locs1 ls hP1 hS1 hl
theorem g_last (C : Cx M κ own cc nL ret d) {k n N : Nat} {z : Int} {v : Int64} (hd : decode cc pc = .ok (.lastore, 1)) (hk : kd k = 22) (hN : len k = N) (hz : z = (n : Int)) (hn : n < N) (hb : N < 2147483648)
    (kk : G M κ nL Q (pc + 1) L st (sL σ k n v)) : G M κ nL Q pc L (.long v :: .int (iZ z) :: .ref (κ.2.1 k) :: st) σ := by
  intro H locs ls hP hS hl
  obtain ⟨q, hq, hw⟩ := wld_at κ σ (k := k) (by omega)
  rw [cel_l hk] at hw
  subst hz
  refine va_last C.1 C.2.1 C.K hP (wld_D C.I σ) hS q 2 hw rfl (iZ_in rfl (by omega) (by omega)) hd (fun H1 locs1 hP1 _ hS1 => ?_)
  have e : (.inl (κ.2.2 2, len k, .inr (.inl (vp_updL (fun j => σ.2.2 k j) (iZ (n : Int)).toNatClampNeg v))) : va_E) = cel κ (sL σ k n v) k := by
    rw [cel_l hk, iZ_clamp (by omega)]
    congr 4
    congr 1
    funext j
    by_cases hj : j = n
    · simp [vp_updL, sL, hj]
    · simp [vp_updL, sL, hj]
  rw [e, wld_set hq (fun k' h => cel_neL h)] at hP1
  exact kk H1 locs1 ls hP1 hS1 hl
theorem g_alen (C : Cx M κ own cc nL ret d) {k N : Nat} (hd : decode cc pc = .ok (.arraylength, 1)) (hk : kd k = 20) (hN : len k = N)
    (kk : G M κ nL Q (pc + 1) L (.int (iZ (N : Int)) :: st) σ) : G M κ nL Q pc L (.ref (κ.2.1 k) :: st) σ := by
  intro H locs ls hP hS hl
  obtain ⟨q, hq, hw⟩ := wld_at κ σ (k := k) (by omega)
  rw [cel_i hk] at hw
  refine va_alen C.1 C.2.1 C.K hP q 0 hw rfl (v := iZ (N : Int)) (by rw [hN]; rfl) hd ?_
  exact kk H locs ls hP hS hl
theorem g_alenL (C : Cx M κ own cc nL ret d) {k N : Nat} (hd : decode cc pc = .ok (.arraylength, 1)) (hk : kd k = 22) (hN : len k = N)
    (kk : G M κ nL Q (pc + 1) L (.int (iZ (N : Int)) :: st) σ) : G M κ nL Q pc L (.ref (κ.2.1 k) :: st) σ := by
  intro H locs ls hP hS hl
  obtain ⟨q, hq, hw⟩ := wld_at κ σ (k := k) (by omega)
  rw [cel_l hk] at hw
  refine va_alen C.1 C.2.1 C.K hP q 2 hw rfl (v := iZ (N : Int)) (by rw [hN]; rfl) hd ?_
  exact kk H locs ls hP hS hl
/-! fields: class c, slot j -/
theorem lay_at {c j b : Nat} {f : Nat → Nat → Value} (h : (lay c)[j]? = some b) : ((lay c).mapIdx f)[j]? = some (f j b) := by rw [List.getElem?_mapIdx, h]; rfl
theorem g_get (C : Cx M κ own cc nL ret d) {k c j b i N : Nat} {Cn ref : String} {T : u_T} {v : Value} (hd : decode cc pc = .ok (.getfield i, 3)) (hk : kd k = c) (hc : c < 20) (hcl : vwCl[c]? = some (Cn, T, N)) (hin : ∀ w ∈ u_ws Cn T N, w ∈ lw_g) (hj : j < N) (hlink : Cond.fieldLink own i (T j).1 (T j).2.1 (T j).2.2.1 ∈ lw_g) (hb : (lay c)[j]? = some b) (hv : fld κ σ k j b = v)
    (kk : G M κ nL Q (pc + 3) L (v :: st) σ) : G M κ nL Q pc L (.ref (κ.2.1 k) :: st) σ := by
  intro H locs ls hP hS hl
  obtain ⟨q, hq, hw⟩ := wld_at κ σ (k := k) (by omega)
  rw [cel_o hk hc] at hw
  refine va_get C.1 C.2.1 C.hts hin C.ow C.K hP q hw hcl j hj (C.w hlink) (fun _ h9 => h9) (v := v) (by rw [lay_at hb, hv]) hd ?_
  exact kk H locs ls hP hS hl
theorem g_putv (C : Cx M κ own cc nL ret d) {k c j b i N : Nat} {Cn : String} {T : u_T} {ty0 : Nat → FieldType} {ty : FieldType} {v : Value} {σ' : St} (hd : decode cc pc = .ok (.putfield i, 3)) (hk : kd k = c) (hc : c < 20) (hcl : vwCl[c]? = some (Cn, T, N)) (hin : ∀ w ∈ u_ws Cn T N, w ∈ lw_g) (hj : j < N) (hlink : Cond.fieldLink own i (T j).1 (T j).2.1 (T j).2.2.1 ∈ lw_g) (hb : (lay c)[j]? = some b)
    (hty : ∀ k, k < N → parseFieldDescriptor (T k).2.2.1 = some (ty0 k)) (hnm : ∀ a, a < N → ∀ b, b < N → a ≠ b → (T a).2.1 ≠ (T b).2.1) (hfin : (T j).2.2.2 = false) (hpt : parseFieldDescriptor (T j).2.2.1 = some ty) (hn : narrow ty v = v) (hfit : fits ty v = true)
    (hv : fld κ σ' k j b = v) (ho : ∀ j' b', j' ≠ j → fld κ σ' k j' b' = fld κ σ k j' b') (hne : ∀ k', k' ≠ k → cel κ σ' k' = cel κ σ k')
    (kk : G M κ nL Q (pc + 3) L st σ') : G M κ nL Q pc L (v :: .ref (κ.2.1 k) :: st) σ := by
  intro H locs ls hP hS hl
  obtain ⟨q, hq, hw⟩ := wld_at κ σ (k := k) (by omega)
  rw [cel_o hk hc] at hw
  have hlen : j < ((lay c).mapIdx (fun j b => fld κ σ k j b)).length := by
    rw [List.length_mapIdx]; exact (List.getElem?_eq_some_iff.mp hb).1
  refine va_put C.1 C.2.1 C.hts hin ty0 hty hnm C.ow C.K hP (wld_D C.I σ) hS q hw hcl j hj (C.w hlink) (fun _ h9 => h9) hfin hpt hn hfit hlen hd (fun H1 locs1 hP1 _ hS1 => ?_)
  have e : (.inr (c, ((lay c).mapIdx (fun j b => fld κ σ k j b)).set j v) : va_E) = cel κ σ' k := by
    rw [cel_o hk hc]
    congr 2
    apply List.ext_getElem?
    intro a
    by_cases ha : a = j
    · subst ha
      rw [List.getElem?_set_self hlen, lay_at hb, hv]
    · rw [List.getElem?_set_ne (Ne.symm ha), List.getElem?_mapIdx, List.getElem?_mapIdx]
      cases (lay c)[a]? with
      | none => rfl
      | some b' => simp only [Option.map_some, ho a b' ha]
  rw [e, wld_set hq hne] at hP1
  exact kk H1 locs1 ls hP1 hS1 hl
theorem fld_I {κ : Kp} {σ : St} {k j : Nat} {v : Int} : fld κ (sI σ k j v) k j 0 = .int (iZ v) := by simp [fld, sI]
theorem fld_I' {κ : Kp} {σ : St} {k j : Nat} {v : Int} (j' b' : Nat) (h : j' ≠ j) : fld κ (sI σ k j v) k j' b' = fld κ σ k j' b' := by simp [fld, sI, h]
theorem fld_L {κ : Kp} {σ : St} {k j : Nat} {v : Int64} : fld κ (sL σ k j v) k j 2 = .long v := by simp [fld, sL]
theorem fld_L' {κ : Kp} {σ : St} {k j : Nat} {v : Int64} (j' b' : Nat) (h : j' ≠ j) : fld κ (sL σ k j v) k j' b' = fld κ σ k j' b' := by simp [fld, sL, h]

/-! contracts -/
def Ct (κ : Kp) (l : Launch) (d : Nat) (y : MethodName) (cc : ByteArray) (mL : Nat) (rt : Option FieldType) (av : List Value) (σ : St) (Qc : Array Value → State → Outcome → State → Prop) : Prop :=
  Met l y (wsm y cc mL rt) (rmd d) (va_Pc av (Wd κ σ)) Qc 0 0 (Ak κ)
abbrev qI (κ : Kp) (post : Int → St → Prop) : Array Value → State → Outcome → State → Prop := va_Qi (fun (r : Int32) (u : Int × St) => r = iZ u.1 ∧ post u.1 u.2) (fun u t => Wd κ u.2 t) (Ak κ)
abbrev qF (κ : Kp) (post : UInt32 → St → Prop) : Array Value → State → Outcome → State → Prop := va_Qf (fun (r : UInt32) (u : UInt32 × St) => r = u.1 ∧ post u.1 u.2) (fun u t => Wd κ u.2 t) (Ak κ)
abbrev qJ (κ : Kp) (post : Int64 → St → Prop) : Array Value → State → Outcome → State → Prop := va_Ql (fun (r : Int64) (u : Int64 × St) => r = u.1 ∧ post u.1 u.2) (fun u t => Wd κ u.2 t) (Ak κ)
abbrev qV (κ : Kp) (post : St → Prop) : Array Value → State → Outcome → State → Prop := va_Qv (fun (u : St) => post u) (fun u t => Wd κ u t) (Ak κ)
abbrev qR (κ : Kp) (post : Nat → St → Prop) : Array Value → State → Outcome → State → Prop := va_Qr (fun (u : Nat × St) => post u.1 u.2) (fun u a t => a = κ.2.1 u.1 ∧ Wd κ u.2 t) (Ak κ)
abbrev CtI (κ : Kp) (l : Launch) (d : Nat) (y : MethodName) (cc : ByteArray) (mL : Nat) (rt : FieldType) (av : List Value) (σ : St) (post : Int → St → Prop) : Prop := Ct κ l d y cc mL (some rt) av σ (qI κ post)
abbrev CtF (κ : Kp) (l : Launch) (d : Nat) (y : MethodName) (cc : ByteArray) (mL : Nat) (av : List Value) (σ : St) (post : UInt32 → St → Prop) : Prop := Ct κ l d y cc mL (some .float) av σ (qF κ post)
abbrev CtJ (κ : Kp) (l : Launch) (d : Nat) (y : MethodName) (cc : ByteArray) (mL : Nat) (av : List Value) (σ : St) (post : Int64 → St → Prop) : Prop := Ct κ l d y cc mL (some .long) av σ (qJ κ post)
abbrev CtV (κ : Kp) (l : Launch) (d : Nat) (y : MethodName) (cc : ByteArray) (mL : Nat) (av : List Value) (σ : St) (post : St → Prop) : Prop := Ct κ l d y cc mL none av σ (qV κ post)
abbrev CtR (κ : Kp) (l : Launch) (d : Nat) (y : MethodName) (cc : ByteArray) (mL : Nat) (rt : FieldType) (av : List Value) (σ : St) (post : Nat → St → Prop) : Prop := Ct κ l d y cc mL (some rt) av σ (qR κ post)
abbrev En (M : MC) (κ : Kp) (Qc : Array Value → State → Outcome → State → Prop) : State → Prop := MQ (Mb M) Qc (Ma M) (Ms M) 0 0 (Ak κ)
theorem Ct.ofG {l : Launch} {y : MethodName} {mL : Nat} {rt : Option FieldType} {av : List Value} {Qc : Array Value → State → Outcome → State → Prop} (hI : Ij κ) (hy : plainName y.cls = true) (ho : y.cls = own) (hm : (lg_sl av).length ≤ mL) {L0 : List (Nat × Value)} (hL : lv_args 0 av = L0)
    (h : ∀ M : MC, Cx M κ own cc mL rt d → Ml M = l → G M κ mL (En M κ Qc) 0 L0 [] σ) : Ct κ l d y cc mL rt av σ Qc := by
  refine Met.ofW (cc := cc) (maxL := mL) (ret := rt) hy rfl ?_
  intro p e s m args below meth c s₁ B hml hv
  obtain ⟨rfl, hP, hK, hN⟩ := hv
  rw [lg_entry_eq]
  have hent := lv_entry av (n := mL) hm
  rw [hL] at hent
  exact h (p, l, e, rmd d, s, m, av.toArray, below, meth, c) ⟨B.exec, B.bytes, hml, B.returns, by rw [← ho]; exact findClass_of_methodNamed B.named, fun w hw => atoms_spec (ws := wsm y cc mL rt) B.pre w (List.mem_cons_of_mem _ hw), B.notSynchronized, rfl, hK, hI, hN⟩ rfl s.heap [] _ hP va_S.rf hent
theorem g_ireturn (C : Cx M κ own cc nL (some .int) d) {z : Int} {post : Int → St → Prop} (hd : decode cc pc = .ok (.ireturn, 1)) (h : post z σ) : G M κ nL (En M κ (qI κ post)) pc L [.int (iZ z)] σ := by
  intro H locs ls hP hS hl
  exact W.iret (v := iZ z) C.1 C.2.1 C.2.2.2.1 (fun t ht hW => ⟨⟨iZ z, (z, σ), rfl, ⟨rfl, h⟩, by rw [ht]; exact hP, va_K.moved hW.alike C.K, C.N.warm hW⟩, hS.F ht⟩) hS.2.2 hd C.locks
theorem g_zreturn (C : Cx M κ own cc nL (some .boolean) d) {z : Int} {post : Int → St → Prop} (hd : decode cc pc = .ok (.ireturn, 1)) (hz : z = 0 ∨ z = 1) (h : post z σ) : G M κ nL (En M κ (qI κ post)) pc L [.int (iZ z)] σ := by
  intro H locs ls hP hS hl
  exact W.zret (v := iZ z) C.1 C.2.1 C.2.2.2.1 (by rcases hz with rfl | rfl <;> rfl) (fun t ht hW => ⟨⟨iZ z, (z, σ), rfl, ⟨rfl, h⟩, by rw [ht]; exact hP, va_K.moved hW.alike C.K, C.N.warm hW⟩, hS.F ht⟩) hS.2.2 hd C.locks
theorem g_freturn (C : Cx M κ own cc nL (some .float) d) {z : UInt32} {post : UInt32 → St → Prop} (hd : decode cc pc = .ok (.freturn, 1)) (h : post z σ) : G M κ nL (En M κ (qF κ post)) pc L [.float z] σ := by
  intro H locs ls hP hS hl
  exact W.fret (v := z) C.1 C.2.1 C.2.2.2.1 (fun t ht hW => ⟨⟨z, (z, σ), rfl, ⟨rfl, h⟩, by rw [ht]; exact hP, va_K.moved hW.alike C.K, C.N.warm hW⟩, hS.F ht⟩) hS.2.2 hd C.locks
theorem g_lreturn (C : Cx M κ own cc nL (some .long) d) {z : Int64} {post : Int64 → St → Prop} (hd : decode cc pc = .ok (.lreturn, 1)) (h : post z σ) : G M κ nL (En M κ (qJ κ post)) pc L [.long z] σ := by
  intro H locs ls hP hS hl
  exact W.lret (v := z) C.1 C.2.1 C.2.2.2.1 (fun t ht hW => ⟨⟨z, (z, σ), rfl, ⟨rfl, h⟩, by rw [ht]; exact hP, va_K.moved hW.alike C.K, C.N.warm hW⟩, hS.F ht⟩) hS.2.2 hd C.locks
theorem g_return (C : Cx M κ own cc nL none d) {post : St → Prop} (hd : decode cc pc = .ok (.return_, 1)) (h : post σ) : G M κ nL (En M κ (qV κ post)) pc L [] σ := by
  intro H locs ls hP hS hl
  exact W.vret C.1 C.2.1 C.2.2.2.1 (fun t ht hW => ⟨⟨σ, rfl, h, by rw [ht]; exact hP, va_K.moved hW.alike C.K, C.N.warm hW⟩, hS.F ht⟩) hS.2.2 hd C.locks
theorem g_areturn {k : Nat} {K : String} (C : Cx M κ own cc nL (some (.object K)) d) {post : Nat → St → Prop} (hd : decode cc pc = .ok (.areturn, 1)) (h : post k σ) : G M κ nL (En M κ (qR κ post)) pc L [.ref (κ.2.1 k)] σ := by
  intro H locs ls hP hS hl
  exact W.aret (v := .ref (κ.2.1 k)) C.1 C.2.1 C.2.2.2.1 (Or.inl ⟨K, rfl⟩) (Or.inr ⟨_, rfl⟩) (fun t ht hW => ⟨⟨(k, σ), κ.2.1 k, rfl, h, rfl, by rw [ht]; exact hP, va_K.moved hW.alike C.K, C.N.warm hW⟩, hS.F ht⟩) hS.2.2 hd C.locks
/-! calls -/
theorem tbl_gw {w : Cond} (h : w ∈ lw_g) : (w.onTables && w.keeps) = true ∨ ∃ ty, w = .arrayClass ty := good_of_word (List.mem_filter.mp h).2
theorem gin {ws : List Cond} (h : ∀ w ∈ ws, w ∈ lw_g) : GoodIn lw_g ws := fun w hw => ⟨h w hw, tbl_gw (h w hw)⟩
theorem gin_wsm {y : MethodName} {bc : ByteArray} {mL : Nat} {rt : Option FieldType} (h : Cond.code y bc mL rt ∈ lw_g) : ∀ w ∈ wsm y bc mL rt, w ∈ lw_g := fun w hw => (List.mem_cons.mp hw).elim (fun e => e ▸ h) (fun h => h)
abbrev desc (y : MethodName) (n : Nat) : Prop := y.cls ≠ "java/lang/invoke/MethodHandle" ∧ y.cls ≠ "java/lang/invoke/VarHandle" ∧ (parseMethodDescriptor y.desc).map (fun d => d.parameters.length) = some n
def LkV (own : String) (i : Nat) (y : MethodName) (bc : ByteArray) (mL : Nat) (rt : Option FieldType) (n : Nat) : Prop := GoodIn lw_g (wsV own i y.cls y (wsm y bc mL rt)) ∧ desc y n
theorem LkV.mk {i : Nat} {y : MethodName} {bc : ByteArray} {mL : Nat} {rt : Option FieldType} {n : Nat} (h1 : Cond.methodLink own i y ∈ lw_g) (h2 : Cond.instanceMethod y ∈ lw_g) (h3 : Cond.selects y.cls y y ∈ lw_g) (h4 : Cond.initialized y.cls ∈ lw_g) (h5 : Cond.code y bc mL rt ∈ lw_g) (h6 : desc y n) : LkV own i y bc mL rt n := by
  refine ⟨gin (fun w hw => ?_), h6⟩
  unfold wsV at hw
  rcases List.mem_append.mp hw with h | h
  · simp only [List.mem_cons, List.not_mem_nil, or_false] at h
    rcases h with rfl | rfl | rfl | rfl <;> assumption
  · exact gin_wsm h5 w h
def LkS (own : String) (i : Nat) (y : MethodName) (bc : ByteArray) (mL : Nat) (rt : Option FieldType) (n : Nat) : Prop := GoodIn lw_g (va_wsS own i y (wsm y bc mL rt)) ∧ desc y n
theorem LkS.mk {i : Nat} {y : MethodName} {bc : ByteArray} {mL : Nat} {rt : Option FieldType} {n : Nat} (h1 : Cond.methodLink own i y ∈ lw_g) (h2 : Cond.static y ∈ lw_g) (h4 : Cond.initialized y.cls ∈ lw_g) (h5 : Cond.code y bc mL rt ∈ lw_g) (h6 : desc y n) : LkS own i y bc mL rt n := by
  refine ⟨gin (fun w hw => ?_), h6⟩
  unfold va_wsS at hw
  rcases List.mem_append.mp hw with h | h
  · simp only [List.mem_cons, List.not_mem_nil, or_false] at h
    rcases h with rfl | rfl | rfl <;> assumption
  · exact gin_wsm h5 w h
def LkN (own host : String) (i : Nat) (y : MethodName) (bc : ByteArray) (mL : Nat) (rt : Option FieldType) (n : Nat) : Prop := Cond.methodLinkNest own i y host ∈ nst ∧ Cond.static y ∈ lw_g ∧ Cond.initialized y.cls ∈ lw_g ∧ Cond.code y bc mL rt ∈ lw_g ∧ desc y n
theorem Wd_blind {av : List Value} : FrameBlind (va_Pc av (Wd κ σ)) := fun a U g mk q => ⟨q.1, q.2.1, va_K.moved (u := U) (U := U.calling g mk a) (Vm.Alike.refl U.vm) q.2.2.1, NK.vm (U := U.calling g mk a) q.2.2.2 rfl⟩
/-- a call that comes back -/
def Rn (M : MC) (κ : Kp) (nL pc : Nat) (L : List (Nat × Value)) (st0 rest : List Value) (σ : St) (Qa : State → Outcome → State → Prop) : Prop :=
  ∀ (H : Heap) (locs : List Loc) (ls : Array Slot), va_P κ.1 vwCl (wld κ σ) H → lv_has ls nL L → va_Run (Mp M) (Ml M) (Me M) (MR M) (Ms M) (Mm M) (Ma M) (Mb M) (Mt M) (Mc M) H locs 0 0 0 0 (F0 (Mm M) pc ls st0) rest Qa (Ak κ)
theorem rn_room (C : Cx M κ own cc nL ret d) {d' mL : Nat} (hdd : d' < d) (hm : mL ≤ 40) : (rmd d').frames + 1 ≤ (MR M).frames ∧ 8 + (mL + 11) + (rmd d').locals ≤ (MR M).locals := by
  rw [C.room]
  show d' + 1 ≤ d ∧ 8 + (mL + 11) + 64 * d' ≤ 64 * d
  omega
theorem rnV (C : Cx M κ own cc nL ret d) {d' i n mL k c N : Nat} {y : MethodName} {bc : ByteArray} {rt : Option FieldType} {As : List Value} {st0 : List Value} {T : u_T} {Cn : String} {Qc : Array Value → State → Outcome → State → Prop} (hct : Ct κ (Ml M) d' y bc mL rt (.ref (κ.2.1 k) :: As) σ Qc) (hlk : LkV own i y bc mL rt n) (hk : kd k = c) (hc : c < 20) (hcl : vwCl[c]? = some (Cn, T, N)) (hcn : y.cls = Cn) (hd : decode cc pc = .ok (.invokevirtual i, 3)) (hdd : d' < d) (hm : mL ≤ 40) (hn : As.length = n) (hs : st0 = As.reverse ++ .ref (κ.2.1 k) :: st) (hst : (st.map fun v => v.category).sum ≤ 8) :
    Rn M κ nL pc L st0 st σ (Qc (Value.ref (κ.2.1 k) :: As).toArray) := by
  intro H locs ls hP hl
  obtain ⟨q, hq, hw⟩ := wld_at κ σ (k := k) (by omega)
  rw [cel_o hk hc] at hw
  refine va_runV (As := As) (rest := st) ⟨C.1, C.2.1, C.2.2.1, C.ow, C.hts⟩ hct (cwV (C := y.cls) n C.hts hlk.1 rfl rfl rfl ⟨rfl, hlk.2⟩ (rn_room C hdd hm)) ⟨Wd_blind, ?_, fun U hU hW => ⟨rfl, by rw [hU]; exact hP, va_K.moved hW.alike C.K, C.N.warm hW⟩⟩ rfl hn hl.1 hs (lv_room hst) hd (by rw [C.room]; exact ⟨Nat.le_refl _, Nat.le_refl _⟩)
  have := va_recv C.K hP hcl hw
  rw [hcn]
  exact this
theorem rnS (C : Cx M κ own cc nL ret d) {d' i n mL : Nat} {y : MethodName} {bc : ByteArray} {rt : Option FieldType} {As : List Value} {st0 : List Value} {Qc : Array Value → State → Outcome → State → Prop} (hct : Ct κ (Ml M) d' y bc mL rt As σ Qc) (hlk : LkS own i y bc mL rt n) (hd : decode cc pc = .ok (.invokestatic i, 3)) (hdd : d' < d) (hm : mL ≤ 40) (hn : As.length = n) (hs : st0 = As.reverse ++ st) (hst : (st.map fun v => v.category).sum ≤ 8) :
    Rn M κ nL pc L st0 st σ (Qc As.toArray) := by
  intro H locs ls hP hl
  exact va_runS (As := As) (rest := st) ⟨C.1, C.2.1, C.2.2.1, C.ow, C.hts⟩ hct (va_cwS n C.hts hlk.1 rfl rfl rfl hlk.2 (rn_room C hdd hm)) ⟨Wd_blind, fun U hU hW => ⟨rfl, by rw [hU]; exact hP, va_K.moved hW.alike C.K, C.N.warm hW⟩⟩ rfl hn hl.1 hs (lv_room hst) hd (by rw [C.room]; exact ⟨Nat.le_refl _, Nat.le_refl _⟩)
theorem rnN (C : Cx M κ own cc nL ret d) {d' i n mL : Nat} {y : MethodName} {bc : ByteArray} {rt : Option FieldType} {host : String} {As : List Value} {st0 : List Value} {Qc : Array Value → State → Outcome → State → Prop} (hct : Ct κ (Ml M) d' y bc mL rt As σ Qc) (hlk : LkN own host i y bc mL rt n) (hd : decode cc pc = .ok (.invokestatic i, 3)) (hdd : d' < d) (hm : mL ≤ 40) (hn : As.length = n) (hs : st0 = As.reverse ++ st) (hst : (st.map fun v => v.category).sum ≤ 8) :
    Rn M κ nL pc L st0 st σ (Qc As.toArray) := by
  intro H locs ls hP hl
  obtain ⟨w1, w2, w3, w4, w5⟩ := hlk
  exact va_runSN (As := As) (rest := st) ⟨C.1, C.2.1, C.2.2.1, C.ow, C.hts⟩ hct ⟨va_cnB (Ts := lw_g) n C.hts (gin (gin_wsm w4)) rfl rfl rfl (C.N _ w1) (C.w w3) w5 (rn_room C hdd hm), C.w w2, trivial⟩ ⟨Wd_blind, fun U hU hW => ⟨rfl, by rw [hU]; exact hP, va_K.moved hW.alike C.K, C.N.warm hW⟩⟩ rfl hn hl.1 hs (lv_room hst) hd (by rw [C.room]; exact ⟨Nat.le_refl _, Nat.le_refl _⟩)
section CALLS
variable {st0 : List Value} {av : Array Value}
theorem g_ci (C : Cx M κ own cc nL ret d) {post : Int → St → Prop} (hr : Rn M κ nL pc L st0 st σ (qI κ post av)) (kk : ∀ z σ', post z σ' → G M κ nL Q (pc + 3) L (.int (iZ z) :: st) σ') : G M κ nL Q pc L st0 σ := by
  intro H locs ls hP hS hl
  refine va_calli (hr H locs ls hP hl) hS (fun q _ h => h) (fun q h => h) (fun r u t H1 locs1 ht hvm hp hB hz hk1 hS1 => ?_)
  obtain ⟨rfl, hp⟩ := hp
  exact kk u.1 u.2 hp H1 locs1 ls (by rw [← ht]; exact hB.1) hS1 hl
theorem g_cf (C : Cx M κ own cc nL ret d) {post : UInt32 → St → Prop} (hr : Rn M κ nL pc L st0 st σ (qF κ post av)) (kk : ∀ z σ', post z σ' → G M κ nL Q (pc + 3) L (.float z :: st) σ') : G M κ nL Q pc L st0 σ := by
  intro H locs ls hP hS hl
  refine va_callf (hr H locs ls hP hl) hS (fun q _ h => h) (fun q h => h) (fun r u t H1 locs1 ht hvm hp hB hz hk1 hS1 => ?_)
  obtain ⟨rfl, hp⟩ := hp
  exact kk u.1 u.2 hp H1 locs1 ls (by rw [← ht]; exact hB.1) hS1 hl
theorem g_cl (C : Cx M κ own cc nL ret d) {post : Int64 → St → Prop} (hr : Rn M κ nL pc L st0 st σ (qJ κ post av)) (kk : ∀ z σ', post z σ' → G M κ nL Q (pc + 3) L (.long z :: st) σ') : G M κ nL Q pc L st0 σ := by
  intro H locs ls hP hS hl
  refine va_calll (hr H locs ls hP hl) hS (fun q _ h => h) (fun q h => h) (fun r u t H1 locs1 ht hvm hp hB hz hk1 hS1 => ?_)
  obtain ⟨rfl, hp⟩ := hp
  exact kk u.1 u.2 hp H1 locs1 ls (by rw [← ht]; exact hB.1) hS1 hl
theorem g_cv (C : Cx M κ own cc nL ret d) {post : St → Prop} (hr : Rn M κ nL pc L st0 st σ (qV κ post av)) (kk : ∀ σ', post σ' → G M κ nL Q (pc + 3) L st σ') : G M κ nL Q pc L st0 σ := by
  intro H locs ls hP hS hl
  refine va_callv (hr H locs ls hP hl) hS (fun q _ h => h) (fun q h => h) (fun u t H1 locs1 ht hvm hp hB hz hk1 hS1 => ?_)
  exact kk u hp H1 locs1 ls (by rw [← ht]; exact hB.1) hS1 hl
theorem g_cr (C : Cx M κ own cc nL ret d) {post : Nat → St → Prop} (hr : Rn M κ nL pc L st0 st σ (qR κ post av)) (kk : ∀ k σ', post k σ' → G M κ nL Q (pc + 3) L (.ref (κ.2.1 k) :: st) σ') : G M κ nL Q pc L st0 σ := by
  intro H locs ls hP hS hl
  refine va_callr (hr H locs ls hP hl) hS (fun q _ h => h) (fun q h => h) (fun u ra t H1 locs1 ht hvm hp hB hz hk1 hS1 => ?_)
  obtain ⟨rfl, hB⟩ := hB
  exact kk u.1 u.2 hp H1 locs1 ls (by rw [← ht]; exact hB.1) hS1 hl
end CALLS
end ROWS

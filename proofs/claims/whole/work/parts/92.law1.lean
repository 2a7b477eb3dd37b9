/-! THE LAW: its context, its goals, its rows -/
def R_law : String := "HistogramPlansLaw"
def CL (M : MC) (κ : Kp) (b N : Nat) (xs : Nat → Int32) : Prop :=
  (Mp M).tables.exec = Jvm.exec ∧ (Mc M).code = code ∧ (Mc M).maxLocals = 4 ∧ (Mt M).sig.returnType = ret ∧ (Ms M).vm.findClass R_law = some (Mm M).cls ∧ (∀ w ∈ lw_g, w.before (Ma M) (Ms M) = true) ∧ (Mt M).locks = false ∧ MR M = room_1 ∧ va_K κ.1 vwCl (tyk κ) (Ms M) ∧ Ij κ ∧ NK (Ms M) ∧ (va_X b N xs (Ms M) (Ms M).heap ∧ b < (Ms M).heap.size) ∧ ∀ k, k ∈ cns → (Ms M).heap.size ≤ κ.2.1 k
def An (M : MC) : Nat → Prop := fun q => (Ms M).heap.size ≤ q
def GL (M : MC) (κ : Kp) (Q : State → Prop) (pc : Nat) (L : List (Nat × Value)) (st : List Value) (σ : St) : Prop :=
  ∀ (H : Heap) (locs : List Loc) (ls : Array Slot), va_P κ.1 vwCl (wld κ σ) H → va_S (An M) (Ms M).heap H locs → lv_has ls 4 L → W (Mp M) (Ml M) (Me M) (MR M) (Ms M) (Mm M) (Ma M) (Mb M) (Mt M) (Mc M) H locs 600000 7302250 Q (F0 (Mm M) pc ls st)
section LAW
variable {M : MC} {κ : Kp} {b N : Nat} {xs : Nat → Int32} {Q : State → Prop} {pc : Nat} {L : List (Nat × Value)} {st : List Value} {σ : St}
theorem CL.ow (C : CL M κ b N xs) : (Ms M).vm.findClass R_law = some (Mm M).cls := C.2.2.2.2.1
theorem CL.hts (C : CL M κ b N xs) : ∀ w ∈ lw_g, w.before (Ma M) (Ms M) = true := C.2.2.2.2.2.1
theorem CL.w (C : CL M κ b N xs) {w : Cond} (h : w ∈ lw_g) : w.before (Ma M) (Ms M) = true := C.hts w h
theorem CL.room (C : CL M κ b N xs) : MR M = room_1 := C.2.2.2.2.2.2.2.1
theorem CL.K (C : CL M κ b N xs) : va_K κ.1 vwCl (tyk κ) (Ms M) := C.2.2.2.2.2.2.2.2.1
theorem CL.I (C : CL M κ b N xs) : Ij κ := C.2.2.2.2.2.2.2.2.2.1
theorem CL.nk (C : CL M κ b N xs) : NK (Ms M) := C.2.2.2.2.2.2.2.2.2.2.1
theorem CL.X (C : CL M κ b N xs) : va_X b N xs (Ms M) (Ms M).heap ∧ b < (Ms M).heap.size := C.2.2.2.2.2.2.2.2.2.2.2.1
theorem CL.new (C : CL M κ b N xs) : ∀ k, k ∈ cns → (Ms M).heap.size ≤ κ.2.1 k := C.2.2.2.2.2.2.2.2.2.2.2.2
theorem CL.Ak (C : CL M κ b N xs) {q : Nat} (h : Ak κ q) : An M q := by
  obtain ⟨k, hk, rfl⟩ := h
  exact C.new k hk
theorem l_pc {pc' : Nat} (h : pc = pc') (k : GL M κ Q pc' L st σ) : GL M κ Q pc L st σ := h ▸ k
theorem l_iconst (C : CL M κ b N xs) {n : Int} {z : Int} (hd : decode code pc = .ok (.iconst n, 1)) (h : Int32.ofInt n = iZ z)
    (k : GL M κ Q (pc + 1) L (.int (iZ z) :: st) σ) : GL M κ Q pc L (st) σ := by
  intro H locs ls hP hS hl
  exact lv_iconst C.1 C.2.1 hd h (k H locs ls hP hS hl)
theorem l_bipush (C : CL M κ b N xs) {n : Int} {z : Int} (hd : decode code pc = .ok (.bipush n, 2)) (h : (Int8.ofInt n).toInt32 = iZ z)
    (k : GL M κ Q (pc + 2) L (.int (iZ z) :: st) σ) : GL M κ Q pc L (st) σ := by
  intro H locs ls hP hS hl
  exact lv_bipush C.1 C.2.1 hd h (k H locs ls hP hS hl)
theorem l_iload_n (C : CL M κ b N xs) {i : Fin 4} {x : Int32} (hd : decode code pc = .ok (.iload_n i, 1)) (h : lk L i = some (.int x))
    (k : GL M κ Q (pc + 1) L (.int x :: st) σ) : GL M κ Q pc L (st) σ := by
  intro H locs ls hP hS hl
  exact lv_iload_n C.1 C.2.1 hd rfl (lk_at hl h) (k H locs ls hP hS hl)
theorem l_aload_n (C : CL M κ b N xs) {i : Fin 4} {x : Nat} (hd : decode code pc = .ok (.aload_n i, 1)) (h : lk L i = some (.ref x))
    (k : GL M κ Q (pc + 1) L (.ref x :: st) σ) : GL M κ Q pc L (st) σ := by
  intro H locs ls hP hS hl
  exact lv_aload_n C.1 C.2.1 hd rfl (lk_at hl h) (k H locs ls hP hS hl)
theorem l_istore_n (C : CL M κ b N xs) {i0 : Fin 4} {i : Nat} {x : Int32} {L' : List (Nat × Value)} (hd : decode code pc = .ok (.istore_n i0, 1)) (hi : (i0 : Nat) = i) (hn : i < 4) (hL : lq1 L i (.int x) = L')
    (k : GL M κ Q (pc + 1) L' st σ) : GL M κ Q pc L (.int x :: st) σ := by
  intro H locs ls hP hS hl
  exact lv_istore_n C.1 C.2.1 hd hi hl hn hL (fun ls' hl' => k H locs ls' hP hS hl')
theorem l_iinc (C : CL M κ b N xs) {i q : Nat} {n z v : Int} {L' : List (Nat × Value)} (hd : decode code pc = .ok (.iinc i n, 3)) (hk : L[q]? = some (i, .int (iZ z))) (hv : z + n = v) (hn : i < 4) (hL : lq1 L i (.int (iZ v)) = L')
    (k : GL M κ Q (pc + 3) L' st σ) : GL M κ Q pc L st σ := by
  intro H locs ls hP hS hl
  exact lv_iinc C.1 C.2.1 hd hl hk (by rw [← hv, ← iZ_add]; rfl) hn hL (fun ls' hl' => k H locs ls' hP hS hl')
theorem l_iadd (C : CL M κ b N xs) {a b : Int} (hd : decode code pc = .ok (.iadd, 1)) 
    (k : GL M κ Q (pc + 1) L (.int (iZ (a + b)) :: st) σ) : GL M κ Q pc L (.int (iZ b) :: .int (iZ a) :: st) σ := by
  intro H locs ls hP hS hl
  refine lv_iadd C.1 C.2.1 hd ?_
  rw [iZ_add]
  exact k H locs ls hP hS hl
theorem l_isub (C : CL M κ b N xs) {a b : Int} (hd : decode code pc = .ok (.isub, 1)) 
    (k : GL M κ Q (pc + 1) L (.int (iZ (a - b)) :: st) σ) : GL M κ Q pc L (.int (iZ b) :: .int (iZ a) :: st) σ := by
  intro H locs ls hP hS hl
  refine lv_isub C.1 C.2.1 hd ?_
  rw [iZ_sub]
  exact k H locs ls hP hS hl
theorem l_iand (C : CL M κ b N xs) {x y : Int32} (hd : decode code pc = .ok (.iand, 1)) 
    (k : GL M κ Q (pc + 1) L (.int (x &&& y) :: st) σ) : GL M κ Q pc L (.int y :: .int x :: st) σ := by
  intro H locs ls hP hS hl
  exact lv_iand C.1 C.2.1 hd (k H locs ls hP hS hl)
theorem l_land (C : CL M κ b N xs) {x y : Int64} (hd : decode code pc = .ok (.land, 1)) 
    (k : GL M κ Q (pc + 1) L (.long (x &&& y) :: st) σ) : GL M κ Q pc L (.long y :: .long x :: st) σ := by
  intro H locs ls hP hS hl
  exact lv_land C.1 C.2.1 hd (k H locs ls hP hS hl)
theorem l_lor (C : CL M κ b N xs) {x y : Int64} (hd : decode code pc = .ok (.lor, 1)) 
    (k : GL M κ Q (pc + 1) L (.long (x ||| y) :: st) σ) : GL M κ Q pc L (.long y :: .long x :: st) σ := by
  intro H locs ls hP hS hl
  exact lv_lor C.1 C.2.1 hd (k H locs ls hP hS hl)
theorem l_i2l (C : CL M κ b N xs) {x : Int32} (hd : decode code pc = .ok (.i2l, 1)) 
    (k : GL M κ Q (pc + 1) L (.long x.toInt64 :: st) σ) : GL M κ Q pc L (.int x :: st) σ := by
  intro H locs ls hP hS hl
  exact lv_i2l C.1 C.2.1 hd rfl (k H locs ls hP hS hl)
theorem l_lcmp (C : CL M κ b N xs) {x y : Int64} (hd : decode code pc = .ok (.lcmp, 1)) 
    (k : GL M κ Q (pc + 1) L (.int (lg_cmp x y) :: st) σ) : GL M κ Q pc L (.long y :: .long x :: st) σ := by
  intro H locs ls hP hS hl
  exact W.lcmp C.1 C.2.1 hd (k H locs ls hP hS hl)
theorem l_icmp_eq (C : CL M κ b N xs) {a b off : Int} {tgt : Nat} (hd : decode code pc = .ok (.if_icmp .eq off, 3)) (ht : (pc : Int) + off = (tgt : Int)) (hab : R32 a ∧ R32 b)
    (kt : a = b → GL M κ Q tgt L st σ) (kf : ¬ a = b → GL M κ Q (pc + 3) L st σ) : GL M κ Q pc L (.int (iZ b) :: .int (iZ a) :: st) σ := by
  intro H locs ls hP hS hl
  have e := iZ_cmp hab.1 hab.2
  exact lv_icmp_eq C.1 C.2.1 hd ht (fun h => kt (by simp only [e] at h; omega) H locs ls hP hS hl) (fun h => kf (by simp only [e] at h; omega) H locs ls hP hS hl)
theorem l_icmp_gt (C : CL M κ b N xs) {a b off : Int} {tgt : Nat} (hd : decode code pc = .ok (.if_icmp .gt off, 3)) (ht : (pc : Int) + off = (tgt : Int)) (hab : R32 a ∧ R32 b)
    (kt : b < a → GL M κ Q tgt L st σ) (kf : a ≤ b → GL M κ Q (pc + 3) L st σ) : GL M κ Q pc L (.int (iZ b) :: .int (iZ a) :: st) σ := by
  intro H locs ls hP hS hl
  have e := iZ_cmp hab.1 hab.2
  exact lv_icmp_gt C.1 C.2.1 hd ht (fun h => kt (by simp only [e] at h; omega) H locs ls hP hS hl) (fun h => kf (by simp only [e] at h; omega) H locs ls hP hS hl)
theorem l_ifr_eq (C : CL M κ b N xs) {x : Int32} {off : Int} {tgt : Nat} (hd : decode code pc = .ok (.ifCond .eq off, 3)) (ht : (pc : Int) + off = (tgt : Int))
    (kt : x = 0 → GL M κ Q tgt L st σ) (kf : ¬ (x = 0) → GL M κ Q (pc + 3) L st σ) : GL M κ Q pc L (.int x :: st) σ := by
  intro H locs ls hP hS hl
  exact lv_if_eq C.1 C.2.1 hd ht (fun h => kt h H locs ls hP hS hl) (fun h => kf (by first | exact h | simpa using h) H locs ls hP hS hl)
theorem l_goto (C : CL M κ b N xs) {off : Int} {tgt : Nat} (hd : decode code pc = .ok (.goto off, 3)) (ht : (pc : Int) + off = (tgt : Int))
    (k : GL M κ Q tgt L st σ) : GL M κ Q pc L st σ := by
  intro H locs ls hP hS hl
  exact lv_goto C.1 C.2.1 hd ht (k H locs ls hP hS hl)
theorem l_tsw (C : CL M κ b N xs) {dflt lo hi a off : Int} {offs : Array Int} {len tgt : Nat} (hd : decode code pc = .ok (.tableswitch dflt lo hi offs, len)) (ha : R32 a) (h1 : lo ≤ a ∧ a ≤ hi) (ho : offs[(a - lo).toNat]? = some off) (ht : (pc : Int) + off = (tgt : Int))
    (k : GL M κ Q tgt L st σ) : GL M κ Q pc L (.int (iZ a) :: st) σ := by
  intro H locs ls hP hS hl
  have e := iZ_toInt ha
  exact lv_tableIn C.1 C.2.1 hd (by rw [e]; omega) (by rw [e]; omega) (by rw [e]; exact ho) ht (k H locs ls hP hS hl)
theorem l_tswd (C : CL M κ b N xs) {dflt lo hi a : Int} {offs : Array Int} {len tgt : Nat} (hd : decode code pc = .ok (.tableswitch dflt lo hi offs, len)) (ha : R32 a) (h1 : a < lo ∨ hi < a) (ht : (pc : Int) + dflt = (tgt : Int))
    (k : GL M κ Q tgt L st σ) : GL M κ Q pc L (.int (iZ a) :: st) σ := by
  intro H locs ls hP hS hl
  have e := iZ_toInt ha
  exact lv_tableOut C.1 C.2.1 hd (by rw [e]; exact h1) ht (k H locs ls hP hS hl)
theorem l_int {z z' : Int} (h : z = z') (k : GL M κ Q pc L (.int (iZ z') :: st) σ) : GL M κ Q pc L (.int (iZ z) :: st) σ := h ▸ k
theorem l_raw {x : Int32} {z : Int} (h : x = iZ z) (k : GL M κ Q pc L (.int (iZ z) :: st) σ) : GL M κ Q pc L (.int x :: st) σ := h ▸ k
theorem l_loc {L' : List (Nat × Value)} (is : List Nat) (h : lv_pick L is = L') (k : GL M κ Q pc L' st σ) : GL M κ Q pc L st σ := fun H locs ls hP hS hl => k H locs ls hP hS (lv_sub hl is h)
theorem l_lshl (C : CL M κ b N xs) {x : Int64} {y : Int32} (hd : decode code pc = .ok (.lshl, 1)) (k : GL M κ Q (pc + 1) L (.long (x <<< (y.toInt64 &&& 63)) :: st) σ) : GL M κ Q pc L (.int y :: .long x :: st) σ := by
  intro H locs ls hP hS hl
  exact lv_lshl C.1 C.2.1 hd rfl (k H locs ls hP hS hl)
theorem l_ldc2 (C : CL M κ b N xs) {i : Nat} {v : Int64} (hd : decode code pc = .ok (.ldc2_w i, 3)) (h : Cond.constantLong R_law i v ∈ lw_g) (k : GL M κ Q (pc + 3) L (.long v :: st) σ) : GL M κ Q pc L st σ := by
  intro H locs ls hP hS hl
  exact lv_ldc2 C.1 C.2.1 C.ow (C.w h) hd (k H locs ls hP hS hl)
/-- the script -/
def xv (xs : Nat → Int32) (j : Nat) : Int := (xs j).toInt
theorem xv_r {xs : Nat → Int32} {j : Nat} : R32 (xv xs j) := R32_of _
theorem l_sld (C : CL M κ b N xs) {z : Int} {j : Nat} (hd : decode code pc = .ok (.iaload, 1)) (hz : z = (j : Int)) (hj : j < N) (hN : N ≤ 3072) (k : GL M κ Q (pc + 1) L (.int (iZ (xv xs j)) :: st) σ) : GL M κ Q pc L (.int (iZ z) :: .ref b :: st) σ := by
  intro H locs ls hP hS hl
  subst hz
  refine va_sld C.1 C.2.1 C.X.1 C.X.2 (A := An M) (fun q => Nat.not_le.mpr C.X.2 q) hS (iZ_in rfl hj (by omega)) hd ?_
  rw [iZ_clamp (by omega), iZ_of (xs j)]
  exact k H locs ls hP hS hl
theorem l_slen (C : CL M κ b N xs) (hd : decode code pc = .ok (.arraylength, 1)) (k : GL M κ Q (pc + 1) L (.int (iZ (N : Int)) :: st) σ) : GL M κ Q pc L (.ref b :: st) σ := by
  intro H locs ls hP hS hl
  exact va_slen C.1 C.2.1 C.X.1 C.X.2 (A := An M) (fun q => Nat.not_le.mpr C.X.2 q) hS hd (k H locs ls hP hS hl)
/-! calls from the law -/
def RnL (M : MC) (κ : Kp) (pc : Nat) (L : List (Nat × Value)) (st0 rest : List Value) (σ : St) (Qa : State → Outcome → State → Prop) : Prop :=
  ∀ (H : Heap) (locs : List Loc) (ls : Array Slot), va_P κ.1 vwCl (wld κ σ) H → lv_has ls 4 L → va_Run (Mp M) (Ml M) (Me M) (MR M) (Ms M) (Mm M) (Ma M) (Mb M) (Mt M) (Mc M) H locs 600000 7302250 0 0 (F0 (Mm M) pc ls st0) rest Qa (Ak κ)
theorem rnL (C : CL M κ b N xs) {d' i n mL k c N' : Nat} {y : MethodName} {bc : ByteArray} {rt : Option FieldType} {As : List Value} {st0 : List Value} {T : u_T} {Cn : String} {Qc : Array Value → State → Outcome → State → Prop} (hct : Ct κ (Ml M) d' y bc mL rt (.ref (κ.2.1 k) :: As) σ Qc) (hlk : LkV R_law i y bc mL rt n) (hk : kd k = c) (hc : c < 20) (hcl : vwCl[c]? = some (Cn, T, N')) (hcn : y.cls = Cn) (hd : decode code pc = .ok (.invokevirtual i, 3)) (hdd : d' ≤ 20) (hm : mL ≤ 40) (hn : As.length = n) (hs : st0 = As.reverse ++ .ref (κ.2.1 k) :: st) (hst : (st.map fun v => v.category).sum ≤ 8) :
    RnL M κ pc L st0 st σ (Qc (Value.ref (κ.2.1 k) :: As).toArray) := by
  intro H locs ls hP hl
  obtain ⟨q, hq, hw⟩ := wld_at κ σ (k := k) (by omega)
  rw [cel_o hk hc] at hw
  refine va_runV (As := As) (rest := st) ⟨C.1, C.2.1, C.2.2.1, C.ow, C.hts⟩ hct (cwV (C := y.cls) n C.hts hlk.1 rfl rfl rfl ⟨rfl, hlk.2⟩ (by rw [C.room]; show d' + 1 ≤ 2048 ∧ 8 + (mL + 11) + 64 * d' ≤ 84000; omega)) ⟨Wd_blind, ?_, fun U hU hW => ⟨rfl, by rw [hU]; exact hP, va_K.moved hW.alike C.K, C.nk.warm hW⟩⟩ rfl hn hl.1 hs (lv_room hst) hd (by rw [C.room]; exact ⟨Nat.le_refl _, Nat.le_refl _⟩)
  have := va_recv C.K hP hcl hw
  rw [hcn]
  exact this
theorem l_ci (C : CL M κ b N xs) {st0 : List Value} {av : Array Value} {post : Int → St → Prop} (hr : RnL M κ pc L st0 st σ (qI κ post av)) (kk : ∀ z σ', post z σ' → GL M κ Q (pc + 3) L (.int (iZ z) :: st) σ') : GL M κ Q pc L st0 σ := by
  intro H locs ls hP hS hl
  refine va_calli (hr H locs ls hP hl) hS (fun q _ h => C.Ak h) (fun q h => C.Ak h) (fun r u t H1 locs1 ht hvm hp hB hz hk1 hS1 => ?_)
  obtain ⟨rfl, hp⟩ := hp
  exact kk u.1 u.2 hp H1 locs1 ls (by rw [← ht]; exact hB.1) hS1 hl
theorem l_cl (C : CL M κ b N xs) {st0 : List Value} {av : Array Value} {post : Int64 → St → Prop} (hr : RnL M κ pc L st0 st σ (qJ κ post av)) (kk : ∀ z σ', post z σ' → GL M κ Q (pc + 3) L (.long z :: st) σ') : GL M κ Q pc L st0 σ := by
  intro H locs ls hP hS hl
  refine va_calll (hr H locs ls hP hl) hS (fun q _ h => C.Ak h) (fun q h => C.Ak h) (fun r u t H1 locs1 ht hvm hp hB hz hk1 hS1 => ?_)
  obtain ⟨rfl, hp⟩ := hp
  exact kk u.1 u.2 hp H1 locs1 ls (by rw [← ht]; exact hB.1) hS1 hl
end LAW
/-! each side's view is kept by the other's calls -/
theorem MV.frX {σ σ' : St} {V : Vw} (h : MV σ V) (hF : Fr XC σ σ') : MV σ' V := by
  have g : Fm XC NoT σ σ' := ⟨fun k h1 h2 => ⟨hF.1 k h2, hF.2.1 k h2, hF.2.2 k h2⟩, fun j _ => congrFun (hF.1 105 (by unfold XC; omega)) j⟩
  exact ⟨h.1.fm g (fun k _ _ e => by unfold XC at e; omega) (fun _ _ _ e => e), h.2.1.fm g (by unfold XC; omega) (fun e => e), h.2.2.1.fm g (fun k _ _ e => by unfold XC at e; omega), h.2.2.2.1.fm g (fun k _ _ e => by unfold XC at e; omega) (fun e => e), h.2.2.2.2.fm g (by unfold XC; omega) (fun e => e)⟩
theorem XV.frY {σ σ' : St} {V : Vw} (h : XV σ V) (hO : OKV V) (hF : Fr YC σ σ') : XV σ' V := h.scratch hO hF (fun k hk e => by unfold YC at e; omega)

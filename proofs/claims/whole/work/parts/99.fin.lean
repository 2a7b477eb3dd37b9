/-! THE START: the walk to the loop; the claim -/
theorem n_astore_n {M : MC} {D : va_G} {f : Nat → ClassId} {A : Nat → Prop} {own : String} {cc : ByteArray} {nL : Nat} {R : Room} {Q : State → Prop} {pc : Nat} {L : List (Nat × Value)} {st : List Value} {ws : va_W} {nc ns : Nat} (C : Cn M D f A own cc nL R) {i0 : Fin 4} {i : Nat} {x : Nat} {L' : List (Nat × Value)} (hd : decode cc pc = .ok (.astore_n i0, 1)) (hi : (i0 : Nat) = i) (hn : i < nL) (hL : lq1 L i (.ref x) = L') (k : GN M D A nL Q (pc + 1) L' st ws nc ns) : GN M D A nL Q pc L (.ref x :: st) ws nc ns := by
  intro H locs ls hP hD hS hl
  exact lv_astore_n C.1 C.2.1 hd hi hl hn hL (fun ls' hl' => k H locs ls' hP hD hS hl')
set_option maxHeartbeats 4000000 in
set_option maxRecDepth 100000 in
theorem start_run {M : MC} {D : va_G} {f : Nat → ClassId} {b : Nat} {Q : State → Prop} (C : Cn M D f (An M) R_law code 4 room_1) (K : ∀ (q9 q10 : Nat) (w9 : {w : va_W // W9 f q9 w}) (w10 : {w : va_W // W10 f q10 w}), GN M D (An M) 4 Q 18 [(3, .int (iZ 0)), (2, .ref q10), (1, .ref q9), (0, .ref b)] [] (([] ++ w9.1) ++ w10.1) 600000 7302250) : GN M D (An M) 4 Q 0 [(0, .ref b)] [] [] 0 0 := by
  refine n_new (ci := 9) (N := 12) (K := RX9) (T := TX9) (ty := tyX9) (fs := [.null, .null, .int (iZ 0), .null, .null, .null, .null, .null, .null, .int (iZ 0), .int (iZ 0), .null]) C dl_0 rfl hinX9 tyX9_ok (mg (mk1 (List.mem_of_getElem? (i := 18) rfl)) rfl : Cond.classLink R_law 7 RX9 ∈ lw_g) (mg (mk1 (List.mem_of_getElem? (i := 19) rfl)) rfl : Cond.instantiable RX9 12 ∈ lw_g) (mg (mk1 (List.mem_of_getElem? (i := 1) rfl)) rfl : Cond.initialized RX9 ∈ lw_g) (fun j hj => by rcases (show j = 0 ∨ j = 1 ∨ j = 2 ∨ j = 3 ∨ j = 4 ∨ j = 5 ∨ j = 6 ∨ j = 7 ∨ j = 8 ∨ j = 9 ∨ j = 10 ∨ j = 11 by omega) with rfl | rfl | rfl | rfl | rfl | rfl | rfl | rfl | rfl | rfl | rfl | rfl <;> rfl) (Nat.le_of_ble_eq_true rfl) (Nat.le_of_ble_eq_true rfl) (fun q9 => ?_)
  refine n_dup C dl_3 rfl ?_
  refine n_init (n := 0) (As := []) (b := q9) (wr := []) C (cn_X9_init D f (Ml M) q9) dl_4 rfl rfl (mg (mk1 (List.mem_of_getElem? (i := 20) rfl)) rfl : Cond.methodLink R_law 9 yX9_init ∈ lw_g) (mg (mk1 (List.mem_of_getElem? (i := 21) rfl)) rfl : Cond.instanceMethod yX9_init ∈ lw_g) (mg (mk1 (List.mem_of_getElem? (i := 1) rfl)) rfl : Cond.initialized RX9 ∈ lw_g) (mg (mk1 (List.mem_of_getElem? (i := 22) rfl)) rfl : Cond.code yX9_init cX9_init 2 none ∈ lw_g) ⟨by decide +kernel, by decide +kernel, by decide +kernel⟩ rfl ⟨Nat.le_of_ble_eq_true rfl, Nat.le_of_ble_eq_true rfl⟩ (Nat.le_of_ble_eq_true rfl) rfl (Nat.le_of_ble_eq_true rfl) (Nat.le_of_ble_eq_true rfl) (fun w9 => ?_)
  refine n_astore_n (L' := [(1, .ref q9), (0, .ref b)]) C dl_7 rfl (by decide) rfl ?_
  refine n_pc (pc' := 8) rfl ?_
  refine n_new (ci := 10) (N := 59) (K := RX10) (T := TX10) (ty := tyX10) (fs := [.null, .null, .null, .null, .null, .null, .null, .null, .null, .null, .int (iZ 0), .int (iZ 0), .int (iZ 0), .null, .null, .null, .null, .null, .int (iZ 0), .null, .null, .null, .null, .null, .int (iZ 0), .int (iZ 0), .null, .null, .null, .null, .null, .null, .null, .null, .null, .int (iZ 0), .int (iZ 0), .null, .int (iZ 0), .long 0, .null, .null, .null, .null, .null, .null, .null, .null, .null, .null, .null, .int (iZ 0), .int (iZ 0), .int (iZ 0), .int (iZ 0), .null, .int (iZ 0), .int (iZ 0), .int (iZ 0)]) C dl_8 rfl hinX10 tyX10_ok (mg (mk4 (List.mem_of_getElem? (i := 179) rfl)) rfl : Cond.classLink R_law 10 RX10 ∈ lw_g) (mg (mk4 (List.mem_of_getElem? (i := 180) rfl)) rfl : Cond.instantiable RX10 59 ∈ lw_g) (mg (mk1 (List.mem_of_getElem? (i := 11) rfl)) rfl : Cond.initialized RX10 ∈ lw_g) (fun j hj => by rcases (show j = 0 ∨ j = 1 ∨ j = 2 ∨ j = 3 ∨ j = 4 ∨ j = 5 ∨ j = 6 ∨ j = 7 ∨ j = 8 ∨ j = 9 ∨ j = 10 ∨ j = 11 ∨ j = 12 ∨ j = 13 ∨ j = 14 ∨ j = 15 ∨ j = 16 ∨ j = 17 ∨ j = 18 ∨ j = 19 ∨ j = 20 ∨ j = 21 ∨ j = 22 ∨ j = 23 ∨ j = 24 ∨ j = 25 ∨ j = 26 ∨ j = 27 ∨ j = 28 ∨ j = 29 ∨ j = 30 ∨ j = 31 ∨ j = 32 ∨ j = 33 ∨ j = 34 ∨ j = 35 ∨ j = 36 ∨ j = 37 ∨ j = 38 ∨ j = 39 ∨ j = 40 ∨ j = 41 ∨ j = 42 ∨ j = 43 ∨ j = 44 ∨ j = 45 ∨ j = 46 ∨ j = 47 ∨ j = 48 ∨ j = 49 ∨ j = 50 ∨ j = 51 ∨ j = 52 ∨ j = 53 ∨ j = 54 ∨ j = 55 ∨ j = 56 ∨ j = 57 ∨ j = 58 by omega) with rfl | rfl | rfl | rfl | rfl | rfl | rfl | rfl | rfl | rfl | rfl | rfl | rfl | rfl | rfl | rfl | rfl | rfl | rfl | rfl | rfl | rfl | rfl | rfl | rfl | rfl | rfl | rfl | rfl | rfl | rfl | rfl | rfl | rfl | rfl | rfl | rfl | rfl | rfl | rfl | rfl | rfl | rfl | rfl | rfl | rfl | rfl | rfl | rfl | rfl | rfl | rfl | rfl | rfl | rfl | rfl | rfl | rfl | rfl <;> rfl) (Nat.le_of_ble_eq_true rfl) (Nat.le_of_ble_eq_true rfl) (fun q10 => ?_)
  refine n_dup C dl_11 rfl ?_
  refine n_init (n := 0) (As := []) (b := q10) (wr := ([] ++ w9.1)) C (cn_X10_init D f (Ml M) q10) dl_12 rfl rfl (mg (mk4 (List.mem_of_getElem? (i := 181) rfl)) rfl : Cond.methodLink R_law 12 yX10_init ∈ lw_g) (mg (mk4 (List.mem_of_getElem? (i := 182) rfl)) rfl : Cond.instanceMethod yX10_init ∈ lw_g) (mg (mk1 (List.mem_of_getElem? (i := 11) rfl)) rfl : Cond.initialized RX10 ∈ lw_g) (mg (mk4 (List.mem_of_getElem? (i := 183) rfl)) rfl : Cond.code yX10_init cX10_init 2 none ∈ lw_g) ⟨by decide +kernel, by decide +kernel, by decide +kernel⟩ rfl ⟨Nat.le_of_ble_eq_true rfl, Nat.le_of_ble_eq_true rfl⟩ (Nat.le_of_ble_eq_true rfl) rfl (Nat.le_of_ble_eq_true rfl) (Nat.le_of_ble_eq_true rfl) (fun w10 => ?_)
  refine n_astore_n (L' := [(2, .ref q10), (1, .ref q9), (0, .ref b)]) C dl_15 rfl (by decide) rfl ?_
  refine n_iconst (z := 0) C dl_16 rfl ?_
  refine n_istore_n (L' := [(3, .int (iZ 0)), (2, .ref q10), (1, .ref q9), (0, .ref b)]) C dl_17 rfl (by decide) rfl ?_
  exact n_n (Nat.le_of_ble_eq_true rfl) (Nat.le_of_ble_eq_true rfl) (K q9 q10 w9 w10)
def lw_P (b : Addr) (xs : List Int32) (args : Array Value) (s : State) : Prop := args = #[.ref b] ∧ s.IntsAt b xs ∧ xs.length ≤ 3072 ∧ (Jvm.Cond.and given_1 narrow_1).before args s = true
/-- what a walk over the start with the record d0 says of its end, said of the start itself -/
theorem lw_closed {s t : State} {o : Outcome} {d0 : Drawn} {L : List Loc} {k n : Nat} (hd0 : s.drawn.sameBut d0 lw_cs) (hv : ∃ v, o = .returned v) (hW : (s.setDrawn d0).WarmedH t.vm) (hs : (s.setDrawn d0).sameButNew ({ t with vm := s.vm } : State) L k n) : State.butDraws s t lw_cs (fun t1 => Framed s o t1 L k n) := by
  have h2 : t.drawn = d0 := congrArg State.drawn hs.1
  refine ⟨⟨hv, hW, State.sameButNew.setDrawn hs s.drawn⟩, ?_, by decide⟩
  rw [h2]
  exact hd0
def lw_Q (_ : Array Value) (s : State) (o : Outcome) (t : State) : Prop := o = .returned (some (.int 1)) ∧ State.butDraws s t lw_cs (fun t1 => Framed s o t1 [] 600000 7302250)
def lw_Z (below : List Frame) (a : Array Value) (s : State) : State → Prop := fun t => ∃ o, t.status = .running ∧ Ended t below o ∧ lw_Q a s o t
/-- the law's own end, with 1 on the stack, nothing written that was there before, its room as the claim has it; d0: the record of draws at this point (at the entry s.drawn: begin with 'refine W.base ?_' and 'have hd0 := Drawn.sameBut.refl s.drawn lw_cs') -/
theorem lw_ret {p : Program} {l : Launch} {e : Env} {s : State} {m : MethodId} {below : List Frame} {meth : Method} {c : Code} {b : Nat} {d0 : Drawn} (hd0 : s.drawn.sameBut d0 lw_cs) (hx : p.tables.exec = Jvm.exec) (hb : c.code = code) (hr : meth.sig.returnType = ret) (hlocks : meth.locks = false) {pc : Nat} {H : Heap} {ls : Array Slot} (hdg : decode code pc = .ok (.ireturn, 1)) : W p l e room_1 (s.setDrawn d0) m #[Value.ref b] below meth c H [] 600000 7302250 (lw_Z below #[Value.ref b] s) (F0 m pc ls [.int 1]) := by
  intro T hT X
  obtain ⟨fs, hret, hrun, hended, hW, hframe⟩ := X.leave (v := some (.int 1)) (hlocks := hlocks) (fun h => by rw [hr] at h; cases h)
  have hmeth' : T.vm.method? m = some meth := X.method'
  refine ⟨T.setFrames fs, ?_, .returned (some (.int 1)), hrun, hended, rfl, lw_closed hd0 ⟨_, rfl⟩ hW hframe⟩
  jvm_step X.here [X.here.top, hx, hb, hdg, hmeth', hr, ret, narrow_b1]
  (try refine ⟨rfl, ?_⟩); (try refine ⟨rfl, ?_⟩)
  first | (intro acts; rw [hret _ acts rfl rfl rfl]) | rw [hret _ _ rfl rfl rfl]
  exact Steps.refl _
/-- what holds at the law's entry: the machine, the code, the tables' words (any of lw_tbl by 'hts w (by decide +kernel)'), the script of L ints xs at the cell b, what the Statement gives of the start (any of its parts by flat_of_before) -/
def lw_At (p : Program) (s : State) (m : MethodId) (meth : Method) (c : Code) (b L : Nat) (xs : Nat → Int32) : Prop :=
  p.tables.exec = Jvm.exec ∧ c.code = code ∧ meth.sig.returnType = ret ∧ c.maxLocals = 4 ∧ s.vm.findClass R_law = some m.cls ∧ (∀ w ∈ lw_tbl, w.before #[Value.ref b] s = true) ∧ va_X b L xs s s.heap ∧ b < s.heap.size ∧ meth.locks = false ∧ (Jvm.Cond.and given_1 narrow_1).before #[Value.ref b] s = true
set_option maxHeartbeats 40000000 in
set_option maxRecDepth 100000 in
theorem whole_start {p : Program} {e : Env} {s : State} {m : MethodId} {below : List Frame} {meth : Method} {c : Code} (l : Launch) (hflags : l.flags = flags0) {b L : Nat} {xs : Nat → Int32} (hL : L ≤ 3072) (C0 : lw_At p s m meth c b L xs) : W p l e room_1 s m #[Value.ref b] below meth c s.heap [] 0 0 (lw_Z below #[Value.ref b] s) (entryFrame m ([Value.ref b] : List Value).toArray 4) := by
  obtain ⟨hx, hb, hr, hml, hown, hts, hX, hbl, hlocks, hgv⟩ := C0
  obtain ⟨D, f, hK, hN, hNK⟩ := start_K hts
  have hg : ∀ w ∈ lw_g, w.before #[Value.ref b] s = true := fun w hw => hts w (List.mem_filter.mp hw).1
  rw [lg_entry_eq]
  have hent := lv_entry ([Value.ref b]) (n := 4) (Nat.le_of_ble_eq_true rfl)
  have C1 : Cn (p, l, e, room_1, s, m, #[Value.ref b], below, meth, c) D f (An (p, l, e, room_1, s, m, #[Value.ref b], below, meth, c)) R_law code 4 room_1 := ⟨hx, hb, hml, hown, hg, rfl, hK, hN, fun q h => h⟩
  refine start_run (b := b) (Q := lw_Z below #[Value.ref b] s) C1 (fun b9 b10 w9 w10 => ?_) s.heap [] _ (fun k q hk => absurd hk (by simp)) ⟨fun i j p q hi => absurd hi (by simp), fun k q hk => absurd hk (by simp)⟩ va_S.rf hent
  intro H locs ls hP hD hS hl
  obtain ⟨w9, hw9⟩ := w9
  obtain ⟨w10, hw10⟩ := w10
  obtain ⟨q, u1, u2, u3, u4, u5, u6, sh, v, t, rfl⟩ := W9_A hw9
  obtain ⟨mm, rfl⟩ := W10_B hw10
  have hPw := start_W (f := f) (b9 := b9) (q := q) (u1 := u1) (u2 := u2) (u3 := u3) (u4 := u4) (u5 := u5) (u6 := u6) (s := sh) (v := v) (t := t) (b10 := b10) (m := mm) hP
  obtain ⟨hIj, hnew⟩ := start_I (D := D) (f := f) (b9 := b9) (q := q) (u1 := u1) (u2 := u2) (u3 := u3) (u4 := u4) (u5 := u5) (u6 := u6) (s := sh) (v := v) (t := t) (b10 := b10) (m := mm) hD
  have e9 : alp b9 q u1 u2 u3 u4 u5 u6 sh v t b10 mm 76 = b9 := rfl
  have e10 : alp b9 q u1 u2 u3 u4 u5 u6 sh v t b10 mm 105 = b10 := rfl
  clear hP hD hw9 hw10
  generalize alp b9 q u1 u2 u3 u4 u5 u6 sh v t b10 mm = al at hPw hIj hnew e9 e10
  subst e9
  subst e10
  have C2 : CL (p, l, e, room_1, s, m, #[Value.ref b], below, meth, c) ((D, al, f) : Kp) b L xs := ⟨hx, hb, hml, hr, hown, hg, hlocks, rfl, hK, hIj, hNK, ⟨hX, hbl⟩, hnew⟩
  refine law_loop C2 hL (fun i σ => ?_) (L + 7) 0 st0 V00 (by omega) (by omega) st0_X st0_M V00_O H locs ls hPw hS (lv_sub hl [0, 3, 2, 1] rfl)
  refine l_iconst (z := 1) C2 dl_1375 rfl ?_
  intro H1 locs1 ls1 hP1 hS1 hl1
  exact va_forget hS1.2.2 (lw_ret (d0 := s.drawn) (Drawn.sameBut.refl s.drawn lw_cs) hx hb hr hlocks dl_1376)
set_option maxHeartbeats 4000000 in
theorem lw_walk (l : Launch) (hflags : l.flags = flags0) (b : Addr) (xs : List Int32) : MetFree l x (headSpec (Jvm.Cond.code x code maxLocals ret :: tables_1) room_1) (lw_P b xs) (fun _ _ _ _ _ => True) lw_Q := by
  refine MetFree.of_bodyS (code := code) (maxLocals := maxLocals) (ret := ret) (by decide) ?_ ?_
  · intro args s m h hn
    obtain ⟨meth, c, h1, h2, h3, h4, h5, h6, -, -⟩ := Cond.code_spec hn (atoms_spec (ws := Jvm.Cond.code x code maxLocals ret :: tables_1) h _ List.mem_cons_self)
    exact ⟨meth, c, h1, h2, h3, h4, h5, h6⟩
  · intro p e s m args below meth c s₁ B hml0 hP _
    obtain ⟨rfl, hx, hbd, hgv⟩ := hP
    obtain ⟨scr, harrAt, hlist, hof, hsmall⟩ := hx
    obtain ⟨hcb, hkn, -, -⟩ := State.arrayAt?_spec harrAt
    have hown : s.vm.findClass R_law = some m.cls := findClass_of_methodNamed B.named
    have hts0 : ∀ c ∈ (Jvm.Cond.code x code maxLocals ret :: tables_1), c.before #[Value.ref b] s = true := atoms_spec (ws := Jvm.Cond.code x code maxLocals ret :: tables_1) B.pre
    have hts : ∀ w ∈ lw_tbl, w.before #[Value.ref b] s = true := k2_hts_sels lw_privs (fun w hw => hts0 w (List.mem_cons_of_mem _ hw)) lw_privs_ok
    have hml : c.maxLocals = 4 := B.maxLocals_eq (hts0 _ List.mem_cons_self)
    have X₀ : Stand p l e room_1 s m #[Value.ref b] below meth c s₁ [] 0 0 := Stand.of_body B
    have hh0 : s₁.heap = s.heap := by rw [B.state]; rfl
    have hsz : scr.slots.size = xs.length := by rw [← Array.length_toList, hlist, List.length_map]
    have hval : ∀ j : Nat, j < xs.length → scr.slots[j]? = some (.int (xs.getD j 0)) := fun j hj => by
      rw [← Array.getElem?_toList, hlist]
      simp [hj]
    have hbl : b < s.heap.size := (Array.getElem?_eq_some_iff.mp hcb).1
    have hX : va_X b xs.length (fun j => xs.getD j 0) s s.heap := ⟨scr, hcb, hof, hkn, hsz, hval⟩
    have K : W p l e room_1 s m #[Value.ref b] below meth c s₁.heap [] 0 0 (lw_Z below #[Value.ref b] s) (entryFrame m ([Value.ref b] : List Value).toArray 4) := by
      rw [hh0]
      exact whole_start l hflags hbd ⟨B.exec, B.bytes, B.returns, hml, hown, hts, hX, hbl, B.notSynchronized, hgv⟩
    obtain ⟨t, a1, o, b1, b2, b3⟩ := K s₁ rfl X₀
    exact ⟨t, o, a1, b1, b2, b3⟩
theorem lw_pre_spec {args : Array Value} {s : State} (h : (Jvm.Cond.and given_1 narrow_1).before args s = true) (hr : rest_1_c.before args s = true) : ∃ (b : Addr) (xs : List Int32), lw_P b xs args s := by
  have hs := flat_of_before _ h
  have hq := flat_of_before _ hr
  have hc : (Cond.count 1).before args s = true := hs _ (by decide +kernel)
  have harr : (Cond.arrayOf (.arg 0) .int).before args s = true := hs _ (by decide +kernel)
  have hle : (Cond.le (.length (.arg 0)) (.int 3072)).before args s = true := hs _ (by decide +kernel)
  have hlen : (Cond.isInt (.length (.arg 0))).before args s = true := hq _ (by decide +kernel)
  have hall : (Cond.all (.arg 0) (.isInt (.elem (.arg 0) (.index 0)))).before args s = true := hq _ (by decide +kernel)
  obtain ⟨b, xs, hb, hx⟩ := State.ints_of_pre rfl harr hlen hall
  have hsm : xs.length < 2 ^ 31 := hx.choose_spec.2.2.2
  have hev : (Term.length (.arg 0)).eval args s none [] s = some (.int xs.length.toInt32) := hx.length_eval hb
  have hv := Cond.le_ints hev (show (Term.int 3072).eval args s none [] s = some (.int 3072) from rfl)
  have hd : xs.length.toInt32 ≤ 3072 := by
    simpa [Cond.before, Cond.holds, hv] using hle
  have hN : xs.length ≤ 3072 := (Int32.ofNat_le_ofNat hsm (by decide)).mp (show Int32.ofNat xs.length ≤ Int32.ofNat 3072 from hd)
  exact ⟨b, xs, Cond.one_arg hc (show args[0]? = some (.ref b) from hb), hx, hN, h⟩
theorem lw_comes (l : Launch) (hflags : l.flags = flags0) : Comes l x (Jvm.Cond.code x code maxLocals ret :: tables_1) room_1 (fun tb e args s => Calls_1 tb e args s ∧ rest_1 tb e args s ∧ Pre_1 tb e args s)
    (fun _ _ args s o t => lw_Q args s o t) := by
  intro p e ha hc hk s m args below hf hfit hheap happ hpre
  obtain ⟨b, xs, hP⟩ := lw_pre_spec hpre.2.2 hpre.2.1
  obtain ⟨k, o, h1, h2, h3, hQ⟩ := lw_walk l hflags b xs p e ha hc hk s m args below hf ((Spec.applies_iff_loose hf).mp happ).1 hP trivial
  exact ⟨k, o, h1, h2, h3, hQ⟩
theorem lw_frame {s t : State} {o : Outcome} {args : Array Value} (h : State.butDraws s t lw_cs (fun t1 => Framed s o t1 [] 600000 7302250)) :
    State.butDraws s t [Jvm.Choice.named "NaN.bits"] (fun t1 => Framed s o t1 (fieldLocs frame_1_writes args s ++ arrayLocs frame_1_arrays args s ++ staticLocs frame_1_statics s) 600000 7302250) := h
theorem lw_limb (L : Cond) (hL : ∀ (args : Array Value) (s t : State), L.after args s (.returned (some (.int 1))) t = true) :
    ArmFor flags0 classFile x code maxLocals ret World_1 tables_1 room_1 Calls_1 rest_1 Pre_1
      (fun tb e a s o t => postC L tb e a s o t ∧ State.butDraws s t [Jvm.Choice.named "NaN.bits"] (fun t1 => Framed s o t1 (fieldLocs frame_1_writes a s ++ arrayLocs frame_1_arrays a s ++ staticLocs frame_1_statics s) 600000 7302250)) := by
  intro l hflags _ _ p e ha hc hk s m args below hf hfit hheap happ hpre
  obtain ⟨k, o, h1, h2, h3, rfl, hF⟩ := lw_comes l hflags p e ha hc hk s m args below hf hfit hheap happ hpre
  exact ⟨k, _, h1, h2, h3, hL args s _, lw_frame hF⟩
theorem i_vc : Claimed_1_1 ∧ Claimed_1_2 := ⟨lw_limb limb_1_1 (fun args s t => by simp [limb_1_1, Cond.after, Cond.holds, Cond.value]), lw_limb limb_1_2 (fun args s t => Cond.after_iff.mpr (by
  first | (rw [show limb_1_2 = Cond.eq .result (.int 1) from rfl, Cond.eq_ints (x := 1) (y := 1) rfl rfl]; simp; done) | (simp [limb_1_2, Cond.value, Term.eval]; done)))⟩

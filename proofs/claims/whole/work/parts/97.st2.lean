/-! THE START: the classes, the arrays -/
theorem ArrOfT.mk {s : State} {cA : ClassId} {kA : Class} {comp : ClassId} {ty : FieldType} (h2 : s.vm.classes[cA]? = some kA) (h3 : kA.kind = .array comp ty) : ArrOfT s cA ty := fun n z => ⟨(fun k h => by cases h), kA, h2, comp, h3⟩
set_option maxHeartbeats 4000000 in
theorem start_K {args : Array Value} {s : State} (hts : ∀ w ∈ lw_tbl, w.before args s = true) : ∃ (D : va_G) (f : Nat → ClassId), va_K D vwCl (tyN f) s ∧ NO s ∧ NK s := by
  have hg : ∀ w ∈ lw_g, w.before args s = true := fun w hw => hts w (List.mem_filter.mp hw).1
  obtain ⟨c0, i0, k0⟩ := u_known hg hinX0 (hts _ (mk1 (List.mem_of_getElem? (i := 130) rfl) : Cond.instantiable RX0 7 ∈ lw_tbl))
  obtain ⟨c1, i1, k1⟩ := u_known hg hinX1 (hts _ (mk1 (List.mem_of_getElem? (i := 216) rfl) : Cond.instantiable RX1 6 ∈ lw_tbl))
  obtain ⟨c2, i2, k2⟩ := u_known hg hinX2 (hts _ (mk2 (List.mem_of_getElem? (i := 39) rfl) : Cond.instantiable RX2 7 ∈ lw_tbl))
  obtain ⟨c3, i3, k3⟩ := u_known hg hinX3 (hts _ (mk1 (List.mem_of_getElem? (i := 177) rfl) : Cond.instantiable RX3 10 ∈ lw_tbl))
  obtain ⟨c4, i4, k4⟩ := u_known hg hinX4 (hts _ (mk2 (List.mem_of_getElem? (i := 33) rfl) : Cond.instantiable RX4 5 ∈ lw_tbl))
  obtain ⟨c5, i5, k5⟩ := u_known hg hinX5 (hts _ (mk1 (List.mem_of_getElem? (i := 34) rfl) : Cond.instantiable RX5 4 ∈ lw_tbl))
  obtain ⟨c6, i6, k6⟩ := u_known hg hinX6 (hts _ (mk2 (List.mem_of_getElem? (i := 1) rfl) : Cond.instantiable RX6 7 ∈ lw_tbl))
  obtain ⟨c7, i7, k7⟩ := u_known hg hinX7 (hts _ (mk1 (List.mem_of_getElem? (i := 124) rfl) : Cond.instantiable RX7 4 ∈ lw_tbl))
  obtain ⟨c8, i8, k8⟩ := u_known hg hinX8 (hts _ (mk1 (List.mem_of_getElem? (i := 27) rfl) : Cond.instantiable RX8 9 ∈ lw_tbl))
  obtain ⟨c9, i9, k9⟩ := u_known hg hinX9 (hts _ (mk1 (List.mem_of_getElem? (i := 19) rfl) : Cond.instantiable RX9 12 ∈ lw_tbl))
  obtain ⟨c10, i10, k10⟩ := u_known hg hinX10 (hts _ (mk4 (List.mem_of_getElem? (i := 180) rfl) : Cond.instantiable RX10 59 ∈ lw_tbl))
  obtain ⟨a0, ka0, co0, x0, y0, z0⟩ := Cond.arrayClass_spec (hts _ (mk1 (List.mem_of_getElem? (i := 64) rfl) : Cond.arrayClass .int ∈ lw_tbl))
  obtain ⟨a1, ka1, co1, x1, y1, z1⟩ := Cond.arrayClass_spec (hts _ (mk1 (List.mem_of_getElem? (i := 175) rfl) : Cond.arrayClass .float ∈ lw_tbl))
  obtain ⟨a2, ka2, co2, x2, y2, z2⟩ := Cond.arrayClass_spec (hts _ (mk2 (List.mem_of_getElem? (i := 80) rfl) : Cond.arrayClass .long ∈ lw_tbl))
  obtain ⟨co3, a3, ka3, p3, -, y3, z3, x3⟩ := Cond.arrayOver_spec (hts _ (mk1 (List.mem_of_getElem? (i := 33) rfl) : Cond.arrayOver (.object RX5) ∈ lw_tbl))
  obtain ⟨co4, a4, ka4, p4, -, y4, z4, x4⟩ := Cond.arrayOver_spec (hts _ (mk2 (List.mem_of_getElem? (i := 32) rfl) : Cond.arrayOver (.object RX2) ∈ lw_tbl))
  obtain ⟨co5, a5, ka5, p5, -, y5, z5, x5⟩ := Cond.arrayOver_spec (hts _ (mk2 (List.mem_of_getElem? (i := 30) rfl) : Cond.arrayOver (.object RX4) ∈ lw_tbl))
  refine ⟨(fun c => ([c0, c1, c2, c3, c4, c5, c6, c7, c8, c9, c10] : List ClassId).getD c c0, fun c => ([i0, i1, i2, i3, i4, i5, i6, i7, i8, i9, i10] : List (Nat → Nat)).getD c i0), fun j => ([a0, a1, a2, a3, a4, a5] : List ClassId).getD j a0, ⟨fun c q hq => ?_, fun k q hk => ?_⟩, ⟨va_AO.of (hts _ (mk1 (List.mem_of_getElem? (i := 33) rfl) : Cond.arrayOver (.object RX5) ∈ lw_tbl)), va_AO.of (hts _ (mk2 (List.mem_of_getElem? (i := 32) rfl) : Cond.arrayOver (.object RX2) ∈ lw_tbl)), va_AO.of (hts _ (mk2 (List.mem_of_getElem? (i := 30) rfl) : Cond.arrayOver (.object RX4) ∈ lw_tbl))⟩, fun w hw => ?_⟩
  · have hc : c < 11 := (List.getElem?_eq_some_iff.mp hq).1
    have hcs : c = 0 ∨ c = 1 ∨ c = 2 ∨ c = 3 ∨ c = 4 ∨ c = 5 ∨ c = 6 ∨ c = 7 ∨ c = 8 ∨ c = 9 ∨ c = 10 := by omega
    rcases hcs with e | e | e | e | e | e | e | e | e | e | e <;> subst e
    · obtain rfl := Option.some.inj (show some (RX0, TX0, 7) = some q from hq); exact k0
    · obtain rfl := Option.some.inj (show some (RX1, TX1, 6) = some q from hq); exact k1
    · obtain rfl := Option.some.inj (show some (RX2, TX2, 7) = some q from hq); exact k2
    · obtain rfl := Option.some.inj (show some (RX3, TX3, 10) = some q from hq); exact k3
    · obtain rfl := Option.some.inj (show some (RX4, TX4, 5) = some q from hq); exact k4
    · obtain rfl := Option.some.inj (show some (RX5, TX5, 4) = some q from hq); exact k5
    · obtain rfl := Option.some.inj (show some (RX6, TX6, 7) = some q from hq); exact k6
    · obtain rfl := Option.some.inj (show some (RX7, TX7, 4) = some q from hq); exact k7
    · obtain rfl := Option.some.inj (show some (RX8, TX8, 9) = some q from hq); exact k8
    · obtain rfl := Option.some.inj (show some (RX9, TX9, 12) = some q from hq); exact k9
    · obtain rfl := Option.some.inj (show some (RX10, TX10, 59) = some q from hq); exact k10
  · have hc : k < 6 := (List.getElem?_eq_some_iff.mp hk).1
    have hcs : k = 0 ∨ k = 1 ∨ k = 2 ∨ k = 3 ∨ k = 4 ∨ k = 5 := by omega
    rcases hcs with e | e | e | e | e | e <;> subst e
    · obtain rfl := Option.some.inj (show some ((a0, .int) : ClassId × FieldType) = some q from hk); exact ⟨ArrOfT.mk y0 z0, x0⟩
    · obtain rfl := Option.some.inj (show some ((a1, .float) : ClassId × FieldType) = some q from hk); exact ⟨ArrOfT.mk y1 z1, x1⟩
    · obtain rfl := Option.some.inj (show some ((a2, .long) : ClassId × FieldType) = some q from hk); exact ⟨ArrOfT.mk y2 z2, x2⟩
    · obtain rfl := Option.some.inj (show some ((a3, .object RX5) : ClassId × FieldType) = some q from hk); exact ⟨ArrOfT.mk y3 z3, ⟨ka3, co3, y3, z3, p3, x3⟩⟩
    · obtain rfl := Option.some.inj (show some ((a4, .object RX2) : ClassId × FieldType) = some q from hk); exact ⟨ArrOfT.mk y4 z4, ⟨ka4, co4, y4, z4, p4, x4⟩⟩
    · obtain rfl := Option.some.inj (show some ((a5, .object RX4) : ClassId × FieldType) = some q from hk); exact ⟨ArrOfT.mk y5 z5, ⟨ka5, co5, y5, z5, p5, x5⟩⟩
  · unfold nst at hw
    simp only [List.mem_cons, List.not_mem_nil, or_false] at hw
    rcases hw with rfl | rfl | rfl | rfl | rfl | rfl | rfl
    · exact va_Nw.of rfl (hts _ (mk2 (List.mem_of_getElem? (i := 224) rfl)))
    · exact va_Nw.of rfl (hts _ (mk3 (List.mem_of_getElem? (i := 216) rfl)))
    · exact va_Nw.of rfl (hts _ (mk4 (List.mem_of_getElem? (i := 2) rfl)))
    · exact va_Nw.of rfl (hts _ (mk4 (List.mem_of_getElem? (i := 9) rfl)))
    · exact va_Nw.of rfl (hts _ (mk4 (List.mem_of_getElem? (i := 26) rfl)))
    · exact va_Nw.of rfl (hts _ (mk4 (List.mem_of_getElem? (i := 39) rfl)))
    · exact va_Nw.of rfl (hts _ (mk4 (List.mem_of_getElem? (i := 58) rfl)))

/-! THE START: the cells in their order -/
theorem arrV_congr {cA : ClassId} {n : Nat} {g h : Nat → Value} (e : ∀ j, j < n → g j = h j) : arrV cA n g = arrV cA n h := by
  unfold arrV
  congr 1
  congr 1
  funext j
  exact e j.val j.isLt
theorem at_q {D : va_G} {cl : List vw_C} {a : Nat} {cA : ClassId} {n : Nat} {g h : Nat → Option Nat} {H : Heap} (e : ∀ j, j < n → g j = h j) (w : va_at D cl (a, .inl (cA, n, .inr (.inr (.inr (.inr g))))) H) : va_at D cl (a, .inl (cA, n, .inr (.inr (.inr (.inr h))))) H := by
  have w' : H[a]? = some (vp_cell cA (n, .inr (.inr (.inr (.inr g))))) := w
  show H[a]? = some (vp_cell cA (n, .inr (.inr (.inr (.inr h)))))
  rw [w', vp_cell_q, vp_cell_q]
  congr 1
  exact arrV_congr (fun j hj => by rw [e j hj])
theorem at_i {D : va_G} {cl : List vw_C} {a : Nat} {cA : ClassId} {n : Nat} {g h : Nat → Int32} {H : Heap} (e : ∀ j, j < n → g j = h j) (w : va_at D cl (a, .inl (cA, n, .inl g)) H) : va_at D cl (a, .inl (cA, n, .inl h)) H := by
  have w' : H[a]? = some (vp_cell cA (n, .inl g)) := w
  show H[a]? = some (vp_cell cA (n, .inl h))
  rw [w', vp_cell_i, vp_cell_i]
  congr 1
  exact arrV_congr (fun j hj => by rw [e j hj])
theorem va_P_l {D : va_G} {cl : List vw_C} {a b : va_W} {H : Heap} (h : va_P D cl (a ++ b) H) : va_P D cl a H := fun k q hk => h k q (by rw [List.getElem?_append_left (List.getElem?_eq_some_iff.mp hk).1]; exact hk)
theorem va_P_r {D : va_G} {cl : List vw_C} {a b : va_W} {H : Heap} (h : va_P D cl (a ++ b) H) : va_P D cl b H := fun k q hk => h (a.length + k) q (by rw [List.getElem?_append_right (by omega), Nat.add_sub_cancel_left]; exact hk)
theorem va_P_h {D : va_G} {cl : List vw_C} {x : Nat × va_E} {b : va_W} {H : Heap} (h : va_P D cl (x :: b) H) : va_P D cl [x] H := va_P_l (a := [x]) (b := b) h
theorem va_P_t {D : va_G} {cl : List vw_C} {x : Nat × va_E} {b : va_W} {H : Heap} (h : va_P D cl (x :: b) H) : va_P D cl b H := va_P_r (a := [x]) (b := b) h
set_option maxRecDepth 100000 in
theorem TW0 {D : va_G} {f : Nat → ClassId} {H : Heap} (α : Nat → Nat) (h : va_P D vwCl [(α 0, .inr (8, [.ref (α 1), .ref (α 12), .ref (α 13), .ref (α 14), .int (iZ 0), .ref (α 15), .ref (α 16), .int (iZ 0), .int (iZ 1)])), (α 1, .inl (f 3, 5, .inr (.inr (.inr (.inr (va_up (va_up (va_up (va_up (va_up (fun _ => none) 0 (some (α 2))) 1 (some (α 4))) 2 (some (α 6))) 3 (some (α 8))) 4 (some (α 10)))))))), (α 12, .inl (f 0, 8, .inl (fun _ => iZ 0))), (α 13, .inl (f 0, 8, .inl (fun _ => iZ 0))), (α 14, .inl (f 0, 8, .inl (fun _ => iZ 0))), (α 15, .inl (f 0, 8, .inl (fun _ => iZ 0))), (α 16, .inl (f 0, 8, .inl (fun _ => iZ 0))), (α 2, .inr (5, [.ref (α 3), .int (iZ 0), .int (iZ 4), .int (iZ (-1))])), (α 3, .inl (f 0, 48, .inl (fun _ => iZ 0))), (α 4, .inr (5, [.ref (α 5), .int (iZ 0), .int (iZ 4), .int (iZ (-1))])), (α 5, .inl (f 0, 48, .inl (fun _ => iZ 0))), (α 6, .inr (5, [.ref (α 7), .int (iZ 0), .int (iZ 4), .int (iZ (-1))])), (α 7, .inl (f 0, 48, .inl (fun _ => iZ 0))), (α 8, .inr (5, [.ref (α 9), .int (iZ 0), .int (iZ 4), .int (iZ (-1))])), (α 9, .inl (f 0, 48, .inl (fun _ => iZ 0))), (α 10, .inr (5, [.ref (α 11), .int (iZ 0), .int (iZ 4), .int (iZ (-1))])), (α 11, .inl (f 0, 48, .inl (fun _ => iZ 0)))] H) : ∀ c ∈ ([0, 1, 12, 13, 14, 15, 16, 2, 3, 4, 5, 6, 7, 8, 9, 10, 11] : List Nat), va_at D vwCl (α c, cel ((D, α, f) : Kp) st0 c) H :=
  List.forall_mem_cons.mpr ⟨(h 0 _ rfl),
  List.forall_mem_cons.mpr ⟨(show va_at D vwCl (α 1, .inl (f 3, 5, .inr (.inr (.inr (.inr (fun j => some (α (rf 1 j)))))))) H from at_q (fun j hj => by have hj9 : j = 0 ∨ j = 1 ∨ j = 2 ∨ j = 3 ∨ j = 4 := (by omega); rcases hj9 with e | e | e | e | e <;> subst e <;> rfl) (h 1 _ rfl)),
  List.forall_mem_cons.mpr ⟨(h 2 _ rfl),
  List.forall_mem_cons.mpr ⟨(h 3 _ rfl),
  List.forall_mem_cons.mpr ⟨(h 4 _ rfl),
  List.forall_mem_cons.mpr ⟨(h 5 _ rfl),
  List.forall_mem_cons.mpr ⟨(h 6 _ rfl),
  List.forall_mem_cons.mpr ⟨(h 7 _ rfl),
  List.forall_mem_cons.mpr ⟨(h 8 _ rfl),
  List.forall_mem_cons.mpr ⟨(h 9 _ rfl),
  List.forall_mem_cons.mpr ⟨(h 10 _ rfl),
  List.forall_mem_cons.mpr ⟨(h 11 _ rfl),
  List.forall_mem_cons.mpr ⟨(h 12 _ rfl),
  List.forall_mem_cons.mpr ⟨(h 13 _ rfl),
  List.forall_mem_cons.mpr ⟨(h 14 _ rfl),
  List.forall_mem_cons.mpr ⟨(h 15 _ rfl),
  List.forall_mem_cons.mpr ⟨(h 16 _ rfl),
  fun _ h => absurd h List.not_mem_nil⟩⟩⟩⟩⟩⟩⟩⟩⟩⟩⟩⟩⟩⟩⟩⟩⟩
set_option maxRecDepth 100000 in
theorem TW1 {D : va_G} {f : Nat → ClassId} {H : Heap} (α : Nat → Nat) (h : va_P D vwCl [(α 17, .inr (8, [.ref (α 18), .ref (α 29), .ref (α 30), .ref (α 31), .int (iZ 0), .ref (α 32), .ref (α 33), .int (iZ 0), .int (iZ 1)])), (α 18, .inl (f 3, 5, .inr (.inr (.inr (.inr (va_up (va_up (va_up (va_up (va_up (fun _ => none) 0 (some (α 19))) 1 (some (α 21))) 2 (some (α 23))) 3 (some (α 25))) 4 (some (α 27)))))))), (α 29, .inl (f 0, 8, .inl (fun _ => iZ 0))), (α 30, .inl (f 0, 8, .inl (fun _ => iZ 0))), (α 31, .inl (f 0, 8, .inl (fun _ => iZ 0))), (α 32, .inl (f 0, 8, .inl (fun _ => iZ 0))), (α 33, .inl (f 0, 8, .inl (fun _ => iZ 0))), (α 19, .inr (5, [.ref (α 20), .int (iZ 0), .int (iZ 4), .int (iZ (-1))])), (α 20, .inl (f 0, 48, .inl (fun _ => iZ 0))), (α 21, .inr (5, [.ref (α 22), .int (iZ 0), .int (iZ 4), .int (iZ (-1))])), (α 22, .inl (f 0, 48, .inl (fun _ => iZ 0))), (α 23, .inr (5, [.ref (α 24), .int (iZ 0), .int (iZ 4), .int (iZ (-1))])), (α 24, .inl (f 0, 48, .inl (fun _ => iZ 0))), (α 25, .inr (5, [.ref (α 26), .int (iZ 0), .int (iZ 4), .int (iZ (-1))])), (α 26, .inl (f 0, 48, .inl (fun _ => iZ 0))), (α 27, .inr (5, [.ref (α 28), .int (iZ 0), .int (iZ 4), .int (iZ (-1))])), (α 28, .inl (f 0, 48, .inl (fun _ => iZ 0)))] H) : ∀ c ∈ ([17, 18, 29, 30, 31, 32, 33, 19, 20, 21, 22, 23, 24, 25, 26, 27, 28] : List Nat), va_at D vwCl (α c, cel ((D, α, f) : Kp) st0 c) H :=
  List.forall_mem_cons.mpr ⟨(h 0 _ rfl),
  List.forall_mem_cons.mpr ⟨(show va_at D vwCl (α 18, .inl (f 3, 5, .inr (.inr (.inr (.inr (fun j => some (α (rf 18 j)))))))) H from at_q (fun j hj => by have hj9 : j = 0 ∨ j = 1 ∨ j = 2 ∨ j = 3 ∨ j = 4 := (by omega); rcases hj9 with e | e | e | e | e <;> subst e <;> rfl) (h 1 _ rfl)),
  List.forall_mem_cons.mpr ⟨(h 2 _ rfl),
  List.forall_mem_cons.mpr ⟨(h 3 _ rfl),
  List.forall_mem_cons.mpr ⟨(h 4 _ rfl),
  List.forall_mem_cons.mpr ⟨(h 5 _ rfl),
  List.forall_mem_cons.mpr ⟨(h 6 _ rfl),
  List.forall_mem_cons.mpr ⟨(h 7 _ rfl),
  List.forall_mem_cons.mpr ⟨(h 8 _ rfl),
  List.forall_mem_cons.mpr ⟨(h 9 _ rfl),
  List.forall_mem_cons.mpr ⟨(h 10 _ rfl),
  List.forall_mem_cons.mpr ⟨(h 11 _ rfl),
  List.forall_mem_cons.mpr ⟨(h 12 _ rfl),
  List.forall_mem_cons.mpr ⟨(h 13 _ rfl),
  List.forall_mem_cons.mpr ⟨(h 14 _ rfl),
  List.forall_mem_cons.mpr ⟨(h 15 _ rfl),
  List.forall_mem_cons.mpr ⟨(h 16 _ rfl),
  fun _ h => absurd h List.not_mem_nil⟩⟩⟩⟩⟩⟩⟩⟩⟩⟩⟩⟩⟩⟩⟩⟩⟩
set_option maxRecDepth 100000 in
theorem TTh {D : va_G} {f : Nat → ClassId} {H : Heap} (α : Nat → Nat) (h : va_P D vwCl [(α 80, .inr (7, [.ref (α 0), .ref (α 81), .ref (α 87), .ref (α 88)])), (α 81, .inr (0, [.ref (α 82), .int (iZ 0), .ref (α 83), .ref (α 84), .ref (α 85), .ref (α 86), .int (iZ 0)])), (α 82, .inl (f 0, 16, .inl (fun _ => iZ 0))), (α 83, .inl (f 0, 8, .inl (fun _ => iZ 0))), (α 84, .inl (f 0, 8, .inl (fun _ => iZ 0))), (α 85, .inl (f 0, 8, .inl (fun _ => iZ 0))), (α 86, .inl (f 0, 8, .inl (fun _ => iZ 0))), (α 87, .inl (f 1, 5, .inr (.inr (.inl (fun _ => 0))))), (α 88, .inl (f 1, 8, .inr (.inr (.inl (fun _ => 0)))))] H) : ∀ c ∈ ([80, 81, 82, 83, 84, 85, 86, 87, 88] : List Nat), va_at D vwCl (α c, cel ((D, α, f) : Kp) st0 c) H :=
  List.forall_mem_cons.mpr ⟨(h 0 _ rfl),
  List.forall_mem_cons.mpr ⟨(h 1 _ rfl),
  List.forall_mem_cons.mpr ⟨(h 2 _ rfl),
  List.forall_mem_cons.mpr ⟨(h 3 _ rfl),
  List.forall_mem_cons.mpr ⟨(h 4 _ rfl),
  List.forall_mem_cons.mpr ⟨(h 5 _ rfl),
  List.forall_mem_cons.mpr ⟨(h 6 _ rfl),
  List.forall_mem_cons.mpr ⟨(h 7 _ rfl),
  List.forall_mem_cons.mpr ⟨(h 8 _ rfl),
  fun _ h => absurd h List.not_mem_nil⟩⟩⟩⟩⟩⟩⟩⟩⟩
set_option maxRecDepth 100000 in
theorem TPl {D : va_G} {f : Nat → ClassId} {H : Heap} (α : Nat → Nat) (h : va_P D vwCl [(α 89, .inr (3, [.ref (α 0), .ref (α 80), .ref (α 90), .ref (α 91), .ref (α 92), .ref (α 93), .ref (α 94), .ref (α 95), .ref (α 96), .ref (α 97)])), (α 90, .inl (f 1, 32, .inr (.inr (.inl (fun _ => 0))))), (α 91, .inl (f 0, 512, .inl (fun _ => iZ 0))), (α 92, .inl (f 1, 512, .inr (.inr (.inl (fun _ => 0))))), (α 93, .inl (f 0, 512, .inl (fun _ => iZ 0))), (α 94, .inl (f 0, 512, .inl (fun _ => iZ 0))), (α 95, .inl (f 0, 512, .inl (fun _ => iZ 0))), (α 96, .inl (f 0, 512, .inl (fun _ => iZ 0))), (α 97, .inl (f 0, 18, .inl (fun _ => iZ 0)))] H) : ∀ c ∈ ([89, 90, 91, 92, 93, 94, 95, 96, 97] : List Nat), va_at D vwCl (α c, cel ((D, α, f) : Kp) st0 c) H :=
  List.forall_mem_cons.mpr ⟨(h 0 _ rfl),
  List.forall_mem_cons.mpr ⟨(h 1 _ rfl),
  List.forall_mem_cons.mpr ⟨(h 2 _ rfl),
  List.forall_mem_cons.mpr ⟨(h 3 _ rfl),
  List.forall_mem_cons.mpr ⟨(h 4 _ rfl),
  List.forall_mem_cons.mpr ⟨(h 5 _ rfl),
  List.forall_mem_cons.mpr ⟨(h 6 _ rfl),
  List.forall_mem_cons.mpr ⟨(h 7 _ rfl),
  List.forall_mem_cons.mpr ⟨(h 8 _ rfl),
  fun _ h => absurd h List.not_mem_nil⟩⟩⟩⟩⟩⟩⟩⟩⟩
theorem TMa {D : va_G} {f : Nat → ClassId} {H : Heap} (α : Nat → Nat) (h : va_P D vwCl [(α 98, .inr (1, [.ref (α 0), .ref (α 99), .int (iZ 0), .ref (α 100), .ref (α 101), .ref (α 102)])), (α 99, .inl (f 0, 5, .inl (fun _ => iZ 0))), (α 100, .inl (f 0, 25, .inl (fun _ => iZ 0))), (α 101, .inl (f 0, 400, .inl (fun _ => iZ 0))), (α 102, .inl (f 0, 16, .inl (fun _ => iZ 0)))] H) : ∀ c ∈ ([98, 99, 100, 101, 102] : List Nat), va_at D vwCl (α c, cel ((D, α, f) : Kp) st0 c) H :=
  List.forall_mem_cons.mpr ⟨(h 0 _ rfl),
  List.forall_mem_cons.mpr ⟨(h 1 _ rfl),
  List.forall_mem_cons.mpr ⟨(h 2 _ rfl),
  List.forall_mem_cons.mpr ⟨(h 3 _ rfl),
  List.forall_mem_cons.mpr ⟨(h 4 _ rfl),
  fun _ h => absurd h List.not_mem_nil⟩⟩⟩⟩⟩
theorem TRe {D : va_G} {f : Nat → ClassId} {H : Heap} (α : Nat → Nat) (h : va_P D vwCl [(α 103, .inr (6, [.ref (α 0), .ref (α 104), .int (iZ 0), .int (iZ 0), .int (iZ 0), .int (iZ 0), .int (iZ 0)])), (α 104, .inl (f 0, 5, .inl (fun _ => iZ 0)))] H) : ∀ c ∈ ([103, 104] : List Nat), va_at D vwCl (α c, cel ((D, α, f) : Kp) st0 c) H :=
  List.forall_mem_cons.mpr ⟨(h 0 _ rfl),
  List.forall_mem_cons.mpr ⟨(h 1 _ rfl),
  fun _ h => absurd h List.not_mem_nil⟩⟩
theorem TS0 {D : va_G} {f : Nat → ClassId} {H : Heap} (α : Nat → Nat) (h : va_P D vwCl [(α 34, .inr (4, [.int (iZ 0), .int (iZ 0), .int (iZ 0), .ref (α 35), .ref (α 36)])), (α 35, .inl (f 2, 160, .inr (.inl (fun _ => 0)))), (α 36, .inr (2, [.int (iZ 0), .int (iZ 0), .int (iZ (-1)), .int (iZ 0), .int (iZ (-1)), .int (iZ (-1)), .int (iZ 1)]))] H) : ∀ c ∈ ([34, 35, 36] : List Nat), va_at D vwCl (α c, cel ((D, α, f) : Kp) st0 c) H :=
  List.forall_mem_cons.mpr ⟨(h 0 _ rfl),
  List.forall_mem_cons.mpr ⟨(h 1 _ rfl),
  List.forall_mem_cons.mpr ⟨(h 2 _ rfl),
  fun _ h => absurd h List.not_mem_nil⟩⟩⟩
theorem TS1 {D : va_G} {f : Nat → ClassId} {H : Heap} (α : Nat → Nat) (h : va_P D vwCl [(α 37, .inr (4, [.int (iZ 0), .int (iZ 0), .int (iZ 0), .ref (α 38), .ref (α 39)])), (α 38, .inl (f 2, 160, .inr (.inl (fun _ => 0)))), (α 39, .inr (2, [.int (iZ 0), .int (iZ 0), .int (iZ (-1)), .int (iZ 0), .int (iZ (-1)), .int (iZ (-1)), .int (iZ 1)]))] H) : ∀ c ∈ ([37, 38, 39] : List Nat), va_at D vwCl (α c, cel ((D, α, f) : Kp) st0 c) H :=
  List.forall_mem_cons.mpr ⟨(h 0 _ rfl),
  List.forall_mem_cons.mpr ⟨(h 1 _ rfl),
  List.forall_mem_cons.mpr ⟨(h 2 _ rfl),
  fun _ h => absurd h List.not_mem_nil⟩⟩⟩
theorem TS2 {D : va_G} {f : Nat → ClassId} {H : Heap} (α : Nat → Nat) (h : va_P D vwCl [(α 40, .inr (4, [.int (iZ 0), .int (iZ 0), .int (iZ 0), .ref (α 41), .ref (α 42)])), (α 41, .inl (f 2, 160, .inr (.inl (fun _ => 0)))), (α 42, .inr (2, [.int (iZ 0), .int (iZ 0), .int (iZ (-1)), .int (iZ 0), .int (iZ (-1)), .int (iZ (-1)), .int (iZ 1)]))] H) : ∀ c ∈ ([40, 41, 42] : List Nat), va_at D vwCl (α c, cel ((D, α, f) : Kp) st0 c) H :=
  List.forall_mem_cons.mpr ⟨(h 0 _ rfl),
  List.forall_mem_cons.mpr ⟨(h 1 _ rfl),
  List.forall_mem_cons.mpr ⟨(h 2 _ rfl),
  fun _ h => absurd h List.not_mem_nil⟩⟩⟩
theorem TS3 {D : va_G} {f : Nat → ClassId} {H : Heap} (α : Nat → Nat) (h : va_P D vwCl [(α 43, .inr (4, [.int (iZ 0), .int (iZ 0), .int (iZ 0), .ref (α 44), .ref (α 45)])), (α 44, .inl (f 2, 160, .inr (.inl (fun _ => 0)))), (α 45, .inr (2, [.int (iZ 0), .int (iZ 0), .int (iZ (-1)), .int (iZ 0), .int (iZ (-1)), .int (iZ (-1)), .int (iZ 1)]))] H) : ∀ c ∈ ([43, 44, 45] : List Nat), va_at D vwCl (α c, cel ((D, α, f) : Kp) st0 c) H :=
  List.forall_mem_cons.mpr ⟨(h 0 _ rfl),
  List.forall_mem_cons.mpr ⟨(h 1 _ rfl),
  List.forall_mem_cons.mpr ⟨(h 2 _ rfl),
  fun _ h => absurd h List.not_mem_nil⟩⟩⟩
theorem TS4 {D : va_G} {f : Nat → ClassId} {H : Heap} (α : Nat → Nat) (h : va_P D vwCl [(α 46, .inr (4, [.int (iZ 0), .int (iZ 0), .int (iZ 0), .ref (α 47), .ref (α 48)])), (α 47, .inl (f 2, 160, .inr (.inl (fun _ => 0)))), (α 48, .inr (2, [.int (iZ 0), .int (iZ 0), .int (iZ (-1)), .int (iZ 0), .int (iZ (-1)), .int (iZ (-1)), .int (iZ 1)]))] H) : ∀ c ∈ ([46, 47, 48] : List Nat), va_at D vwCl (α c, cel ((D, α, f) : Kp) st0 c) H :=
  List.forall_mem_cons.mpr ⟨(h 0 _ rfl),
  List.forall_mem_cons.mpr ⟨(h 1 _ rfl),
  List.forall_mem_cons.mpr ⟨(h 2 _ rfl),
  fun _ h => absurd h List.not_mem_nil⟩⟩⟩
theorem TS5 {D : va_G} {f : Nat → ClassId} {H : Heap} (α : Nat → Nat) (h : va_P D vwCl [(α 49, .inr (4, [.int (iZ 0), .int (iZ 0), .int (iZ 0), .ref (α 50), .ref (α 51)])), (α 50, .inl (f 2, 160, .inr (.inl (fun _ => 0)))), (α 51, .inr (2, [.int (iZ 0), .int (iZ 0), .int (iZ (-1)), .int (iZ 0), .int (iZ (-1)), .int (iZ (-1)), .int (iZ 1)]))] H) : ∀ c ∈ ([49, 50, 51] : List Nat), va_at D vwCl (α c, cel ((D, α, f) : Kp) st0 c) H :=
  List.forall_mem_cons.mpr ⟨(h 0 _ rfl),
  List.forall_mem_cons.mpr ⟨(h 1 _ rfl),
  List.forall_mem_cons.mpr ⟨(h 2 _ rfl),
  fun _ h => absurd h List.not_mem_nil⟩⟩⟩
theorem TS6 {D : va_G} {f : Nat → ClassId} {H : Heap} (α : Nat → Nat) (h : va_P D vwCl [(α 52, .inr (4, [.int (iZ 0), .int (iZ 0), .int (iZ 0), .ref (α 53), .ref (α 54)])), (α 53, .inl (f 2, 160, .inr (.inl (fun _ => 0)))), (α 54, .inr (2, [.int (iZ 0), .int (iZ 0), .int (iZ (-1)), .int (iZ 0), .int (iZ (-1)), .int (iZ (-1)), .int (iZ 1)]))] H) : ∀ c ∈ ([52, 53, 54] : List Nat), va_at D vwCl (α c, cel ((D, α, f) : Kp) st0 c) H :=
  List.forall_mem_cons.mpr ⟨(h 0 _ rfl),
  List.forall_mem_cons.mpr ⟨(h 1 _ rfl),
  List.forall_mem_cons.mpr ⟨(h 2 _ rfl),
  fun _ h => absurd h List.not_mem_nil⟩⟩⟩
theorem TS7 {D : va_G} {f : Nat → ClassId} {H : Heap} (α : Nat → Nat) (h : va_P D vwCl [(α 55, .inr (4, [.int (iZ 0), .int (iZ 0), .int (iZ 0), .ref (α 56), .ref (α 57)])), (α 56, .inl (f 2, 160, .inr (.inl (fun _ => 0)))), (α 57, .inr (2, [.int (iZ 0), .int (iZ 0), .int (iZ (-1)), .int (iZ 0), .int (iZ (-1)), .int (iZ (-1)), .int (iZ 1)]))] H) : ∀ c ∈ ([55, 56, 57] : List Nat), va_at D vwCl (α c, cel ((D, α, f) : Kp) st0 c) H :=
  List.forall_mem_cons.mpr ⟨(h 0 _ rfl),
  List.forall_mem_cons.mpr ⟨(h 1 _ rfl),
  List.forall_mem_cons.mpr ⟨(h 2 _ rfl),
  fun _ h => absurd h List.not_mem_nil⟩⟩⟩
theorem TN0 {D : va_G} {f : Nat → ClassId} {H : Heap} (α : Nat → Nat) (h : va_P D vwCl [(α 58, .inr (2, [.int (iZ 0), .int (iZ 0), .int (iZ (-1)), .int (iZ 0), .int (iZ (-1)), .int (iZ (-1)), .int (iZ 1)]))] H) : ∀ c ∈ ([58] : List Nat), va_at D vwCl (α c, cel ((D, α, f) : Kp) st0 c) H :=
  List.forall_mem_cons.mpr ⟨(h 0 _ rfl),
  fun _ h => absurd h List.not_mem_nil⟩
theorem TN1 {D : va_G} {f : Nat → ClassId} {H : Heap} (α : Nat → Nat) (h : va_P D vwCl [(α 59, .inr (2, [.int (iZ 0), .int (iZ 0), .int (iZ (-1)), .int (iZ 0), .int (iZ (-1)), .int (iZ (-1)), .int (iZ 1)]))] H) : ∀ c ∈ ([59] : List Nat), va_at D vwCl (α c, cel ((D, α, f) : Kp) st0 c) H :=
  List.forall_mem_cons.mpr ⟨(h 0 _ rfl),
  fun _ h => absurd h List.not_mem_nil⟩
theorem TN2 {D : va_G} {f : Nat → ClassId} {H : Heap} (α : Nat → Nat) (h : va_P D vwCl [(α 60, .inr (2, [.int (iZ 0), .int (iZ 0), .int (iZ (-1)), .int (iZ 0), .int (iZ (-1)), .int (iZ (-1)), .int (iZ 1)]))] H) : ∀ c ∈ ([60] : List Nat), va_at D vwCl (α c, cel ((D, α, f) : Kp) st0 c) H :=
  List.forall_mem_cons.mpr ⟨(h 0 _ rfl),
  fun _ h => absurd h List.not_mem_nil⟩
theorem TN3 {D : va_G} {f : Nat → ClassId} {H : Heap} (α : Nat → Nat) (h : va_P D vwCl [(α 61, .inr (2, [.int (iZ 0), .int (iZ 0), .int (iZ (-1)), .int (iZ 0), .int (iZ (-1)), .int (iZ (-1)), .int (iZ 1)]))] H) : ∀ c ∈ ([61] : List Nat), va_at D vwCl (α c, cel ((D, α, f) : Kp) st0 c) H :=
  List.forall_mem_cons.mpr ⟨(h 0 _ rfl),
  fun _ h => absurd h List.not_mem_nil⟩
theorem TN4 {D : va_G} {f : Nat → ClassId} {H : Heap} (α : Nat → Nat) (h : va_P D vwCl [(α 62, .inr (2, [.int (iZ 0), .int (iZ 0), .int (iZ (-1)), .int (iZ 0), .int (iZ (-1)), .int (iZ (-1)), .int (iZ 1)]))] H) : ∀ c ∈ ([62] : List Nat), va_at D vwCl (α c, cel ((D, α, f) : Kp) st0 c) H :=
  List.forall_mem_cons.mpr ⟨(h 0 _ rfl),
  fun _ h => absurd h List.not_mem_nil⟩
theorem TN5 {D : va_G} {f : Nat → ClassId} {H : Heap} (α : Nat → Nat) (h : va_P D vwCl [(α 63, .inr (2, [.int (iZ 0), .int (iZ 0), .int (iZ (-1)), .int (iZ 0), .int (iZ (-1)), .int (iZ (-1)), .int (iZ 1)]))] H) : ∀ c ∈ ([63] : List Nat), va_at D vwCl (α c, cel ((D, α, f) : Kp) st0 c) H :=
  List.forall_mem_cons.mpr ⟨(h 0 _ rfl),
  fun _ h => absurd h List.not_mem_nil⟩
theorem TN6 {D : va_G} {f : Nat → ClassId} {H : Heap} (α : Nat → Nat) (h : va_P D vwCl [(α 64, .inr (2, [.int (iZ 0), .int (iZ 0), .int (iZ (-1)), .int (iZ 0), .int (iZ (-1)), .int (iZ (-1)), .int (iZ 1)]))] H) : ∀ c ∈ ([64] : List Nat), va_at D vwCl (α c, cel ((D, α, f) : Kp) st0 c) H :=
  List.forall_mem_cons.mpr ⟨(h 0 _ rfl),
  fun _ h => absurd h List.not_mem_nil⟩
theorem TN7 {D : va_G} {f : Nat → ClassId} {H : Heap} (α : Nat → Nat) (h : va_P D vwCl [(α 65, .inr (2, [.int (iZ 0), .int (iZ 0), .int (iZ (-1)), .int (iZ 0), .int (iZ (-1)), .int (iZ (-1)), .int (iZ 1)]))] H) : ∀ c ∈ ([65] : List Nat), va_at D vwCl (α c, cel ((D, α, f) : Kp) st0 c) H :=
  List.forall_mem_cons.mpr ⟨(h 0 _ rfl),
  fun _ h => absurd h List.not_mem_nil⟩
theorem TN8 {D : va_G} {f : Nat → ClassId} {H : Heap} (α : Nat → Nat) (h : va_P D vwCl [(α 66, .inr (2, [.int (iZ 0), .int (iZ 0), .int (iZ (-1)), .int (iZ 0), .int (iZ (-1)), .int (iZ (-1)), .int (iZ 1)]))] H) : ∀ c ∈ ([66] : List Nat), va_at D vwCl (α c, cel ((D, α, f) : Kp) st0 c) H :=
  List.forall_mem_cons.mpr ⟨(h 0 _ rfl),
  fun _ h => absurd h List.not_mem_nil⟩
theorem TN9 {D : va_G} {f : Nat → ClassId} {H : Heap} (α : Nat → Nat) (h : va_P D vwCl [(α 67, .inr (2, [.int (iZ 0), .int (iZ 0), .int (iZ (-1)), .int (iZ 0), .int (iZ (-1)), .int (iZ (-1)), .int (iZ 1)]))] H) : ∀ c ∈ ([67] : List Nat), va_at D vwCl (α c, cel ((D, α, f) : Kp) st0 c) H :=
  List.forall_mem_cons.mpr ⟨(h 0 _ rfl),
  fun _ h => absurd h List.not_mem_nil⟩
theorem TN10 {D : va_G} {f : Nat → ClassId} {H : Heap} (α : Nat → Nat) (h : va_P D vwCl [(α 68, .inr (2, [.int (iZ 0), .int (iZ 0), .int (iZ (-1)), .int (iZ 0), .int (iZ (-1)), .int (iZ (-1)), .int (iZ 1)]))] H) : ∀ c ∈ ([68] : List Nat), va_at D vwCl (α c, cel ((D, α, f) : Kp) st0 c) H :=
  List.forall_mem_cons.mpr ⟨(h 0 _ rfl),
  fun _ h => absurd h List.not_mem_nil⟩
theorem TN11 {D : va_G} {f : Nat → ClassId} {H : Heap} (α : Nat → Nat) (h : va_P D vwCl [(α 69, .inr (2, [.int (iZ 0), .int (iZ 0), .int (iZ (-1)), .int (iZ 0), .int (iZ (-1)), .int (iZ (-1)), .int (iZ 1)]))] H) : ∀ c ∈ ([69] : List Nat), va_at D vwCl (α c, cel ((D, α, f) : Kp) st0 c) H :=
  List.forall_mem_cons.mpr ⟨(h 0 _ rfl),
  fun _ h => absurd h List.not_mem_nil⟩
theorem TN12 {D : va_G} {f : Nat → ClassId} {H : Heap} (α : Nat → Nat) (h : va_P D vwCl [(α 70, .inr (2, [.int (iZ 0), .int (iZ 0), .int (iZ (-1)), .int (iZ 0), .int (iZ (-1)), .int (iZ (-1)), .int (iZ 1)]))] H) : ∀ c ∈ ([70] : List Nat), va_at D vwCl (α c, cel ((D, α, f) : Kp) st0 c) H :=
  List.forall_mem_cons.mpr ⟨(h 0 _ rfl),
  fun _ h => absurd h List.not_mem_nil⟩
theorem TN13 {D : va_G} {f : Nat → ClassId} {H : Heap} (α : Nat → Nat) (h : va_P D vwCl [(α 71, .inr (2, [.int (iZ 0), .int (iZ 0), .int (iZ (-1)), .int (iZ 0), .int (iZ (-1)), .int (iZ (-1)), .int (iZ 1)]))] H) : ∀ c ∈ ([71] : List Nat), va_at D vwCl (α c, cel ((D, α, f) : Kp) st0 c) H :=
  List.forall_mem_cons.mpr ⟨(h 0 _ rfl),
  fun _ h => absurd h List.not_mem_nil⟩
theorem TN14 {D : va_G} {f : Nat → ClassId} {H : Heap} (α : Nat → Nat) (h : va_P D vwCl [(α 72, .inr (2, [.int (iZ 0), .int (iZ 0), .int (iZ (-1)), .int (iZ 0), .int (iZ (-1)), .int (iZ (-1)), .int (iZ 1)]))] H) : ∀ c ∈ ([72] : List Nat), va_at D vwCl (α c, cel ((D, α, f) : Kp) st0 c) H :=
  List.forall_mem_cons.mpr ⟨(h 0 _ rfl),
  fun _ h => absurd h List.not_mem_nil⟩
theorem TN15 {D : va_G} {f : Nat → ClassId} {H : Heap} (α : Nat → Nat) (h : va_P D vwCl [(α 73, .inr (2, [.int (iZ 0), .int (iZ 0), .int (iZ (-1)), .int (iZ 0), .int (iZ (-1)), .int (iZ (-1)), .int (iZ 1)]))] H) : ∀ c ∈ ([73] : List Nat), va_at D vwCl (α c, cel ((D, α, f) : Kp) st0 c) H :=
  List.forall_mem_cons.mpr ⟨(h 0 _ rfl),
  fun _ h => absurd h List.not_mem_nil⟩
theorem TN16 {D : va_G} {f : Nat → ClassId} {H : Heap} (α : Nat → Nat) (h : va_P D vwCl [(α 74, .inr (2, [.int (iZ 0), .int (iZ 0), .int (iZ (-1)), .int (iZ 0), .int (iZ (-1)), .int (iZ (-1)), .int (iZ 1)]))] H) : ∀ c ∈ ([74] : List Nat), va_at D vwCl (α c, cel ((D, α, f) : Kp) st0 c) H :=
  List.forall_mem_cons.mpr ⟨(h 0 _ rfl),
  fun _ h => absurd h List.not_mem_nil⟩
theorem TN17 {D : va_G} {f : Nat → ClassId} {H : Heap} (α : Nat → Nat) (h : va_P D vwCl [(α 75, .inr (2, [.int (iZ 0), .int (iZ 0), .int (iZ (-1)), .int (iZ 0), .int (iZ (-1)), .int (iZ (-1)), .int (iZ 1)]))] H) : ∀ c ∈ ([75] : List Nat), va_at D vwCl (α c, cel ((D, α, f) : Kp) st0 c) H :=
  List.forall_mem_cons.mpr ⟨(h 0 _ rfl),
  fun _ h => absurd h List.not_mem_nil⟩
theorem TgC {D : va_G} {f : Nat → ClassId} {H : Heap} (α : Nat → Nat) (h : va_P D vwCl [(α 76, .inr (9, [.ref (α 0), .ref (α 17), .int (iZ 0), .ref (α 80), .ref (α 89), .ref (α 98), .ref (α 103), .ref (α 77), .ref (α 78), .int (iZ 0), .int (iZ (-1)), .ref (α 79)]))] H) : ∀ c ∈ ([76] : List Nat), va_at D vwCl (α c, cel ((D, α, f) : Kp) st0 c) H :=
  List.forall_mem_cons.mpr ⟨(h 0 _ rfl),
  fun _ h => absurd h List.not_mem_nil⟩
theorem TQ7 {D : va_G} {f : Nat → ClassId} {H : Heap} (α : Nat → Nat) (h : va_P D vwCl [(α 77, .inl (f 5, 8, .inr (.inr (.inr (.inr (va_up (va_up (va_up (va_up (va_up (va_up (va_up (va_up (fun _ => none) 0 (some (α 34))) 1 (some (α 37))) 2 (some (α 40))) 3 (some (α 43))) 4 (some (α 46))) 5 (some (α 49))) 6 (some (α 52))) 7 (some (α 55))))))))] H) : ∀ c ∈ ([77] : List Nat), va_at D vwCl (α c, cel ((D, α, f) : Kp) st0 c) H :=
  List.forall_mem_cons.mpr ⟨(show va_at D vwCl (α 77, .inl (f 5, 8, .inr (.inr (.inr (.inr (fun j => some (α (rf 77 j)))))))) H from at_q (fun j hj => by have hj9 : j = 0 ∨ j = 1 ∨ j = 2 ∨ j = 3 ∨ j = 4 ∨ j = 5 ∨ j = 6 ∨ j = 7 := (by omega); rcases hj9 with e | e | e | e | e | e | e | e <;> subst e <;> rfl) (h 0 _ rfl)),
  fun _ h => absurd h List.not_mem_nil⟩
theorem TQ8 {D : va_G} {f : Nat → ClassId} {H : Heap} (α : Nat → Nat) (h : va_P D vwCl [(α 78, .inl (f 4, 18, .inr (.inr (.inr (.inr (va_up (va_up (va_up (va_up (va_up (va_up (va_up (va_up (va_up (va_up (va_up (va_up (va_up (va_up (va_up (va_up (va_up (va_up (fun _ => none) 0 (some (α 58))) 1 (some (α 59))) 2 (some (α 60))) 3 (some (α 61))) 4 (some (α 62))) 5 (some (α 63))) 6 (some (α 64))) 7 (some (α 65))) 8 (some (α 66))) 9 (some (α 67))) 10 (some (α 68))) 11 (some (α 69))) 12 (some (α 70))) 13 (some (α 71))) 14 (some (α 72))) 15 (some (α 73))) 16 (some (α 74))) 17 (some (α 75))))))))] H) : ∀ c ∈ ([78] : List Nat), va_at D vwCl (α c, cel ((D, α, f) : Kp) st0 c) H :=
  List.forall_mem_cons.mpr ⟨(show va_at D vwCl (α 78, .inl (f 4, 18, .inr (.inr (.inr (.inr (fun j => some (α (rf 78 j)))))))) H from at_q (fun j hj => by have hj9 : j = 0 ∨ j = 1 ∨ j = 2 ∨ j = 3 ∨ j = 4 ∨ j = 5 ∨ j = 6 ∨ j = 7 ∨ j = 8 ∨ j = 9 ∨ j = 10 ∨ j = 11 ∨ j = 12 ∨ j = 13 ∨ j = 14 ∨ j = 15 ∨ j = 16 ∨ j = 17 := (by omega); rcases hj9 with e | e | e | e | e | e | e | e | e | e | e | e | e | e | e | e | e | e <;> subst e <;> rfl) (h 0 _ rfl)),
  fun _ h => absurd h List.not_mem_nil⟩
theorem TQ9 {D : va_G} {f : Nat → ClassId} {H : Heap} (α : Nat → Nat) (h : va_P D vwCl [(α 79, .inl (f 0, 8, .inl (fun _ => iZ 0)))] H) : ∀ c ∈ ([79] : List Nat), va_at D vwCl (α c, cel ((D, α, f) : Kp) st0 c) H :=
  List.forall_mem_cons.mpr ⟨(h 0 _ rfl),
  fun _ h => absurd h List.not_mem_nil⟩
def mi (f : Nat → Nat → Value) : Nat → List Nat → List Value
  | _, [] => []
  | n, b :: l => f n b :: mi f (n + 1) l
theorem mi_get (f : Nat → Nat → Value) : ∀ (l : List Nat) (n k : Nat), (mi f n l)[k]? = (l[k]?).map (f (n + k))
  | [], n, k => rfl
  | b :: l, n, 0 => rfl
  | b :: l, n, k + 1 => by
    show (mi f (n + 1) l)[k]? = (l[k]?).map (f (n + (k + 1)))
    rw [mi_get f l (n + 1) k, show n + 1 + k = n + (k + 1) by omega]
theorem mapIdx_mi (f : Nat → Nat → Value) (l : List Nat) : l.mapIdx f = mi f 0 l := by
  apply List.ext_getElem?
  intro k
  rw [List.getElem?_mapIdx, mi_get, Nat.zero_add]
theorem rf105 (j : Nat) : rf 105 j = 106 + j := by
  unfold rf
  rw [show kd 105 = 10 from rfl]
  rfl
theorem v0_105 (j : Nat) : v0 105 j = (if j = 12 then 1 else if j = 52 then -1 else 0) := by
  unfold v0
  rw [show kd 105 = 10 from rfl]
  rfl
set_option maxRecDepth 100000 in
theorem cel105 (D : va_G) (f : Nat → ClassId) (α : Nat → Nat) : cel ((D, α, f) : Kp) st0 105 = .inr (10, [.ref (α 106), .ref (α 107), .ref (α 108), .ref (α 109), .ref (α 110), .ref (α 111), .ref (α 112), .ref (α 113), .ref (α 114), .ref (α 115), .int (iZ 0), .int (iZ 0), .int (iZ 1), .ref (α 119), .ref (α 120), .ref (α 121), .ref (α 122), .ref (α 123), .int (iZ 0), .ref (α 125), .ref (α 126), .ref (α 127), .ref (α 128), .ref (α 129), .int (iZ 0), .int (iZ 0), .ref (α 132), .ref (α 133), .ref (α 134), .ref (α 135), .ref (α 136), .ref (α 137), .ref (α 138), .ref (α 139), .ref (α 140), .int (iZ 0), .int (iZ 0), .ref (α 143), .int (iZ 0), .long 0, .ref (α 146), .ref (α 147), .ref (α 148), .ref (α 149), .ref (α 150), .ref (α 151), .ref (α 152), .ref (α 153), .ref (α 154), .ref (α 155), .ref (α 156), .int (iZ 0), .int (iZ (-1)), .int (iZ 0), .int (iZ 0), .ref (α 161), .int (iZ 0), .int (iZ 0), .int (iZ 0)]) := by
  rw [cel_o (c := 10) (show kd 105 = 10 from rfl) (by decide)]
  have e : (fun j b => fld ((D, α, f) : Kp) st0 105 j b) = (fun j b => if b = 0 then .int (iZ (if j = 12 then 1 else if j = 52 then -1 else 0)) else if b = 1 then .ref (α (106 + j)) else .long 0) := by
    funext j b
    unfold fld
    rw [rf105]
    show (if b = 0 then Value.int (iZ (v0 105 j)) else _) = _
    rw [v0_105]
    rfl
  have e2 : ((lay 10).mapIdx (fun j b => fld ((D, α, f) : Kp) st0 105 j b)) = mi (fun j b => if b = 0 then .int (iZ (if j = 12 then 1 else if j = 52 then -1 else 0)) else if b = 1 then .ref (α (106 + j)) else .long 0) 0 (lay 10) := by
    rw [e]
    exact mapIdx_mi _ _
  rw [e2]
  rfl
set_option maxHeartbeats 4000000 in
set_option maxRecDepth 100000 in
theorem TM {D : va_G} {f : Nat → ClassId} {H : Heap} (α : Nat → Nat) (h : va_P D vwCl [(α 105, .inr (10, [.ref (α 106), .ref (α 107), .ref (α 108), .ref (α 109), .ref (α 110), .ref (α 111), .ref (α 112), .ref (α 113), .ref (α 114), .ref (α 115), .int (iZ 0), .int (iZ 0), .int (iZ 1), .ref (α 119), .ref (α 120), .ref (α 121), .ref (α 122), .ref (α 123), .int (iZ 0), .ref (α 125), .ref (α 126), .ref (α 127), .ref (α 128), .ref (α 129), .int (iZ 0), .int (iZ 0), .ref (α 132), .ref (α 133), .ref (α 134), .ref (α 135), .ref (α 136), .ref (α 137), .ref (α 138), .ref (α 139), .ref (α 140), .int (iZ 0), .int (iZ 0), .ref (α 143), .int (iZ 0), .long 0, .ref (α 146), .ref (α 147), .ref (α 148), .ref (α 149), .ref (α 150), .ref (α 151), .ref (α 152), .ref (α 153), .ref (α 154), .ref (α 155), .ref (α 156), .int (iZ 0), .int (iZ (-1)), .int (iZ 0), .int (iZ 0), .ref (α 161), .int (iZ 0), .int (iZ 0), .int (iZ 0)])), (α 106, .inl (f 0, 8, .inl (fun _ => iZ 0))), (α 107, .inl (f 0, 5, .inl (fun _ => iZ 0))), (α 108, .inl (f 0, 240, .inl (fun _ => iZ 0))), (α 109, .inl (f 0, 5, .inl (upd (upd (upd (upd (upd (fun _ => iZ 0) 0 (iZ 4)) 1 (iZ 4)) 2 (iZ 4)) 3 (iZ 4)) 4 (iZ 4)))), (α 110, .inl (f 0, 5, .inl (upd (upd (upd (upd (upd (fun _ => iZ 0) 0 (iZ (-1))) 1 (iZ (-1))) 2 (iZ (-1))) 3 (iZ (-1))) 4 (iZ (-1))))), (α 111, .inl (f 0, 8, .inl (fun _ => iZ 0))), (α 112, .inl (f 0, 8, .inl (fun _ => iZ 0))), (α 113, .inl (f 0, 8, .inl (fun _ => iZ 0))), (α 114, .inl (f 0, 8, .inl (fun _ => iZ 0))), (α 115, .inl (f 0, 8, .inl (fun _ => iZ 0))), (α 119, .inl (f 0, 16, .inl (fun _ => iZ 0))), (α 120, .inl (f 0, 8, .inl (fun _ => iZ 0))), (α 121, .inl (f 0, 8, .inl (fun _ => iZ 0))), (α 122, .inl (f 0, 8, .inl (fun _ => iZ 0))), (α 123, .inl (f 0, 8, .inl (fun _ => iZ 0))), (α 125, .inl (f 1, 32, .inr (.inr (.inl (fun _ => 0))))), (α 126, .inl (f 1, 512, .inr (.inr (.inl (fun _ => 0))))), (α 127, .inl (f 0, 512, .inl (fun _ => iZ 0))), (α 128, .inl (f 0, 512, .inl (fun _ => iZ 0))), (α 129, .inl (f 0, 512, .inl (fun _ => iZ 0))), (α 132, .inl (f 0, 64, .inl (fun _ => iZ 0))), (α 133, .inl (f 0, 64, .inl (fun _ => iZ 0))), (α 134, .inl (f 0, 64, .inl (fun _ => iZ 0))), (α 135, .inl (f 0, 64, .inl (fun _ => iZ 0))), (α 136, .inl (f 0, 64, .inl (fun _ => iZ 0))), (α 137, .inl (f 0, 64, .inl (fun _ => iZ 0))), (α 138, .inl (f 0, 64, .inl (fun _ => iZ 0))), (α 139, .inl (f 0, 64, .inl (fun _ => iZ 0))), (α 140, .inl (f 0, 64, .inl (fun _ => iZ 0))), (α 143, .inl (f 0, 5, .inl (fun _ => iZ 0))), (α 146, .inl (f 0, 8, .inl (fun _ => iZ 0))), (α 147, .inl (f 0, 8, .inl (fun _ => iZ 0))), (α 148, .inl (f 0, 8, .inl (fun _ => iZ 0))), (α 149, .inl (f 0, 8, .inl (fun _ => iZ 0))), (α 150, .inl (f 0, 8, .inl (fun _ => iZ 0))), (α 151, .inl (f 2, 1280, .inr (.inl (fun _ => 0)))), (α 152, .inl (f 0, 80, .inl (fun _ => iZ 0))), (α 153, .inl (f 0, 80, .inl (fun _ => iZ 0))), (α 154, .inl (f 0, 80, .inl (fun _ => iZ 0))), (α 155, .inl (f 0, 80, .inl (fun _ => iZ 0))), (α 156, .inl (f 0, 5, .inl (fun _ => iZ 0))), (α 161, .inl (f 0, 310, .inl (fun _ => iZ 0)))] H) : ∀ c ∈ ([105, 106, 107, 108, 109, 110, 111, 112, 113, 114, 115, 119, 120, 121, 122, 123, 125, 126, 127, 128, 129, 132, 133, 134, 135, 136, 137, 138, 139, 140, 143, 146, 147, 148, 149, 150, 151, 152, 153, 154, 155, 156, 161] : List Nat), va_at D vwCl (α c, cel ((D, α, f) : Kp) st0 c) H :=
  List.forall_mem_cons.mpr ⟨((cel105 D f α).symm ▸ h 0 _ rfl),
  List.forall_mem_cons.mpr ⟨(h 1 _ rfl),
  List.forall_mem_cons.mpr ⟨(h 2 _ rfl),
  List.forall_mem_cons.mpr ⟨(h 3 _ rfl),
  List.forall_mem_cons.mpr ⟨(show va_at D vwCl (α 109, .inl (f 0, 5, .inl (fun j => iZ (v0 109 j)))) H from at_i (fun j hj => by have hj9 : j = 0 ∨ j = 1 ∨ j = 2 ∨ j = 3 ∨ j = 4 := (by omega); rcases hj9 with e | e | e | e | e <;> subst e <;> rfl) (h 4 _ rfl)),
  List.forall_mem_cons.mpr ⟨(show va_at D vwCl (α 110, .inl (f 0, 5, .inl (fun j => iZ (v0 110 j)))) H from at_i (fun j hj => by have hj9 : j = 0 ∨ j = 1 ∨ j = 2 ∨ j = 3 ∨ j = 4 := (by omega); rcases hj9 with e | e | e | e | e <;> subst e <;> rfl) (h 5 _ rfl)),
  List.forall_mem_cons.mpr ⟨(h 6 _ rfl),
  List.forall_mem_cons.mpr ⟨(h 7 _ rfl),
  List.forall_mem_cons.mpr ⟨(h 8 _ rfl),
  List.forall_mem_cons.mpr ⟨(h 9 _ rfl),
  List.forall_mem_cons.mpr ⟨(h 10 _ rfl),
  List.forall_mem_cons.mpr ⟨(h 11 _ rfl),
  List.forall_mem_cons.mpr ⟨(h 12 _ rfl),
  List.forall_mem_cons.mpr ⟨(h 13 _ rfl),
  List.forall_mem_cons.mpr ⟨(h 14 _ rfl),
  List.forall_mem_cons.mpr ⟨(h 15 _ rfl),
  List.forall_mem_cons.mpr ⟨(h 16 _ rfl),
  List.forall_mem_cons.mpr ⟨(h 17 _ rfl),
  List.forall_mem_cons.mpr ⟨(h 18 _ rfl),
  List.forall_mem_cons.mpr ⟨(h 19 _ rfl),
  List.forall_mem_cons.mpr ⟨(h 20 _ rfl),
  List.forall_mem_cons.mpr ⟨(h 21 _ rfl),
  List.forall_mem_cons.mpr ⟨(h 22 _ rfl),
  List.forall_mem_cons.mpr ⟨(h 23 _ rfl),
  List.forall_mem_cons.mpr ⟨(h 24 _ rfl),
  List.forall_mem_cons.mpr ⟨(h 25 _ rfl),
  List.forall_mem_cons.mpr ⟨(h 26 _ rfl),
  List.forall_mem_cons.mpr ⟨(h 27 _ rfl),
  List.forall_mem_cons.mpr ⟨(h 28 _ rfl),
  List.forall_mem_cons.mpr ⟨(h 29 _ rfl),
  List.forall_mem_cons.mpr ⟨(h 30 _ rfl),
  List.forall_mem_cons.mpr ⟨(h 31 _ rfl),
  List.forall_mem_cons.mpr ⟨(h 32 _ rfl),
  List.forall_mem_cons.mpr ⟨(h 33 _ rfl),
  List.forall_mem_cons.mpr ⟨(h 34 _ rfl),
  List.forall_mem_cons.mpr ⟨(h 35 _ rfl),
  List.forall_mem_cons.mpr ⟨(h 36 _ rfl),
  List.forall_mem_cons.mpr ⟨(h 37 _ rfl),
  List.forall_mem_cons.mpr ⟨(h 38 _ rfl),
  List.forall_mem_cons.mpr ⟨(h 39 _ rfl),
  List.forall_mem_cons.mpr ⟨(h 40 _ rfl),
  List.forall_mem_cons.mpr ⟨(h 41 _ rfl),
  List.forall_mem_cons.mpr ⟨(h 42 _ rfl),
  fun _ h => absurd h List.not_mem_nil⟩⟩⟩⟩⟩⟩⟩⟩⟩⟩⟩⟩⟩⟩⟩⟩⟩⟩⟩⟩⟩⟩⟩⟩⟩⟩⟩⟩⟩⟩⟩⟩⟩⟩⟩⟩⟩⟩⟩⟩⟩⟩⟩
set_option maxRecDepth 100000 in
def wA (f : Nat → ClassId) (b9 : Nat) (q : Nat → Nat) (u1 u2 u3 : Nat → Nat → Nat) (u4 u5 u6 : Nat → Nat) (s : Nat → Nat) (v : Nat → Nat → Nat → Nat) (t : Nat → Nat) : va_W := ((((((([(b9, .inr (9, [.ref (q 1), .ref (q 2), .int (iZ 0), .ref (q 3), .ref (q 4), .ref (q 5), .ref (q 6), .ref (q 7), .ref (q 8), .int (iZ 0), .int (iZ (-1)), .ref (q 9)]))] ++ (wX8 f (q 1) u1)) ++ (wX8 f (q 2) u2)) ++ (wX7 f (q 3) (q 1) u3)) ++ (wX3 f (q 4) (q 1) (q 3) u4)) ++ (wX1 f (q 5) (q 1) u5)) ++ (wX6 f (q 6) (q 1) u6)) ++ [((q 7), .inl (f 5, 8, .inr (.inr (.inr (.inr (va_up (va_up (va_up (va_up (va_up (va_up (va_up (va_up (fun _ => none) 0 (some (s 0))) 1 (some (s 1))) 2 (some (s 2))) 3 (some (s 3))) 4 (some (s 4))) 5 (some (s 5))) 6 (some (s 6))) 7 (some (s 7))))))))]) ++ ((q 8), .inl (f 4, 18, .inr (.inr (.inr (.inr (va_up (va_up (va_up (va_up (va_up (va_up (va_up (va_up (va_up (va_up (va_up (va_up (va_up (va_up (va_up (va_up (va_up (va_up (fun _ => none) 0 (some (t 0))) 1 (some (t 1))) 2 (some (t 2))) 3 (some (t 3))) 4 (some (t 4))) 5 (some (t 5))) 6 (some (t 6))) 7 (some (t 7))) 8 (some (t 8))) 9 (some (t 9))) 10 (some (t 10))) 11 (some (t 11))) 12 (some (t 12))) 13 (some (t 13))) 14 (some (t 14))) 15 (some (t 15))) 16 (some (t 16))) 17 (some (t 17)))))))) :: ((((((((((((((((((([((q 9), .inl (f 0, 8, .inl (fun _ => iZ 0)))] ++ wX4 f (s 0) (v 0) ++ wX4 f (s 1) (v 1) ++ wX4 f (s 2) (v 2) ++ wX4 f (s 3) (v 3) ++ wX4 f (s 4) (v 4) ++ wX4 f (s 5) (v 5) ++ wX4 f (s 6) (v 6) ++ wX4 f (s 7) (v 7)) ++ wX2 f (t 0) (fun _ => 0)) ++ wX2 f (t 1) (fun _ => 0)) ++ wX2 f (t 2) (fun _ => 0)) ++ wX2 f (t 3) (fun _ => 0)) ++ wX2 f (t 4) (fun _ => 0)) ++ wX2 f (t 5) (fun _ => 0)) ++ wX2 f (t 6) (fun _ => 0)) ++ wX2 f (t 7) (fun _ => 0)) ++ wX2 f (t 8) (fun _ => 0)) ++ wX2 f (t 9) (fun _ => 0)) ++ wX2 f (t 10) (fun _ => 0)) ++ wX2 f (t 11) (fun _ => 0)) ++ wX2 f (t 12) (fun _ => 0)) ++ wX2 f (t 13) (fun _ => 0)) ++ wX2 f (t 14) (fun _ => 0)) ++ wX2 f (t 15) (fun _ => 0)) ++ wX2 f (t 16) (fun _ => 0)) ++ wX2 f (t 17) (fun _ => 0))
def wB (f : Nat → ClassId) (b10 : Nat) (m : Nat → Nat) : va_W := (b10, .inr (10, mdF (m 1) (m 2) (m 3) (m 4) (m 5) (m 6) (m 7) (m 8) (m 9) (m 10) (m 11) (m 12) (m 13) (m 14) (m 15) (m 16) (m 17) (m 18) (m 19) (m 20) (m 21) (m 22) (m 23) (m 24) (m 25) (m 26) (m 27) (m 28) (m 29) (m 30) (m 31) (m 32) (m 33) (m 34) (m 35) (m 36) (m 37) (m 38) (m 39) (m 40) (m 41) (m 42))) :: mdC f (upd (upd (upd (upd (upd (fun _ => iZ 0) 0 (iZ 4)) 1 (iZ 4)) 2 (iZ 4)) 3 (iZ 4)) 4 (iZ 4)) (upd (upd (upd (upd (upd (fun _ => iZ 0) 0 (iZ (-1))) 1 (iZ (-1))) 2 (iZ (-1))) 3 (iZ (-1))) 4 (iZ (-1))) (m 1) (m 2) (m 3) (m 4) (m 5) (m 6) (m 7) (m 8) (m 9) (m 10) (m 11) (m 12) (m 13) (m 14) (m 15) (m 16) (m 17) (m 18) (m 19) (m 20) (m 21) (m 22) (m 23) (m 24) (m 25) (m 26) (m 27) (m 28) (m 29) (m 30) (m 31) (m 32) (m 33) (m 34) (m 35) (m 36) (m 37) (m 38) (m 39) (m 40) (m 41) (m 42)
def alp (b9 : Nat) (q : Nat → Nat) (u1 u2 u3 : Nat → Nat → Nat) (u4 u5 u6 : Nat → Nat) (s : Nat → Nat) (v : Nat → Nat → Nat → Nat) (t : Nat → Nat) (b10 : Nat) (m : Nat → Nat) (k : Nat) : Nat := if k < 17 then [(q 1), (u1 0 0), (u1 0 6), (u1 1 0), (u1 0 7), (u1 2 0), (u1 0 8), (u1 3 0), (u1 0 9), (u1 4 0), (u1 0 10), (u1 5 0), (u1 0 1), (u1 0 2), (u1 0 3), (u1 0 4), (u1 0 5)].getD k 0 else if k < 34 then [(q 2), (u2 0 0), (u2 0 6), (u2 1 0), (u2 0 7), (u2 2 0), (u2 0 8), (u2 3 0), (u2 0 9), (u2 4 0), (u2 0 10), (u2 5 0), (u2 0 1), (u2 0 2), (u2 0 3), (u2 0 4), (u2 0 5)].getD (k - 17) 0 else if k < 58 then [(s 0), (v 0 0 0), (v 0 0 1), (s 1), (v 1 0 0), (v 1 0 1), (s 2), (v 2 0 0), (v 2 0 1), (s 3), (v 3 0 0), (v 3 0 1), (s 4), (v 4 0 0), (v 4 0 1), (s 5), (v 5 0 0), (v 5 0 1), (s 6), (v 6 0 0), (v 6 0 1), (s 7), (v 7 0 0), (v 7 0 1)].getD (k - 34) 0 else if k < 76 then t (k - 58) else if k < 105 then [b9, (q 7), (q 8), (q 9), (q 3), (u3 0 0), (u3 1 0), (u3 1 1), (u3 1 2), (u3 1 3), (u3 1 4), (u3 0 1), (u3 0 2), (q 4), (u4 0), (u4 1), (u4 2), (u4 3), (u4 4), (u4 5), (u4 6), (u4 7), (q 5), (u5 0), (u5 1), (u5 2), (u5 3), (q 6), (u6 0)].getD (k - 76) 0 else [b10, m 1, m 2, m 3, m 4, m 5, m 6, m 7, m 8, m 9, m 10, 0, 0, 0, m 11, m 12, m 13, m 14, m 15, 0, m 16, m 17, m 18, m 19, m 20, 0, 0, m 21, m 22, m 23, m 24, m 25, m 26, m 27, m 28, m 29, 0, 0, m 30, 0, 0, m 31, m 32, m 33, m 34, m 35, m 36, m 37, m 38, m 39, m 40, m 41, 0, 0, 0, 0, m 42, 0, 0, 0].getD (k - 105) 0
set_option maxRecDepth 100000 in
theorem W9_A {f : Nat → ClassId} {b9 : Nat} {w : va_W} (h : W9 f b9 w) : ∃ (q : Nat → Nat) (u1 u2 u3 : Nat → Nat → Nat) (u4 u5 u6 : Nat → Nat) (s : Nat → Nat) (v : Nat → Nat → Nat → Nat) (t : Nat → Nat), w = wA f b9 q u1 u2 u3 u4 u5 u6 s v t := by
  unfold W9 at h
  obtain ⟨q1, q2, q3, q4, q5, q6, q7, q8, q9, u1, u2, u3, u4, u5, u6, s0, v0, s1, v1, s2, v2, s3, v3, s4, v4, s5, v5, s6, v6, s7, v7, t0, w0, t1, w1, t2, w2, t3, w3, t4, w4, t5, w5, t6, w6, t7, w7, t8, w8, t9, w9, t10, w10, t11, w11, t12, w12, t13, w13, t14, w14, t15, w15, t16, w16, t17, w17, rfl⟩ := h
  exact ⟨fun i => [q1, q2, q3, q4, q5, q6, q7, q8, q9].getD (i - 1) 0, u1, u2, u3, u4, u5, u6, fun i => [s0, s1, s2, s3, s4, s5, s6, s7].getD i 0, fun i => [v0, v1, v2, v3, v4, v5, v6, v7].getD i (fun _ _ => 0), fun i => [t0, t1, t2, t3, t4, t5, t6, t7, t8, t9, t10, t11, t12, t13, t14, t15, t16, t17].getD i 0, rfl⟩
set_option maxRecDepth 100000 in
theorem W10_B {f : Nat → ClassId} {b10 : Nat} {w : va_W} (h : W10 f b10 w) : ∃ m : Nat → Nat, w = wB f b10 m := by
  unfold W10 at h
  obtain ⟨m1, m2, m3, m4, m5, m6, m7, m8, m9, m10, m11, m12, m13, m14, m15, m16, m17, m18, m19, m20, m21, m22, m23, m24, m25, m26, m27, m28, m29, m30, m31, m32, m33, m34, m35, m36, m37, m38, m39, m40, m41, m42, rfl⟩ := h
  exact ⟨fun i => [m1, m2, m3, m4, m5, m6, m7, m8, m9, m10, m11, m12, m13, m14, m15, m16, m17, m18, m19, m20, m21, m22, m23, m24, m25, m26, m27, m28, m29, m30, m31, m32, m33, m34, m35, m36, m37, m38, m39, m40, m41, m42].getD (i - 1) 0, rfl⟩
section STC
variable {D : va_G} {f : Nat → ClassId} {H : Heap} {b9 : Nat} {q : Nat → Nat} {u1 u2 u3 : Nat → Nat → Nat} {u4 u5 u6 : Nat → Nat} {s : Nat → Nat} {v : Nat → Nat → Nat → Nat} {t : Nat → Nat} {b10 : Nat} {m : Nat → Nat}
theorem ATgC (h : va_P D vwCl ([(b9, .inr (9, [.ref (q 1), .ref (q 2), .int (iZ 0), .ref (q 3), .ref (q 4), .ref (q 5), .ref (q 6), .ref (q 7), .ref (q 8), .int (iZ 0), .int (iZ (-1)), .ref (q 9)]))] : va_W) H) : ∀ c ∈ ([76] : List Nat), va_at D vwCl ((alp b9 q u1 u2 u3 u4 u5 u6 s v t b10 m) c, cel ((D, (alp b9 q u1 u2 u3 u4 u5 u6 s v t b10 m), f) : Kp) st0 c) H := TgC (alp b9 q u1 u2 u3 u4 u5 u6 s v t b10 m) h
theorem ATQ7 (h : va_P D vwCl ([((q 7), .inl (f 5, 8, .inr (.inr (.inr (.inr (va_up (va_up (va_up (va_up (va_up (va_up (va_up (va_up (fun _ => none) 0 (some (s 0))) 1 (some (s 1))) 2 (some (s 2))) 3 (some (s 3))) 4 (some (s 4))) 5 (some (s 5))) 6 (some (s 6))) 7 (some (s 7))))))))] : va_W) H) : ∀ c ∈ ([77] : List Nat), va_at D vwCl ((alp b9 q u1 u2 u3 u4 u5 u6 s v t b10 m) c, cel ((D, (alp b9 q u1 u2 u3 u4 u5 u6 s v t b10 m), f) : Kp) st0 c) H := TQ7 (alp b9 q u1 u2 u3 u4 u5 u6 s v t b10 m) h
theorem ATQ8 (h : va_P D vwCl ([((q 8), .inl (f 4, 18, .inr (.inr (.inr (.inr (va_up (va_up (va_up (va_up (va_up (va_up (va_up (va_up (va_up (va_up (va_up (va_up (va_up (va_up (va_up (va_up (va_up (va_up (fun _ => none) 0 (some (t 0))) 1 (some (t 1))) 2 (some (t 2))) 3 (some (t 3))) 4 (some (t 4))) 5 (some (t 5))) 6 (some (t 6))) 7 (some (t 7))) 8 (some (t 8))) 9 (some (t 9))) 10 (some (t 10))) 11 (some (t 11))) 12 (some (t 12))) 13 (some (t 13))) 14 (some (t 14))) 15 (some (t 15))) 16 (some (t 16))) 17 (some (t 17))))))))] : va_W) H) : ∀ c ∈ ([78] : List Nat), va_at D vwCl ((alp b9 q u1 u2 u3 u4 u5 u6 s v t b10 m) c, cel ((D, (alp b9 q u1 u2 u3 u4 u5 u6 s v t b10 m), f) : Kp) st0 c) H := TQ8 (alp b9 q u1 u2 u3 u4 u5 u6 s v t b10 m) h
theorem ATQ9 (h : va_P D vwCl ([((q 9), .inl (f 0, 8, .inl (fun _ => iZ 0)))] : va_W) H) : ∀ c ∈ ([79] : List Nat), va_at D vwCl ((alp b9 q u1 u2 u3 u4 u5 u6 s v t b10 m) c, cel ((D, (alp b9 q u1 u2 u3 u4 u5 u6 s v t b10 m), f) : Kp) st0 c) H := TQ9 (alp b9 q u1 u2 u3 u4 u5 u6 s v t b10 m) h
set_option maxRecDepth 100000 in
theorem ATW0 (h : va_P D vwCl (wX8 f (q 1) u1) H) : ∀ c ∈ ([0, 1, 12, 13, 14, 15, 16, 2, 3, 4, 5, 6, 7, 8, 9, 10, 11] : List Nat), va_at D vwCl ((alp b9 q u1 u2 u3 u4 u5 u6 s v t b10 m) c, cel ((D, (alp b9 q u1 u2 u3 u4 u5 u6 s v t b10 m), f) : Kp) st0 c) H := TW0 (alp b9 q u1 u2 u3 u4 u5 u6 s v t b10 m) h
set_option maxRecDepth 100000 in
theorem ATW1 (h : va_P D vwCl (wX8 f (q 2) u2) H) : ∀ c ∈ ([17, 18, 29, 30, 31, 32, 33, 19, 20, 21, 22, 23, 24, 25, 26, 27, 28] : List Nat), va_at D vwCl ((alp b9 q u1 u2 u3 u4 u5 u6 s v t b10 m) c, cel ((D, (alp b9 q u1 u2 u3 u4 u5 u6 s v t b10 m), f) : Kp) st0 c) H := TW1 (alp b9 q u1 u2 u3 u4 u5 u6 s v t b10 m) h
set_option maxRecDepth 100000 in
theorem ATTh (h : va_P D vwCl (wX7 f (q 3) (q 1) u3) H) : ∀ c ∈ ([80, 81, 82, 83, 84, 85, 86, 87, 88] : List Nat), va_at D vwCl ((alp b9 q u1 u2 u3 u4 u5 u6 s v t b10 m) c, cel ((D, (alp b9 q u1 u2 u3 u4 u5 u6 s v t b10 m), f) : Kp) st0 c) H := TTh (alp b9 q u1 u2 u3 u4 u5 u6 s v t b10 m) h
set_option maxRecDepth 100000 in
theorem ATPl (h : va_P D vwCl (wX3 f (q 4) (q 1) (q 3) u4) H) : ∀ c ∈ ([89, 90, 91, 92, 93, 94, 95, 96, 97] : List Nat), va_at D vwCl ((alp b9 q u1 u2 u3 u4 u5 u6 s v t b10 m) c, cel ((D, (alp b9 q u1 u2 u3 u4 u5 u6 s v t b10 m), f) : Kp) st0 c) H := TPl (alp b9 q u1 u2 u3 u4 u5 u6 s v t b10 m) h
theorem ATMa (h : va_P D vwCl (wX1 f (q 5) (q 1) u5) H) : ∀ c ∈ ([98, 99, 100, 101, 102] : List Nat), va_at D vwCl ((alp b9 q u1 u2 u3 u4 u5 u6 s v t b10 m) c, cel ((D, (alp b9 q u1 u2 u3 u4 u5 u6 s v t b10 m), f) : Kp) st0 c) H := TMa (alp b9 q u1 u2 u3 u4 u5 u6 s v t b10 m) h
theorem ATRe (h : va_P D vwCl (wX6 f (q 6) (q 1) u6) H) : ∀ c ∈ ([103, 104] : List Nat), va_at D vwCl ((alp b9 q u1 u2 u3 u4 u5 u6 s v t b10 m) c, cel ((D, (alp b9 q u1 u2 u3 u4 u5 u6 s v t b10 m), f) : Kp) st0 c) H := TRe (alp b9 q u1 u2 u3 u4 u5 u6 s v t b10 m) h
theorem ATS0 (h : va_P D vwCl (wX4 f (s 0) (v 0)) H) : ∀ c ∈ ([34, 35, 36] : List Nat), va_at D vwCl ((alp b9 q u1 u2 u3 u4 u5 u6 s v t b10 m) c, cel ((D, (alp b9 q u1 u2 u3 u4 u5 u6 s v t b10 m), f) : Kp) st0 c) H := TS0 (alp b9 q u1 u2 u3 u4 u5 u6 s v t b10 m) h
theorem ATS1 (h : va_P D vwCl (wX4 f (s 1) (v 1)) H) : ∀ c ∈ ([37, 38, 39] : List Nat), va_at D vwCl ((alp b9 q u1 u2 u3 u4 u5 u6 s v t b10 m) c, cel ((D, (alp b9 q u1 u2 u3 u4 u5 u6 s v t b10 m), f) : Kp) st0 c) H := TS1 (alp b9 q u1 u2 u3 u4 u5 u6 s v t b10 m) h
theorem ATS2 (h : va_P D vwCl (wX4 f (s 2) (v 2)) H) : ∀ c ∈ ([40, 41, 42] : List Nat), va_at D vwCl ((alp b9 q u1 u2 u3 u4 u5 u6 s v t b10 m) c, cel ((D, (alp b9 q u1 u2 u3 u4 u5 u6 s v t b10 m), f) : Kp) st0 c) H := TS2 (alp b9 q u1 u2 u3 u4 u5 u6 s v t b10 m) h
theorem ATS3 (h : va_P D vwCl (wX4 f (s 3) (v 3)) H) : ∀ c ∈ ([43, 44, 45] : List Nat), va_at D vwCl ((alp b9 q u1 u2 u3 u4 u5 u6 s v t b10 m) c, cel ((D, (alp b9 q u1 u2 u3 u4 u5 u6 s v t b10 m), f) : Kp) st0 c) H := TS3 (alp b9 q u1 u2 u3 u4 u5 u6 s v t b10 m) h
theorem ATS4 (h : va_P D vwCl (wX4 f (s 4) (v 4)) H) : ∀ c ∈ ([46, 47, 48] : List Nat), va_at D vwCl ((alp b9 q u1 u2 u3 u4 u5 u6 s v t b10 m) c, cel ((D, (alp b9 q u1 u2 u3 u4 u5 u6 s v t b10 m), f) : Kp) st0 c) H := TS4 (alp b9 q u1 u2 u3 u4 u5 u6 s v t b10 m) h
theorem ATS5 (h : va_P D vwCl (wX4 f (s 5) (v 5)) H) : ∀ c ∈ ([49, 50, 51] : List Nat), va_at D vwCl ((alp b9 q u1 u2 u3 u4 u5 u6 s v t b10 m) c, cel ((D, (alp b9 q u1 u2 u3 u4 u5 u6 s v t b10 m), f) : Kp) st0 c) H := TS5 (alp b9 q u1 u2 u3 u4 u5 u6 s v t b10 m) h
theorem ATS6 (h : va_P D vwCl (wX4 f (s 6) (v 6)) H) : ∀ c ∈ ([52, 53, 54] : List Nat), va_at D vwCl ((alp b9 q u1 u2 u3 u4 u5 u6 s v t b10 m) c, cel ((D, (alp b9 q u1 u2 u3 u4 u5 u6 s v t b10 m), f) : Kp) st0 c) H := TS6 (alp b9 q u1 u2 u3 u4 u5 u6 s v t b10 m) h
theorem ATS7 (h : va_P D vwCl (wX4 f (s 7) (v 7)) H) : ∀ c ∈ ([55, 56, 57] : List Nat), va_at D vwCl ((alp b9 q u1 u2 u3 u4 u5 u6 s v t b10 m) c, cel ((D, (alp b9 q u1 u2 u3 u4 u5 u6 s v t b10 m), f) : Kp) st0 c) H := TS7 (alp b9 q u1 u2 u3 u4 u5 u6 s v t b10 m) h
theorem ATN0 (h : va_P D vwCl (wX2 f (t 0) (fun _ => 0)) H) : ∀ c ∈ ([58] : List Nat), va_at D vwCl ((alp b9 q u1 u2 u3 u4 u5 u6 s v t b10 m) c, cel ((D, (alp b9 q u1 u2 u3 u4 u5 u6 s v t b10 m), f) : Kp) st0 c) H := TN0 (alp b9 q u1 u2 u3 u4 u5 u6 s v t b10 m) h
theorem ATN1 (h : va_P D vwCl (wX2 f (t 1) (fun _ => 0)) H) : ∀ c ∈ ([59] : List Nat), va_at D vwCl ((alp b9 q u1 u2 u3 u4 u5 u6 s v t b10 m) c, cel ((D, (alp b9 q u1 u2 u3 u4 u5 u6 s v t b10 m), f) : Kp) st0 c) H := TN1 (alp b9 q u1 u2 u3 u4 u5 u6 s v t b10 m) h
theorem ATN2 (h : va_P D vwCl (wX2 f (t 2) (fun _ => 0)) H) : ∀ c ∈ ([60] : List Nat), va_at D vwCl ((alp b9 q u1 u2 u3 u4 u5 u6 s v t b10 m) c, cel ((D, (alp b9 q u1 u2 u3 u4 u5 u6 s v t b10 m), f) : Kp) st0 c) H := TN2 (alp b9 q u1 u2 u3 u4 u5 u6 s v t b10 m) h
theorem ATN3 (h : va_P D vwCl (wX2 f (t 3) (fun _ => 0)) H) : ∀ c ∈ ([61] : List Nat), va_at D vwCl ((alp b9 q u1 u2 u3 u4 u5 u6 s v t b10 m) c, cel ((D, (alp b9 q u1 u2 u3 u4 u5 u6 s v t b10 m), f) : Kp) st0 c) H := TN3 (alp b9 q u1 u2 u3 u4 u5 u6 s v t b10 m) h
theorem ATN4 (h : va_P D vwCl (wX2 f (t 4) (fun _ => 0)) H) : ∀ c ∈ ([62] : List Nat), va_at D vwCl ((alp b9 q u1 u2 u3 u4 u5 u6 s v t b10 m) c, cel ((D, (alp b9 q u1 u2 u3 u4 u5 u6 s v t b10 m), f) : Kp) st0 c) H := TN4 (alp b9 q u1 u2 u3 u4 u5 u6 s v t b10 m) h
theorem ATN5 (h : va_P D vwCl (wX2 f (t 5) (fun _ => 0)) H) : ∀ c ∈ ([63] : List Nat), va_at D vwCl ((alp b9 q u1 u2 u3 u4 u5 u6 s v t b10 m) c, cel ((D, (alp b9 q u1 u2 u3 u4 u5 u6 s v t b10 m), f) : Kp) st0 c) H := TN5 (alp b9 q u1 u2 u3 u4 u5 u6 s v t b10 m) h
theorem ATN6 (h : va_P D vwCl (wX2 f (t 6) (fun _ => 0)) H) : ∀ c ∈ ([64] : List Nat), va_at D vwCl ((alp b9 q u1 u2 u3 u4 u5 u6 s v t b10 m) c, cel ((D, (alp b9 q u1 u2 u3 u4 u5 u6 s v t b10 m), f) : Kp) st0 c) H := TN6 (alp b9 q u1 u2 u3 u4 u5 u6 s v t b10 m) h
theorem ATN7 (h : va_P D vwCl (wX2 f (t 7) (fun _ => 0)) H) : ∀ c ∈ ([65] : List Nat), va_at D vwCl ((alp b9 q u1 u2 u3 u4 u5 u6 s v t b10 m) c, cel ((D, (alp b9 q u1 u2 u3 u4 u5 u6 s v t b10 m), f) : Kp) st0 c) H := TN7 (alp b9 q u1 u2 u3 u4 u5 u6 s v t b10 m) h
theorem ATN8 (h : va_P D vwCl (wX2 f (t 8) (fun _ => 0)) H) : ∀ c ∈ ([66] : List Nat), va_at D vwCl ((alp b9 q u1 u2 u3 u4 u5 u6 s v t b10 m) c, cel ((D, (alp b9 q u1 u2 u3 u4 u5 u6 s v t b10 m), f) : Kp) st0 c) H := TN8 (alp b9 q u1 u2 u3 u4 u5 u6 s v t b10 m) h
theorem ATN9 (h : va_P D vwCl (wX2 f (t 9) (fun _ => 0)) H) : ∀ c ∈ ([67] : List Nat), va_at D vwCl ((alp b9 q u1 u2 u3 u4 u5 u6 s v t b10 m) c, cel ((D, (alp b9 q u1 u2 u3 u4 u5 u6 s v t b10 m), f) : Kp) st0 c) H := TN9 (alp b9 q u1 u2 u3 u4 u5 u6 s v t b10 m) h
theorem ATN10 (h : va_P D vwCl (wX2 f (t 10) (fun _ => 0)) H) : ∀ c ∈ ([68] : List Nat), va_at D vwCl ((alp b9 q u1 u2 u3 u4 u5 u6 s v t b10 m) c, cel ((D, (alp b9 q u1 u2 u3 u4 u5 u6 s v t b10 m), f) : Kp) st0 c) H := TN10 (alp b9 q u1 u2 u3 u4 u5 u6 s v t b10 m) h
theorem ATN11 (h : va_P D vwCl (wX2 f (t 11) (fun _ => 0)) H) : ∀ c ∈ ([69] : List Nat), va_at D vwCl ((alp b9 q u1 u2 u3 u4 u5 u6 s v t b10 m) c, cel ((D, (alp b9 q u1 u2 u3 u4 u5 u6 s v t b10 m), f) : Kp) st0 c) H := TN11 (alp b9 q u1 u2 u3 u4 u5 u6 s v t b10 m) h
theorem ATN12 (h : va_P D vwCl (wX2 f (t 12) (fun _ => 0)) H) : ∀ c ∈ ([70] : List Nat), va_at D vwCl ((alp b9 q u1 u2 u3 u4 u5 u6 s v t b10 m) c, cel ((D, (alp b9 q u1 u2 u3 u4 u5 u6 s v t b10 m), f) : Kp) st0 c) H := TN12 (alp b9 q u1 u2 u3 u4 u5 u6 s v t b10 m) h
theorem ATN13 (h : va_P D vwCl (wX2 f (t 13) (fun _ => 0)) H) : ∀ c ∈ ([71] : List Nat), va_at D vwCl ((alp b9 q u1 u2 u3 u4 u5 u6 s v t b10 m) c, cel ((D, (alp b9 q u1 u2 u3 u4 u5 u6 s v t b10 m), f) : Kp) st0 c) H := TN13 (alp b9 q u1 u2 u3 u4 u5 u6 s v t b10 m) h
theorem ATN14 (h : va_P D vwCl (wX2 f (t 14) (fun _ => 0)) H) : ∀ c ∈ ([72] : List Nat), va_at D vwCl ((alp b9 q u1 u2 u3 u4 u5 u6 s v t b10 m) c, cel ((D, (alp b9 q u1 u2 u3 u4 u5 u6 s v t b10 m), f) : Kp) st0 c) H := TN14 (alp b9 q u1 u2 u3 u4 u5 u6 s v t b10 m) h
theorem ATN15 (h : va_P D vwCl (wX2 f (t 15) (fun _ => 0)) H) : ∀ c ∈ ([73] : List Nat), va_at D vwCl ((alp b9 q u1 u2 u3 u4 u5 u6 s v t b10 m) c, cel ((D, (alp b9 q u1 u2 u3 u4 u5 u6 s v t b10 m), f) : Kp) st0 c) H := TN15 (alp b9 q u1 u2 u3 u4 u5 u6 s v t b10 m) h
theorem ATN16 (h : va_P D vwCl (wX2 f (t 16) (fun _ => 0)) H) : ∀ c ∈ ([74] : List Nat), va_at D vwCl ((alp b9 q u1 u2 u3 u4 u5 u6 s v t b10 m) c, cel ((D, (alp b9 q u1 u2 u3 u4 u5 u6 s v t b10 m), f) : Kp) st0 c) H := TN16 (alp b9 q u1 u2 u3 u4 u5 u6 s v t b10 m) h
theorem ATN17 (h : va_P D vwCl (wX2 f (t 17) (fun _ => 0)) H) : ∀ c ∈ ([75] : List Nat), va_at D vwCl ((alp b9 q u1 u2 u3 u4 u5 u6 s v t b10 m) c, cel ((D, (alp b9 q u1 u2 u3 u4 u5 u6 s v t b10 m), f) : Kp) st0 c) H := TN17 (alp b9 q u1 u2 u3 u4 u5 u6 s v t b10 m) h
set_option maxHeartbeats 4000000 in
set_option maxRecDepth 100000 in
theorem ATM (h : va_P D vwCl (wB f b10 m) H) : ∀ c ∈ ([105, 106, 107, 108, 109, 110, 111, 112, 113, 114, 115, 119, 120, 121, 122, 123, 125, 126, 127, 128, 129, 132, 133, 134, 135, 136, 137, 138, 139, 140, 143, 146, 147, 148, 149, 150, 151, 152, 153, 154, 155, 156, 161] : List Nat), va_at D vwCl ((alp b9 q u1 u2 u3 u4 u5 u6 s v t b10 m) c, cel ((D, (alp b9 q u1 u2 u3 u4 u5 u6 s v t b10 m), f) : Kp) st0 c) H := TM (alp b9 q u1 u2 u3 u4 u5 u6 s v t b10 m) h
def wns9 : List Nat := [76] ++ ([0, 1, 12, 13, 14, 15, 16, 2, 3, 4, 5, 6, 7, 8, 9, 10, 11] : List Nat) ++ ([17, 18, 29, 30, 31, 32, 33, 19, 20, 21, 22, 23, 24, 25, 26, 27, 28] : List Nat) ++ ([80, 81, 82, 83, 84, 85, 86, 87, 88] : List Nat) ++ ([89, 90, 91, 92, 93, 94, 95, 96, 97] : List Nat) ++ ([98, 99, 100, 101, 102] : List Nat) ++ ([103, 104] : List Nat) ++ [77] ++ (78 :: ([79] ++ ([34, 35, 36] : List Nat) ++ ([37, 38, 39] : List Nat) ++ ([40, 41, 42] : List Nat) ++ ([43, 44, 45] : List Nat) ++ ([46, 47, 48] : List Nat) ++ ([49, 50, 51] : List Nat) ++ ([52, 53, 54] : List Nat) ++ ([55, 56, 57] : List Nat) ++ ([58] : List Nat) ++ ([59] : List Nat) ++ ([60] : List Nat) ++ ([61] : List Nat) ++ ([62] : List Nat) ++ ([63] : List Nat) ++ ([64] : List Nat) ++ ([65] : List Nat) ++ ([66] : List Nat) ++ ([67] : List Nat) ++ ([68] : List Nat) ++ ([69] : List Nat) ++ ([70] : List Nat) ++ ([71] : List Nat) ++ ([72] : List Nat) ++ ([73] : List Nat) ++ ([74] : List Nat) ++ ([75] : List Nat)))
def wns10 : List Nat := ([105, 106, 107, 108, 109, 110, 111, 112, 113, 114, 115, 119, 120, 121, 122, 123, 125, 126, 127, 128, 129, 132, 133, 134, 135, 136, 137, 138, 139, 140, 143, 146, 147, 148, 149, 150, 151, 152, 153, 154, 155, 156, 161] : List Nat)
set_option maxHeartbeats 4000000 in
set_option maxRecDepth 100000 in
theorem start_9 (h : va_P D vwCl (wA f b9 q u1 u2 u3 u4 u5 u6 s v t) H) : ∀ c ∈ wns9, va_at D vwCl ((alp b9 q u1 u2 u3 u4 u5 u6 s v t b10 m) c, cel ((D, (alp b9 q u1 u2 u3 u4 u5 u6 s v t b10 m), f) : Kp) st0 c) H := by
  unfold wA at h
  unfold wns9
  have hl := va_P_l h
  have hr := va_P_r h
  clear h
  refine List.forall_mem_append.mpr ⟨?_, ?_⟩
  · refine List.forall_mem_append.mpr ⟨?_, ATQ7 (va_P_r hl)⟩
    refine List.forall_mem_append.mpr ⟨?_, ATRe (va_P_r (va_P_l hl))⟩
    refine List.forall_mem_append.mpr ⟨?_, ATMa (va_P_r (va_P_l (va_P_l hl)))⟩
    refine List.forall_mem_append.mpr ⟨?_, ATPl (va_P_r (va_P_l (va_P_l (va_P_l hl))))⟩
    refine List.forall_mem_append.mpr ⟨?_, ATTh (va_P_r (va_P_l (va_P_l (va_P_l (va_P_l hl)))))⟩
    refine List.forall_mem_append.mpr ⟨?_, ATW1 (va_P_r (va_P_l (va_P_l (va_P_l (va_P_l (va_P_l hl))))))⟩
    refine List.forall_mem_append.mpr ⟨?_, ATW0 (va_P_r (va_P_l (va_P_l (va_P_l (va_P_l (va_P_l (va_P_l hl)))))))⟩
    exact ATgC (va_P_l (va_P_l (va_P_l (va_P_l (va_P_l (va_P_l (va_P_l hl)))))))
  · refine List.forall_mem_cons.mpr ⟨ATQ8 (va_P_h hr) 78 (List.mem_cons_self), ?_⟩
    have hs := va_P_t hr
    clear hr hl
    refine List.forall_mem_append.mpr ⟨?_, ATN17 (va_P_r hs)⟩
    replace hs := va_P_l hs
    refine List.forall_mem_append.mpr ⟨?_, ATN16 (va_P_r hs)⟩
    replace hs := va_P_l hs
    refine List.forall_mem_append.mpr ⟨?_, ATN15 (va_P_r hs)⟩
    replace hs := va_P_l hs
    refine List.forall_mem_append.mpr ⟨?_, ATN14 (va_P_r hs)⟩
    replace hs := va_P_l hs
    refine List.forall_mem_append.mpr ⟨?_, ATN13 (va_P_r hs)⟩
    replace hs := va_P_l hs
    refine List.forall_mem_append.mpr ⟨?_, ATN12 (va_P_r hs)⟩
    replace hs := va_P_l hs
    refine List.forall_mem_append.mpr ⟨?_, ATN11 (va_P_r hs)⟩
    replace hs := va_P_l hs
    refine List.forall_mem_append.mpr ⟨?_, ATN10 (va_P_r hs)⟩
    replace hs := va_P_l hs
    refine List.forall_mem_append.mpr ⟨?_, ATN9 (va_P_r hs)⟩
    replace hs := va_P_l hs
    refine List.forall_mem_append.mpr ⟨?_, ATN8 (va_P_r hs)⟩
    replace hs := va_P_l hs
    refine List.forall_mem_append.mpr ⟨?_, ATN7 (va_P_r hs)⟩
    replace hs := va_P_l hs
    refine List.forall_mem_append.mpr ⟨?_, ATN6 (va_P_r hs)⟩
    replace hs := va_P_l hs
    refine List.forall_mem_append.mpr ⟨?_, ATN5 (va_P_r hs)⟩
    replace hs := va_P_l hs
    refine List.forall_mem_append.mpr ⟨?_, ATN4 (va_P_r hs)⟩
    replace hs := va_P_l hs
    refine List.forall_mem_append.mpr ⟨?_, ATN3 (va_P_r hs)⟩
    replace hs := va_P_l hs
    refine List.forall_mem_append.mpr ⟨?_, ATN2 (va_P_r hs)⟩
    replace hs := va_P_l hs
    refine List.forall_mem_append.mpr ⟨?_, ATN1 (va_P_r hs)⟩
    replace hs := va_P_l hs
    refine List.forall_mem_append.mpr ⟨?_, ATN0 (va_P_r hs)⟩
    replace hs := va_P_l hs
    refine List.forall_mem_append.mpr ⟨?_, ATS7 (va_P_r hs)⟩
    replace hs := va_P_l hs
    refine List.forall_mem_append.mpr ⟨?_, ATS6 (va_P_r hs)⟩
    replace hs := va_P_l hs
    refine List.forall_mem_append.mpr ⟨?_, ATS5 (va_P_r hs)⟩
    replace hs := va_P_l hs
    refine List.forall_mem_append.mpr ⟨?_, ATS4 (va_P_r hs)⟩
    replace hs := va_P_l hs
    refine List.forall_mem_append.mpr ⟨?_, ATS3 (va_P_r hs)⟩
    replace hs := va_P_l hs
    refine List.forall_mem_append.mpr ⟨?_, ATS2 (va_P_r hs)⟩
    replace hs := va_P_l hs
    refine List.forall_mem_append.mpr ⟨?_, ATS1 (va_P_r hs)⟩
    replace hs := va_P_l hs
    refine List.forall_mem_append.mpr ⟨?_, ATS0 (va_P_r hs)⟩
    replace hs := va_P_l hs
    exact ATQ9 hs
theorem FW0 : (wX8 f (q 1) u1).map Prod.fst = ([0, 1, 12, 13, 14, 15, 16, 2, 3, 4, 5, 6, 7, 8, 9, 10, 11] : List Nat).map (alp b9 q u1 u2 u3 u4 u5 u6 s v t b10 m) := rfl
theorem FW1 : (wX8 f (q 2) u2).map Prod.fst = ([17, 18, 29, 30, 31, 32, 33, 19, 20, 21, 22, 23, 24, 25, 26, 27, 28] : List Nat).map (alp b9 q u1 u2 u3 u4 u5 u6 s v t b10 m) := rfl
theorem FTh : (wX7 f (q 3) (q 1) u3).map Prod.fst = ([80, 81, 82, 83, 84, 85, 86, 87, 88] : List Nat).map (alp b9 q u1 u2 u3 u4 u5 u6 s v t b10 m) := rfl
theorem FPl : (wX3 f (q 4) (q 1) (q 3) u4).map Prod.fst = ([89, 90, 91, 92, 93, 94, 95, 96, 97] : List Nat).map (alp b9 q u1 u2 u3 u4 u5 u6 s v t b10 m) := rfl
theorem FMa : (wX1 f (q 5) (q 1) u5).map Prod.fst = ([98, 99, 100, 101, 102] : List Nat).map (alp b9 q u1 u2 u3 u4 u5 u6 s v t b10 m) := rfl
theorem FRe : (wX6 f (q 6) (q 1) u6).map Prod.fst = ([103, 104] : List Nat).map (alp b9 q u1 u2 u3 u4 u5 u6 s v t b10 m) := rfl
theorem FS0 : (wX4 f (s 0) (v 0)).map Prod.fst = ([34, 35, 36] : List Nat).map (alp b9 q u1 u2 u3 u4 u5 u6 s v t b10 m) := rfl
theorem FS1 : (wX4 f (s 1) (v 1)).map Prod.fst = ([37, 38, 39] : List Nat).map (alp b9 q u1 u2 u3 u4 u5 u6 s v t b10 m) := rfl
theorem FS2 : (wX4 f (s 2) (v 2)).map Prod.fst = ([40, 41, 42] : List Nat).map (alp b9 q u1 u2 u3 u4 u5 u6 s v t b10 m) := rfl
theorem FS3 : (wX4 f (s 3) (v 3)).map Prod.fst = ([43, 44, 45] : List Nat).map (alp b9 q u1 u2 u3 u4 u5 u6 s v t b10 m) := rfl
theorem FS4 : (wX4 f (s 4) (v 4)).map Prod.fst = ([46, 47, 48] : List Nat).map (alp b9 q u1 u2 u3 u4 u5 u6 s v t b10 m) := rfl
theorem FS5 : (wX4 f (s 5) (v 5)).map Prod.fst = ([49, 50, 51] : List Nat).map (alp b9 q u1 u2 u3 u4 u5 u6 s v t b10 m) := rfl
theorem FS6 : (wX4 f (s 6) (v 6)).map Prod.fst = ([52, 53, 54] : List Nat).map (alp b9 q u1 u2 u3 u4 u5 u6 s v t b10 m) := rfl
theorem FS7 : (wX4 f (s 7) (v 7)).map Prod.fst = ([55, 56, 57] : List Nat).map (alp b9 q u1 u2 u3 u4 u5 u6 s v t b10 m) := rfl
theorem FN0 : (wX2 f (t 0) (fun _ => 0)).map Prod.fst = ([58] : List Nat).map (alp b9 q u1 u2 u3 u4 u5 u6 s v t b10 m) := rfl
theorem FN1 : (wX2 f (t 1) (fun _ => 0)).map Prod.fst = ([59] : List Nat).map (alp b9 q u1 u2 u3 u4 u5 u6 s v t b10 m) := rfl
theorem FN2 : (wX2 f (t 2) (fun _ => 0)).map Prod.fst = ([60] : List Nat).map (alp b9 q u1 u2 u3 u4 u5 u6 s v t b10 m) := rfl
theorem FN3 : (wX2 f (t 3) (fun _ => 0)).map Prod.fst = ([61] : List Nat).map (alp b9 q u1 u2 u3 u4 u5 u6 s v t b10 m) := rfl
theorem FN4 : (wX2 f (t 4) (fun _ => 0)).map Prod.fst = ([62] : List Nat).map (alp b9 q u1 u2 u3 u4 u5 u6 s v t b10 m) := rfl
theorem FN5 : (wX2 f (t 5) (fun _ => 0)).map Prod.fst = ([63] : List Nat).map (alp b9 q u1 u2 u3 u4 u5 u6 s v t b10 m) := rfl
theorem FN6 : (wX2 f (t 6) (fun _ => 0)).map Prod.fst = ([64] : List Nat).map (alp b9 q u1 u2 u3 u4 u5 u6 s v t b10 m) := rfl
theorem FN7 : (wX2 f (t 7) (fun _ => 0)).map Prod.fst = ([65] : List Nat).map (alp b9 q u1 u2 u3 u4 u5 u6 s v t b10 m) := rfl
theorem FN8 : (wX2 f (t 8) (fun _ => 0)).map Prod.fst = ([66] : List Nat).map (alp b9 q u1 u2 u3 u4 u5 u6 s v t b10 m) := rfl
theorem FN9 : (wX2 f (t 9) (fun _ => 0)).map Prod.fst = ([67] : List Nat).map (alp b9 q u1 u2 u3 u4 u5 u6 s v t b10 m) := rfl
theorem FN10 : (wX2 f (t 10) (fun _ => 0)).map Prod.fst = ([68] : List Nat).map (alp b9 q u1 u2 u3 u4 u5 u6 s v t b10 m) := rfl
theorem FN11 : (wX2 f (t 11) (fun _ => 0)).map Prod.fst = ([69] : List Nat).map (alp b9 q u1 u2 u3 u4 u5 u6 s v t b10 m) := rfl
theorem FN12 : (wX2 f (t 12) (fun _ => 0)).map Prod.fst = ([70] : List Nat).map (alp b9 q u1 u2 u3 u4 u5 u6 s v t b10 m) := rfl
theorem FN13 : (wX2 f (t 13) (fun _ => 0)).map Prod.fst = ([71] : List Nat).map (alp b9 q u1 u2 u3 u4 u5 u6 s v t b10 m) := rfl
theorem FN14 : (wX2 f (t 14) (fun _ => 0)).map Prod.fst = ([72] : List Nat).map (alp b9 q u1 u2 u3 u4 u5 u6 s v t b10 m) := rfl
theorem FN15 : (wX2 f (t 15) (fun _ => 0)).map Prod.fst = ([73] : List Nat).map (alp b9 q u1 u2 u3 u4 u5 u6 s v t b10 m) := rfl
theorem FN16 : (wX2 f (t 16) (fun _ => 0)).map Prod.fst = ([74] : List Nat).map (alp b9 q u1 u2 u3 u4 u5 u6 s v t b10 m) := rfl
theorem FN17 : (wX2 f (t 17) (fun _ => 0)).map Prod.fst = ([75] : List Nat).map (alp b9 q u1 u2 u3 u4 u5 u6 s v t b10 m) := rfl
set_option maxRecDepth 100000 in
theorem FM : (wB f b10 m).map Prod.fst = wns10.map (alp b9 q u1 u2 u3 u4 u5 u6 s v t b10 m) := rfl
set_option maxHeartbeats 4000000 in
set_option maxRecDepth 100000 in
theorem F9 : (wA f b9 q u1 u2 u3 u4 u5 u6 s v t).map Prod.fst = wns9.map (alp b9 q u1 u2 u3 u4 u5 u6 s v t b10 m) := by
  unfold wA wns9
  simp only [List.map_append, List.map_cons, List.map_nil, FW0 (f := f) (b9 := b9) (q := q) (u1 := u1) (u2 := u2) (u3 := u3) (u4 := u4) (u5 := u5) (u6 := u6) (s := s) (v := v) (t := t) (b10 := b10) (m := m), FW1 (f := f) (b9 := b9) (q := q) (u1 := u1) (u2 := u2) (u3 := u3) (u4 := u4) (u5 := u5) (u6 := u6) (s := s) (v := v) (t := t) (b10 := b10) (m := m), FTh (f := f) (b9 := b9) (q := q) (u1 := u1) (u2 := u2) (u3 := u3) (u4 := u4) (u5 := u5) (u6 := u6) (s := s) (v := v) (t := t) (b10 := b10) (m := m), FPl (f := f) (b9 := b9) (q := q) (u1 := u1) (u2 := u2) (u3 := u3) (u4 := u4) (u5 := u5) (u6 := u6) (s := s) (v := v) (t := t) (b10 := b10) (m := m), FMa (f := f) (b9 := b9) (q := q) (u1 := u1) (u2 := u2) (u3 := u3) (u4 := u4) (u5 := u5) (u6 := u6) (s := s) (v := v) (t := t) (b10 := b10) (m := m), FRe (f := f) (b9 := b9) (q := q) (u1 := u1) (u2 := u2) (u3 := u3) (u4 := u4) (u5 := u5) (u6 := u6) (s := s) (v := v) (t := t) (b10 := b10) (m := m), FS0 (f := f) (b9 := b9) (q := q) (u1 := u1) (u2 := u2) (u3 := u3) (u4 := u4) (u5 := u5) (u6 := u6) (s := s) (v := v) (t := t) (b10 := b10) (m := m), FS1 (f := f) (b9 := b9) (q := q) (u1 := u1) (u2 := u2) (u3 := u3) (u4 := u4) (u5 := u5) (u6 := u6) (s := s) (v := v) (t := t) (b10 := b10) (m := m), FS2 (f := f) (b9 := b9) (q := q) (u1 := u1) (u2 := u2) (u3 := u3) (u4 := u4) (u5 := u5) (u6 := u6) (s := s) (v := v) (t := t) (b10 := b10) (m := m), FS3 (f := f) (b9 := b9) (q := q) (u1 := u1) (u2 := u2) (u3 := u3) (u4 := u4) (u5 := u5) (u6 := u6) (s := s) (v := v) (t := t) (b10 := b10) (m := m), FS4 (f := f) (b9 := b9) (q := q) (u1 := u1) (u2 := u2) (u3 := u3) (u4 := u4) (u5 := u5) (u6 := u6) (s := s) (v := v) (t := t) (b10 := b10) (m := m), FS5 (f := f) (b9 := b9) (q := q) (u1 := u1) (u2 := u2) (u3 := u3) (u4 := u4) (u5 := u5) (u6 := u6) (s := s) (v := v) (t := t) (b10 := b10) (m := m), FS6 (f := f) (b9 := b9) (q := q) (u1 := u1) (u2 := u2) (u3 := u3) (u4 := u4) (u5 := u5) (u6 := u6) (s := s) (v := v) (t := t) (b10 := b10) (m := m), FS7 (f := f) (b9 := b9) (q := q) (u1 := u1) (u2 := u2) (u3 := u3) (u4 := u4) (u5 := u5) (u6 := u6) (s := s) (v := v) (t := t) (b10 := b10) (m := m), FN0 (f := f) (b9 := b9) (q := q) (u1 := u1) (u2 := u2) (u3 := u3) (u4 := u4) (u5 := u5) (u6 := u6) (s := s) (v := v) (t := t) (b10 := b10) (m := m), FN1 (f := f) (b9 := b9) (q := q) (u1 := u1) (u2 := u2) (u3 := u3) (u4 := u4) (u5 := u5) (u6 := u6) (s := s) (v := v) (t := t) (b10 := b10) (m := m), FN2 (f := f) (b9 := b9) (q := q) (u1 := u1) (u2 := u2) (u3 := u3) (u4 := u4) (u5 := u5) (u6 := u6) (s := s) (v := v) (t := t) (b10 := b10) (m := m), FN3 (f := f) (b9 := b9) (q := q) (u1 := u1) (u2 := u2) (u3 := u3) (u4 := u4) (u5 := u5) (u6 := u6) (s := s) (v := v) (t := t) (b10 := b10) (m := m), FN4 (f := f) (b9 := b9) (q := q) (u1 := u1) (u2 := u2) (u3 := u3) (u4 := u4) (u5 := u5) (u6 := u6) (s := s) (v := v) (t := t) (b10 := b10) (m := m), FN5 (f := f) (b9 := b9) (q := q) (u1 := u1) (u2 := u2) (u3 := u3) (u4 := u4) (u5 := u5) (u6 := u6) (s := s) (v := v) (t := t) (b10 := b10) (m := m), FN6 (f := f) (b9 := b9) (q := q) (u1 := u1) (u2 := u2) (u3 := u3) (u4 := u4) (u5 := u5) (u6 := u6) (s := s) (v := v) (t := t) (b10 := b10) (m := m), FN7 (f := f) (b9 := b9) (q := q) (u1 := u1) (u2 := u2) (u3 := u3) (u4 := u4) (u5 := u5) (u6 := u6) (s := s) (v := v) (t := t) (b10 := b10) (m := m), FN8 (f := f) (b9 := b9) (q := q) (u1 := u1) (u2 := u2) (u3 := u3) (u4 := u4) (u5 := u5) (u6 := u6) (s := s) (v := v) (t := t) (b10 := b10) (m := m), FN9 (f := f) (b9 := b9) (q := q) (u1 := u1) (u2 := u2) (u3 := u3) (u4 := u4) (u5 := u5) (u6 := u6) (s := s) (v := v) (t := t) (b10 := b10) (m := m), FN10 (f := f) (b9 := b9) (q := q) (u1 := u1) (u2 := u2) (u3 := u3) (u4 := u4) (u5 := u5) (u6 := u6) (s := s) (v := v) (t := t) (b10 := b10) (m := m), FN11 (f := f) (b9 := b9) (q := q) (u1 := u1) (u2 := u2) (u3 := u3) (u4 := u4) (u5 := u5) (u6 := u6) (s := s) (v := v) (t := t) (b10 := b10) (m := m), FN12 (f := f) (b9 := b9) (q := q) (u1 := u1) (u2 := u2) (u3 := u3) (u4 := u4) (u5 := u5) (u6 := u6) (s := s) (v := v) (t := t) (b10 := b10) (m := m), FN13 (f := f) (b9 := b9) (q := q) (u1 := u1) (u2 := u2) (u3 := u3) (u4 := u4) (u5 := u5) (u6 := u6) (s := s) (v := v) (t := t) (b10 := b10) (m := m), FN14 (f := f) (b9 := b9) (q := q) (u1 := u1) (u2 := u2) (u3 := u3) (u4 := u4) (u5 := u5) (u6 := u6) (s := s) (v := v) (t := t) (b10 := b10) (m := m), FN15 (f := f) (b9 := b9) (q := q) (u1 := u1) (u2 := u2) (u3 := u3) (u4 := u4) (u5 := u5) (u6 := u6) (s := s) (v := v) (t := t) (b10 := b10) (m := m), FN16 (f := f) (b9 := b9) (q := q) (u1 := u1) (u2 := u2) (u3 := u3) (u4 := u4) (u5 := u5) (u6 := u6) (s := s) (v := v) (t := t) (b10 := b10) (m := m), FN17 (f := f) (b9 := b9) (q := q) (u1 := u1) (u2 := u2) (u3 := u3) (u4 := u4) (u5 := u5) (u6 := u6) (s := s) (v := v) (t := t) (b10 := b10) (m := m)]
  rfl
theorem start_W (h : va_P D vwCl (wA f b9 q u1 u2 u3 u4 u5 u6 s v t ++ wB f b10 m) H) : va_P D vwCl (wld ((D, (alp b9 q u1 u2 u3 u4 u5 u6 s v t b10 m), f) : Kp) st0) H := by
  have hall : ∀ c ∈ wns9 ++ wns10, va_at D vwCl ((alp b9 q u1 u2 u3 u4 u5 u6 s v t b10 m) c, cel ((D, (alp b9 q u1 u2 u3 u4 u5 u6 s v t b10 m), f) : Kp) st0 c) H := List.forall_mem_append.mpr ⟨start_9 (va_P_l h), ATM (va_P_r h)⟩
  intro k x hk
  unfold wld at hk
  rw [List.getElem?_map] at hk
  obtain ⟨c, hc, rfl⟩ := Option.map_eq_some_iff.mp hk
  exact hall c ((by decide +kernel : ∀ c ∈ cns, c ∈ wns9 ++ wns10) c (List.mem_of_getElem? hc))
theorem start_I {A : Nat → Prop} (h : va_D A (wA f b9 q u1 u2 u3 u4 u5 u6 s v t ++ wB f b10 m)) : Ij ((D, (alp b9 q u1 u2 u3 u4 u5 u6 s v t b10 m), f) : Kp) ∧ ∀ k ∈ cns, A ((alp b9 q u1 u2 u3 u4 u5 u6 s v t b10 m) k) := by
  have e : (wA f b9 q u1 u2 u3 u4 u5 u6 s v t ++ wB f b10 m).map Prod.fst = (wns9 ++ wns10).map (alp b9 q u1 u2 u3 u4 u5 u6 s v t b10 m) := by
    rw [List.map_append, List.map_append, F9 (b10 := b10) (m := m), FM (b9 := b9) (q := q) (u1 := u1) (u2 := u2) (u3 := u3) (u4 := u4) (u5 := u5) (u6 := u6) (s := s) (v := v) (t := t)]
  have hm : ∀ c ∈ cns, c ∈ wns9 ++ wns10 := by decide +kernel
  generalize (wA f b9 q u1 u2 u3 u4 u5 u6 s v t ++ wB f b10 m) = ws at h e
  generalize (alp b9 q u1 u2 u3 u4 u5 u6 s v t b10 m) = al at h e ⊢
  have hp : ∀ c ∈ cns, ∃ (i : Nat) (x : Nat × va_E), (wns9 ++ wns10)[i]? = some c ∧ ws[i]? = some x ∧ x.1 = al c := fun c hc => by
    obtain ⟨i, hi⟩ := List.getElem?_of_mem (hm c hc)
    have w : (ws.map Prod.fst)[i]? = some (al c) := by rw [e, List.getElem?_map, hi]; rfl
    rw [List.getElem?_map] at w
    obtain ⟨x, hx, hx2⟩ := Option.map_eq_some_iff.mp w
    exact ⟨i, x, hi, hx, hx2⟩
  refine ⟨fun i j hi hj he => ?_, fun k hk => ?_⟩
  · obtain ⟨a, x, a1, a2, a3⟩ := hp i hi
    obtain ⟨b, y, b1, b2, b3⟩ := hp j hj
    have eq : a = b := h.1 a b x y a2 b2 (a3.trans (he.trans b3.symm))
    rw [eq, b1] at a1
    exact (Option.some.inj a1).symm
  · obtain ⟨a, x, a1, a2, a3⟩ := hp k hk
    rw [← a3]
    exact h.2 a x a2
end STC

/-! CONSTRUCTORS: those without objects of their own -/
theorem wc_0 : Cond.methodLink RX5 3 Lib.objectInit ∈ lw_g := mg (mk1 (List.mem_of_getElem? (i := 38) rfl)) rfl
theorem wc_1 : Cond.instanceMethod Lib.objectInit ∈ lw_g := mg (mk1 (List.mem_of_getElem? (i := 24) rfl)) rfl
theorem wc_2 : Cond.code Lib.objectInit ⟨#[0xb1]⟩ 1 none ∈ lw_g := mg (mk1 (List.mem_of_getElem? (i := 25) rfl)) rfl
theorem wc_3 : Cond.arrayClass .int ∈ lw_g := mg (mk1 (List.mem_of_getElem? (i := 64) rfl)) rfl
theorem wc_4 : Cond.fieldLink RX5 9 RX5 "values" "[I" ∈ lw_g := mg (mk1 (List.mem_of_getElem? (i := 39) rfl)) rfl
theorem wc_5 : Cond.fieldLink RX5 15 RX5 "lines" "I" ∈ lw_g := mg (mk1 (List.mem_of_getElem? (i := 41) rfl)) rfl
theorem wc_6 : Cond.fieldLink RX5 19 RX5 "buckets" "I" ∈ lw_g := mg (mk1 (List.mem_of_getElem? (i := 49) rfl)) rfl
theorem wc_7 : Cond.fieldLink RX5 22 RX5 "stored" "I" ∈ lw_g := mg (mk1 (List.mem_of_getElem? (i := 52) rfl)) rfl
def wX5 (f : Nat → ClassId) (b : Nat) (q : (Nat → Nat)) : va_W := ([(b, .inr (5, [.ref (q 0), .int (iZ 0), .int (iZ 4), .int (iZ (-1))]))] ++ [((q 0), .inl (f 0, 48, .inl (fun _ => iZ 0)))])
set_option maxHeartbeats 4000000 in
set_option maxRecDepth 100000 in
theorem cn_X5_init (D : va_G) (f : Nat → ClassId) (l : Launch) (b : Nat) : CtN D f l (rmn 1 1 48) yX5_init cX5_init 1 [.ref b] [(b, .inr (5, [.null, .int (iZ 0), .int (iZ 0), .int (iZ 0)]))] (wX5 f b) := by
  refine CtN.of (own := RX5) (L0 := [(0, .ref b)]) (by decide +kernel) rfl (Nat.le_of_ble_eq_true rfl) rfl rfl ?_
  intro M A C hMl hmn hrt hlk
  refine n_aload_n C dX5_init_0 rfl ?_
  refine n_obj C dX5_init_1 wc_0 wc_1 wc_2 (by decide) ?_
  refine n_aload_n C dX5_init_4 rfl ?_
  refine n_bipush (z := 48) C dX5_init_5 rfl ?_
  refine n_newa (t0 := 0) (N := 48) (ty := .int) (a0 := (48, .inl (fun _ => iZ 0))) C dX5_init_7 rfl wc_3 rfl (fun _ => rfl) rfl (by decide) (Nat.le_of_ble_eq_true rfl) (Nat.le_of_ble_eq_true rfl) (Nat.le_of_ble_eq_true rfl) (fun q1 => ?_)
  refine n_putF (ci := 5) (N := 4) (T := TX5) (j := 0) (ty := (.array .int)) (fs := [.null, .int (iZ 0), .int (iZ 0), .int (iZ 0)]) (wr := ([(b, .inr (5, [.ref q1, .int (iZ 0), .int (iZ 0), .int (iZ 0)]))] ++ [(q1, .inl (f 0, 48, .inl (fun _ => iZ 0)))])) C hmn dX5_init_9 rfl rfl hinX5 (by decide) wc_4 tyX5_ok nmX5 rfl rfl (by decide +kernel) rfl rfl (Nat.le_of_ble_eq_true rfl) rfl ?_
  refine n_aload_n C dX5_init_12 rfl ?_
  refine n_pc (pc' := 13) rfl ?_
  refine n_iconst (z := 0) C dX5_init_13 rfl ?_
  refine n_put (ci := 5) (N := 4) (T := TX5) (j := 1) (ty := .int) (fs := [.ref q1, .int (iZ 0), .int (iZ 0), .int (iZ 0)]) (wr := ([(b, .inr (5, [.ref q1, .int (iZ 0), .int (iZ 0), .int (iZ 0)]))] ++ [(q1, .inl (f 0, 48, .inl (fun _ => iZ 0)))])) C dX5_init_14 rfl rfl hinX5 (by decide) wc_5 tyX5_ok nmX5 rfl (by decide +kernel) rfl rfl (Nat.le_of_ble_eq_true rfl) rfl ?_
  refine n_aload_n C dX5_init_17 rfl ?_
  refine n_iconst (z := 4) C dX5_init_18 rfl ?_
  refine n_put (ci := 5) (N := 4) (T := TX5) (j := 2) (ty := .int) (fs := [.ref q1, .int (iZ 0), .int (iZ 0), .int (iZ 0)]) (wr := ([(b, .inr (5, [.ref q1, .int (iZ 0), .int (iZ 4), .int (iZ 0)]))] ++ [(q1, .inl (f 0, 48, .inl (fun _ => iZ 0)))])) C dX5_init_19 rfl rfl hinX5 (by decide) wc_6 tyX5_ok nmX5 rfl (by decide +kernel) rfl rfl (Nat.le_of_ble_eq_true rfl) rfl ?_
  refine n_aload_n C dX5_init_22 rfl ?_
  refine n_iconst (z := (-1)) C dX5_init_23 rfl ?_
  refine n_put (ci := 5) (N := 4) (T := TX5) (j := 3) (ty := .int) (fs := [.ref q1, .int (iZ 0), .int (iZ 4), .int (iZ 0)]) (wr := ([(b, .inr (5, [.ref q1, .int (iZ 0), .int (iZ 4), .int (iZ (-1))]))] ++ [(q1, .inl (f 0, 48, .inl (fun _ => iZ 0)))])) C dX5_init_24 rfl rfl hinX5 (by decide) wc_7 tyX5_ok nmX5 rfl (by decide +kernel) rfl rfl (Nat.le_of_ble_eq_true rfl) rfl ?_
  refine n_pc (pc' := 27) rfl ?_
  exact n_ret C hrt hlk dX5_init_27 (fun j => ([q1] : List Nat).getD j 0) rfl (Nat.le_of_ble_eq_true rfl) (Nat.le_of_ble_eq_true rfl)
theorem wc_8 : Cond.methodLink RX2 3 Lib.objectInit ∈ lw_g := mg (mk2 (List.mem_of_getElem? (i := 43) rfl)) rfl
theorem wc_9 : Cond.fieldLink RX2 9 RX2 "way" "I" ∈ lw_g := mg (mk2 (List.mem_of_getElem? (i := 44) rfl)) rfl
theorem wc_10 : Cond.fieldLink RX2 15 RX2 "tables" "I" ∈ lw_g := mg (mk2 (List.mem_of_getElem? (i := 48) rfl)) rfl
theorem wc_11 : Cond.fieldLink RX2 18 RX2 "order" "I" ∈ lw_g := mg (mk2 (List.mem_of_getElem? (i := 51) rfl)) rfl
theorem wc_12 : Cond.fieldLink RX2 21 RX2 "costBits" "I" ∈ lw_g := mg (mk2 (List.mem_of_getElem? (i := 54) rfl)) rfl
theorem wc_13 : Cond.fieldLink RX2 24 RX2 "pairing" "I" ∈ lw_g := mg (mk2 (List.mem_of_getElem? (i := 57) rfl)) rfl
theorem wc_14 : Cond.fieldLink RX2 27 RX2 "placeInB" "I" ∈ lw_g := mg (mk2 (List.mem_of_getElem? (i := 60) rfl)) rfl
theorem wc_15 : Cond.fieldLink RX2 30 RX2 "size" "I" ∈ lw_g := mg (mk2 (List.mem_of_getElem? (i := 62) rfl)) rfl
def wX2 (f : Nat → ClassId) (b : Nat) (q : (Nat → Nat)) : va_W := [(b, .inr (2, [.int (iZ 0), .int (iZ 0), .int (iZ (-1)), .int (iZ 0), .int (iZ (-1)), .int (iZ (-1)), .int (iZ 1)]))]
set_option maxHeartbeats 4000000 in
set_option maxRecDepth 100000 in
theorem cn_X2_init (D : va_G) (f : Nat → ClassId) (l : Launch) (b : Nat) : CtN D f l (rmn 1 0 0) yX2_init cX2_init 1 [.ref b] [(b, .inr (2, [.int (iZ 0), .int (iZ 0), .int (iZ 0), .int (iZ 0), .int (iZ 0), .int (iZ 0), .int (iZ 0)]))] (wX2 f b) := by
  refine CtN.of (own := RX2) (L0 := [(0, .ref b)]) (by decide +kernel) rfl (Nat.le_of_ble_eq_true rfl) rfl rfl ?_
  intro M A C hMl hmn hrt hlk
  refine n_aload_n C dX2_init_0 rfl ?_
  refine n_obj C dX2_init_1 wc_8 wc_1 wc_2 (by decide) ?_
  refine n_aload_n C dX2_init_4 rfl ?_
  refine n_iconst (z := 0) C dX2_init_5 rfl ?_
  refine n_put (ci := 2) (N := 7) (T := TX2) (j := 0) (ty := .int) (fs := [.int (iZ 0), .int (iZ 0), .int (iZ 0), .int (iZ 0), .int (iZ 0), .int (iZ 0), .int (iZ 0)]) (wr := [(b, .inr (2, [.int (iZ 0), .int (iZ 0), .int (iZ 0), .int (iZ 0), .int (iZ 0), .int (iZ 0), .int (iZ 0)]))]) C dX2_init_6 rfl rfl hinX2 (by decide) wc_9 tyX2_ok nmX2 rfl (by decide +kernel) rfl rfl (Nat.le_of_ble_eq_true rfl) rfl ?_
  refine n_aload_n C dX2_init_9 rfl ?_
  refine n_iconst (z := 0) C dX2_init_10 rfl ?_
  refine n_pc (pc' := 11) rfl ?_
  refine n_put (ci := 2) (N := 7) (T := TX2) (j := 1) (ty := .int) (fs := [.int (iZ 0), .int (iZ 0), .int (iZ 0), .int (iZ 0), .int (iZ 0), .int (iZ 0), .int (iZ 0)]) (wr := [(b, .inr (2, [.int (iZ 0), .int (iZ 0), .int (iZ 0), .int (iZ 0), .int (iZ 0), .int (iZ 0), .int (iZ 0)]))]) C dX2_init_11 rfl rfl hinX2 (by decide) wc_10 tyX2_ok nmX2 rfl (by decide +kernel) rfl rfl (Nat.le_of_ble_eq_true rfl) rfl ?_
  refine n_aload_n C dX2_init_14 rfl ?_
  refine n_iconst (z := (-1)) C dX2_init_15 rfl ?_
  refine n_put (ci := 2) (N := 7) (T := TX2) (j := 2) (ty := .int) (fs := [.int (iZ 0), .int (iZ 0), .int (iZ 0), .int (iZ 0), .int (iZ 0), .int (iZ 0), .int (iZ 0)]) (wr := [(b, .inr (2, [.int (iZ 0), .int (iZ 0), .int (iZ (-1)), .int (iZ 0), .int (iZ 0), .int (iZ 0), .int (iZ 0)]))]) C dX2_init_16 rfl rfl hinX2 (by decide) wc_11 tyX2_ok nmX2 rfl (by decide +kernel) rfl rfl (Nat.le_of_ble_eq_true rfl) rfl ?_
  refine n_aload_n C dX2_init_19 rfl ?_
  refine n_iconst (z := 0) C dX2_init_20 rfl ?_
  refine n_put (ci := 2) (N := 7) (T := TX2) (j := 3) (ty := .int) (fs := [.int (iZ 0), .int (iZ 0), .int (iZ (-1)), .int (iZ 0), .int (iZ 0), .int (iZ 0), .int (iZ 0)]) (wr := [(b, .inr (2, [.int (iZ 0), .int (iZ 0), .int (iZ (-1)), .int (iZ 0), .int (iZ 0), .int (iZ 0), .int (iZ 0)]))]) C dX2_init_21 rfl rfl hinX2 (by decide) wc_12 tyX2_ok nmX2 rfl (by decide +kernel) rfl rfl (Nat.le_of_ble_eq_true rfl) rfl ?_
  refine n_aload_n C dX2_init_24 rfl ?_
  refine n_pc (pc' := 25) rfl ?_
  refine n_iconst (z := (-1)) C dX2_init_25 rfl ?_
  refine n_put (ci := 2) (N := 7) (T := TX2) (j := 4) (ty := .int) (fs := [.int (iZ 0), .int (iZ 0), .int (iZ (-1)), .int (iZ 0), .int (iZ 0), .int (iZ 0), .int (iZ 0)]) (wr := [(b, .inr (2, [.int (iZ 0), .int (iZ 0), .int (iZ (-1)), .int (iZ 0), .int (iZ (-1)), .int (iZ 0), .int (iZ 0)]))]) C dX2_init_26 rfl rfl hinX2 (by decide) wc_13 tyX2_ok nmX2 rfl (by decide +kernel) rfl rfl (Nat.le_of_ble_eq_true rfl) rfl ?_
  refine n_aload_n C dX2_init_29 rfl ?_
  refine n_iconst (z := (-1)) C dX2_init_30 rfl ?_
  refine n_put (ci := 2) (N := 7) (T := TX2) (j := 5) (ty := .int) (fs := [.int (iZ 0), .int (iZ 0), .int (iZ (-1)), .int (iZ 0), .int (iZ (-1)), .int (iZ 0), .int (iZ 0)]) (wr := [(b, .inr (2, [.int (iZ 0), .int (iZ 0), .int (iZ (-1)), .int (iZ 0), .int (iZ (-1)), .int (iZ (-1)), .int (iZ 0)]))]) C dX2_init_31 rfl rfl hinX2 (by decide) wc_14 tyX2_ok nmX2 rfl (by decide +kernel) rfl rfl (Nat.le_of_ble_eq_true rfl) rfl ?_
  refine n_aload_n C dX2_init_34 rfl ?_
  refine n_iconst (z := 1) C dX2_init_35 rfl ?_
  refine n_put (ci := 2) (N := 7) (T := TX2) (j := 6) (ty := .int) (fs := [.int (iZ 0), .int (iZ 0), .int (iZ (-1)), .int (iZ 0), .int (iZ (-1)), .int (iZ (-1)), .int (iZ 0)]) (wr := [(b, .inr (2, [.int (iZ 0), .int (iZ 0), .int (iZ (-1)), .int (iZ 0), .int (iZ (-1)), .int (iZ (-1)), .int (iZ 1)]))]) C dX2_init_36 rfl rfl hinX2 (by decide) wc_15 tyX2_ok nmX2 rfl (by decide +kernel) rfl rfl (Nat.le_of_ble_eq_true rfl) rfl ?_
  refine n_pc (pc' := 39) rfl ?_
  exact n_ret C hrt hlk dX2_init_39 (fun j => ([] : List Nat).getD j 0) rfl (Nat.le_of_ble_eq_true rfl) (Nat.le_of_ble_eq_true rfl)
theorem wc_16 : Cond.methodLink RX0 3 Lib.objectInit ∈ lw_g := mg (mk1 (List.mem_of_getElem? (i := 134) rfl)) rfl
theorem wc_17 : Cond.fieldLink RX0 9 RX0 "sorted" "[I" ∈ lw_g := mg (mk1 (List.mem_of_getElem? (i := 135) rfl)) rfl
theorem wc_18 : Cond.fieldLink RX0 15 RX0 "n" "I" ∈ lw_g := mg (mk1 (List.mem_of_getElem? (i := 136) rfl)) rfl
theorem wc_19 : Cond.fieldLink RX0 19 RX0 "low" "[I" ∈ lw_g := mg (mk1 (List.mem_of_getElem? (i := 137) rfl)) rfl
theorem wc_20 : Cond.fieldLink RX0 22 RX0 "high" "[I" ∈ lw_g := mg (mk1 (List.mem_of_getElem? (i := 139) rfl)) rfl
theorem wc_21 : Cond.fieldLink RX0 25 RX0 "size" "[I" ∈ lw_g := mg (mk1 (List.mem_of_getElem? (i := 141) rfl)) rfl
theorem wc_22 : Cond.fieldLink RX0 28 RX0 "distinct" "[I" ∈ lw_g := mg (mk1 (List.mem_of_getElem? (i := 143) rfl)) rfl
theorem wc_23 : Cond.fieldLink RX0 31 RX0 "buckets" "I" ∈ lw_g := mg (mk1 (List.mem_of_getElem? (i := 145) rfl)) rfl
def wX0 (f : Nat → ClassId) (b : Nat) (q : (Nat → Nat)) : va_W := ((((([(b, .inr (0, [.ref (q 0), .int (iZ 0), .ref (q 1), .ref (q 2), .ref (q 3), .ref (q 4), .int (iZ 0)]))] ++ [((q 0), .inl (f 0, 16, .inl (fun _ => iZ 0)))]) ++ [((q 1), .inl (f 0, 8, .inl (fun _ => iZ 0)))]) ++ [((q 2), .inl (f 0, 8, .inl (fun _ => iZ 0)))]) ++ [((q 3), .inl (f 0, 8, .inl (fun _ => iZ 0)))]) ++ [((q 4), .inl (f 0, 8, .inl (fun _ => iZ 0)))])
set_option maxHeartbeats 4000000 in
set_option maxRecDepth 100000 in
theorem cn_X0_init (D : va_G) (f : Nat → ClassId) (l : Launch) (b : Nat) : CtN D f l (rmn 1 5 48) yX0_init cX0_init 1 [.ref b] [(b, .inr (0, [.null, .int (iZ 0), .null, .null, .null, .null, .int (iZ 0)]))] (wX0 f b) := by
  refine CtN.of (own := RX0) (L0 := [(0, .ref b)]) (by decide +kernel) rfl (Nat.le_of_ble_eq_true rfl) rfl rfl ?_
  intro M A C hMl hmn hrt hlk
  refine n_aload_n C dX0_init_0 rfl ?_
  refine n_obj C dX0_init_1 wc_16 wc_1 wc_2 (by decide) ?_
  refine n_aload_n C dX0_init_4 rfl ?_
  refine n_bipush (z := 16) C dX0_init_5 rfl ?_
  refine n_newa (t0 := 0) (N := 16) (ty := .int) (a0 := (16, .inl (fun _ => iZ 0))) C dX0_init_7 rfl wc_3 rfl (fun _ => rfl) rfl (by decide) (Nat.le_of_ble_eq_true rfl) (Nat.le_of_ble_eq_true rfl) (Nat.le_of_ble_eq_true rfl) (fun q1 => ?_)
  refine n_putF (ci := 0) (N := 7) (T := TX0) (j := 0) (ty := (.array .int)) (fs := [.null, .int (iZ 0), .null, .null, .null, .null, .int (iZ 0)]) (wr := ([(b, .inr (0, [.ref q1, .int (iZ 0), .null, .null, .null, .null, .int (iZ 0)]))] ++ [(q1, .inl (f 0, 16, .inl (fun _ => iZ 0)))])) C hmn dX0_init_9 rfl rfl hinX0 (by decide) wc_17 tyX0_ok nmX0 rfl rfl (by decide +kernel) rfl rfl (Nat.le_of_ble_eq_true rfl) rfl ?_
  refine n_aload_n C dX0_init_12 rfl ?_
  refine n_pc (pc' := 13) rfl ?_
  refine n_iconst (z := 0) C dX0_init_13 rfl ?_
  refine n_put (ci := 0) (N := 7) (T := TX0) (j := 1) (ty := .int) (fs := [.ref q1, .int (iZ 0), .null, .null, .null, .null, .int (iZ 0)]) (wr := ([(b, .inr (0, [.ref q1, .int (iZ 0), .null, .null, .null, .null, .int (iZ 0)]))] ++ [(q1, .inl (f 0, 16, .inl (fun _ => iZ 0)))])) C dX0_init_14 rfl rfl hinX0 (by decide) wc_18 tyX0_ok nmX0 rfl (by decide +kernel) rfl rfl (Nat.le_of_ble_eq_true rfl) rfl ?_
  refine n_aload_n C dX0_init_17 rfl ?_
  refine n_bipush (z := 8) C dX0_init_18 rfl ?_
  refine n_newa (t0 := 0) (N := 8) (ty := .int) (a0 := (8, .inl (fun _ => iZ 0))) C dX0_init_20 rfl wc_3 rfl (fun _ => rfl) rfl (by decide) (Nat.le_of_ble_eq_true rfl) (Nat.le_of_ble_eq_true rfl) (Nat.le_of_ble_eq_true rfl) (fun q2 => ?_)
  refine n_putF (ci := 0) (N := 7) (T := TX0) (j := 2) (ty := (.array .int)) (fs := [.ref q1, .int (iZ 0), .null, .null, .null, .null, .int (iZ 0)]) (wr := (([(b, .inr (0, [.ref q1, .int (iZ 0), .ref q2, .null, .null, .null, .int (iZ 0)]))] ++ [(q1, .inl (f 0, 16, .inl (fun _ => iZ 0)))]) ++ [(q2, .inl (f 0, 8, .inl (fun _ => iZ 0)))])) C hmn dX0_init_22 rfl rfl hinX0 (by decide) wc_19 tyX0_ok nmX0 rfl rfl (by decide +kernel) rfl rfl (Nat.le_of_ble_eq_true rfl) rfl ?_
  refine n_aload_n C dX0_init_25 rfl ?_
  refine n_bipush (z := 8) C dX0_init_26 rfl ?_
  refine n_pc (pc' := 28) rfl ?_
  refine n_newa (t0 := 0) (N := 8) (ty := .int) (a0 := (8, .inl (fun _ => iZ 0))) C dX0_init_28 rfl wc_3 rfl (fun _ => rfl) rfl (by decide) (Nat.le_of_ble_eq_true rfl) (Nat.le_of_ble_eq_true rfl) (Nat.le_of_ble_eq_true rfl) (fun q3 => ?_)
  refine n_putF (ci := 0) (N := 7) (T := TX0) (j := 3) (ty := (.array .int)) (fs := [.ref q1, .int (iZ 0), .ref q2, .null, .null, .null, .int (iZ 0)]) (wr := ((([(b, .inr (0, [.ref q1, .int (iZ 0), .ref q2, .ref q3, .null, .null, .int (iZ 0)]))] ++ [(q1, .inl (f 0, 16, .inl (fun _ => iZ 0)))]) ++ [(q2, .inl (f 0, 8, .inl (fun _ => iZ 0)))]) ++ [(q3, .inl (f 0, 8, .inl (fun _ => iZ 0)))])) C hmn dX0_init_30 rfl rfl hinX0 (by decide) wc_20 tyX0_ok nmX0 rfl rfl (by decide +kernel) rfl rfl (Nat.le_of_ble_eq_true rfl) rfl ?_
  refine n_aload_n C dX0_init_33 rfl ?_
  refine n_bipush (z := 8) C dX0_init_34 rfl ?_
  refine n_newa (t0 := 0) (N := 8) (ty := .int) (a0 := (8, .inl (fun _ => iZ 0))) C dX0_init_36 rfl wc_3 rfl (fun _ => rfl) rfl (by decide) (Nat.le_of_ble_eq_true rfl) (Nat.le_of_ble_eq_true rfl) (Nat.le_of_ble_eq_true rfl) (fun q4 => ?_)
  refine n_putF (ci := 0) (N := 7) (T := TX0) (j := 4) (ty := (.array .int)) (fs := [.ref q1, .int (iZ 0), .ref q2, .ref q3, .null, .null, .int (iZ 0)]) (wr := (((([(b, .inr (0, [.ref q1, .int (iZ 0), .ref q2, .ref q3, .ref q4, .null, .int (iZ 0)]))] ++ [(q1, .inl (f 0, 16, .inl (fun _ => iZ 0)))]) ++ [(q2, .inl (f 0, 8, .inl (fun _ => iZ 0)))]) ++ [(q3, .inl (f 0, 8, .inl (fun _ => iZ 0)))]) ++ [(q4, .inl (f 0, 8, .inl (fun _ => iZ 0)))])) C hmn dX0_init_38 rfl rfl hinX0 (by decide) wc_21 tyX0_ok nmX0 rfl rfl (by decide +kernel) rfl rfl (Nat.le_of_ble_eq_true rfl) rfl ?_
  refine n_aload_n C dX0_init_41 rfl ?_
  refine n_bipush (z := 8) C dX0_init_42 rfl ?_
  refine n_pc (pc' := 44) rfl ?_
  refine n_newa (t0 := 0) (N := 8) (ty := .int) (a0 := (8, .inl (fun _ => iZ 0))) C dX0_init_44 rfl wc_3 rfl (fun _ => rfl) rfl (by decide) (Nat.le_of_ble_eq_true rfl) (Nat.le_of_ble_eq_true rfl) (Nat.le_of_ble_eq_true rfl) (fun q5 => ?_)
  refine n_putF (ci := 0) (N := 7) (T := TX0) (j := 5) (ty := (.array .int)) (fs := [.ref q1, .int (iZ 0), .ref q2, .ref q3, .ref q4, .null, .int (iZ 0)]) (wr := ((((([(b, .inr (0, [.ref q1, .int (iZ 0), .ref q2, .ref q3, .ref q4, .ref q5, .int (iZ 0)]))] ++ [(q1, .inl (f 0, 16, .inl (fun _ => iZ 0)))]) ++ [(q2, .inl (f 0, 8, .inl (fun _ => iZ 0)))]) ++ [(q3, .inl (f 0, 8, .inl (fun _ => iZ 0)))]) ++ [(q4, .inl (f 0, 8, .inl (fun _ => iZ 0)))]) ++ [(q5, .inl (f 0, 8, .inl (fun _ => iZ 0)))])) C hmn dX0_init_46 rfl rfl hinX0 (by decide) wc_22 tyX0_ok nmX0 rfl rfl (by decide +kernel) rfl rfl (Nat.le_of_ble_eq_true rfl) rfl ?_
  refine n_aload_n C dX0_init_49 rfl ?_
  refine n_iconst (z := 0) C dX0_init_50 rfl ?_
  refine n_put (ci := 0) (N := 7) (T := TX0) (j := 6) (ty := .int) (fs := [.ref q1, .int (iZ 0), .ref q2, .ref q3, .ref q4, .ref q5, .int (iZ 0)]) (wr := ((((([(b, .inr (0, [.ref q1, .int (iZ 0), .ref q2, .ref q3, .ref q4, .ref q5, .int (iZ 0)]))] ++ [(q1, .inl (f 0, 16, .inl (fun _ => iZ 0)))]) ++ [(q2, .inl (f 0, 8, .inl (fun _ => iZ 0)))]) ++ [(q3, .inl (f 0, 8, .inl (fun _ => iZ 0)))]) ++ [(q4, .inl (f 0, 8, .inl (fun _ => iZ 0)))]) ++ [(q5, .inl (f 0, 8, .inl (fun _ => iZ 0)))])) C dX0_init_51 rfl rfl hinX0 (by decide) wc_23 tyX0_ok nmX0 rfl (by decide +kernel) rfl rfl (Nat.le_of_ble_eq_true rfl) rfl ?_
  exact n_ret C hrt hlk dX0_init_54 (fun j => ([q1, q2, q3, q4, q5] : List Nat).getD j 0) rfl (Nat.le_of_ble_eq_true rfl) (Nat.le_of_ble_eq_true rfl)
theorem wc_24 : Cond.methodLink RX6 3 Lib.objectInit ∈ lw_g := mg (mk2 (List.mem_of_getElem? (i := 5) rfl)) rfl
theorem wc_25 : Cond.fieldLink RX6 9 RX6 "pending" "[I" ∈ lw_g := mg (mk2 (List.mem_of_getElem? (i := 7) rfl)) rfl
theorem wc_26 : Cond.fieldLink RX6 15 RX6 "state" "I" ∈ lw_g := mg (mk2 (List.mem_of_getElem? (i := 8) rfl)) rfl
theorem wc_27 : Cond.fieldLink RX6 19 RX6 "table" "I" ∈ lw_g := mg (mk2 (List.mem_of_getElem? (i := 9) rfl)) rfl
theorem wc_28 : Cond.fieldLink RX6 22 RX6 "column" "I" ∈ lw_g := mg (mk2 (List.mem_of_getElem? (i := 10) rfl)) rfl
theorem wc_29 : Cond.fieldLink RX6 25 RX6 "number" "I" ∈ lw_g := mg (mk2 (List.mem_of_getElem? (i := 11) rfl)) rfl
theorem wc_30 : Cond.fieldLink RX6 28 RX6 "items" "I" ∈ lw_g := mg (mk2 (List.mem_of_getElem? (i := 12) rfl)) rfl
theorem wc_31 : Cond.fieldLink RX6 31 RX6 "world" "LHistogramPlans$World;" ∈ lw_g := mg (mk2 (List.mem_of_getElem? (i := 6) rfl)) rfl
def wX6 (f : Nat → ClassId) (b : Nat) (a1 : Nat) (q : (Nat → Nat)) : va_W := ([(b, .inr (6, [.ref a1, .ref (q 0), .int (iZ 0), .int (iZ 0), .int (iZ 0), .int (iZ 0), .int (iZ 0)]))] ++ [((q 0), .inl (f 0, 5, .inl (fun _ => iZ 0)))])
set_option maxHeartbeats 4000000 in
set_option maxRecDepth 100000 in
theorem cn_X6_init (D : va_G) (f : Nat → ClassId) (l : Launch) (b : Nat) (a1 : Nat) : CtN D f l (rmn 1 1 5) yX6_init cX6_init 2 [.ref b, .ref a1] [(b, .inr (6, [.null, .null, .int (iZ 0), .int (iZ 0), .int (iZ 0), .int (iZ 0), .int (iZ 0)]))] (wX6 f b a1) := by
  refine CtN.of (own := RX6) (L0 := [(0, .ref b), (1, .ref a1)]) (by decide +kernel) rfl (Nat.le_of_ble_eq_true rfl) rfl rfl ?_
  intro M A C hMl hmn hrt hlk
  refine n_aload_n C dX6_init_0 rfl ?_
  refine n_obj C dX6_init_1 wc_24 wc_1 wc_2 (by decide) ?_
  refine n_aload_n C dX6_init_4 rfl ?_
  refine n_iconst (z := 5) C dX6_init_5 rfl ?_
  refine n_newa (t0 := 0) (N := 5) (ty := .int) (a0 := (5, .inl (fun _ => iZ 0))) C dX6_init_6 rfl wc_3 rfl (fun _ => rfl) rfl (by decide) (Nat.le_of_ble_eq_true rfl) (Nat.le_of_ble_eq_true rfl) (Nat.le_of_ble_eq_true rfl) (fun q1 => ?_)
  refine n_putF (ci := 6) (N := 7) (T := TX6) (j := 1) (ty := (.array .int)) (fs := [.null, .null, .int (iZ 0), .int (iZ 0), .int (iZ 0), .int (iZ 0), .int (iZ 0)]) (wr := ([(b, .inr (6, [.null, .ref q1, .int (iZ 0), .int (iZ 0), .int (iZ 0), .int (iZ 0), .int (iZ 0)]))] ++ [(q1, .inl (f 0, 5, .inl (fun _ => iZ 0)))])) C hmn dX6_init_8 rfl rfl hinX6 (by decide) wc_25 tyX6_ok nmX6 rfl rfl (by decide +kernel) rfl rfl (Nat.le_of_ble_eq_true rfl) rfl ?_
  refine n_aload_n C dX6_init_11 rfl ?_
  refine n_pc (pc' := 12) rfl ?_
  refine n_iconst (z := 0) C dX6_init_12 rfl ?_
  refine n_put (ci := 6) (N := 7) (T := TX6) (j := 2) (ty := .int) (fs := [.null, .ref q1, .int (iZ 0), .int (iZ 0), .int (iZ 0), .int (iZ 0), .int (iZ 0)]) (wr := ([(b, .inr (6, [.null, .ref q1, .int (iZ 0), .int (iZ 0), .int (iZ 0), .int (iZ 0), .int (iZ 0)]))] ++ [(q1, .inl (f 0, 5, .inl (fun _ => iZ 0)))])) C dX6_init_13 rfl rfl hinX6 (by decide) wc_26 tyX6_ok nmX6 rfl (by decide +kernel) rfl rfl (Nat.le_of_ble_eq_true rfl) rfl ?_
  refine n_aload_n C dX6_init_16 rfl ?_
  refine n_iconst (z := 0) C dX6_init_17 rfl ?_
  refine n_put (ci := 6) (N := 7) (T := TX6) (j := 3) (ty := .int) (fs := [.null, .ref q1, .int (iZ 0), .int (iZ 0), .int (iZ 0), .int (iZ 0), .int (iZ 0)]) (wr := ([(b, .inr (6, [.null, .ref q1, .int (iZ 0), .int (iZ 0), .int (iZ 0), .int (iZ 0), .int (iZ 0)]))] ++ [(q1, .inl (f 0, 5, .inl (fun _ => iZ 0)))])) C dX6_init_18 rfl rfl hinX6 (by decide) wc_27 tyX6_ok nmX6 rfl (by decide +kernel) rfl rfl (Nat.le_of_ble_eq_true rfl) rfl ?_
  refine n_aload_n C dX6_init_21 rfl ?_
  refine n_iconst (z := 0) C dX6_init_22 rfl ?_
  refine n_put (ci := 6) (N := 7) (T := TX6) (j := 4) (ty := .int) (fs := [.null, .ref q1, .int (iZ 0), .int (iZ 0), .int (iZ 0), .int (iZ 0), .int (iZ 0)]) (wr := ([(b, .inr (6, [.null, .ref q1, .int (iZ 0), .int (iZ 0), .int (iZ 0), .int (iZ 0), .int (iZ 0)]))] ++ [(q1, .inl (f 0, 5, .inl (fun _ => iZ 0)))])) C dX6_init_23 rfl rfl hinX6 (by decide) wc_28 tyX6_ok nmX6 rfl (by decide +kernel) rfl rfl (Nat.le_of_ble_eq_true rfl) rfl ?_
  refine n_pc (pc' := 26) rfl ?_
  refine n_aload_n C dX6_init_26 rfl ?_
  refine n_iconst (z := 0) C dX6_init_27 rfl ?_
  refine n_put (ci := 6) (N := 7) (T := TX6) (j := 5) (ty := .int) (fs := [.null, .ref q1, .int (iZ 0), .int (iZ 0), .int (iZ 0), .int (iZ 0), .int (iZ 0)]) (wr := ([(b, .inr (6, [.null, .ref q1, .int (iZ 0), .int (iZ 0), .int (iZ 0), .int (iZ 0), .int (iZ 0)]))] ++ [(q1, .inl (f 0, 5, .inl (fun _ => iZ 0)))])) C dX6_init_28 rfl rfl hinX6 (by decide) wc_29 tyX6_ok nmX6 rfl (by decide +kernel) rfl rfl (Nat.le_of_ble_eq_true rfl) rfl ?_
  refine n_aload_n C dX6_init_31 rfl ?_
  refine n_iconst (z := 0) C dX6_init_32 rfl ?_
  refine n_put (ci := 6) (N := 7) (T := TX6) (j := 6) (ty := .int) (fs := [.null, .ref q1, .int (iZ 0), .int (iZ 0), .int (iZ 0), .int (iZ 0), .int (iZ 0)]) (wr := ([(b, .inr (6, [.null, .ref q1, .int (iZ 0), .int (iZ 0), .int (iZ 0), .int (iZ 0), .int (iZ 0)]))] ++ [(q1, .inl (f 0, 5, .inl (fun _ => iZ 0)))])) C dX6_init_33 rfl rfl hinX6 (by decide) wc_30 tyX6_ok nmX6 rfl (by decide +kernel) rfl rfl (Nat.le_of_ble_eq_true rfl) rfl ?_
  refine n_aload_n C dX6_init_36 rfl ?_
  refine n_aload_n C dX6_init_37 rfl ?_
  refine n_pc (pc' := 38) rfl ?_
  refine n_putF (ci := 6) (N := 7) (T := TX6) (j := 0) (ty := (.object "HistogramPlans$World")) (fs := [.null, .ref q1, .int (iZ 0), .int (iZ 0), .int (iZ 0), .int (iZ 0), .int (iZ 0)]) (wr := ([(b, .inr (6, [.ref a1, .ref q1, .int (iZ 0), .int (iZ 0), .int (iZ 0), .int (iZ 0), .int (iZ 0)]))] ++ [(q1, .inl (f 0, 5, .inl (fun _ => iZ 0)))])) C hmn dX6_init_38 rfl rfl hinX6 (by decide) wc_31 tyX6_ok nmX6 rfl rfl (by decide +kernel) rfl rfl (Nat.le_of_ble_eq_true rfl) rfl ?_
  exact n_ret C hrt hlk dX6_init_41 (fun j => ([q1] : List Nat).getD j 0) rfl (Nat.le_of_ble_eq_true rfl) (Nat.le_of_ble_eq_true rfl)
theorem wc_32 : Cond.methodLink RX1 3 Lib.objectInit ∈ lw_g := mg (mk1 (List.mem_of_getElem? (i := 220) rfl)) rfl
theorem wc_33 : Cond.fieldLink RX1 9 RX1 "members" "[I" ∈ lw_g := mg (mk1 (List.mem_of_getElem? (i := 222) rfl)) rfl
theorem wc_34 : Cond.fieldLink RX1 15 RX1 "count" "I" ∈ lw_g := mg (mk1 (List.mem_of_getElem? (i := 223) rfl)) rfl
theorem wc_35 : Cond.fieldLink RX1 19 RX1 "fits" "[I" ∈ lw_g := mg (mk1 (List.mem_of_getElem? (i := 224) rfl)) rfl
theorem wc_36 : Cond.fieldLink RX1 22 RX1 "partners" "[I" ∈ lw_g := mg (mk1 (List.mem_of_getElem? (i := 225) rfl)) rfl
theorem wc_37 : Cond.fieldLink RX1 25 RX1 "rowsBy" "[I" ∈ lw_g := mg (mk1 (List.mem_of_getElem? (i := 226) rfl)) rfl
theorem wc_38 : Cond.fieldLink RX1 28 RX1 "world" "LHistogramPlans$World;" ∈ lw_g := mg (mk1 (List.mem_of_getElem? (i := 221) rfl)) rfl
def wX1 (f : Nat → ClassId) (b : Nat) (a1 : Nat) (q : (Nat → Nat)) : va_W := (((([(b, .inr (1, [.ref a1, .ref (q 0), .int (iZ 0), .ref (q 1), .ref (q 2), .ref (q 3)]))] ++ [((q 0), .inl (f 0, 5, .inl (fun _ => iZ 0)))]) ++ [((q 1), .inl (f 0, 25, .inl (fun _ => iZ 0)))]) ++ [((q 2), .inl (f 0, 400, .inl (fun _ => iZ 0)))]) ++ [((q 3), .inl (f 0, 16, .inl (fun _ => iZ 0)))])
set_option maxHeartbeats 4000000 in
set_option maxRecDepth 100000 in
theorem cn_X1_init (D : va_G) (f : Nat → ClassId) (l : Launch) (b : Nat) (a1 : Nat) : CtN D f l (rmn 1 4 446) yX1_init cX1_init 2 [.ref b, .ref a1] [(b, .inr (1, [.null, .null, .int (iZ 0), .null, .null, .null]))] (wX1 f b a1) := by
  refine CtN.of (own := RX1) (L0 := [(0, .ref b), (1, .ref a1)]) (by decide +kernel) rfl (Nat.le_of_ble_eq_true rfl) rfl rfl ?_
  intro M A C hMl hmn hrt hlk
  refine n_aload_n C dX1_init_0 rfl ?_
  refine n_obj C dX1_init_1 wc_32 wc_1 wc_2 (by decide) ?_
  refine n_aload_n C dX1_init_4 rfl ?_
  refine n_iconst (z := 5) C dX1_init_5 rfl ?_
  refine n_newa (t0 := 0) (N := 5) (ty := .int) (a0 := (5, .inl (fun _ => iZ 0))) C dX1_init_6 rfl wc_3 rfl (fun _ => rfl) rfl (by decide) (Nat.le_of_ble_eq_true rfl) (Nat.le_of_ble_eq_true rfl) (Nat.le_of_ble_eq_true rfl) (fun q1 => ?_)
  refine n_putF (ci := 1) (N := 6) (T := TX1) (j := 1) (ty := (.array .int)) (fs := [.null, .null, .int (iZ 0), .null, .null, .null]) (wr := ([(b, .inr (1, [.null, .ref q1, .int (iZ 0), .null, .null, .null]))] ++ [(q1, .inl (f 0, 5, .inl (fun _ => iZ 0)))])) C hmn dX1_init_8 rfl rfl hinX1 (by decide) wc_33 tyX1_ok nmX1 rfl rfl (by decide +kernel) rfl rfl (Nat.le_of_ble_eq_true rfl) rfl ?_
  refine n_aload_n C dX1_init_11 rfl ?_
  refine n_pc (pc' := 12) rfl ?_
  refine n_iconst (z := 0) C dX1_init_12 rfl ?_
  refine n_put (ci := 1) (N := 6) (T := TX1) (j := 2) (ty := .int) (fs := [.null, .ref q1, .int (iZ 0), .null, .null, .null]) (wr := ([(b, .inr (1, [.null, .ref q1, .int (iZ 0), .null, .null, .null]))] ++ [(q1, .inl (f 0, 5, .inl (fun _ => iZ 0)))])) C dX1_init_13 rfl rfl hinX1 (by decide) wc_34 tyX1_ok nmX1 rfl (by decide +kernel) rfl rfl (Nat.le_of_ble_eq_true rfl) rfl ?_
  refine n_aload_n C dX1_init_16 rfl ?_
  refine n_bipush (z := 25) C dX1_init_17 rfl ?_
  refine n_newa (t0 := 0) (N := 25) (ty := .int) (a0 := (25, .inl (fun _ => iZ 0))) C dX1_init_19 rfl wc_3 rfl (fun _ => rfl) rfl (by decide) (Nat.le_of_ble_eq_true rfl) (Nat.le_of_ble_eq_true rfl) (Nat.le_of_ble_eq_true rfl) (fun q2 => ?_)
  refine n_putF (ci := 1) (N := 6) (T := TX1) (j := 3) (ty := (.array .int)) (fs := [.null, .ref q1, .int (iZ 0), .null, .null, .null]) (wr := (([(b, .inr (1, [.null, .ref q1, .int (iZ 0), .ref q2, .null, .null]))] ++ [(q1, .inl (f 0, 5, .inl (fun _ => iZ 0)))]) ++ [(q2, .inl (f 0, 25, .inl (fun _ => iZ 0)))])) C hmn dX1_init_21 rfl rfl hinX1 (by decide) wc_35 tyX1_ok nmX1 rfl rfl (by decide +kernel) rfl rfl (Nat.le_of_ble_eq_true rfl) rfl ?_
  refine n_aload_n C dX1_init_24 rfl ?_
  refine n_sipush (z := 400) C dX1_init_25 rfl ?_
  refine n_pc (pc' := 28) rfl ?_
  refine n_newa (t0 := 0) (N := 400) (ty := .int) (a0 := (400, .inl (fun _ => iZ 0))) C dX1_init_28 rfl wc_3 rfl (fun _ => rfl) rfl (by decide) (Nat.le_of_ble_eq_true rfl) (Nat.le_of_ble_eq_true rfl) (Nat.le_of_ble_eq_true rfl) (fun q3 => ?_)
  refine n_putF (ci := 1) (N := 6) (T := TX1) (j := 4) (ty := (.array .int)) (fs := [.null, .ref q1, .int (iZ 0), .ref q2, .null, .null]) (wr := ((([(b, .inr (1, [.null, .ref q1, .int (iZ 0), .ref q2, .ref q3, .null]))] ++ [(q1, .inl (f 0, 5, .inl (fun _ => iZ 0)))]) ++ [(q2, .inl (f 0, 25, .inl (fun _ => iZ 0)))]) ++ [(q3, .inl (f 0, 400, .inl (fun _ => iZ 0)))])) C hmn dX1_init_30 rfl rfl hinX1 (by decide) wc_36 tyX1_ok nmX1 rfl rfl (by decide +kernel) rfl rfl (Nat.le_of_ble_eq_true rfl) rfl ?_
  refine n_aload_n C dX1_init_33 rfl ?_
  refine n_bipush (z := 16) C dX1_init_34 rfl ?_
  refine n_newa (t0 := 0) (N := 16) (ty := .int) (a0 := (16, .inl (fun _ => iZ 0))) C dX1_init_36 rfl wc_3 rfl (fun _ => rfl) rfl (by decide) (Nat.le_of_ble_eq_true rfl) (Nat.le_of_ble_eq_true rfl) (Nat.le_of_ble_eq_true rfl) (fun q4 => ?_)
  refine n_putF (ci := 1) (N := 6) (T := TX1) (j := 5) (ty := (.array .int)) (fs := [.null, .ref q1, .int (iZ 0), .ref q2, .ref q3, .null]) (wr := (((([(b, .inr (1, [.null, .ref q1, .int (iZ 0), .ref q2, .ref q3, .ref q4]))] ++ [(q1, .inl (f 0, 5, .inl (fun _ => iZ 0)))]) ++ [(q2, .inl (f 0, 25, .inl (fun _ => iZ 0)))]) ++ [(q3, .inl (f 0, 400, .inl (fun _ => iZ 0)))]) ++ [(q4, .inl (f 0, 16, .inl (fun _ => iZ 0)))])) C hmn dX1_init_38 rfl rfl hinX1 (by decide) wc_37 tyX1_ok nmX1 rfl rfl (by decide +kernel) rfl rfl (Nat.le_of_ble_eq_true rfl) rfl ?_
  refine n_aload_n C dX1_init_41 rfl ?_
  refine n_aload_n C dX1_init_42 rfl ?_
  refine n_pc (pc' := 43) rfl ?_
  refine n_putF (ci := 1) (N := 6) (T := TX1) (j := 0) (ty := (.object "HistogramPlans$World")) (fs := [.null, .ref q1, .int (iZ 0), .ref q2, .ref q3, .ref q4]) (wr := (((([(b, .inr (1, [.ref a1, .ref q1, .int (iZ 0), .ref q2, .ref q3, .ref q4]))] ++ [(q1, .inl (f 0, 5, .inl (fun _ => iZ 0)))]) ++ [(q2, .inl (f 0, 25, .inl (fun _ => iZ 0)))]) ++ [(q3, .inl (f 0, 400, .inl (fun _ => iZ 0)))]) ++ [(q4, .inl (f 0, 16, .inl (fun _ => iZ 0)))])) C hmn dX1_init_43 rfl rfl hinX1 (by decide) wc_38 tyX1_ok nmX1 rfl rfl (by decide +kernel) rfl rfl (Nat.le_of_ble_eq_true rfl) rfl ?_
  exact n_ret C hrt hlk dX1_init_46 (fun j => ([q1, q2, q3, q4] : List Nat).getD j 0) rfl (Nat.le_of_ble_eq_true rfl) (Nat.le_of_ble_eq_true rfl)
theorem wc_39 : Cond.methodLink RX3 3 Lib.objectInit ∈ lw_g := mg (mk1 (List.mem_of_getElem? (i := 181) rfl)) rfl
theorem wc_40 : Cond.arrayClass .float ∈ lw_g := mg (mk1 (List.mem_of_getElem? (i := 175) rfl)) rfl
theorem wc_41 : Cond.fieldLink RX3 9 RX3 "thought" "[F" ∈ lw_g := mg (mk1 (List.mem_of_getElem? (i := 184) rfl)) rfl
theorem wc_42 : Cond.fieldLink RX3 15 RX3 "way" "[I" ∈ lw_g := mg (mk1 (List.mem_of_getElem? (i := 185) rfl)) rfl
theorem wc_43 : Cond.fieldLink RX3 19 RX3 "best" "[F" ∈ lw_g := mg (mk1 (List.mem_of_getElem? (i := 187) rfl)) rfl
theorem wc_44 : Cond.fieldLink RX3 22 RX3 "leftCell" "[I" ∈ lw_g := mg (mk1 (List.mem_of_getElem? (i := 189) rfl)) rfl
theorem wc_45 : Cond.fieldLink RX3 25 RX3 "rightCell" "[I" ∈ lw_g := mg (mk1 (List.mem_of_getElem? (i := 190) rfl)) rfl
theorem wc_46 : Cond.fieldLink RX3 28 RX3 "pairing" "[I" ∈ lw_g := mg (mk1 (List.mem_of_getElem? (i := 191) rfl)) rfl
theorem wc_47 : Cond.fieldLink RX3 31 RX3 "size" "[I" ∈ lw_g := mg (mk1 (List.mem_of_getElem? (i := 192) rfl)) rfl
theorem wc_48 : Cond.fieldLink RX3 34 RX3 "laid" "[I" ∈ lw_g := mg (mk1 (List.mem_of_getElem? (i := 193) rfl)) rfl
theorem wc_49 : Cond.fieldLink RX3 37 RX3 "world" "LHistogramPlans$World;" ∈ lw_g := mg (mk1 (List.mem_of_getElem? (i := 182) rfl)) rfl
theorem wc_50 : Cond.fieldLink RX3 41 RX3 "thoughts" "LHistogramPlans$Thoughts;" ∈ lw_g := mg (mk1 (List.mem_of_getElem? (i := 183) rfl)) rfl
def wX3 (f : Nat → ClassId) (b : Nat) (a1 a2 : Nat) (q : (Nat → Nat)) : va_W := (((((((([(b, .inr (3, [.ref a1, .ref a2, .ref (q 0), .ref (q 1), .ref (q 2), .ref (q 3), .ref (q 4), .ref (q 5), .ref (q 6), .ref (q 7)]))] ++ [((q 0), .inl (f 1, 32, .inr (.inr (.inl (fun _ => 0)))))]) ++ [((q 1), .inl (f 0, 512, .inl (fun _ => iZ 0)))]) ++ [((q 2), .inl (f 1, 512, .inr (.inr (.inl (fun _ => 0)))))]) ++ [((q 3), .inl (f 0, 512, .inl (fun _ => iZ 0)))]) ++ [((q 4), .inl (f 0, 512, .inl (fun _ => iZ 0)))]) ++ [((q 5), .inl (f 0, 512, .inl (fun _ => iZ 0)))]) ++ [((q 6), .inl (f 0, 512, .inl (fun _ => iZ 0)))]) ++ [((q 7), .inl (f 0, 18, .inl (fun _ => iZ 0)))])
set_option maxHeartbeats 4000000 in
set_option maxRecDepth 100000 in
theorem cn_X3_init (D : va_G) (f : Nat → ClassId) (l : Launch) (b : Nat) (a1 a2 : Nat) : CtN D f l (rmn 1 8 3122) yX3_init cX3_init 3 [.ref b, .ref a1, .ref a2] [(b, .inr (3, [.null, .null, .null, .null, .null, .null, .null, .null, .null, .null]))] (wX3 f b a1 a2) := by
  refine CtN.of (own := RX3) (L0 := [(0, .ref b), (1, .ref a1), (2, .ref a2)]) (by decide +kernel) rfl (Nat.le_of_ble_eq_true rfl) rfl rfl ?_
  intro M A C hMl hmn hrt hlk
  refine n_aload_n C dX3_init_0 rfl ?_
  refine n_obj C dX3_init_1 wc_39 wc_1 wc_2 (by decide) ?_
  refine n_aload_n C dX3_init_4 rfl ?_
  refine n_bipush (z := 32) C dX3_init_5 rfl ?_
  refine n_newa (t0 := 1) (N := 32) (ty := .float) (a0 := (32, .inr (.inr (.inl (fun _ => 0))))) C dX3_init_7 rfl wc_40 rfl (fun _ => rfl) rfl (by decide) (Nat.le_of_ble_eq_true rfl) (Nat.le_of_ble_eq_true rfl) (Nat.le_of_ble_eq_true rfl) (fun q1 => ?_)
  refine n_putF (ci := 3) (N := 10) (T := TX3) (j := 2) (ty := (.array .float)) (fs := [.null, .null, .null, .null, .null, .null, .null, .null, .null, .null]) (wr := ([(b, .inr (3, [.null, .null, .ref q1, .null, .null, .null, .null, .null, .null, .null]))] ++ [(q1, .inl (f 1, 32, .inr (.inr (.inl (fun _ => 0)))))])) C hmn dX3_init_9 rfl rfl hinX3 (by decide) wc_41 tyX3_ok nmX3 rfl rfl (by decide +kernel) rfl rfl (Nat.le_of_ble_eq_true rfl) rfl ?_
  refine n_aload_n C dX3_init_12 rfl ?_
  refine n_pc (pc' := 13) rfl ?_
  refine n_sipush (z := 512) C dX3_init_13 rfl ?_
  refine n_newa (t0 := 0) (N := 512) (ty := .int) (a0 := (512, .inl (fun _ => iZ 0))) C dX3_init_16 rfl wc_3 rfl (fun _ => rfl) rfl (by decide) (Nat.le_of_ble_eq_true rfl) (Nat.le_of_ble_eq_true rfl) (Nat.le_of_ble_eq_true rfl) (fun q2 => ?_)
  refine n_putF (ci := 3) (N := 10) (T := TX3) (j := 3) (ty := (.array .int)) (fs := [.null, .null, .ref q1, .null, .null, .null, .null, .null, .null, .null]) (wr := (([(b, .inr (3, [.null, .null, .ref q1, .ref q2, .null, .null, .null, .null, .null, .null]))] ++ [(q1, .inl (f 1, 32, .inr (.inr (.inl (fun _ => 0)))))]) ++ [(q2, .inl (f 0, 512, .inl (fun _ => iZ 0)))])) C hmn dX3_init_18 rfl rfl hinX3 (by decide) wc_42 tyX3_ok nmX3 rfl rfl (by decide +kernel) rfl rfl (Nat.le_of_ble_eq_true rfl) rfl ?_
  refine n_aload_n C dX3_init_21 rfl ?_
  refine n_sipush (z := 512) C dX3_init_22 rfl ?_
  refine n_newa (t0 := 1) (N := 512) (ty := .float) (a0 := (512, .inr (.inr (.inl (fun _ => 0))))) C dX3_init_25 rfl wc_40 rfl (fun _ => rfl) rfl (by decide) (Nat.le_of_ble_eq_true rfl) (Nat.le_of_ble_eq_true rfl) (Nat.le_of_ble_eq_true rfl) (fun q3 => ?_)
  refine n_putF (ci := 3) (N := 10) (T := TX3) (j := 4) (ty := (.array .float)) (fs := [.null, .null, .ref q1, .ref q2, .null, .null, .null, .null, .null, .null]) (wr := ((([(b, .inr (3, [.null, .null, .ref q1, .ref q2, .ref q3, .null, .null, .null, .null, .null]))] ++ [(q1, .inl (f 1, 32, .inr (.inr (.inl (fun _ => 0)))))]) ++ [(q2, .inl (f 0, 512, .inl (fun _ => iZ 0)))]) ++ [(q3, .inl (f 1, 512, .inr (.inr (.inl (fun _ => 0)))))])) C hmn dX3_init_27 rfl rfl hinX3 (by decide) wc_43 tyX3_ok nmX3 rfl rfl (by decide +kernel) rfl rfl (Nat.le_of_ble_eq_true rfl) rfl ?_
  refine n_aload_n C dX3_init_30 rfl ?_
  refine n_pc (pc' := 31) rfl ?_
  refine n_sipush (z := 512) C dX3_init_31 rfl ?_
  refine n_newa (t0 := 0) (N := 512) (ty := .int) (a0 := (512, .inl (fun _ => iZ 0))) C dX3_init_34 rfl wc_3 rfl (fun _ => rfl) rfl (by decide) (Nat.le_of_ble_eq_true rfl) (Nat.le_of_ble_eq_true rfl) (Nat.le_of_ble_eq_true rfl) (fun q4 => ?_)
  refine n_putF (ci := 3) (N := 10) (T := TX3) (j := 5) (ty := (.array .int)) (fs := [.null, .null, .ref q1, .ref q2, .ref q3, .null, .null, .null, .null, .null]) (wr := (((([(b, .inr (3, [.null, .null, .ref q1, .ref q2, .ref q3, .ref q4, .null, .null, .null, .null]))] ++ [(q1, .inl (f 1, 32, .inr (.inr (.inl (fun _ => 0)))))]) ++ [(q2, .inl (f 0, 512, .inl (fun _ => iZ 0)))]) ++ [(q3, .inl (f 1, 512, .inr (.inr (.inl (fun _ => 0)))))]) ++ [(q4, .inl (f 0, 512, .inl (fun _ => iZ 0)))])) C hmn dX3_init_36 rfl rfl hinX3 (by decide) wc_44 tyX3_ok nmX3 rfl rfl (by decide +kernel) rfl rfl (Nat.le_of_ble_eq_true rfl) rfl ?_
  refine n_aload_n C dX3_init_39 rfl ?_
  refine n_sipush (z := 512) C dX3_init_40 rfl ?_
  refine n_newa (t0 := 0) (N := 512) (ty := .int) (a0 := (512, .inl (fun _ => iZ 0))) C dX3_init_43 rfl wc_3 rfl (fun _ => rfl) rfl (by decide) (Nat.le_of_ble_eq_true rfl) (Nat.le_of_ble_eq_true rfl) (Nat.le_of_ble_eq_true rfl) (fun q5 => ?_)
  refine n_putF (ci := 3) (N := 10) (T := TX3) (j := 6) (ty := (.array .int)) (fs := [.null, .null, .ref q1, .ref q2, .ref q3, .ref q4, .null, .null, .null, .null]) (wr := ((((([(b, .inr (3, [.null, .null, .ref q1, .ref q2, .ref q3, .ref q4, .ref q5, .null, .null, .null]))] ++ [(q1, .inl (f 1, 32, .inr (.inr (.inl (fun _ => 0)))))]) ++ [(q2, .inl (f 0, 512, .inl (fun _ => iZ 0)))]) ++ [(q3, .inl (f 1, 512, .inr (.inr (.inl (fun _ => 0)))))]) ++ [(q4, .inl (f 0, 512, .inl (fun _ => iZ 0)))]) ++ [(q5, .inl (f 0, 512, .inl (fun _ => iZ 0)))])) C hmn dX3_init_45 rfl rfl hinX3 (by decide) wc_45 tyX3_ok nmX3 rfl rfl (by decide +kernel) rfl rfl (Nat.le_of_ble_eq_true rfl) rfl ?_
  refine n_aload_n C dX3_init_48 rfl ?_
  refine n_pc (pc' := 49) rfl ?_
  refine n_sipush (z := 512) C dX3_init_49 rfl ?_
  refine n_newa (t0 := 0) (N := 512) (ty := .int) (a0 := (512, .inl (fun _ => iZ 0))) C dX3_init_52 rfl wc_3 rfl (fun _ => rfl) rfl (by decide) (Nat.le_of_ble_eq_true rfl) (Nat.le_of_ble_eq_true rfl) (Nat.le_of_ble_eq_true rfl) (fun q6 => ?_)
  refine n_putF (ci := 3) (N := 10) (T := TX3) (j := 7) (ty := (.array .int)) (fs := [.null, .null, .ref q1, .ref q2, .ref q3, .ref q4, .ref q5, .null, .null, .null]) (wr := (((((([(b, .inr (3, [.null, .null, .ref q1, .ref q2, .ref q3, .ref q4, .ref q5, .ref q6, .null, .null]))] ++ [(q1, .inl (f 1, 32, .inr (.inr (.inl (fun _ => 0)))))]) ++ [(q2, .inl (f 0, 512, .inl (fun _ => iZ 0)))]) ++ [(q3, .inl (f 1, 512, .inr (.inr (.inl (fun _ => 0)))))]) ++ [(q4, .inl (f 0, 512, .inl (fun _ => iZ 0)))]) ++ [(q5, .inl (f 0, 512, .inl (fun _ => iZ 0)))]) ++ [(q6, .inl (f 0, 512, .inl (fun _ => iZ 0)))])) C hmn dX3_init_54 rfl rfl hinX3 (by decide) wc_46 tyX3_ok nmX3 rfl rfl (by decide +kernel) rfl rfl (Nat.le_of_ble_eq_true rfl) rfl ?_
  refine n_aload_n C dX3_init_57 rfl ?_
  refine n_sipush (z := 512) C dX3_init_58 rfl ?_
  refine n_newa (t0 := 0) (N := 512) (ty := .int) (a0 := (512, .inl (fun _ => iZ 0))) C dX3_init_61 rfl wc_3 rfl (fun _ => rfl) rfl (by decide) (Nat.le_of_ble_eq_true rfl) (Nat.le_of_ble_eq_true rfl) (Nat.le_of_ble_eq_true rfl) (fun q7 => ?_)
  refine n_putF (ci := 3) (N := 10) (T := TX3) (j := 8) (ty := (.array .int)) (fs := [.null, .null, .ref q1, .ref q2, .ref q3, .ref q4, .ref q5, .ref q6, .null, .null]) (wr := ((((((([(b, .inr (3, [.null, .null, .ref q1, .ref q2, .ref q3, .ref q4, .ref q5, .ref q6, .ref q7, .null]))] ++ [(q1, .inl (f 1, 32, .inr (.inr (.inl (fun _ => 0)))))]) ++ [(q2, .inl (f 0, 512, .inl (fun _ => iZ 0)))]) ++ [(q3, .inl (f 1, 512, .inr (.inr (.inl (fun _ => 0)))))]) ++ [(q4, .inl (f 0, 512, .inl (fun _ => iZ 0)))]) ++ [(q5, .inl (f 0, 512, .inl (fun _ => iZ 0)))]) ++ [(q6, .inl (f 0, 512, .inl (fun _ => iZ 0)))]) ++ [(q7, .inl (f 0, 512, .inl (fun _ => iZ 0)))])) C hmn dX3_init_63 rfl rfl hinX3 (by decide) wc_47 tyX3_ok nmX3 rfl rfl (by decide +kernel) rfl rfl (Nat.le_of_ble_eq_true rfl) rfl ?_
  refine n_aload_n C dX3_init_66 rfl ?_
  refine n_pc (pc' := 67) rfl ?_
  refine n_bipush (z := 18) C dX3_init_67 rfl ?_
  refine n_newa (t0 := 0) (N := 18) (ty := .int) (a0 := (18, .inl (fun _ => iZ 0))) C dX3_init_69 rfl wc_3 rfl (fun _ => rfl) rfl (by decide) (Nat.le_of_ble_eq_true rfl) (Nat.le_of_ble_eq_true rfl) (Nat.le_of_ble_eq_true rfl) (fun q8 => ?_)
  refine n_putF (ci := 3) (N := 10) (T := TX3) (j := 9) (ty := (.array .int)) (fs := [.null, .null, .ref q1, .ref q2, .ref q3, .ref q4, .ref q5, .ref q6, .ref q7, .null]) (wr := (((((((([(b, .inr (3, [.null, .null, .ref q1, .ref q2, .ref q3, .ref q4, .ref q5, .ref q6, .ref q7, .ref q8]))] ++ [(q1, .inl (f 1, 32, .inr (.inr (.inl (fun _ => 0)))))]) ++ [(q2, .inl (f 0, 512, .inl (fun _ => iZ 0)))]) ++ [(q3, .inl (f 1, 512, .inr (.inr (.inl (fun _ => 0)))))]) ++ [(q4, .inl (f 0, 512, .inl (fun _ => iZ 0)))]) ++ [(q5, .inl (f 0, 512, .inl (fun _ => iZ 0)))]) ++ [(q6, .inl (f 0, 512, .inl (fun _ => iZ 0)))]) ++ [(q7, .inl (f 0, 512, .inl (fun _ => iZ 0)))]) ++ [(q8, .inl (f 0, 18, .inl (fun _ => iZ 0)))])) C hmn dX3_init_71 rfl rfl hinX3 (by decide) wc_48 tyX3_ok nmX3 rfl rfl (by decide +kernel) rfl rfl (Nat.le_of_ble_eq_true rfl) rfl ?_
  refine n_aload_n C dX3_init_74 rfl ?_
  refine n_aload_n C dX3_init_75 rfl ?_
  refine n_putF (ci := 3) (N := 10) (T := TX3) (j := 0) (ty := (.object "HistogramPlans$World")) (fs := [.null, .null, .ref q1, .ref q2, .ref q3, .ref q4, .ref q5, .ref q6, .ref q7, .ref q8]) (wr := (((((((([(b, .inr (3, [.ref a1, .null, .ref q1, .ref q2, .ref q3, .ref q4, .ref q5, .ref q6, .ref q7, .ref q8]))] ++ [(q1, .inl (f 1, 32, .inr (.inr (.inl (fun _ => 0)))))]) ++ [(q2, .inl (f 0, 512, .inl (fun _ => iZ 0)))]) ++ [(q3, .inl (f 1, 512, .inr (.inr (.inl (fun _ => 0)))))]) ++ [(q4, .inl (f 0, 512, .inl (fun _ => iZ 0)))]) ++ [(q5, .inl (f 0, 512, .inl (fun _ => iZ 0)))]) ++ [(q6, .inl (f 0, 512, .inl (fun _ => iZ 0)))]) ++ [(q7, .inl (f 0, 512, .inl (fun _ => iZ 0)))]) ++ [(q8, .inl (f 0, 18, .inl (fun _ => iZ 0)))])) C hmn dX3_init_76 rfl rfl hinX3 (by decide) wc_49 tyX3_ok nmX3 rfl rfl (by decide +kernel) rfl rfl (Nat.le_of_ble_eq_true rfl) rfl ?_
  refine n_aload_n C dX3_init_79 rfl ?_
  refine n_aload_n C dX3_init_80 rfl ?_
  refine n_pc (pc' := 81) rfl ?_
  refine n_putF (ci := 3) (N := 10) (T := TX3) (j := 1) (ty := (.object "HistogramPlans$Thoughts")) (fs := [.ref a1, .null, .ref q1, .ref q2, .ref q3, .ref q4, .ref q5, .ref q6, .ref q7, .ref q8]) (wr := (((((((([(b, .inr (3, [.ref a1, .ref a2, .ref q1, .ref q2, .ref q3, .ref q4, .ref q5, .ref q6, .ref q7, .ref q8]))] ++ [(q1, .inl (f 1, 32, .inr (.inr (.inl (fun _ => 0)))))]) ++ [(q2, .inl (f 0, 512, .inl (fun _ => iZ 0)))]) ++ [(q3, .inl (f 1, 512, .inr (.inr (.inl (fun _ => 0)))))]) ++ [(q4, .inl (f 0, 512, .inl (fun _ => iZ 0)))]) ++ [(q5, .inl (f 0, 512, .inl (fun _ => iZ 0)))]) ++ [(q6, .inl (f 0, 512, .inl (fun _ => iZ 0)))]) ++ [(q7, .inl (f 0, 512, .inl (fun _ => iZ 0)))]) ++ [(q8, .inl (f 0, 18, .inl (fun _ => iZ 0)))])) C hmn dX3_init_81 rfl rfl hinX3 (by decide) wc_50 tyX3_ok nmX3 rfl rfl (by decide +kernel) rfl rfl (Nat.le_of_ble_eq_true rfl) rfl ?_
  exact n_ret C hrt hlk dX3_init_84 (fun j => ([q1, q2, q3, q4, q5, q6, q7, q8] : List Nat).getD j 0) rfl (Nat.le_of_ble_eq_true rfl) (Nat.le_of_ble_eq_true rfl)

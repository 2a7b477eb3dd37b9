/-! CONSTRUCTORS: Thoughts, Shelf, World -/
theorem wc_51 : Cond.methodLink RX7 3 Lib.objectInit ∈ lw_g := mg (mk1 (List.mem_of_getElem? (i := 128) rfl)) rfl
theorem wc_52 : Cond.classLink RX7 9 RX0 ∈ lw_g := mg (mk1 (List.mem_of_getElem? (i := 129) rfl)) rfl
theorem wc_53 : Cond.instantiable RX0 7 ∈ lw_g := mg (mk1 (List.mem_of_getElem? (i := 130) rfl)) rfl
theorem wc_54 : Cond.initialized RX0 ∈ lw_g := mg (mk1 (List.mem_of_getElem? (i := 5) rfl)) rfl
theorem wc_55 : Cond.methodLink RX7 11 yX0_init ∈ lw_g := mg (mk1 (List.mem_of_getElem? (i := 131) rfl)) rfl
theorem wc_56 : Cond.instanceMethod yX0_init ∈ lw_g := mg (mk1 (List.mem_of_getElem? (i := 132) rfl)) rfl
theorem wc_57 : Cond.code yX0_init cX0_init 1 none ∈ lw_g := mg (mk1 (List.mem_of_getElem? (i := 133) rfl)) rfl
theorem wc_58 : Cond.fieldLink RX7 12 RX7 "histogram" "LHistogramPlans$Histogram;" ∈ lw_g := mg (mk1 (List.mem_of_getElem? (i := 163) rfl)) rfl
theorem wc_59 : Cond.fieldLink RX7 18 RX7 "ofTable" "[F" ∈ lw_g := mg (mk1 (List.mem_of_getElem? (i := 164) rfl)) rfl
theorem wc_60 : Cond.fieldLink RX7 22 RX7 "ofJoin" "[F" ∈ lw_g := mg (mk1 (List.mem_of_getElem? (i := 165) rfl)) rfl
theorem wc_61 : Cond.fieldLink RX7 25 RX7 "world" "LHistogramPlans$World;" ∈ lw_g := mg (mk1 (List.mem_of_getElem? (i := 162) rfl)) rfl
def wX7 (f : Nat → ClassId) (b : Nat) (a1 : Nat) (q : (Nat → Nat → Nat)) : va_W := ((([(b, .inr (7, [.ref a1, .ref (q 0 0), .ref (q 0 1), .ref (q 0 2)]))] ++ (wX0 f (q 0 0) (q 1))) ++ [((q 0 1), .inl (f 1, 5, .inr (.inr (.inl (fun _ => 0)))))]) ++ [((q 0 2), .inl (f 1, 8, .inr (.inr (.inl (fun _ => 0)))))])
set_option maxHeartbeats 4000000 in
set_option maxRecDepth 100000 in
theorem cn_X7_init (D : va_G) (f : Nat → ClassId) (l : Launch) (b : Nat) (a1 : Nat) : CtN D f l (rmn 2 8 68) yX7_init cX7_init 2 [.ref b, .ref a1] [(b, .inr (7, [.null, .null, .null, .null]))] (wX7 f b a1) := by
  refine CtN.of (own := RX7) (L0 := [(0, .ref b), (1, .ref a1)]) (by decide +kernel) rfl (Nat.le_of_ble_eq_true rfl) rfl rfl ?_
  intro M A C hMl hmn hrt hlk
  refine n_aload_n C dX7_init_0 rfl ?_
  refine n_obj C dX7_init_1 wc_51 wc_1 wc_2 (by decide) ?_
  refine n_aload_n C dX7_init_4 rfl ?_
  refine n_new (ci := 0) (N := 7) (K := RX0) (T := TX0) (ty := tyX0) (fs := [.null, .int (iZ 0), .null, .null, .null, .null, .int (iZ 0)]) C dX7_init_5 rfl hinX0 tyX0_ok wc_52 wc_53 wc_54 (fun j hj => by rcases (show j = 0 ∨ j = 1 ∨ j = 2 ∨ j = 3 ∨ j = 4 ∨ j = 5 ∨ j = 6 by omega) with rfl | rfl | rfl | rfl | rfl | rfl | rfl <;> rfl) (Nat.le_of_ble_eq_true rfl) (Nat.le_of_ble_eq_true rfl) (fun q1 => ?_)
  refine n_dup C dX7_init_8 rfl ?_
  refine n_init (n := 0) (As := []) (b := q1) (wr := [(b, .inr (7, [.null, .null, .null, .null]))]) C (cn_X0_init D f (Ml M) q1 ) dX7_init_9 rfl rfl wc_55 wc_56 wc_54 wc_57 ⟨by decide +kernel, by decide +kernel, by decide +kernel⟩ rfl (by decide) (Nat.le_of_ble_eq_true rfl) rfl (Nat.le_of_ble_eq_true rfl) (Nat.le_of_ble_eq_true rfl) (fun u1 => ?_)
  refine n_putF (ci := 7) (N := 4) (T := TX7) (j := 1) (ty := (.object "HistogramPlans$Histogram")) (fs := [.null, .null, .null, .null]) (wr := ([(b, .inr (7, [.null, .ref q1, .null, .null]))] ++ (wX0 f q1 u1))) C hmn dX7_init_12 rfl rfl hinX7 (by decide) wc_58 tyX7_ok nmX7 rfl rfl (by decide +kernel) rfl rfl (Nat.le_of_ble_eq_true rfl) rfl ?_
  refine n_pc (pc' := 15) rfl ?_
  refine n_aload_n C dX7_init_15 rfl ?_
  refine n_iconst (z := 5) C dX7_init_16 rfl ?_
  refine n_newa (t0 := 1) (N := 5) (ty := .float) (a0 := (5, .inr (.inr (.inl (fun _ => 0))))) C dX7_init_17 rfl wc_40 rfl (fun _ => rfl) rfl (by decide) (Nat.le_of_ble_eq_true rfl) (Nat.le_of_ble_eq_true rfl) (Nat.le_of_ble_eq_true rfl) (fun q2 => ?_)
  refine n_putF (ci := 7) (N := 4) (T := TX7) (j := 2) (ty := (.array .float)) (fs := [.null, .ref q1, .null, .null]) (wr := (([(b, .inr (7, [.null, .ref q1, .ref q2, .null]))] ++ (wX0 f q1 u1)) ++ [(q2, .inl (f 1, 5, .inr (.inr (.inl (fun _ => 0)))))])) C hmn dX7_init_19 rfl rfl hinX7 (by decide) wc_59 tyX7_ok nmX7 rfl rfl (by decide +kernel) rfl rfl (Nat.le_of_ble_eq_true rfl) rfl ?_
  refine n_aload_n C dX7_init_22 rfl ?_
  refine n_bipush (z := 8) C dX7_init_23 rfl ?_
  refine n_newa (t0 := 1) (N := 8) (ty := .float) (a0 := (8, .inr (.inr (.inl (fun _ => 0))))) C dX7_init_25 rfl wc_40 rfl (fun _ => rfl) rfl (by decide) (Nat.le_of_ble_eq_true rfl) (Nat.le_of_ble_eq_true rfl) (Nat.le_of_ble_eq_true rfl) (fun q3 => ?_)
  refine n_putF (ci := 7) (N := 4) (T := TX7) (j := 3) (ty := (.array .float)) (fs := [.null, .ref q1, .ref q2, .null]) (wr := ((([(b, .inr (7, [.null, .ref q1, .ref q2, .ref q3]))] ++ (wX0 f q1 u1)) ++ [(q2, .inl (f 1, 5, .inr (.inr (.inl (fun _ => 0)))))]) ++ [(q3, .inl (f 1, 8, .inr (.inr (.inl (fun _ => 0)))))])) C hmn dX7_init_27 rfl rfl hinX7 (by decide) wc_60 tyX7_ok nmX7 rfl rfl (by decide +kernel) rfl rfl (Nat.le_of_ble_eq_true rfl) rfl ?_
  refine n_pc (pc' := 30) rfl ?_
  refine n_aload_n C dX7_init_30 rfl ?_
  refine n_aload_n C dX7_init_31 rfl ?_
  refine n_putF (ci := 7) (N := 4) (T := TX7) (j := 0) (ty := (.object "HistogramPlans$World")) (fs := [.null, .ref q1, .ref q2, .ref q3]) (wr := ((([(b, .inr (7, [.ref a1, .ref q1, .ref q2, .ref q3]))] ++ (wX0 f q1 u1)) ++ [(q2, .inl (f 1, 5, .inr (.inr (.inl (fun _ => 0)))))]) ++ [(q3, .inl (f 1, 8, .inr (.inr (.inl (fun _ => 0)))))])) C hmn dX7_init_32 rfl rfl hinX7 (by decide) wc_61 tyX7_ok nmX7 rfl rfl (by decide +kernel) rfl rfl (Nat.le_of_ble_eq_true rfl) rfl ?_
  exact n_ret C hrt hlk dX7_init_35 (fun i => ([fun j => ([q1, q2, q3] : List Nat).getD j 0, u1] : List (Nat → Nat)).getD i (fun _ => 0)) rfl (Nat.le_of_ble_eq_true rfl) (Nat.le_of_ble_eq_true rfl)
theorem wc_62 : Cond.methodLink RX4 3 Lib.objectInit ∈ lw_g := mg (mk2 (List.mem_of_getElem? (i := 37) rfl)) rfl
theorem wc_63 : Cond.fieldLink RX4 11 RX4 "kind" "I" ∈ lw_g := mg (mk2 (List.mem_of_getElem? (i := 81) rfl)) rfl
theorem wc_64 : Cond.fieldLink RX4 15 RX4 "sort" "I" ∈ lw_g := mg (mk2 (List.mem_of_getElem? (i := 83) rfl)) rfl
theorem wc_65 : Cond.fieldLink RX4 18 RX4 "length" "I" ∈ lw_g := mg (mk2 (List.mem_of_getElem? (i := 85) rfl)) rfl
theorem wc_66 : Cond.arrayClass .long ∈ lw_g := mg (mk2 (List.mem_of_getElem? (i := 80) rfl)) rfl
theorem wc_67 : Cond.fieldLink RX4 21 RX4 "elements" "[J" ∈ lw_g := mg (mk2 (List.mem_of_getElem? (i := 88) rfl)) rfl
theorem wc_68 : Cond.classLink RX4 25 RX2 ∈ lw_g := mg (mk2 (List.mem_of_getElem? (i := 38) rfl)) rfl
theorem wc_69 : Cond.instantiable RX2 7 ∈ lw_g := mg (mk2 (List.mem_of_getElem? (i := 39) rfl)) rfl
theorem wc_70 : Cond.initialized RX2 ∈ lw_g := mg (mk1 (List.mem_of_getElem? (i := 10) rfl)) rfl
theorem wc_71 : Cond.methodLink RX4 27 yX2_init ∈ lw_g := mg (mk2 (List.mem_of_getElem? (i := 40) rfl)) rfl
theorem wc_72 : Cond.instanceMethod yX2_init ∈ lw_g := mg (mk2 (List.mem_of_getElem? (i := 41) rfl)) rfl
theorem wc_73 : Cond.code yX2_init cX2_init 1 none ∈ lw_g := mg (mk2 (List.mem_of_getElem? (i := 42) rfl)) rfl
theorem wc_74 : Cond.fieldLink RX4 28 RX4 "node" "LHistogramPlans$Node;" ∈ lw_g := mg (mk2 (List.mem_of_getElem? (i := 90) rfl)) rfl
def wX4 (f : Nat → ClassId) (b : Nat) (q : (Nat → Nat → Nat)) : va_W := (([(b, .inr (4, [.int (iZ 0), .int (iZ 0), .int (iZ 0), .ref (q 0 0), .ref (q 0 1)]))] ++ [((q 0 0), .inl (f 2, 160, .inr (.inl (fun _ => 0))))]) ++ (wX2 f (q 0 1) (q 1)))
set_option maxHeartbeats 4000000 in
set_option maxRecDepth 100000 in
theorem cn_X4_init (D : va_G) (f : Nat → ClassId) (l : Launch) (b : Nat) : CtN D f l (rmn 2 2 167) yX4_init cX4_init 1 [.ref b] [(b, .inr (4, [.int (iZ 0), .int (iZ 0), .int (iZ 0), .null, .null]))] (wX4 f b) := by
  refine CtN.of (own := RX4) (L0 := [(0, .ref b)]) (by decide +kernel) rfl (Nat.le_of_ble_eq_true rfl) rfl rfl ?_
  intro M A C hMl hmn hrt hlk
  refine n_aload_n C dX4_init_0 rfl ?_
  refine n_obj C dX4_init_1 wc_62 wc_1 wc_2 (by decide) ?_
  refine n_aload_n C dX4_init_4 rfl ?_
  refine n_iconst (z := 0) C dX4_init_5 rfl ?_
  refine n_put (ci := 4) (N := 5) (T := TX4) (j := 0) (ty := .int) (fs := [.int (iZ 0), .int (iZ 0), .int (iZ 0), .null, .null]) (wr := [(b, .inr (4, [.int (iZ 0), .int (iZ 0), .int (iZ 0), .null, .null]))]) C dX4_init_6 rfl rfl hinX4 (by decide) wc_63 tyX4_ok nmX4 rfl (by decide +kernel) rfl rfl (Nat.le_of_ble_eq_true rfl) rfl ?_
  refine n_aload_n C dX4_init_9 rfl ?_
  refine n_iconst (z := 0) C dX4_init_10 rfl ?_
  refine n_pc (pc' := 11) rfl ?_
  refine n_put (ci := 4) (N := 5) (T := TX4) (j := 1) (ty := .int) (fs := [.int (iZ 0), .int (iZ 0), .int (iZ 0), .null, .null]) (wr := [(b, .inr (4, [.int (iZ 0), .int (iZ 0), .int (iZ 0), .null, .null]))]) C dX4_init_11 rfl rfl hinX4 (by decide) wc_64 tyX4_ok nmX4 rfl (by decide +kernel) rfl rfl (Nat.le_of_ble_eq_true rfl) rfl ?_
  refine n_aload_n C dX4_init_14 rfl ?_
  refine n_iconst (z := 0) C dX4_init_15 rfl ?_
  refine n_put (ci := 4) (N := 5) (T := TX4) (j := 2) (ty := .int) (fs := [.int (iZ 0), .int (iZ 0), .int (iZ 0), .null, .null]) (wr := [(b, .inr (4, [.int (iZ 0), .int (iZ 0), .int (iZ 0), .null, .null]))]) C dX4_init_16 rfl rfl hinX4 (by decide) wc_65 tyX4_ok nmX4 rfl (by decide +kernel) rfl rfl (Nat.le_of_ble_eq_true rfl) rfl ?_
  refine n_aload_n C dX4_init_19 rfl ?_
  refine n_sipush (z := 160) C dX4_init_20 rfl ?_
  refine n_newa (t0 := 2) (N := 160) (ty := .long) (a0 := (160, .inr (.inl (fun _ => 0)))) C dX4_init_23 rfl wc_66 rfl (fun _ => rfl) rfl (by decide) (Nat.le_of_ble_eq_true rfl) (Nat.le_of_ble_eq_true rfl) (Nat.le_of_ble_eq_true rfl) (fun q1 => ?_)
  refine n_putF (ci := 4) (N := 5) (T := TX4) (j := 3) (ty := (.array .long)) (fs := [.int (iZ 0), .int (iZ 0), .int (iZ 0), .null, .null]) (wr := ([(b, .inr (4, [.int (iZ 0), .int (iZ 0), .int (iZ 0), .ref q1, .null]))] ++ [(q1, .inl (f 2, 160, .inr (.inl (fun _ => 0))))])) C hmn dX4_init_25 rfl rfl hinX4 (by decide) wc_67 tyX4_ok nmX4 rfl rfl (by decide +kernel) rfl rfl (Nat.le_of_ble_eq_true rfl) rfl ?_
  refine n_pc (pc' := 28) rfl ?_
  refine n_aload_n C dX4_init_28 rfl ?_
  refine n_new (ci := 2) (N := 7) (K := RX2) (T := TX2) (ty := tyX2) (fs := [.int (iZ 0), .int (iZ 0), .int (iZ 0), .int (iZ 0), .int (iZ 0), .int (iZ 0), .int (iZ 0)]) C dX4_init_29 rfl hinX2 tyX2_ok wc_68 wc_69 wc_70 (fun j hj => by rcases (show j = 0 ∨ j = 1 ∨ j = 2 ∨ j = 3 ∨ j = 4 ∨ j = 5 ∨ j = 6 by omega) with rfl | rfl | rfl | rfl | rfl | rfl | rfl <;> rfl) (Nat.le_of_ble_eq_true rfl) (Nat.le_of_ble_eq_true rfl) (fun q2 => ?_)
  refine n_dup C dX4_init_32 rfl ?_
  refine n_init (n := 0) (As := []) (b := q2) (wr := ([(b, .inr (4, [.int (iZ 0), .int (iZ 0), .int (iZ 0), .ref q1, .null]))] ++ [(q1, .inl (f 2, 160, .inr (.inl (fun _ => 0))))])) C (cn_X2_init D f (Ml M) q2 ) dX4_init_33 rfl rfl wc_71 wc_72 wc_70 wc_73 ⟨by decide +kernel, by decide +kernel, by decide +kernel⟩ rfl (by decide) (Nat.le_of_ble_eq_true rfl) rfl (Nat.le_of_ble_eq_true rfl) (Nat.le_of_ble_eq_true rfl) (fun u1 => ?_)
  refine n_putF (ci := 4) (N := 5) (T := TX4) (j := 4) (ty := (.object "HistogramPlans$Node")) (fs := [.int (iZ 0), .int (iZ 0), .int (iZ 0), .ref q1, .null]) (wr := (([(b, .inr (4, [.int (iZ 0), .int (iZ 0), .int (iZ 0), .ref q1, .ref q2]))] ++ [(q1, .inl (f 2, 160, .inr (.inl (fun _ => 0))))]) ++ (wX2 f q2 u1))) C hmn dX4_init_36 rfl rfl hinX4 (by decide) wc_74 tyX4_ok nmX4 rfl rfl (by decide +kernel) rfl rfl (Nat.le_of_ble_eq_true rfl) rfl ?_
  exact n_ret C hrt hlk dX4_init_39 (fun i => ([fun j => ([q1, q2] : List Nat).getD j 0, u1] : List (Nat → Nat)).getD i (fun _ => 0)) rfl (Nat.le_of_ble_eq_true rfl) (Nat.le_of_ble_eq_true rfl)
theorem wc_75 : Cond.methodLink RX8 3 Lib.objectInit ∈ lw_g := mg (mk1 (List.mem_of_getElem? (i := 31) rfl)) rfl
theorem wc_76 : Cond.classLink RX8 9 RX5 ∈ lw_g := mg (mk1 (List.mem_of_getElem? (i := 32) rfl)) rfl
theorem wc_77 : Cond.fieldLink RX8 11 RX8 "tables" "[LHistogramPlans$Table;" ∈ lw_g := mg (mk1 (List.mem_of_getElem? (i := 65) rfl)) rfl
theorem wc_78 : Cond.fieldLink RX8 17 RX8 "filterPlace" "[I" ∈ lw_g := mg (mk1 (List.mem_of_getElem? (i := 71) rfl)) rfl
theorem wc_79 : Cond.fieldLink RX8 21 RX8 "filterSign" "[I" ∈ lw_g := mg (mk1 (List.mem_of_getElem? (i := 75) rfl)) rfl
theorem wc_80 : Cond.fieldLink RX8 24 RX8 "filterValue" "[I" ∈ lw_g := mg (mk1 (List.mem_of_getElem? (i := 79) rfl)) rfl
theorem wc_81 : Cond.fieldLink RX8 27 RX8 "filters" "I" ∈ lw_g := mg (mk1 (List.mem_of_getElem? (i := 83) rfl)) rfl
theorem wc_82 : Cond.fieldLink RX8 31 RX8 "joinFirst" "[I" ∈ lw_g := mg (mk1 (List.mem_of_getElem? (i := 87) rfl)) rfl
theorem wc_83 : Cond.fieldLink RX8 34 RX8 "joinSecond" "[I" ∈ lw_g := mg (mk1 (List.mem_of_getElem? (i := 92) rfl)) rfl
theorem wc_84 : Cond.fieldLink RX8 37 RX8 "joins" "I" ∈ lw_g := mg (mk1 (List.mem_of_getElem? (i := 97) rfl)) rfl
theorem wc_85 : Cond.fieldLink RX8 40 RX8 "drawSeed" "I" ∈ lw_g := mg (mk1 (List.mem_of_getElem? (i := 102) rfl)) rfl
theorem wc_86 : Cond.instantiable RX5 4 ∈ lw_g := mg (mk1 (List.mem_of_getElem? (i := 34) rfl)) rfl
theorem wc_87 : Cond.initialized RX5 ∈ lw_g := mg (mk1 (List.mem_of_getElem? (i := 3) rfl)) rfl
theorem wc_88 : Cond.methodLink RX8 43 yX5_init ∈ lw_g := mg (mk1 (List.mem_of_getElem? (i := 35) rfl)) rfl
theorem wc_89 : Cond.instanceMethod yX5_init ∈ lw_g := mg (mk1 (List.mem_of_getElem? (i := 36) rfl)) rfl
theorem wc_90 : Cond.code yX5_init cX5_init 1 none ∈ lw_g := mg (mk1 (List.mem_of_getElem? (i := 37) rfl)) rfl
def wX8 (f : Nat → ClassId) (b : Nat) (q : (Nat → Nat → Nat)) : va_W := ((((((((((([(b, .inr (8, [.ref (q 0 0), .ref (q 0 1), .ref (q 0 2), .ref (q 0 3), .int (iZ 0), .ref (q 0 4), .ref (q 0 5), .int (iZ 0), .int (iZ 1)]))] ++ [((q 0 0), .inl (f 3, 5, .inr (.inr (.inr (.inr (va_up (va_up (va_up (va_up (va_up (fun _ => none) 0 (some (q 0 6))) 1 (some (q 0 7))) 2 (some (q 0 8))) 3 (some (q 0 9))) 4 (some (q 0 10))))))))]) ++ [((q 0 1), .inl (f 0, 8, .inl (fun _ => iZ 0)))]) ++ [((q 0 2), .inl (f 0, 8, .inl (fun _ => iZ 0)))]) ++ [((q 0 3), .inl (f 0, 8, .inl (fun _ => iZ 0)))]) ++ [((q 0 4), .inl (f 0, 8, .inl (fun _ => iZ 0)))]) ++ [((q 0 5), .inl (f 0, 8, .inl (fun _ => iZ 0)))]) ++ (wX5 f (q 0 6) (q 1))) ++ (wX5 f (q 0 7) (q 2))) ++ (wX5 f (q 0 8) (q 3))) ++ (wX5 f (q 0 9) (q 4))) ++ (wX5 f (q 0 10) (q 5)))
set_option maxHeartbeats 4000000 in
set_option maxRecDepth 100000 in
theorem cn_X8_init (D : va_G) (f : Nat → ClassId) (l : Launch) (b : Nat) : CtN D f l (rmn 2 16 305) yX8_init cX8_init 2 [.ref b] [(b, .inr (8, [.null, .null, .null, .null, .int (iZ 0), .null, .null, .int (iZ 0), .int (iZ 0)]))] (wX8 f b) := by
  refine CtN.of (own := RX8) (L0 := [(0, .ref b)]) (by decide +kernel) rfl (Nat.le_of_ble_eq_true rfl) rfl rfl ?_
  intro M A C hMl hmn hrt hlk
  refine n_aload_n C dX8_init_0 rfl ?_
  refine n_obj C dX8_init_1 wc_75 wc_1 wc_2 (by decide) ?_
  refine n_aload_n C dX8_init_4 rfl ?_
  refine n_iconst (z := 5) C dX8_init_5 rfl ?_
  refine n_newq (t0 := 3) (N := 5) (K := RX5) C dX8_init_6 wc_76 (fun h => h.1) rfl rfl (by decide) (Nat.le_of_ble_eq_true rfl) (Nat.le_of_ble_eq_true rfl) (Nat.le_of_ble_eq_true rfl) (fun q1 => ?_)
  refine n_putF (ci := 8) (N := 9) (T := TX8) (j := 0) (ty := (.array (.object "HistogramPlans$Table"))) (fs := [.null, .null, .null, .null, .int (iZ 0), .null, .null, .int (iZ 0), .int (iZ 0)]) (wr := ([(b, .inr (8, [.ref q1, .null, .null, .null, .int (iZ 0), .null, .null, .int (iZ 0), .int (iZ 0)]))] ++ [(q1, .inl (f 3, 5, .inr (.inr (.inr (.inr (fun _ => none))))))])) C hmn dX8_init_9 rfl rfl hinX8 (by decide) wc_77 tyX8_ok nmX8 rfl rfl (by decide +kernel) rfl rfl (Nat.le_of_ble_eq_true rfl) rfl ?_
  refine n_aload_n C dX8_init_12 rfl ?_
  refine n_pc (pc' := 13) rfl ?_
  refine n_bipush (z := 8) C dX8_init_13 rfl ?_
  refine n_newa (t0 := 0) (N := 8) (ty := .int) (a0 := (8, .inl (fun _ => iZ 0))) C dX8_init_15 rfl wc_3 rfl (fun _ => rfl) rfl (by decide) (Nat.le_of_ble_eq_true rfl) (Nat.le_of_ble_eq_true rfl) (Nat.le_of_ble_eq_true rfl) (fun q2 => ?_)
  refine n_putF (ci := 8) (N := 9) (T := TX8) (j := 1) (ty := (.array .int)) (fs := [.ref q1, .null, .null, .null, .int (iZ 0), .null, .null, .int (iZ 0), .int (iZ 0)]) (wr := (([(b, .inr (8, [.ref q1, .ref q2, .null, .null, .int (iZ 0), .null, .null, .int (iZ 0), .int (iZ 0)]))] ++ [(q1, .inl (f 3, 5, .inr (.inr (.inr (.inr (fun _ => none))))))]) ++ [(q2, .inl (f 0, 8, .inl (fun _ => iZ 0)))])) C hmn dX8_init_17 rfl rfl hinX8 (by decide) wc_78 tyX8_ok nmX8 rfl rfl (by decide +kernel) rfl rfl (Nat.le_of_ble_eq_true rfl) rfl ?_
  refine n_aload_n C dX8_init_20 rfl ?_
  refine n_bipush (z := 8) C dX8_init_21 rfl ?_
  refine n_newa (t0 := 0) (N := 8) (ty := .int) (a0 := (8, .inl (fun _ => iZ 0))) C dX8_init_23 rfl wc_3 rfl (fun _ => rfl) rfl (by decide) (Nat.le_of_ble_eq_true rfl) (Nat.le_of_ble_eq_true rfl) (Nat.le_of_ble_eq_true rfl) (fun q3 => ?_)
  refine n_putF (ci := 8) (N := 9) (T := TX8) (j := 2) (ty := (.array .int)) (fs := [.ref q1, .ref q2, .null, .null, .int (iZ 0), .null, .null, .int (iZ 0), .int (iZ 0)]) (wr := ((([(b, .inr (8, [.ref q1, .ref q2, .ref q3, .null, .int (iZ 0), .null, .null, .int (iZ 0), .int (iZ 0)]))] ++ [(q1, .inl (f 3, 5, .inr (.inr (.inr (.inr (fun _ => none))))))]) ++ [(q2, .inl (f 0, 8, .inl (fun _ => iZ 0)))]) ++ [(q3, .inl (f 0, 8, .inl (fun _ => iZ 0)))])) C hmn dX8_init_25 rfl rfl hinX8 (by decide) wc_79 tyX8_ok nmX8 rfl rfl (by decide +kernel) rfl rfl (Nat.le_of_ble_eq_true rfl) rfl ?_
  refine n_aload_n C dX8_init_28 rfl ?_
  refine n_pc (pc' := 29) rfl ?_
  refine n_bipush (z := 8) C dX8_init_29 rfl ?_
  refine n_newa (t0 := 0) (N := 8) (ty := .int) (a0 := (8, .inl (fun _ => iZ 0))) C dX8_init_31 rfl wc_3 rfl (fun _ => rfl) rfl (by decide) (Nat.le_of_ble_eq_true rfl) (Nat.le_of_ble_eq_true rfl) (Nat.le_of_ble_eq_true rfl) (fun q4 => ?_)
  refine n_putF (ci := 8) (N := 9) (T := TX8) (j := 3) (ty := (.array .int)) (fs := [.ref q1, .ref q2, .ref q3, .null, .int (iZ 0), .null, .null, .int (iZ 0), .int (iZ 0)]) (wr := (((([(b, .inr (8, [.ref q1, .ref q2, .ref q3, .ref q4, .int (iZ 0), .null, .null, .int (iZ 0), .int (iZ 0)]))] ++ [(q1, .inl (f 3, 5, .inr (.inr (.inr (.inr (fun _ => none))))))]) ++ [(q2, .inl (f 0, 8, .inl (fun _ => iZ 0)))]) ++ [(q3, .inl (f 0, 8, .inl (fun _ => iZ 0)))]) ++ [(q4, .inl (f 0, 8, .inl (fun _ => iZ 0)))])) C hmn dX8_init_33 rfl rfl hinX8 (by decide) wc_80 tyX8_ok nmX8 rfl rfl (by decide +kernel) rfl rfl (Nat.le_of_ble_eq_true rfl) rfl ?_
  refine n_aload_n C dX8_init_36 rfl ?_
  refine n_iconst (z := 0) C dX8_init_37 rfl ?_
  refine n_put (ci := 8) (N := 9) (T := TX8) (j := 4) (ty := .int) (fs := [.ref q1, .ref q2, .ref q3, .ref q4, .int (iZ 0), .null, .null, .int (iZ 0), .int (iZ 0)]) (wr := (((([(b, .inr (8, [.ref q1, .ref q2, .ref q3, .ref q4, .int (iZ 0), .null, .null, .int (iZ 0), .int (iZ 0)]))] ++ [(q1, .inl (f 3, 5, .inr (.inr (.inr (.inr (fun _ => none))))))]) ++ [(q2, .inl (f 0, 8, .inl (fun _ => iZ 0)))]) ++ [(q3, .inl (f 0, 8, .inl (fun _ => iZ 0)))]) ++ [(q4, .inl (f 0, 8, .inl (fun _ => iZ 0)))])) C dX8_init_38 rfl rfl hinX8 (by decide) wc_81 tyX8_ok nmX8 rfl (by decide +kernel) rfl rfl (Nat.le_of_ble_eq_true rfl) rfl ?_
  refine n_aload_n C dX8_init_41 rfl ?_
  refine n_bipush (z := 8) C dX8_init_42 rfl ?_
  refine n_pc (pc' := 44) rfl ?_
  refine n_newa (t0 := 0) (N := 8) (ty := .int) (a0 := (8, .inl (fun _ => iZ 0))) C dX8_init_44 rfl wc_3 rfl (fun _ => rfl) rfl (by decide) (Nat.le_of_ble_eq_true rfl) (Nat.le_of_ble_eq_true rfl) (Nat.le_of_ble_eq_true rfl) (fun q5 => ?_)
  refine n_putF (ci := 8) (N := 9) (T := TX8) (j := 5) (ty := (.array .int)) (fs := [.ref q1, .ref q2, .ref q3, .ref q4, .int (iZ 0), .null, .null, .int (iZ 0), .int (iZ 0)]) (wr := ((((([(b, .inr (8, [.ref q1, .ref q2, .ref q3, .ref q4, .int (iZ 0), .ref q5, .null, .int (iZ 0), .int (iZ 0)]))] ++ [(q1, .inl (f 3, 5, .inr (.inr (.inr (.inr (fun _ => none))))))]) ++ [(q2, .inl (f 0, 8, .inl (fun _ => iZ 0)))]) ++ [(q3, .inl (f 0, 8, .inl (fun _ => iZ 0)))]) ++ [(q4, .inl (f 0, 8, .inl (fun _ => iZ 0)))]) ++ [(q5, .inl (f 0, 8, .inl (fun _ => iZ 0)))])) C hmn dX8_init_46 rfl rfl hinX8 (by decide) wc_82 tyX8_ok nmX8 rfl rfl (by decide +kernel) rfl rfl (Nat.le_of_ble_eq_true rfl) rfl ?_
  refine n_aload_n C dX8_init_49 rfl ?_
  refine n_bipush (z := 8) C dX8_init_50 rfl ?_
  refine n_newa (t0 := 0) (N := 8) (ty := .int) (a0 := (8, .inl (fun _ => iZ 0))) C dX8_init_52 rfl wc_3 rfl (fun _ => rfl) rfl (by decide) (Nat.le_of_ble_eq_true rfl) (Nat.le_of_ble_eq_true rfl) (Nat.le_of_ble_eq_true rfl) (fun q6 => ?_)
  refine n_putF (ci := 8) (N := 9) (T := TX8) (j := 6) (ty := (.array .int)) (fs := [.ref q1, .ref q2, .ref q3, .ref q4, .int (iZ 0), .ref q5, .null, .int (iZ 0), .int (iZ 0)]) (wr := (((((([(b, .inr (8, [.ref q1, .ref q2, .ref q3, .ref q4, .int (iZ 0), .ref q5, .ref q6, .int (iZ 0), .int (iZ 0)]))] ++ [(q1, .inl (f 3, 5, .inr (.inr (.inr (.inr (fun _ => none))))))]) ++ [(q2, .inl (f 0, 8, .inl (fun _ => iZ 0)))]) ++ [(q3, .inl (f 0, 8, .inl (fun _ => iZ 0)))]) ++ [(q4, .inl (f 0, 8, .inl (fun _ => iZ 0)))]) ++ [(q5, .inl (f 0, 8, .inl (fun _ => iZ 0)))]) ++ [(q6, .inl (f 0, 8, .inl (fun _ => iZ 0)))])) C hmn dX8_init_54 rfl rfl hinX8 (by decide) wc_83 tyX8_ok nmX8 rfl rfl (by decide +kernel) rfl rfl (Nat.le_of_ble_eq_true rfl) rfl ?_
  refine n_aload_n C dX8_init_57 rfl ?_
  refine n_iconst (z := 0) C dX8_init_58 rfl ?_
  refine n_pc (pc' := 59) rfl ?_
  refine n_put (ci := 8) (N := 9) (T := TX8) (j := 7) (ty := .int) (fs := [.ref q1, .ref q2, .ref q3, .ref q4, .int (iZ 0), .ref q5, .ref q6, .int (iZ 0), .int (iZ 0)]) (wr := (((((([(b, .inr (8, [.ref q1, .ref q2, .ref q3, .ref q4, .int (iZ 0), .ref q5, .ref q6, .int (iZ 0), .int (iZ 0)]))] ++ [(q1, .inl (f 3, 5, .inr (.inr (.inr (.inr (fun _ => none))))))]) ++ [(q2, .inl (f 0, 8, .inl (fun _ => iZ 0)))]) ++ [(q3, .inl (f 0, 8, .inl (fun _ => iZ 0)))]) ++ [(q4, .inl (f 0, 8, .inl (fun _ => iZ 0)))]) ++ [(q5, .inl (f 0, 8, .inl (fun _ => iZ 0)))]) ++ [(q6, .inl (f 0, 8, .inl (fun _ => iZ 0)))])) C dX8_init_59 rfl rfl hinX8 (by decide) wc_84 tyX8_ok nmX8 rfl (by decide +kernel) rfl rfl (Nat.le_of_ble_eq_true rfl) rfl ?_
  refine n_aload_n C dX8_init_62 rfl ?_
  refine n_iconst (z := 1) C dX8_init_63 rfl ?_
  refine n_put (ci := 8) (N := 9) (T := TX8) (j := 8) (ty := .int) (fs := [.ref q1, .ref q2, .ref q3, .ref q4, .int (iZ 0), .ref q5, .ref q6, .int (iZ 0), .int (iZ 0)]) (wr := (((((([(b, .inr (8, [.ref q1, .ref q2, .ref q3, .ref q4, .int (iZ 0), .ref q5, .ref q6, .int (iZ 0), .int (iZ 1)]))] ++ [(q1, .inl (f 3, 5, .inr (.inr (.inr (.inr (fun _ => none))))))]) ++ [(q2, .inl (f 0, 8, .inl (fun _ => iZ 0)))]) ++ [(q3, .inl (f 0, 8, .inl (fun _ => iZ 0)))]) ++ [(q4, .inl (f 0, 8, .inl (fun _ => iZ 0)))]) ++ [(q5, .inl (f 0, 8, .inl (fun _ => iZ 0)))]) ++ [(q6, .inl (f 0, 8, .inl (fun _ => iZ 0)))])) C dX8_init_64 rfl rfl hinX8 (by decide) wc_85 tyX8_ok nmX8 rfl (by decide +kernel) rfl rfl (Nat.le_of_ble_eq_true rfl) rfl ?_
  refine n_iconst (z := 0) C dX8_init_67 rfl ?_
  refine n_istore_n (L' := [(1, .int (iZ 0)), (0, .ref b)]) C dX8_init_68 rfl (by decide) rfl ?_
  refine n_iload_n C dX8_init_69 rfl ?_
  refine n_iconst (z := 5) C dX8_init_70 rfl ?_
  refine n_pc (pc' := 71) rfl ?_
  refine n_ge_f (tgt := 93) C dX8_init_71 (by decide) (by unfold R32; omega) (by omega) ?_
  refine n_aload_n C dX8_init_74 rfl ?_
  refine n_get (ci := 8) (N := 9) (T := TX8) (j := 0) (v := .ref q1) (fs := [.ref q1, .ref q2, .ref q3, .ref q4, .int (iZ 0), .ref q5, .ref q6, .int (iZ 0), .int (iZ 1)]) C dX8_init_75 rfl rfl hinX8 (by decide) wc_77 rfl ?_
  refine n_iload_n C dX8_init_78 rfl ?_
  refine n_new (ci := 5) (N := 4) (K := RX5) (T := TX5) (ty := tyX5) (fs := [.null, .int (iZ 0), .int (iZ 0), .int (iZ 0)]) C dX8_init_79 rfl hinX5 tyX5_ok wc_76 wc_86 wc_87 (fun j hj => by rcases (show j = 0 ∨ j = 1 ∨ j = 2 ∨ j = 3 by omega) with rfl | rfl | rfl | rfl <;> rfl) (Nat.le_of_ble_eq_true rfl) (Nat.le_of_ble_eq_true rfl) (fun q7 => ?_)
  refine n_dup C dX8_init_82 rfl ?_
  refine n_init (n := 0) (As := []) (b := q7) (wr := (((((([(b, .inr (8, [.ref q1, .ref q2, .ref q3, .ref q4, .int (iZ 0), .ref q5, .ref q6, .int (iZ 0), .int (iZ 1)]))] ++ [(q1, .inl (f 3, 5, .inr (.inr (.inr (.inr (fun _ => none))))))]) ++ [(q2, .inl (f 0, 8, .inl (fun _ => iZ 0)))]) ++ [(q3, .inl (f 0, 8, .inl (fun _ => iZ 0)))]) ++ [(q4, .inl (f 0, 8, .inl (fun _ => iZ 0)))]) ++ [(q5, .inl (f 0, 8, .inl (fun _ => iZ 0)))]) ++ [(q6, .inl (f 0, 8, .inl (fun _ => iZ 0)))])) C (cn_X5_init D f (Ml M) q7 ) dX8_init_83 rfl rfl wc_88 wc_89 wc_87 wc_90 ⟨by decide +kernel, by decide +kernel, by decide +kernel⟩ rfl (by decide) (Nat.le_of_ble_eq_true rfl) rfl (Nat.le_of_ble_eq_true rfl) (Nat.le_of_ble_eq_true rfl) (fun u1 => ?_)
  refine n_ast (n := 5) (t0 := 3) (ci := 5) (j := 0) (K := RX5) (N := 4) (T := TX5) (g := (fun _ => none)) (wa := [(b, .inr (8, [.ref q1, .ref q2, .ref q3, .ref q4, .int (iZ 0), .ref q5, .ref q6, .int (iZ 0), .int (iZ 1)]))]) (wb := ([(q2, .inl (f 0, 8, .inl (fun _ => iZ 0)))] ++ ([(q3, .inl (f 0, 8, .inl (fun _ => iZ 0)))] ++ ([(q4, .inl (f 0, 8, .inl (fun _ => iZ 0)))] ++ ([(q5, .inl (f 0, 8, .inl (fun _ => iZ 0)))] ++ ([(q6, .inl (f 0, 8, .inl (fun _ => iZ 0)))] ++ (wX5 f q7 u1))))))) (wr := ((((((([(b, .inr (8, [.ref q1, .ref q2, .ref q3, .ref q4, .int (iZ 0), .ref q5, .ref q6, .int (iZ 0), .int (iZ 1)]))] ++ [(q1, .inl (f 3, 5, .inr (.inr (.inr (.inr (va_up (fun _ => none) 0 (some q7)))))))]) ++ [(q2, .inl (f 0, 8, .inl (fun _ => iZ 0)))]) ++ [(q3, .inl (f 0, 8, .inl (fun _ => iZ 0)))]) ++ [(q4, .inl (f 0, 8, .inl (fun _ => iZ 0)))]) ++ [(q5, .inl (f 0, 8, .inl (fun _ => iZ 0)))]) ++ [(q6, .inl (f 0, 8, .inl (fun _ => iZ 0)))]) ++ (wX5 f q7 u1))) C dX8_init_86 (by simp only [List.append_assoc, List.cons_append, List.nil_append]) rfl (List.mem_append_right _ (List.mem_of_getElem? (i := 0) rfl)) rfl rfl (by decide) (by decide) rfl (by simp only [List.append_assoc, List.cons_append, List.nil_append]) ?_
  refine n_pc (pc' := 87) rfl ?_
  refine n_iinc (q := 0) (v := 1) (L' := [(1, .int (iZ 1)), (0, .ref b)]) C dX8_init_87 rfl rfl (by decide) rfl ?_
  refine n_goto (tgt := 69) C dX8_init_90 (by decide) ?_
  refine n_iload_n C dX8_init_69 rfl ?_
  refine n_iconst (z := 5) C dX8_init_70 rfl ?_
  refine n_ge_f (tgt := 93) C dX8_init_71 (by decide) (by unfold R32; omega) (by omega) ?_
  refine n_aload_n C dX8_init_74 rfl ?_
  refine n_get (ci := 8) (N := 9) (T := TX8) (j := 0) (v := .ref q1) (fs := [.ref q1, .ref q2, .ref q3, .ref q4, .int (iZ 0), .ref q5, .ref q6, .int (iZ 0), .int (iZ 1)]) C dX8_init_75 rfl rfl hinX8 (by decide) wc_77 rfl ?_
  refine n_iload_n C dX8_init_78 rfl ?_
  refine n_pc (pc' := 79) rfl ?_
  refine n_new (ci := 5) (N := 4) (K := RX5) (T := TX5) (ty := tyX5) (fs := [.null, .int (iZ 0), .int (iZ 0), .int (iZ 0)]) C dX8_init_79 rfl hinX5 tyX5_ok wc_76 wc_86 wc_87 (fun j hj => by rcases (show j = 0 ∨ j = 1 ∨ j = 2 ∨ j = 3 by omega) with rfl | rfl | rfl | rfl <;> rfl) (Nat.le_of_ble_eq_true rfl) (Nat.le_of_ble_eq_true rfl) (fun q8 => ?_)
  refine n_dup C dX8_init_82 rfl ?_
  refine n_init (n := 0) (As := []) (b := q8) (wr := ((((((([(b, .inr (8, [.ref q1, .ref q2, .ref q3, .ref q4, .int (iZ 0), .ref q5, .ref q6, .int (iZ 0), .int (iZ 1)]))] ++ [(q1, .inl (f 3, 5, .inr (.inr (.inr (.inr (va_up (fun _ => none) 0 (some q7)))))))]) ++ [(q2, .inl (f 0, 8, .inl (fun _ => iZ 0)))]) ++ [(q3, .inl (f 0, 8, .inl (fun _ => iZ 0)))]) ++ [(q4, .inl (f 0, 8, .inl (fun _ => iZ 0)))]) ++ [(q5, .inl (f 0, 8, .inl (fun _ => iZ 0)))]) ++ [(q6, .inl (f 0, 8, .inl (fun _ => iZ 0)))]) ++ (wX5 f q7 u1))) C (cn_X5_init D f (Ml M) q8 ) dX8_init_83 rfl rfl wc_88 wc_89 wc_87 wc_90 ⟨by decide +kernel, by decide +kernel, by decide +kernel⟩ rfl (by decide) (Nat.le_of_ble_eq_true rfl) rfl (Nat.le_of_ble_eq_true rfl) (Nat.le_of_ble_eq_true rfl) (fun u2 => ?_)
  refine n_ast (n := 5) (t0 := 3) (ci := 5) (j := 1) (K := RX5) (N := 4) (T := TX5) (g := (va_up (fun _ => none) 0 (some q7))) (wa := [(b, .inr (8, [.ref q1, .ref q2, .ref q3, .ref q4, .int (iZ 0), .ref q5, .ref q6, .int (iZ 0), .int (iZ 1)]))]) (wb := ([(q2, .inl (f 0, 8, .inl (fun _ => iZ 0)))] ++ ([(q3, .inl (f 0, 8, .inl (fun _ => iZ 0)))] ++ ([(q4, .inl (f 0, 8, .inl (fun _ => iZ 0)))] ++ ([(q5, .inl (f 0, 8, .inl (fun _ => iZ 0)))] ++ ([(q6, .inl (f 0, 8, .inl (fun _ => iZ 0)))] ++ ((wX5 f q7 u1) ++ (wX5 f q8 u2)))))))) (wr := (((((((([(b, .inr (8, [.ref q1, .ref q2, .ref q3, .ref q4, .int (iZ 0), .ref q5, .ref q6, .int (iZ 0), .int (iZ 1)]))] ++ [(q1, .inl (f 3, 5, .inr (.inr (.inr (.inr (va_up (va_up (fun _ => none) 0 (some q7)) 1 (some q8)))))))]) ++ [(q2, .inl (f 0, 8, .inl (fun _ => iZ 0)))]) ++ [(q3, .inl (f 0, 8, .inl (fun _ => iZ 0)))]) ++ [(q4, .inl (f 0, 8, .inl (fun _ => iZ 0)))]) ++ [(q5, .inl (f 0, 8, .inl (fun _ => iZ 0)))]) ++ [(q6, .inl (f 0, 8, .inl (fun _ => iZ 0)))]) ++ (wX5 f q7 u1)) ++ (wX5 f q8 u2))) C dX8_init_86 (by simp only [List.append_assoc, List.cons_append, List.nil_append]) rfl (List.mem_append_right _ (List.mem_of_getElem? (i := 0) rfl)) rfl rfl (by decide) (by decide) rfl (by simp only [List.append_assoc, List.cons_append, List.nil_append]) ?_
  refine n_iinc (q := 0) (v := 2) (L' := [(1, .int (iZ 2)), (0, .ref b)]) C dX8_init_87 rfl rfl (by decide) rfl ?_
  refine n_goto (tgt := 69) C dX8_init_90 (by decide) ?_
  refine n_iload_n C dX8_init_69 rfl ?_
  refine n_iconst (z := 5) C dX8_init_70 rfl ?_
  refine n_pc (pc' := 71) rfl ?_
  refine n_ge_f (tgt := 93) C dX8_init_71 (by decide) (by unfold R32; omega) (by omega) ?_
  refine n_aload_n C dX8_init_74 rfl ?_
  refine n_get (ci := 8) (N := 9) (T := TX8) (j := 0) (v := .ref q1) (fs := [.ref q1, .ref q2, .ref q3, .ref q4, .int (iZ 0), .ref q5, .ref q6, .int (iZ 0), .int (iZ 1)]) C dX8_init_75 rfl rfl hinX8 (by decide) wc_77 rfl ?_
  refine n_iload_n C dX8_init_78 rfl ?_
  refine n_new (ci := 5) (N := 4) (K := RX5) (T := TX5) (ty := tyX5) (fs := [.null, .int (iZ 0), .int (iZ 0), .int (iZ 0)]) C dX8_init_79 rfl hinX5 tyX5_ok wc_76 wc_86 wc_87 (fun j hj => by rcases (show j = 0 ∨ j = 1 ∨ j = 2 ∨ j = 3 by omega) with rfl | rfl | rfl | rfl <;> rfl) (Nat.le_of_ble_eq_true rfl) (Nat.le_of_ble_eq_true rfl) (fun q9 => ?_)
  refine n_dup C dX8_init_82 rfl ?_
  refine n_init (n := 0) (As := []) (b := q9) (wr := (((((((([(b, .inr (8, [.ref q1, .ref q2, .ref q3, .ref q4, .int (iZ 0), .ref q5, .ref q6, .int (iZ 0), .int (iZ 1)]))] ++ [(q1, .inl (f 3, 5, .inr (.inr (.inr (.inr (va_up (va_up (fun _ => none) 0 (some q7)) 1 (some q8)))))))]) ++ [(q2, .inl (f 0, 8, .inl (fun _ => iZ 0)))]) ++ [(q3, .inl (f 0, 8, .inl (fun _ => iZ 0)))]) ++ [(q4, .inl (f 0, 8, .inl (fun _ => iZ 0)))]) ++ [(q5, .inl (f 0, 8, .inl (fun _ => iZ 0)))]) ++ [(q6, .inl (f 0, 8, .inl (fun _ => iZ 0)))]) ++ (wX5 f q7 u1)) ++ (wX5 f q8 u2))) C (cn_X5_init D f (Ml M) q9 ) dX8_init_83 rfl rfl wc_88 wc_89 wc_87 wc_90 ⟨by decide +kernel, by decide +kernel, by decide +kernel⟩ rfl (by decide) (Nat.le_of_ble_eq_true rfl) rfl (Nat.le_of_ble_eq_true rfl) (Nat.le_of_ble_eq_true rfl) (fun u3 => ?_)
  refine n_ast (n := 5) (t0 := 3) (ci := 5) (j := 2) (K := RX5) (N := 4) (T := TX5) (g := (va_up (va_up (fun _ => none) 0 (some q7)) 1 (some q8))) (wa := [(b, .inr (8, [.ref q1, .ref q2, .ref q3, .ref q4, .int (iZ 0), .ref q5, .ref q6, .int (iZ 0), .int (iZ 1)]))]) (wb := ([(q2, .inl (f 0, 8, .inl (fun _ => iZ 0)))] ++ ([(q3, .inl (f 0, 8, .inl (fun _ => iZ 0)))] ++ ([(q4, .inl (f 0, 8, .inl (fun _ => iZ 0)))] ++ ([(q5, .inl (f 0, 8, .inl (fun _ => iZ 0)))] ++ ([(q6, .inl (f 0, 8, .inl (fun _ => iZ 0)))] ++ ((wX5 f q7 u1) ++ ((wX5 f q8 u2) ++ (wX5 f q9 u3))))))))) (wr := ((((((((([(b, .inr (8, [.ref q1, .ref q2, .ref q3, .ref q4, .int (iZ 0), .ref q5, .ref q6, .int (iZ 0), .int (iZ 1)]))] ++ [(q1, .inl (f 3, 5, .inr (.inr (.inr (.inr (va_up (va_up (va_up (fun _ => none) 0 (some q7)) 1 (some q8)) 2 (some q9)))))))]) ++ [(q2, .inl (f 0, 8, .inl (fun _ => iZ 0)))]) ++ [(q3, .inl (f 0, 8, .inl (fun _ => iZ 0)))]) ++ [(q4, .inl (f 0, 8, .inl (fun _ => iZ 0)))]) ++ [(q5, .inl (f 0, 8, .inl (fun _ => iZ 0)))]) ++ [(q6, .inl (f 0, 8, .inl (fun _ => iZ 0)))]) ++ (wX5 f q7 u1)) ++ (wX5 f q8 u2)) ++ (wX5 f q9 u3))) C dX8_init_86 (by simp only [List.append_assoc, List.cons_append, List.nil_append]) rfl (List.mem_append_right _ (List.mem_of_getElem? (i := 0) rfl)) rfl rfl (by decide) (by decide) rfl (by simp only [List.append_assoc, List.cons_append, List.nil_append]) ?_
  refine n_pc (pc' := 87) rfl ?_
  refine n_iinc (q := 0) (v := 3) (L' := [(1, .int (iZ 3)), (0, .ref b)]) C dX8_init_87 rfl rfl (by decide) rfl ?_
  refine n_goto (tgt := 69) C dX8_init_90 (by decide) ?_
  refine n_iload_n C dX8_init_69 rfl ?_
  refine n_iconst (z := 5) C dX8_init_70 rfl ?_
  refine n_ge_f (tgt := 93) C dX8_init_71 (by decide) (by unfold R32; omega) (by omega) ?_
  refine n_aload_n C dX8_init_74 rfl ?_
  refine n_get (ci := 8) (N := 9) (T := TX8) (j := 0) (v := .ref q1) (fs := [.ref q1, .ref q2, .ref q3, .ref q4, .int (iZ 0), .ref q5, .ref q6, .int (iZ 0), .int (iZ 1)]) C dX8_init_75 rfl rfl hinX8 (by decide) wc_77 rfl ?_
  refine n_iload_n C dX8_init_78 rfl ?_
  refine n_pc (pc' := 79) rfl ?_
  refine n_new (ci := 5) (N := 4) (K := RX5) (T := TX5) (ty := tyX5) (fs := [.null, .int (iZ 0), .int (iZ 0), .int (iZ 0)]) C dX8_init_79 rfl hinX5 tyX5_ok wc_76 wc_86 wc_87 (fun j hj => by rcases (show j = 0 ∨ j = 1 ∨ j = 2 ∨ j = 3 by omega) with rfl | rfl | rfl | rfl <;> rfl) (Nat.le_of_ble_eq_true rfl) (Nat.le_of_ble_eq_true rfl) (fun q10 => ?_)
  refine n_dup C dX8_init_82 rfl ?_
  refine n_init (n := 0) (As := []) (b := q10) (wr := ((((((((([(b, .inr (8, [.ref q1, .ref q2, .ref q3, .ref q4, .int (iZ 0), .ref q5, .ref q6, .int (iZ 0), .int (iZ 1)]))] ++ [(q1, .inl (f 3, 5, .inr (.inr (.inr (.inr (va_up (va_up (va_up (fun _ => none) 0 (some q7)) 1 (some q8)) 2 (some q9)))))))]) ++ [(q2, .inl (f 0, 8, .inl (fun _ => iZ 0)))]) ++ [(q3, .inl (f 0, 8, .inl (fun _ => iZ 0)))]) ++ [(q4, .inl (f 0, 8, .inl (fun _ => iZ 0)))]) ++ [(q5, .inl (f 0, 8, .inl (fun _ => iZ 0)))]) ++ [(q6, .inl (f 0, 8, .inl (fun _ => iZ 0)))]) ++ (wX5 f q7 u1)) ++ (wX5 f q8 u2)) ++ (wX5 f q9 u3))) C (cn_X5_init D f (Ml M) q10 ) dX8_init_83 rfl rfl wc_88 wc_89 wc_87 wc_90 ⟨by decide +kernel, by decide +kernel, by decide +kernel⟩ rfl (by decide) (Nat.le_of_ble_eq_true rfl) rfl (Nat.le_of_ble_eq_true rfl) (Nat.le_of_ble_eq_true rfl) (fun u4 => ?_)
  refine n_ast (n := 5) (t0 := 3) (ci := 5) (j := 3) (K := RX5) (N := 4) (T := TX5) (g := (va_up (va_up (va_up (fun _ => none) 0 (some q7)) 1 (some q8)) 2 (some q9))) (wa := [(b, .inr (8, [.ref q1, .ref q2, .ref q3, .ref q4, .int (iZ 0), .ref q5, .ref q6, .int (iZ 0), .int (iZ 1)]))]) (wb := ([(q2, .inl (f 0, 8, .inl (fun _ => iZ 0)))] ++ ([(q3, .inl (f 0, 8, .inl (fun _ => iZ 0)))] ++ ([(q4, .inl (f 0, 8, .inl (fun _ => iZ 0)))] ++ ([(q5, .inl (f 0, 8, .inl (fun _ => iZ 0)))] ++ ([(q6, .inl (f 0, 8, .inl (fun _ => iZ 0)))] ++ ((wX5 f q7 u1) ++ ((wX5 f q8 u2) ++ ((wX5 f q9 u3) ++ (wX5 f q10 u4)))))))))) (wr := (((((((((([(b, .inr (8, [.ref q1, .ref q2, .ref q3, .ref q4, .int (iZ 0), .ref q5, .ref q6, .int (iZ 0), .int (iZ 1)]))] ++ [(q1, .inl (f 3, 5, .inr (.inr (.inr (.inr (va_up (va_up (va_up (va_up (fun _ => none) 0 (some q7)) 1 (some q8)) 2 (some q9)) 3 (some q10)))))))]) ++ [(q2, .inl (f 0, 8, .inl (fun _ => iZ 0)))]) ++ [(q3, .inl (f 0, 8, .inl (fun _ => iZ 0)))]) ++ [(q4, .inl (f 0, 8, .inl (fun _ => iZ 0)))]) ++ [(q5, .inl (f 0, 8, .inl (fun _ => iZ 0)))]) ++ [(q6, .inl (f 0, 8, .inl (fun _ => iZ 0)))]) ++ (wX5 f q7 u1)) ++ (wX5 f q8 u2)) ++ (wX5 f q9 u3)) ++ (wX5 f q10 u4))) C dX8_init_86 (by simp only [List.append_assoc, List.cons_append, List.nil_append]) rfl (List.mem_append_right _ (List.mem_of_getElem? (i := 0) rfl)) rfl rfl (by decide) (by decide) rfl (by simp only [List.append_assoc, List.cons_append, List.nil_append]) ?_
  refine n_iinc (q := 0) (v := 4) (L' := [(1, .int (iZ 4)), (0, .ref b)]) C dX8_init_87 rfl rfl (by decide) rfl ?_
  refine n_goto (tgt := 69) C dX8_init_90 (by decide) ?_
  refine n_iload_n C dX8_init_69 rfl ?_
  refine n_iconst (z := 5) C dX8_init_70 rfl ?_
  refine n_pc (pc' := 71) rfl ?_
  refine n_ge_f (tgt := 93) C dX8_init_71 (by decide) (by unfold R32; omega) (by omega) ?_
  refine n_aload_n C dX8_init_74 rfl ?_
  refine n_get (ci := 8) (N := 9) (T := TX8) (j := 0) (v := .ref q1) (fs := [.ref q1, .ref q2, .ref q3, .ref q4, .int (iZ 0), .ref q5, .ref q6, .int (iZ 0), .int (iZ 1)]) C dX8_init_75 rfl rfl hinX8 (by decide) wc_77 rfl ?_
  refine n_iload_n C dX8_init_78 rfl ?_
  refine n_new (ci := 5) (N := 4) (K := RX5) (T := TX5) (ty := tyX5) (fs := [.null, .int (iZ 0), .int (iZ 0), .int (iZ 0)]) C dX8_init_79 rfl hinX5 tyX5_ok wc_76 wc_86 wc_87 (fun j hj => by rcases (show j = 0 ∨ j = 1 ∨ j = 2 ∨ j = 3 by omega) with rfl | rfl | rfl | rfl <;> rfl) (Nat.le_of_ble_eq_true rfl) (Nat.le_of_ble_eq_true rfl) (fun q11 => ?_)
  refine n_dup C dX8_init_82 rfl ?_
  refine n_init (n := 0) (As := []) (b := q11) (wr := (((((((((([(b, .inr (8, [.ref q1, .ref q2, .ref q3, .ref q4, .int (iZ 0), .ref q5, .ref q6, .int (iZ 0), .int (iZ 1)]))] ++ [(q1, .inl (f 3, 5, .inr (.inr (.inr (.inr (va_up (va_up (va_up (va_up (fun _ => none) 0 (some q7)) 1 (some q8)) 2 (some q9)) 3 (some q10)))))))]) ++ [(q2, .inl (f 0, 8, .inl (fun _ => iZ 0)))]) ++ [(q3, .inl (f 0, 8, .inl (fun _ => iZ 0)))]) ++ [(q4, .inl (f 0, 8, .inl (fun _ => iZ 0)))]) ++ [(q5, .inl (f 0, 8, .inl (fun _ => iZ 0)))]) ++ [(q6, .inl (f 0, 8, .inl (fun _ => iZ 0)))]) ++ (wX5 f q7 u1)) ++ (wX5 f q8 u2)) ++ (wX5 f q9 u3)) ++ (wX5 f q10 u4))) C (cn_X5_init D f (Ml M) q11 ) dX8_init_83 rfl rfl wc_88 wc_89 wc_87 wc_90 ⟨by decide +kernel, by decide +kernel, by decide +kernel⟩ rfl (by decide) (Nat.le_of_ble_eq_true rfl) rfl (Nat.le_of_ble_eq_true rfl) (Nat.le_of_ble_eq_true rfl) (fun u5 => ?_)
  refine n_ast (n := 5) (t0 := 3) (ci := 5) (j := 4) (K := RX5) (N := 4) (T := TX5) (g := (va_up (va_up (va_up (va_up (fun _ => none) 0 (some q7)) 1 (some q8)) 2 (some q9)) 3 (some q10))) (wa := [(b, .inr (8, [.ref q1, .ref q2, .ref q3, .ref q4, .int (iZ 0), .ref q5, .ref q6, .int (iZ 0), .int (iZ 1)]))]) (wb := ([(q2, .inl (f 0, 8, .inl (fun _ => iZ 0)))] ++ ([(q3, .inl (f 0, 8, .inl (fun _ => iZ 0)))] ++ ([(q4, .inl (f 0, 8, .inl (fun _ => iZ 0)))] ++ ([(q5, .inl (f 0, 8, .inl (fun _ => iZ 0)))] ++ ([(q6, .inl (f 0, 8, .inl (fun _ => iZ 0)))] ++ ((wX5 f q7 u1) ++ ((wX5 f q8 u2) ++ ((wX5 f q9 u3) ++ ((wX5 f q10 u4) ++ (wX5 f q11 u5))))))))))) (wr := ((((((((((([(b, .inr (8, [.ref q1, .ref q2, .ref q3, .ref q4, .int (iZ 0), .ref q5, .ref q6, .int (iZ 0), .int (iZ 1)]))] ++ [(q1, .inl (f 3, 5, .inr (.inr (.inr (.inr (va_up (va_up (va_up (va_up (va_up (fun _ => none) 0 (some q7)) 1 (some q8)) 2 (some q9)) 3 (some q10)) 4 (some q11)))))))]) ++ [(q2, .inl (f 0, 8, .inl (fun _ => iZ 0)))]) ++ [(q3, .inl (f 0, 8, .inl (fun _ => iZ 0)))]) ++ [(q4, .inl (f 0, 8, .inl (fun _ => iZ 0)))]) ++ [(q5, .inl (f 0, 8, .inl (fun _ => iZ 0)))]) ++ [(q6, .inl (f 0, 8, .inl (fun _ => iZ 0)))]) ++ (wX5 f q7 u1)) ++ (wX5 f q8 u2)) ++ (wX5 f q9 u3)) ++ (wX5 f q10 u4)) ++ (wX5 f q11 u5))) C dX8_init_86 (by simp only [List.append_assoc, List.cons_append, List.nil_append]) rfl (List.mem_append_right _ (List.mem_of_getElem? (i := 0) rfl)) rfl rfl (by decide) (by decide) rfl (by simp only [List.append_assoc, List.cons_append, List.nil_append]) ?_
  refine n_pc (pc' := 87) rfl ?_
  refine n_iinc (q := 0) (v := 5) (L' := [(1, .int (iZ 5)), (0, .ref b)]) C dX8_init_87 rfl rfl (by decide) rfl ?_
  refine n_goto (tgt := 69) C dX8_init_90 (by decide) ?_
  refine n_iload_n C dX8_init_69 rfl ?_
  refine n_iconst (z := 5) C dX8_init_70 rfl ?_
  refine n_ge_t (tgt := 93) C dX8_init_71 (by decide) (by unfold R32; omega) (by omega) ?_
  exact n_ret C hrt hlk dX8_init_93 (fun i => ([fun j => ([q1, q2, q3, q4, q5, q6, q7, q8, q9, q10, q11] : List Nat).getD j 0, u1, u2, u3, u4, u5] : List (Nat → Nat)).getD i (fun _ => 0)) rfl (Nat.le_of_ble_eq_true rfl) (Nat.le_of_ble_eq_true rfl)

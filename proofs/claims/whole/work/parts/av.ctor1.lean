section CTOR
variable {d : Nat} {c : Nat → jE}
set_option maxRecDepth 100000 in
theorem k_X4_init_16 (hs : c 16 = .inr (4, [.null, .int 0, .null, .int 0, .int 0, .int 0, .int 0]))  : jMet (d + 1) yX4_init cX4_init 1 none 2 240 [.ref 16] (17, c) (fun r w => r = none ∧ w = (19, va_up (va_up (va_up (va_up (va_up (va_up (va_up (va_up (va_up (c) 17 (.inl (0, 120, .inl fun _ => 0))) 16 (.inr (4, [.ref 17, .int 0, .null, .int 0, .int 0, .int 0, .int 0]))) 16 (.inr (4, [.ref 17, .int (nI 0), .null, .int 0, .int 0, .int 0, .int 0]))) 18 (.inl (0, 120, .inl fun _ => 0))) 16 (.inr (4, [.ref 17, .int (nI 0), .ref 18, .int 0, .int 0, .int 0, .int 0]))) 16 (.inr (4, [.ref 17, .int (nI 0), .ref 18, .int (nI 0), .int 0, .int 0, .int 0]))) 16 (.inr (4, [.ref 17, .int (nI 0), .ref 18, .int (nI 0), .int (nI 0), .int 0, .int 0]))) 16 (.inr (4, [.ref 17, .int (nI 0), .ref 18, .int (nI 0), .int (nI 0), .int (nI 1), .int 0]))) 16 (.inr (4, [.ref 17, .int (nI 0), .ref 18, .int (nI 0), .int (nI 0), .int (nI 1), .int (nI 0)])))) := by
  refine jMet_of (by decide) (Nat.le_of_ble_eq_true rfl) (some none) (Or.inr ⟨rfl, rfl⟩) ?_
  show jWP (some none) RX4 cX4_init 1 none (d + 1) 2 240 0 [some (.ref 16)] [] (17, c) (fun r w => r = none ∧ w = (19, va_up (va_up (va_up (va_up (va_up (va_up (va_up (va_up (va_up (c) 17 (.inl (0, 120, .inl fun _ => 0))) 16 (.inr (4, [.ref 17, .int 0, .null, .int 0, .int 0, .int 0, .int 0]))) 16 (.inr (4, [.ref 17, .int (nI 0), .null, .int 0, .int 0, .int 0, .int 0]))) 18 (.inl (0, 120, .inl fun _ => 0))) 16 (.inr (4, [.ref 17, .int (nI 0), .ref 18, .int 0, .int 0, .int 0, .int 0]))) 16 (.inr (4, [.ref 17, .int (nI 0), .ref 18, .int (nI 0), .int 0, .int 0, .int 0]))) 16 (.inr (4, [.ref 17, .int (nI 0), .ref 18, .int (nI 0), .int (nI 0), .int 0, .int 0]))) 16 (.inr (4, [.ref 17, .int (nI 0), .ref 18, .int (nI 0), .int (nI 0), .int (nI 1), .int 0]))) 16 (.inr (4, [.ref 17, .int (nI 0), .ref 18, .int (nI 0), .int (nI 0), .int (nI 1), .int (nI 0)]))))
  refine j_aload_n (i := 0) dX4_init_0 rfl rfl ?_
  refine j_objInit dX4_init_1 jlo_X4_3 (Nat.le_of_ble_eq_true rfl) ?_
  refine j_aload_n (i := 0) dX4_init_4 rfl rfl ?_
  refine j_bipush (v := nI 120) dX4_init_5 rfl ?_
  refine j_newarr_i (N := 120) (bc := 1) (bs := 120) dX4_init_7 jw_arr_int (by decide) (nI_clamp (by decide)) (Nat.le_of_ble_eq_true rfl) ?_
  refine j_putfinal rfl dX4_init_9 jfl_X4_11 rfl hs (fun _ => rfl) (fun _ => rfl) (Nat.le_of_ble_eq_true rfl) ?_
  refine j_aload_n (i := 0) dX4_init_12 rfl rfl ?_
  refine j_iconst (v := nI 0) dX4_init_13 rfl ?_
  refine j_putfield dX4_init_14 jfl_X4_17 rfl (fun _ => rfl) (fun _ => rfl) (Nat.le_of_ble_eq_true rfl) ?_
  refine j_aload_n (i := 0) dX4_init_17 rfl rfl ?_
  refine j_bipush (v := nI 120) dX4_init_18 rfl ?_
  refine j_newarr_i (N := 120) (bc := 0) (bs := 0) dX4_init_20 jw_arr_int (by decide) (nI_clamp (by decide)) (Nat.le_of_ble_eq_true rfl) ?_
  refine j_putfinal rfl dX4_init_22 jfl_X4_21 rfl rfl (fun _ => rfl) (fun _ => rfl) (Nat.le_of_ble_eq_true rfl) ?_
  refine j_aload_n (i := 0) dX4_init_25 rfl rfl ?_
  refine j_iconst (v := nI 0) dX4_init_26 rfl ?_
  refine j_putfield dX4_init_27 jfl_X4_24 rfl (fun _ => rfl) (fun _ => rfl) (Nat.le_of_ble_eq_true rfl) ?_
  refine j_aload_n (i := 0) dX4_init_30 rfl rfl ?_
  refine j_iconst (v := nI 0) dX4_init_31 rfl ?_
  refine j_putfield dX4_init_32 jfl_X4_27 rfl (fun _ => rfl) (fun _ => rfl) (Nat.le_of_ble_eq_true rfl) ?_
  refine j_aload_n (i := 0) dX4_init_35 rfl rfl ?_
  refine j_iconst (v := nI 1) dX4_init_36 rfl ?_
  refine j_putfield dX4_init_37 jfl_X4_30 rfl (fun _ => rfl) (fun _ => rfl) (Nat.le_of_ble_eq_true rfl) ?_
  refine j_aload_n (i := 0) dX4_init_40 rfl rfl ?_
  refine j_iconst (v := nI 0) dX4_init_41 rfl ?_
  refine j_putfield dX4_init_42 jfl_X4_34 rfl (fun _ => rfl) (fun _ => rfl) (Nat.le_of_ble_eq_true rfl) ?_
  exact j_return dX4_init_45 rfl ⟨rfl, rfl⟩
set_option maxRecDepth 100000 in
theorem k_X3_init_19 (hs : c 19 = .inr (3, [.null, .null, .int 0, .null, .null, .null, .int 0, .int 0, .int 0, .null, .null]))  : jMet (d + 1) yX3_init cX3_init 1 none 7 549 [.ref 19] (20, c) (fun r w => r = none ∧ w = (27, va_up (va_up (va_up (va_up (va_up (va_up (va_up (va_up (va_up (va_up (va_up (va_up (va_up (va_up (va_up (va_up (va_up (va_up (c) 20 (.inl (0, 120, .inl fun _ => 0))) 19 (.inr (3, [.ref 20, .null, .int 0, .null, .null, .null, .int 0, .int 0, .int 0, .null, .null]))) 21 (.inl (0, 120, .inl fun _ => 0))) 19 (.inr (3, [.ref 20, .ref 21, .int 0, .null, .null, .null, .int 0, .int 0, .int 0, .null, .null]))) 19 (.inr (3, [.ref 20, .ref 21, .int (nI 0), .null, .null, .null, .int 0, .int 0, .int 0, .null, .null]))) 22 (.inl (0, 61, .inl fun _ => 0))) 19 (.inr (3, [.ref 20, .ref 21, .int (nI 0), .ref 22, .null, .null, .int 0, .int 0, .int 0, .null, .null]))) 23 (.inl (0, 61, .inl fun _ => 0))) 19 (.inr (3, [.ref 20, .ref 21, .int (nI 0), .ref 22, .ref 23, .null, .int 0, .int 0, .int 0, .null, .null]))) 24 (.inl (0, 61, .inl fun _ => 0))) 19 (.inr (3, [.ref 20, .ref 21, .int (nI 0), .ref 22, .ref 23, .ref 24, .int 0, .int 0, .int 0, .null, .null]))) 19 (.inr (3, [.ref 20, .ref 21, .int (nI 0), .ref 22, .ref 23, .ref 24, .int (nI 0), .int 0, .int 0, .null, .null]))) 19 (.inr (3, [.ref 20, .ref 21, .int (nI 0), .ref 22, .ref 23, .ref 24, .int (nI 0), .int (nI 0), .int 0, .null, .null]))) 19 (.inr (3, [.ref 20, .ref 21, .int (nI 0), .ref 22, .ref 23, .ref 24, .int (nI 0), .int (nI 0), .int (nI 0), .null, .null]))) 25 (.inl (0, 6, .inl fun _ => 0))) 19 (.inr (3, [.ref 20, .ref 21, .int (nI 0), .ref 22, .ref 23, .ref 24, .int (nI 0), .int (nI 0), .int (nI 0), .ref 25, .null]))) 26 (.inl (0, 120, .inl fun _ => 0))) 19 (.inr (3, [.ref 20, .ref 21, .int (nI 0), .ref 22, .ref 23, .ref 24, .int (nI 0), .int (nI 0), .int (nI 0), .ref 25, .ref 26])))) := by
  refine jMet_of (by decide) (Nat.le_of_ble_eq_true rfl) (some none) (Or.inr ⟨rfl, rfl⟩) ?_
  show jWP (some none) RX3 cX3_init 1 none (d + 1) 7 549 0 [some (.ref 19)] [] (20, c) (fun r w => r = none ∧ w = (27, va_up (va_up (va_up (va_up (va_up (va_up (va_up (va_up (va_up (va_up (va_up (va_up (va_up (va_up (va_up (va_up (va_up (va_up (c) 20 (.inl (0, 120, .inl fun _ => 0))) 19 (.inr (3, [.ref 20, .null, .int 0, .null, .null, .null, .int 0, .int 0, .int 0, .null, .null]))) 21 (.inl (0, 120, .inl fun _ => 0))) 19 (.inr (3, [.ref 20, .ref 21, .int 0, .null, .null, .null, .int 0, .int 0, .int 0, .null, .null]))) 19 (.inr (3, [.ref 20, .ref 21, .int (nI 0), .null, .null, .null, .int 0, .int 0, .int 0, .null, .null]))) 22 (.inl (0, 61, .inl fun _ => 0))) 19 (.inr (3, [.ref 20, .ref 21, .int (nI 0), .ref 22, .null, .null, .int 0, .int 0, .int 0, .null, .null]))) 23 (.inl (0, 61, .inl fun _ => 0))) 19 (.inr (3, [.ref 20, .ref 21, .int (nI 0), .ref 22, .ref 23, .null, .int 0, .int 0, .int 0, .null, .null]))) 24 (.inl (0, 61, .inl fun _ => 0))) 19 (.inr (3, [.ref 20, .ref 21, .int (nI 0), .ref 22, .ref 23, .ref 24, .int 0, .int 0, .int 0, .null, .null]))) 19 (.inr (3, [.ref 20, .ref 21, .int (nI 0), .ref 22, .ref 23, .ref 24, .int (nI 0), .int 0, .int 0, .null, .null]))) 19 (.inr (3, [.ref 20, .ref 21, .int (nI 0), .ref 22, .ref 23, .ref 24, .int (nI 0), .int (nI 0), .int 0, .null, .null]))) 19 (.inr (3, [.ref 20, .ref 21, .int (nI 0), .ref 22, .ref 23, .ref 24, .int (nI 0), .int (nI 0), .int (nI 0), .null, .null]))) 25 (.inl (0, 6, .inl fun _ => 0))) 19 (.inr (3, [.ref 20, .ref 21, .int (nI 0), .ref 22, .ref 23, .ref 24, .int (nI 0), .int (nI 0), .int (nI 0), .ref 25, .null]))) 26 (.inl (0, 120, .inl fun _ => 0))) 19 (.inr (3, [.ref 20, .ref 21, .int (nI 0), .ref 22, .ref 23, .ref 24, .int (nI 0), .int (nI 0), .int (nI 0), .ref 25, .ref 26]))))
  refine j_aload_n (i := 0) dX3_init_0 rfl rfl ?_
  refine j_objInit dX3_init_1 jlo_X3_1 (Nat.le_of_ble_eq_true rfl) ?_
  refine j_aload_n (i := 0) dX3_init_4 rfl rfl ?_
  refine j_bipush (v := nI 120) dX3_init_5 rfl ?_
  refine j_newarr_i (N := 120) (bc := 6) (bs := 429) dX3_init_7 jw_arr_int (by decide) (nI_clamp (by decide)) (Nat.le_of_ble_eq_true rfl) ?_
  refine j_putfinal rfl dX3_init_9 jfl_X3_9 rfl hs (fun _ => rfl) (fun _ => rfl) (Nat.le_of_ble_eq_true rfl) ?_
  refine j_aload_n (i := 0) dX3_init_12 rfl rfl ?_
  refine j_bipush (v := nI 120) dX3_init_13 rfl ?_
  refine j_newarr_i (N := 120) (bc := 5) (bs := 309) dX3_init_15 jw_arr_int (by decide) (nI_clamp (by decide)) (Nat.le_of_ble_eq_true rfl) ?_
  refine j_putfinal rfl dX3_init_17 jfl_X3_13 rfl rfl (fun _ => rfl) (fun _ => rfl) (Nat.le_of_ble_eq_true rfl) ?_
  refine j_aload_n (i := 0) dX3_init_20 rfl rfl ?_
  refine j_iconst (v := nI 0) dX3_init_21 rfl ?_
  refine j_putfield dX3_init_22 jfl_X3_16 rfl (fun _ => rfl) (fun _ => rfl) (Nat.le_of_ble_eq_true rfl) ?_
  refine j_aload_n (i := 0) dX3_init_25 rfl rfl ?_
  refine j_bipush (v := nI 61) dX3_init_26 rfl ?_
  refine j_newarr_i (N := 61) (bc := 4) (bs := 248) dX3_init_28 jw_arr_int (by decide) (nI_clamp (by decide)) (Nat.le_of_ble_eq_true rfl) ?_
  refine j_putfinal rfl dX3_init_30 jfl_X3_20 rfl rfl (fun _ => rfl) (fun _ => rfl) (Nat.le_of_ble_eq_true rfl) ?_
  refine j_aload_n (i := 0) dX3_init_33 rfl rfl ?_
  refine j_bipush (v := nI 61) dX3_init_34 rfl ?_
  refine j_newarr_i (N := 61) (bc := 3) (bs := 187) dX3_init_36 jw_arr_int (by decide) (nI_clamp (by decide)) (Nat.le_of_ble_eq_true rfl) ?_
  refine j_putfinal rfl dX3_init_38 jfl_X3_23 rfl rfl (fun _ => rfl) (fun _ => rfl) (Nat.le_of_ble_eq_true rfl) ?_
  refine j_aload_n (i := 0) dX3_init_41 rfl rfl ?_
  refine j_bipush (v := nI 61) dX3_init_42 rfl ?_
  refine j_newarr_i (N := 61) (bc := 2) (bs := 126) dX3_init_44 jw_arr_int (by decide) (nI_clamp (by decide)) (Nat.le_of_ble_eq_true rfl) ?_
  refine j_putfinal rfl dX3_init_46 jfl_X3_26 rfl rfl (fun _ => rfl) (fun _ => rfl) (Nat.le_of_ble_eq_true rfl) ?_
  refine j_aload_n (i := 0) dX3_init_49 rfl rfl ?_
  refine j_iconst (v := nI 0) dX3_init_50 rfl ?_
  refine j_putfield dX3_init_51 jfl_X3_29 rfl (fun _ => rfl) (fun _ => rfl) (Nat.le_of_ble_eq_true rfl) ?_
  refine j_aload_n (i := 0) dX3_init_54 rfl rfl ?_
  refine j_iconst (v := nI 0) dX3_init_55 rfl ?_
  refine j_putfield dX3_init_56 jfl_X3_32 rfl (fun _ => rfl) (fun _ => rfl) (Nat.le_of_ble_eq_true rfl) ?_
  refine j_aload_n (i := 0) dX3_init_59 rfl rfl ?_
  refine j_iconst (v := nI 0) dX3_init_60 rfl ?_
  refine j_putfield dX3_init_61 jfl_X3_35 rfl (fun _ => rfl) (fun _ => rfl) (Nat.le_of_ble_eq_true rfl) ?_
  refine j_aload_n (i := 0) dX3_init_64 rfl rfl ?_
  refine j_bipush (v := nI 6) dX3_init_65 rfl ?_
  refine j_newarr_i (N := 6) (bc := 1) (bs := 120) dX3_init_67 jw_arr_int (by decide) (nI_clamp (by decide)) (Nat.le_of_ble_eq_true rfl) ?_
  refine j_putfinal rfl dX3_init_69 jfl_X3_38 rfl rfl (fun _ => rfl) (fun _ => rfl) (Nat.le_of_ble_eq_true rfl) ?_
  refine j_aload_n (i := 0) dX3_init_72 rfl rfl ?_
  refine j_bipush (v := nI 120) dX3_init_73 rfl ?_
  refine j_newarr_i (N := 120) (bc := 0) (bs := 0) dX3_init_75 jw_arr_int (by decide) (nI_clamp (by decide)) (Nat.le_of_ble_eq_true rfl) ?_
  refine j_putfinal rfl dX3_init_77 jfl_X3_41 rfl rfl (fun _ => rfl) (fun _ => rfl) (Nat.le_of_ble_eq_true rfl) ?_
  exact j_return dX3_init_80 rfl ⟨rfl, rfl⟩
set_option maxRecDepth 100000 in
theorem k_X3_init_27 (hs : c 27 = .inr (3, [.null, .null, .int 0, .null, .null, .null, .int 0, .int 0, .int 0, .null, .null]))  : jMet (d + 1) yX3_init cX3_init 1 none 7 549 [.ref 27] (28, c) (fun r w => r = none ∧ w = (35, va_up (va_up (va_up (va_up (va_up (va_up (va_up (va_up (va_up (va_up (va_up (va_up (va_up (va_up (va_up (va_up (va_up (va_up (c) 28 (.inl (0, 120, .inl fun _ => 0))) 27 (.inr (3, [.ref 28, .null, .int 0, .null, .null, .null, .int 0, .int 0, .int 0, .null, .null]))) 29 (.inl (0, 120, .inl fun _ => 0))) 27 (.inr (3, [.ref 28, .ref 29, .int 0, .null, .null, .null, .int 0, .int 0, .int 0, .null, .null]))) 27 (.inr (3, [.ref 28, .ref 29, .int (nI 0), .null, .null, .null, .int 0, .int 0, .int 0, .null, .null]))) 30 (.inl (0, 61, .inl fun _ => 0))) 27 (.inr (3, [.ref 28, .ref 29, .int (nI 0), .ref 30, .null, .null, .int 0, .int 0, .int 0, .null, .null]))) 31 (.inl (0, 61, .inl fun _ => 0))) 27 (.inr (3, [.ref 28, .ref 29, .int (nI 0), .ref 30, .ref 31, .null, .int 0, .int 0, .int 0, .null, .null]))) 32 (.inl (0, 61, .inl fun _ => 0))) 27 (.inr (3, [.ref 28, .ref 29, .int (nI 0), .ref 30, .ref 31, .ref 32, .int 0, .int 0, .int 0, .null, .null]))) 27 (.inr (3, [.ref 28, .ref 29, .int (nI 0), .ref 30, .ref 31, .ref 32, .int (nI 0), .int 0, .int 0, .null, .null]))) 27 (.inr (3, [.ref 28, .ref 29, .int (nI 0), .ref 30, .ref 31, .ref 32, .int (nI 0), .int (nI 0), .int 0, .null, .null]))) 27 (.inr (3, [.ref 28, .ref 29, .int (nI 0), .ref 30, .ref 31, .ref 32, .int (nI 0), .int (nI 0), .int (nI 0), .null, .null]))) 33 (.inl (0, 6, .inl fun _ => 0))) 27 (.inr (3, [.ref 28, .ref 29, .int (nI 0), .ref 30, .ref 31, .ref 32, .int (nI 0), .int (nI 0), .int (nI 0), .ref 33, .null]))) 34 (.inl (0, 120, .inl fun _ => 0))) 27 (.inr (3, [.ref 28, .ref 29, .int (nI 0), .ref 30, .ref 31, .ref 32, .int (nI 0), .int (nI 0), .int (nI 0), .ref 33, .ref 34])))) := by
  refine jMet_of (by decide) (Nat.le_of_ble_eq_true rfl) (some none) (Or.inr ⟨rfl, rfl⟩) ?_
  show jWP (some none) RX3 cX3_init 1 none (d + 1) 7 549 0 [some (.ref 27)] [] (28, c) (fun r w => r = none ∧ w = (35, va_up (va_up (va_up (va_up (va_up (va_up (va_up (va_up (va_up (va_up (va_up (va_up (va_up (va_up (va_up (va_up (va_up (va_up (c) 28 (.inl (0, 120, .inl fun _ => 0))) 27 (.inr (3, [.ref 28, .null, .int 0, .null, .null, .null, .int 0, .int 0, .int 0, .null, .null]))) 29 (.inl (0, 120, .inl fun _ => 0))) 27 (.inr (3, [.ref 28, .ref 29, .int 0, .null, .null, .null, .int 0, .int 0, .int 0, .null, .null]))) 27 (.inr (3, [.ref 28, .ref 29, .int (nI 0), .null, .null, .null, .int 0, .int 0, .int 0, .null, .null]))) 30 (.inl (0, 61, .inl fun _ => 0))) 27 (.inr (3, [.ref 28, .ref 29, .int (nI 0), .ref 30, .null, .null, .int 0, .int 0, .int 0, .null, .null]))) 31 (.inl (0, 61, .inl fun _ => 0))) 27 (.inr (3, [.ref 28, .ref 29, .int (nI 0), .ref 30, .ref 31, .null, .int 0, .int 0, .int 0, .null, .null]))) 32 (.inl (0, 61, .inl fun _ => 0))) 27 (.inr (3, [.ref 28, .ref 29, .int (nI 0), .ref 30, .ref 31, .ref 32, .int 0, .int 0, .int 0, .null, .null]))) 27 (.inr (3, [.ref 28, .ref 29, .int (nI 0), .ref 30, .ref 31, .ref 32, .int (nI 0), .int 0, .int 0, .null, .null]))) 27 (.inr (3, [.ref 28, .ref 29, .int (nI 0), .ref 30, .ref 31, .ref 32, .int (nI 0), .int (nI 0), .int 0, .null, .null]))) 27 (.inr (3, [.ref 28, .ref 29, .int (nI 0), .ref 30, .ref 31, .ref 32, .int (nI 0), .int (nI 0), .int (nI 0), .null, .null]))) 33 (.inl (0, 6, .inl fun _ => 0))) 27 (.inr (3, [.ref 28, .ref 29, .int (nI 0), .ref 30, .ref 31, .ref 32, .int (nI 0), .int (nI 0), .int (nI 0), .ref 33, .null]))) 34 (.inl (0, 120, .inl fun _ => 0))) 27 (.inr (3, [.ref 28, .ref 29, .int (nI 0), .ref 30, .ref 31, .ref 32, .int (nI 0), .int (nI 0), .int (nI 0), .ref 33, .ref 34]))))
  refine j_aload_n (i := 0) dX3_init_0 rfl rfl ?_
  refine j_objInit dX3_init_1 jlo_X3_1 (Nat.le_of_ble_eq_true rfl) ?_
  refine j_aload_n (i := 0) dX3_init_4 rfl rfl ?_
  refine j_bipush (v := nI 120) dX3_init_5 rfl ?_
  refine j_newarr_i (N := 120) (bc := 6) (bs := 429) dX3_init_7 jw_arr_int (by decide) (nI_clamp (by decide)) (Nat.le_of_ble_eq_true rfl) ?_
  refine j_putfinal rfl dX3_init_9 jfl_X3_9 rfl hs (fun _ => rfl) (fun _ => rfl) (Nat.le_of_ble_eq_true rfl) ?_
  refine j_aload_n (i := 0) dX3_init_12 rfl rfl ?_
  refine j_bipush (v := nI 120) dX3_init_13 rfl ?_
  refine j_newarr_i (N := 120) (bc := 5) (bs := 309) dX3_init_15 jw_arr_int (by decide) (nI_clamp (by decide)) (Nat.le_of_ble_eq_true rfl) ?_
  refine j_putfinal rfl dX3_init_17 jfl_X3_13 rfl rfl (fun _ => rfl) (fun _ => rfl) (Nat.le_of_ble_eq_true rfl) ?_
  refine j_aload_n (i := 0) dX3_init_20 rfl rfl ?_
  refine j_iconst (v := nI 0) dX3_init_21 rfl ?_
  refine j_putfield dX3_init_22 jfl_X3_16 rfl (fun _ => rfl) (fun _ => rfl) (Nat.le_of_ble_eq_true rfl) ?_
  refine j_aload_n (i := 0) dX3_init_25 rfl rfl ?_
  refine j_bipush (v := nI 61) dX3_init_26 rfl ?_
  refine j_newarr_i (N := 61) (bc := 4) (bs := 248) dX3_init_28 jw_arr_int (by decide) (nI_clamp (by decide)) (Nat.le_of_ble_eq_true rfl) ?_
  refine j_putfinal rfl dX3_init_30 jfl_X3_20 rfl rfl (fun _ => rfl) (fun _ => rfl) (Nat.le_of_ble_eq_true rfl) ?_
  refine j_aload_n (i := 0) dX3_init_33 rfl rfl ?_
  refine j_bipush (v := nI 61) dX3_init_34 rfl ?_
  refine j_newarr_i (N := 61) (bc := 3) (bs := 187) dX3_init_36 jw_arr_int (by decide) (nI_clamp (by decide)) (Nat.le_of_ble_eq_true rfl) ?_
  refine j_putfinal rfl dX3_init_38 jfl_X3_23 rfl rfl (fun _ => rfl) (fun _ => rfl) (Nat.le_of_ble_eq_true rfl) ?_
  refine j_aload_n (i := 0) dX3_init_41 rfl rfl ?_
  refine j_bipush (v := nI 61) dX3_init_42 rfl ?_
  refine j_newarr_i (N := 61) (bc := 2) (bs := 126) dX3_init_44 jw_arr_int (by decide) (nI_clamp (by decide)) (Nat.le_of_ble_eq_true rfl) ?_
  refine j_putfinal rfl dX3_init_46 jfl_X3_26 rfl rfl (fun _ => rfl) (fun _ => rfl) (Nat.le_of_ble_eq_true rfl) ?_
  refine j_aload_n (i := 0) dX3_init_49 rfl rfl ?_
  refine j_iconst (v := nI 0) dX3_init_50 rfl ?_
  refine j_putfield dX3_init_51 jfl_X3_29 rfl (fun _ => rfl) (fun _ => rfl) (Nat.le_of_ble_eq_true rfl) ?_
  refine j_aload_n (i := 0) dX3_init_54 rfl rfl ?_
  refine j_iconst (v := nI 0) dX3_init_55 rfl ?_
  refine j_putfield dX3_init_56 jfl_X3_32 rfl (fun _ => rfl) (fun _ => rfl) (Nat.le_of_ble_eq_true rfl) ?_
  refine j_aload_n (i := 0) dX3_init_59 rfl rfl ?_
  refine j_iconst (v := nI 0) dX3_init_60 rfl ?_
  refine j_putfield dX3_init_61 jfl_X3_35 rfl (fun _ => rfl) (fun _ => rfl) (Nat.le_of_ble_eq_true rfl) ?_
  refine j_aload_n (i := 0) dX3_init_64 rfl rfl ?_
  refine j_bipush (v := nI 6) dX3_init_65 rfl ?_
  refine j_newarr_i (N := 6) (bc := 1) (bs := 120) dX3_init_67 jw_arr_int (by decide) (nI_clamp (by decide)) (Nat.le_of_ble_eq_true rfl) ?_
  refine j_putfinal rfl dX3_init_69 jfl_X3_38 rfl rfl (fun _ => rfl) (fun _ => rfl) (Nat.le_of_ble_eq_true rfl) ?_
  refine j_aload_n (i := 0) dX3_init_72 rfl rfl ?_
  refine j_bipush (v := nI 120) dX3_init_73 rfl ?_
  refine j_newarr_i (N := 120) (bc := 0) (bs := 0) dX3_init_75 jw_arr_int (by decide) (nI_clamp (by decide)) (Nat.le_of_ble_eq_true rfl) ?_
  refine j_putfinal rfl dX3_init_77 jfl_X3_41 rfl rfl (fun _ => rfl) (fun _ => rfl) (Nat.le_of_ble_eq_true rfl) ?_
  exact j_return dX3_init_80 rfl ⟨rfl, rfl⟩
set_option maxRecDepth 100000 in
theorem k_X5_init_57 (hs : c 57 = .inr (5, [.null, .int 0, .null, .int 0, .int 0, .int 0]))  : jMet (d + 1) yX5_init cX5_init 1 none 2 1034 [.ref 57] (58, c) (fun r w => r = none ∧ w = (60, va_up (va_up (va_up (va_up (va_up (va_up (va_up (va_up (c) 58 (.inl (0, 10, .inl fun _ => 0))) 57 (.inr (5, [.ref 58, .int 0, .null, .int 0, .int 0, .int 0]))) 57 (.inr (5, [.ref 58, .int (nI 0), .null, .int 0, .int 0, .int 0]))) 59 (.inl (0, 1024, .inl fun _ => 0))) 57 (.inr (5, [.ref 58, .int (nI 0), .ref 59, .int 0, .int 0, .int 0]))) 57 (.inr (5, [.ref 58, .int (nI 0), .ref 59, .int (nI 1), .int 0, .int 0]))) 57 (.inr (5, [.ref 58, .int (nI 0), .ref 59, .int (nI 1), .int (nI 0), .int 0]))) 57 (.inr (5, [.ref 58, .int (nI 0), .ref 59, .int (nI 1), .int (nI 0), .int (nI 0)])))) := by
  refine jMet_of (by decide) (Nat.le_of_ble_eq_true rfl) (some none) (Or.inr ⟨rfl, rfl⟩) ?_
  show jWP (some none) RX5 cX5_init 1 none (d + 1) 2 1034 0 [some (.ref 57)] [] (58, c) (fun r w => r = none ∧ w = (60, va_up (va_up (va_up (va_up (va_up (va_up (va_up (va_up (c) 58 (.inl (0, 10, .inl fun _ => 0))) 57 (.inr (5, [.ref 58, .int 0, .null, .int 0, .int 0, .int 0]))) 57 (.inr (5, [.ref 58, .int (nI 0), .null, .int 0, .int 0, .int 0]))) 59 (.inl (0, 1024, .inl fun _ => 0))) 57 (.inr (5, [.ref 58, .int (nI 0), .ref 59, .int 0, .int 0, .int 0]))) 57 (.inr (5, [.ref 58, .int (nI 0), .ref 59, .int (nI 1), .int 0, .int 0]))) 57 (.inr (5, [.ref 58, .int (nI 0), .ref 59, .int (nI 1), .int (nI 0), .int 0]))) 57 (.inr (5, [.ref 58, .int (nI 0), .ref 59, .int (nI 1), .int (nI 0), .int (nI 0)]))))
  refine j_aload_n (i := 0) dX5_init_0 rfl rfl ?_
  refine j_objInit dX5_init_1 jlo_X5_3 (Nat.le_of_ble_eq_true rfl) ?_
  refine j_aload_n (i := 0) dX5_init_4 rfl rfl ?_
  refine j_bipush (v := nI 10) dX5_init_5 rfl ?_
  refine j_newarr_i (N := 10) (bc := 1) (bs := 1024) dX5_init_7 jw_arr_int (by decide) (nI_clamp (by decide)) (Nat.le_of_ble_eq_true rfl) ?_
  refine j_putfinal rfl dX5_init_9 jfl_X5_11 rfl hs (fun _ => rfl) (fun _ => rfl) (Nat.le_of_ble_eq_true rfl) ?_
  refine j_aload_n (i := 0) dX5_init_12 rfl rfl ?_
  refine j_iconst (v := nI 0) dX5_init_13 rfl ?_
  refine j_putfield dX5_init_14 jfl_X5_15 rfl (fun _ => rfl) (fun _ => rfl) (Nat.le_of_ble_eq_true rfl) ?_
  refine j_aload_n (i := 0) dX5_init_17 rfl rfl ?_
  refine j_sipush (v := nI 1024) dX5_init_18 (by decide) ?_
  refine j_newarr_i (N := 1024) (bc := 0) (bs := 0) dX5_init_21 jw_arr_int (by decide) (nI_clamp (by decide)) (Nat.le_of_ble_eq_true rfl) ?_
  refine j_putfinal rfl dX5_init_23 jfl_X5_19 rfl rfl (fun _ => rfl) (fun _ => rfl) (Nat.le_of_ble_eq_true rfl) ?_
  refine j_aload_n (i := 0) dX5_init_26 rfl rfl ?_
  refine j_iconst (v := nI 1) dX5_init_27 rfl ?_
  refine j_putfield dX5_init_28 jfl_X5_22 rfl (fun _ => rfl) (fun _ => rfl) (Nat.le_of_ble_eq_true rfl) ?_
  refine j_aload_n (i := 0) dX5_init_31 rfl rfl ?_
  refine j_iconst (v := nI 0) dX5_init_32 rfl ?_
  refine j_putfield dX5_init_33 jfl_X5_25 rfl (fun _ => rfl) (fun _ => rfl) (Nat.le_of_ble_eq_true rfl) ?_
  refine j_aload_n (i := 0) dX5_init_36 rfl rfl ?_
  refine j_iconst (v := nI 0) dX5_init_37 rfl ?_
  refine j_putfield dX5_init_38 jfl_X5_28 rfl (fun _ => rfl) (fun _ => rfl) (Nat.le_of_ble_eq_true rfl) ?_
  exact j_return dX5_init_41 rfl ⟨rfl, rfl⟩
set_option maxRecDepth 100000 in
theorem k_X2_init_60 (hs : c 60 = .inr (2, [.null, .int 0, .null, .int 0, .int 0]))  : jMet (d + 1) yX2_init cX2_init 1 none 2 74 [.ref 60] (61, c) (fun r w => r = none ∧ w = (63, va_up (va_up (va_up (va_up (va_up (va_up (va_up (c) 61 (.inl (0, 50, .inl fun _ => 0))) 60 (.inr (2, [.ref 61, .int 0, .null, .int 0, .int 0]))) 60 (.inr (2, [.ref 61, .int (nI 0), .null, .int 0, .int 0]))) 62 (.inl (0, 24, .inl fun _ => 0))) 60 (.inr (2, [.ref 61, .int (nI 0), .ref 62, .int 0, .int 0]))) 60 (.inr (2, [.ref 61, .int (nI 0), .ref 62, .int (nI 0), .int 0]))) 60 (.inr (2, [.ref 61, .int (nI 0), .ref 62, .int (nI 0), .int (nI 0)])))) := by
  refine jMet_of (by decide) (Nat.le_of_ble_eq_true rfl) (some none) (Or.inr ⟨rfl, rfl⟩) ?_
  show jWP (some none) RX2 cX2_init 1 none (d + 1) 2 74 0 [some (.ref 60)] [] (61, c) (fun r w => r = none ∧ w = (63, va_up (va_up (va_up (va_up (va_up (va_up (va_up (c) 61 (.inl (0, 50, .inl fun _ => 0))) 60 (.inr (2, [.ref 61, .int 0, .null, .int 0, .int 0]))) 60 (.inr (2, [.ref 61, .int (nI 0), .null, .int 0, .int 0]))) 62 (.inl (0, 24, .inl fun _ => 0))) 60 (.inr (2, [.ref 61, .int (nI 0), .ref 62, .int 0, .int 0]))) 60 (.inr (2, [.ref 61, .int (nI 0), .ref 62, .int (nI 0), .int 0]))) 60 (.inr (2, [.ref 61, .int (nI 0), .ref 62, .int (nI 0), .int (nI 0)]))))
  refine j_aload_n (i := 0) dX2_init_0 rfl rfl ?_
  refine j_objInit dX2_init_1 jlo_X2_3 (Nat.le_of_ble_eq_true rfl) ?_
  refine j_aload_n (i := 0) dX2_init_4 rfl rfl ?_
  refine j_bipush (v := nI 50) dX2_init_5 rfl ?_
  refine j_newarr_i (N := 50) (bc := 1) (bs := 24) dX2_init_7 jw_arr_int (by decide) (nI_clamp (by decide)) (Nat.le_of_ble_eq_true rfl) ?_
  refine j_putfinal rfl dX2_init_9 jfl_X2_11 rfl hs (fun _ => rfl) (fun _ => rfl) (Nat.le_of_ble_eq_true rfl) ?_
  refine j_aload_n (i := 0) dX2_init_12 rfl rfl ?_
  refine j_iconst (v := nI 0) dX2_init_13 rfl ?_
  refine j_putfield dX2_init_14 jfl_X2_15 rfl (fun _ => rfl) (fun _ => rfl) (Nat.le_of_ble_eq_true rfl) ?_
  refine j_aload_n (i := 0) dX2_init_17 rfl rfl ?_
  refine j_bipush (v := nI 24) dX2_init_18 rfl ?_
  refine j_newarr_i (N := 24) (bc := 0) (bs := 0) dX2_init_20 jw_arr_int (by decide) (nI_clamp (by decide)) (Nat.le_of_ble_eq_true rfl) ?_
  refine j_putfinal rfl dX2_init_22 jfl_X2_19 rfl rfl (fun _ => rfl) (fun _ => rfl) (Nat.le_of_ble_eq_true rfl) ?_
  refine j_aload_n (i := 0) dX2_init_25 rfl rfl ?_
  refine j_iconst (v := nI 0) dX2_init_26 rfl ?_
  refine j_putfield dX2_init_27 jfl_X2_22 rfl (fun _ => rfl) (fun _ => rfl) (Nat.le_of_ble_eq_true rfl) ?_
  refine j_aload_n (i := 0) dX2_init_30 rfl rfl ?_
  refine j_iconst (v := nI 0) dX2_init_31 rfl ?_
  refine j_putfield dX2_init_32 jfl_X2_25 rfl (fun _ => rfl) (fun _ => rfl) (Nat.le_of_ble_eq_true rfl) ?_
  exact j_return dX2_init_35 rfl ⟨rfl, rfl⟩
set_option maxRecDepth 100000 in
theorem k_X8_init_64 (hs : c 64 = .inr (8, [.int 0, .int 0, .int 0, .int 0, .null]))  : jMet (d + 1) yX8_init cX8_init 1 none 1 60 [.ref 64] (65, c) (fun r w => r = none ∧ w = (66, va_up (va_up (va_up (va_up (va_up (va_up (c) 64 (.inr (8, [.int (nI 0), .int 0, .int 0, .int 0, .null]))) 64 (.inr (8, [.int (nI 0), .int (-2), .int 0, .int 0, .null]))) 64 (.inr (8, [.int (nI 0), .int (-2), .int (nI 0), .int 0, .null]))) 64 (.inr (8, [.int (nI 0), .int (-2), .int (nI 0), .int (nI 0), .null]))) 65 (.inl (1, 60, .inr (.inl fun _ => 0)))) 64 (.inr (8, [.int (nI 0), .int (-2), .int (nI 0), .int (nI 0), .ref 65])))) := by
  refine jMet_of (by decide) (Nat.le_of_ble_eq_true rfl) (some none) (Or.inr ⟨rfl, rfl⟩) ?_
  show jWP (some none) RX8 cX8_init 1 none (d + 1) 1 60 0 [some (.ref 64)] [] (65, c) (fun r w => r = none ∧ w = (66, va_up (va_up (va_up (va_up (va_up (va_up (c) 64 (.inr (8, [.int (nI 0), .int 0, .int 0, .int 0, .null]))) 64 (.inr (8, [.int (nI 0), .int (-2), .int 0, .int 0, .null]))) 64 (.inr (8, [.int (nI 0), .int (-2), .int (nI 0), .int 0, .null]))) 64 (.inr (8, [.int (nI 0), .int (-2), .int (nI 0), .int (nI 0), .null]))) 65 (.inl (1, 60, .inr (.inl fun _ => 0)))) 64 (.inr (8, [.int (nI 0), .int (-2), .int (nI 0), .int (nI 0), .ref 65]))))
  refine j_aload_n (i := 0) dX8_init_0 rfl rfl ?_
  refine j_objInit dX8_init_1 jlo_X8_3 (Nat.le_of_ble_eq_true rfl) ?_
  refine j_aload_n (i := 0) dX8_init_4 rfl rfl ?_
  refine j_iconst (v := nI 0) dX8_init_5 rfl ?_
  refine j_putfield dX8_init_6 jfl_X8_11 hs (fun _ => rfl) (fun _ => rfl) (Nat.le_of_ble_eq_true rfl) ?_
  refine j_aload_n (i := 0) dX8_init_9 rfl rfl ?_
  refine j_bipush (v := (-2)) dX8_init_10 rfl ?_
  refine j_putfield dX8_init_12 jfl_X8_15 rfl (fun _ => rfl) (fun _ => rfl) (Nat.le_of_ble_eq_true rfl) ?_
  refine j_aload_n (i := 0) dX8_init_15 rfl rfl ?_
  refine j_iconst (v := nI 0) dX8_init_16 rfl ?_
  refine j_putfield dX8_init_17 jfl_X8_18 rfl (fun _ => rfl) (fun _ => rfl) (Nat.le_of_ble_eq_true rfl) ?_
  refine j_aload_n (i := 0) dX8_init_20 rfl rfl ?_
  refine j_iconst (v := nI 0) dX8_init_21 rfl ?_
  refine j_putfield dX8_init_22 jfl_X8_21 rfl (fun _ => rfl) (fun _ => rfl) (Nat.le_of_ble_eq_true rfl) ?_
  refine j_aload_n (i := 0) dX8_init_25 rfl rfl ?_
  refine j_bipush (v := nI 60) dX8_init_26 rfl ?_
  refine j_newarr_l (N := 60) (bc := 0) (bs := 0) dX8_init_28 jw_arr_long (by decide) (nI_clamp (by decide)) (Nat.le_of_ble_eq_true rfl) ?_
  refine j_putfinal rfl dX8_init_30 jfl_X8_24 rfl rfl (fun _ => rfl) (fun _ => rfl) (Nat.le_of_ble_eq_true rfl) ?_
  exact j_return dX8_init_33 rfl ⟨rfl, rfl⟩
set_option maxRecDepth 100000 in
theorem k_X8_init_66 (hs : c 66 = .inr (8, [.int 0, .int 0, .int 0, .int 0, .null]))  : jMet (d + 1) yX8_init cX8_init 1 none 1 60 [.ref 66] (67, c) (fun r w => r = none ∧ w = (68, va_up (va_up (va_up (va_up (va_up (va_up (c) 66 (.inr (8, [.int (nI 0), .int 0, .int 0, .int 0, .null]))) 66 (.inr (8, [.int (nI 0), .int (-2), .int 0, .int 0, .null]))) 66 (.inr (8, [.int (nI 0), .int (-2), .int (nI 0), .int 0, .null]))) 66 (.inr (8, [.int (nI 0), .int (-2), .int (nI 0), .int (nI 0), .null]))) 67 (.inl (1, 60, .inr (.inl fun _ => 0)))) 66 (.inr (8, [.int (nI 0), .int (-2), .int (nI 0), .int (nI 0), .ref 67])))) := by
  refine jMet_of (by decide) (Nat.le_of_ble_eq_true rfl) (some none) (Or.inr ⟨rfl, rfl⟩) ?_
  show jWP (some none) RX8 cX8_init 1 none (d + 1) 1 60 0 [some (.ref 66)] [] (67, c) (fun r w => r = none ∧ w = (68, va_up (va_up (va_up (va_up (va_up (va_up (c) 66 (.inr (8, [.int (nI 0), .int 0, .int 0, .int 0, .null]))) 66 (.inr (8, [.int (nI 0), .int (-2), .int 0, .int 0, .null]))) 66 (.inr (8, [.int (nI 0), .int (-2), .int (nI 0), .int 0, .null]))) 66 (.inr (8, [.int (nI 0), .int (-2), .int (nI 0), .int (nI 0), .null]))) 67 (.inl (1, 60, .inr (.inl fun _ => 0)))) 66 (.inr (8, [.int (nI 0), .int (-2), .int (nI 0), .int (nI 0), .ref 67]))))
  refine j_aload_n (i := 0) dX8_init_0 rfl rfl ?_
  refine j_objInit dX8_init_1 jlo_X8_3 (Nat.le_of_ble_eq_true rfl) ?_
  refine j_aload_n (i := 0) dX8_init_4 rfl rfl ?_
  refine j_iconst (v := nI 0) dX8_init_5 rfl ?_
  refine j_putfield dX8_init_6 jfl_X8_11 hs (fun _ => rfl) (fun _ => rfl) (Nat.le_of_ble_eq_true rfl) ?_
  refine j_aload_n (i := 0) dX8_init_9 rfl rfl ?_
  refine j_bipush (v := (-2)) dX8_init_10 rfl ?_
  refine j_putfield dX8_init_12 jfl_X8_15 rfl (fun _ => rfl) (fun _ => rfl) (Nat.le_of_ble_eq_true rfl) ?_
  refine j_aload_n (i := 0) dX8_init_15 rfl rfl ?_
  refine j_iconst (v := nI 0) dX8_init_16 rfl ?_
  refine j_putfield dX8_init_17 jfl_X8_18 rfl (fun _ => rfl) (fun _ => rfl) (Nat.le_of_ble_eq_true rfl) ?_
  refine j_aload_n (i := 0) dX8_init_20 rfl rfl ?_
  refine j_iconst (v := nI 0) dX8_init_21 rfl ?_
  refine j_putfield dX8_init_22 jfl_X8_21 rfl (fun _ => rfl) (fun _ => rfl) (Nat.le_of_ble_eq_true rfl) ?_
  refine j_aload_n (i := 0) dX8_init_25 rfl rfl ?_
  refine j_bipush (v := nI 60) dX8_init_26 rfl ?_
  refine j_newarr_l (N := 60) (bc := 0) (bs := 0) dX8_init_28 jw_arr_long (by decide) (nI_clamp (by decide)) (Nat.le_of_ble_eq_true rfl) ?_
  refine j_putfinal rfl dX8_init_30 jfl_X8_24 rfl rfl (fun _ => rfl) (fun _ => rfl) (Nat.le_of_ble_eq_true rfl) ?_
  exact j_return dX8_init_33 rfl ⟨rfl, rfl⟩
set_option maxRecDepth 100000 in
theorem k_X8_init_68 (hs : c 68 = .inr (8, [.int 0, .int 0, .int 0, .int 0, .null]))  : jMet (d + 1) yX8_init cX8_init 1 none 1 60 [.ref 68] (69, c) (fun r w => r = none ∧ w = (70, va_up (va_up (va_up (va_up (va_up (va_up (c) 68 (.inr (8, [.int (nI 0), .int 0, .int 0, .int 0, .null]))) 68 (.inr (8, [.int (nI 0), .int (-2), .int 0, .int 0, .null]))) 68 (.inr (8, [.int (nI 0), .int (-2), .int (nI 0), .int 0, .null]))) 68 (.inr (8, [.int (nI 0), .int (-2), .int (nI 0), .int (nI 0), .null]))) 69 (.inl (1, 60, .inr (.inl fun _ => 0)))) 68 (.inr (8, [.int (nI 0), .int (-2), .int (nI 0), .int (nI 0), .ref 69])))) := by
  refine jMet_of (by decide) (Nat.le_of_ble_eq_true rfl) (some none) (Or.inr ⟨rfl, rfl⟩) ?_
  show jWP (some none) RX8 cX8_init 1 none (d + 1) 1 60 0 [some (.ref 68)] [] (69, c) (fun r w => r = none ∧ w = (70, va_up (va_up (va_up (va_up (va_up (va_up (c) 68 (.inr (8, [.int (nI 0), .int 0, .int 0, .int 0, .null]))) 68 (.inr (8, [.int (nI 0), .int (-2), .int 0, .int 0, .null]))) 68 (.inr (8, [.int (nI 0), .int (-2), .int (nI 0), .int 0, .null]))) 68 (.inr (8, [.int (nI 0), .int (-2), .int (nI 0), .int (nI 0), .null]))) 69 (.inl (1, 60, .inr (.inl fun _ => 0)))) 68 (.inr (8, [.int (nI 0), .int (-2), .int (nI 0), .int (nI 0), .ref 69]))))
  refine j_aload_n (i := 0) dX8_init_0 rfl rfl ?_
  refine j_objInit dX8_init_1 jlo_X8_3 (Nat.le_of_ble_eq_true rfl) ?_
  refine j_aload_n (i := 0) dX8_init_4 rfl rfl ?_
  refine j_iconst (v := nI 0) dX8_init_5 rfl ?_
  refine j_putfield dX8_init_6 jfl_X8_11 hs (fun _ => rfl) (fun _ => rfl) (Nat.le_of_ble_eq_true rfl) ?_
  refine j_aload_n (i := 0) dX8_init_9 rfl rfl ?_
  refine j_bipush (v := (-2)) dX8_init_10 rfl ?_
  refine j_putfield dX8_init_12 jfl_X8_15 rfl (fun _ => rfl) (fun _ => rfl) (Nat.le_of_ble_eq_true rfl) ?_
  refine j_aload_n (i := 0) dX8_init_15 rfl rfl ?_
  refine j_iconst (v := nI 0) dX8_init_16 rfl ?_
  refine j_putfield dX8_init_17 jfl_X8_18 rfl (fun _ => rfl) (fun _ => rfl) (Nat.le_of_ble_eq_true rfl) ?_
  refine j_aload_n (i := 0) dX8_init_20 rfl rfl ?_
  refine j_iconst (v := nI 0) dX8_init_21 rfl ?_
  refine j_putfield dX8_init_22 jfl_X8_21 rfl (fun _ => rfl) (fun _ => rfl) (Nat.le_of_ble_eq_true rfl) ?_
  refine j_aload_n (i := 0) dX8_init_25 rfl rfl ?_
  refine j_bipush (v := nI 60) dX8_init_26 rfl ?_
  refine j_newarr_l (N := 60) (bc := 0) (bs := 0) dX8_init_28 jw_arr_long (by decide) (nI_clamp (by decide)) (Nat.le_of_ble_eq_true rfl) ?_
  refine j_putfinal rfl dX8_init_30 jfl_X8_24 rfl rfl (fun _ => rfl) (fun _ => rfl) (Nat.le_of_ble_eq_true rfl) ?_
  exact j_return dX8_init_33 rfl ⟨rfl, rfl⟩
set_option maxRecDepth 100000 in
theorem k_X8_init_70 (hs : c 70 = .inr (8, [.int 0, .int 0, .int 0, .int 0, .null]))  : jMet (d + 1) yX8_init cX8_init 1 none 1 60 [.ref 70] (71, c) (fun r w => r = none ∧ w = (72, va_up (va_up (va_up (va_up (va_up (va_up (c) 70 (.inr (8, [.int (nI 0), .int 0, .int 0, .int 0, .null]))) 70 (.inr (8, [.int (nI 0), .int (-2), .int 0, .int 0, .null]))) 70 (.inr (8, [.int (nI 0), .int (-2), .int (nI 0), .int 0, .null]))) 70 (.inr (8, [.int (nI 0), .int (-2), .int (nI 0), .int (nI 0), .null]))) 71 (.inl (1, 60, .inr (.inl fun _ => 0)))) 70 (.inr (8, [.int (nI 0), .int (-2), .int (nI 0), .int (nI 0), .ref 71])))) := by
  refine jMet_of (by decide) (Nat.le_of_ble_eq_true rfl) (some none) (Or.inr ⟨rfl, rfl⟩) ?_
  show jWP (some none) RX8 cX8_init 1 none (d + 1) 1 60 0 [some (.ref 70)] [] (71, c) (fun r w => r = none ∧ w = (72, va_up (va_up (va_up (va_up (va_up (va_up (c) 70 (.inr (8, [.int (nI 0), .int 0, .int 0, .int 0, .null]))) 70 (.inr (8, [.int (nI 0), .int (-2), .int 0, .int 0, .null]))) 70 (.inr (8, [.int (nI 0), .int (-2), .int (nI 0), .int 0, .null]))) 70 (.inr (8, [.int (nI 0), .int (-2), .int (nI 0), .int (nI 0), .null]))) 71 (.inl (1, 60, .inr (.inl fun _ => 0)))) 70 (.inr (8, [.int (nI 0), .int (-2), .int (nI 0), .int (nI 0), .ref 71]))))
  refine j_aload_n (i := 0) dX8_init_0 rfl rfl ?_
  refine j_objInit dX8_init_1 jlo_X8_3 (Nat.le_of_ble_eq_true rfl) ?_
  refine j_aload_n (i := 0) dX8_init_4 rfl rfl ?_
  refine j_iconst (v := nI 0) dX8_init_5 rfl ?_
  refine j_putfield dX8_init_6 jfl_X8_11 hs (fun _ => rfl) (fun _ => rfl) (Nat.le_of_ble_eq_true rfl) ?_
  refine j_aload_n (i := 0) dX8_init_9 rfl rfl ?_
  refine j_bipush (v := (-2)) dX8_init_10 rfl ?_
  refine j_putfield dX8_init_12 jfl_X8_15 rfl (fun _ => rfl) (fun _ => rfl) (Nat.le_of_ble_eq_true rfl) ?_
  refine j_aload_n (i := 0) dX8_init_15 rfl rfl ?_
  refine j_iconst (v := nI 0) dX8_init_16 rfl ?_
  refine j_putfield dX8_init_17 jfl_X8_18 rfl (fun _ => rfl) (fun _ => rfl) (Nat.le_of_ble_eq_true rfl) ?_
  refine j_aload_n (i := 0) dX8_init_20 rfl rfl ?_
  refine j_iconst (v := nI 0) dX8_init_21 rfl ?_
  refine j_putfield dX8_init_22 jfl_X8_21 rfl (fun _ => rfl) (fun _ => rfl) (Nat.le_of_ble_eq_true rfl) ?_
  refine j_aload_n (i := 0) dX8_init_25 rfl rfl ?_
  refine j_bipush (v := nI 60) dX8_init_26 rfl ?_
  refine j_newarr_l (N := 60) (bc := 0) (bs := 0) dX8_init_28 jw_arr_long (by decide) (nI_clamp (by decide)) (Nat.le_of_ble_eq_true rfl) ?_
  refine j_putfinal rfl dX8_init_30 jfl_X8_24 rfl rfl (fun _ => rfl) (fun _ => rfl) (Nat.le_of_ble_eq_true rfl) ?_
  exact j_return dX8_init_33 rfl ⟨rfl, rfl⟩
set_option maxRecDepth 100000 in
theorem k_X8_init_72 (hs : c 72 = .inr (8, [.int 0, .int 0, .int 0, .int 0, .null]))  : jMet (d + 1) yX8_init cX8_init 1 none 1 60 [.ref 72] (73, c) (fun r w => r = none ∧ w = (74, va_up (va_up (va_up (va_up (va_up (va_up (c) 72 (.inr (8, [.int (nI 0), .int 0, .int 0, .int 0, .null]))) 72 (.inr (8, [.int (nI 0), .int (-2), .int 0, .int 0, .null]))) 72 (.inr (8, [.int (nI 0), .int (-2), .int (nI 0), .int 0, .null]))) 72 (.inr (8, [.int (nI 0), .int (-2), .int (nI 0), .int (nI 0), .null]))) 73 (.inl (1, 60, .inr (.inl fun _ => 0)))) 72 (.inr (8, [.int (nI 0), .int (-2), .int (nI 0), .int (nI 0), .ref 73])))) := by
  refine jMet_of (by decide) (Nat.le_of_ble_eq_true rfl) (some none) (Or.inr ⟨rfl, rfl⟩) ?_
  show jWP (some none) RX8 cX8_init 1 none (d + 1) 1 60 0 [some (.ref 72)] [] (73, c) (fun r w => r = none ∧ w = (74, va_up (va_up (va_up (va_up (va_up (va_up (c) 72 (.inr (8, [.int (nI 0), .int 0, .int 0, .int 0, .null]))) 72 (.inr (8, [.int (nI 0), .int (-2), .int 0, .int 0, .null]))) 72 (.inr (8, [.int (nI 0), .int (-2), .int (nI 0), .int 0, .null]))) 72 (.inr (8, [.int (nI 0), .int (-2), .int (nI 0), .int (nI 0), .null]))) 73 (.inl (1, 60, .inr (.inl fun _ => 0)))) 72 (.inr (8, [.int (nI 0), .int (-2), .int (nI 0), .int (nI 0), .ref 73]))))
  refine j_aload_n (i := 0) dX8_init_0 rfl rfl ?_
  refine j_objInit dX8_init_1 jlo_X8_3 (Nat.le_of_ble_eq_true rfl) ?_
  refine j_aload_n (i := 0) dX8_init_4 rfl rfl ?_
  refine j_iconst (v := nI 0) dX8_init_5 rfl ?_
  refine j_putfield dX8_init_6 jfl_X8_11 hs (fun _ => rfl) (fun _ => rfl) (Nat.le_of_ble_eq_true rfl) ?_
  refine j_aload_n (i := 0) dX8_init_9 rfl rfl ?_
  refine j_bipush (v := (-2)) dX8_init_10 rfl ?_
  refine j_putfield dX8_init_12 jfl_X8_15 rfl (fun _ => rfl) (fun _ => rfl) (Nat.le_of_ble_eq_true rfl) ?_
  refine j_aload_n (i := 0) dX8_init_15 rfl rfl ?_
  refine j_iconst (v := nI 0) dX8_init_16 rfl ?_
  refine j_putfield dX8_init_17 jfl_X8_18 rfl (fun _ => rfl) (fun _ => rfl) (Nat.le_of_ble_eq_true rfl) ?_
  refine j_aload_n (i := 0) dX8_init_20 rfl rfl ?_
  refine j_iconst (v := nI 0) dX8_init_21 rfl ?_
  refine j_putfield dX8_init_22 jfl_X8_21 rfl (fun _ => rfl) (fun _ => rfl) (Nat.le_of_ble_eq_true rfl) ?_
  refine j_aload_n (i := 0) dX8_init_25 rfl rfl ?_
  refine j_bipush (v := nI 60) dX8_init_26 rfl ?_
  refine j_newarr_l (N := 60) (bc := 0) (bs := 0) dX8_init_28 jw_arr_long (by decide) (nI_clamp (by decide)) (Nat.le_of_ble_eq_true rfl) ?_
  refine j_putfinal rfl dX8_init_30 jfl_X8_24 rfl rfl (fun _ => rfl) (fun _ => rfl) (Nat.le_of_ble_eq_true rfl) ?_
  exact j_return dX8_init_33 rfl ⟨rfl, rfl⟩
set_option maxRecDepth 100000 in
theorem k_X8_init_74 (hs : c 74 = .inr (8, [.int 0, .int 0, .int 0, .int 0, .null]))  : jMet (d + 1) yX8_init cX8_init 1 none 1 60 [.ref 74] (75, c) (fun r w => r = none ∧ w = (76, va_up (va_up (va_up (va_up (va_up (va_up (c) 74 (.inr (8, [.int (nI 0), .int 0, .int 0, .int 0, .null]))) 74 (.inr (8, [.int (nI 0), .int (-2), .int 0, .int 0, .null]))) 74 (.inr (8, [.int (nI 0), .int (-2), .int (nI 0), .int 0, .null]))) 74 (.inr (8, [.int (nI 0), .int (-2), .int (nI 0), .int (nI 0), .null]))) 75 (.inl (1, 60, .inr (.inl fun _ => 0)))) 74 (.inr (8, [.int (nI 0), .int (-2), .int (nI 0), .int (nI 0), .ref 75])))) := by
  refine jMet_of (by decide) (Nat.le_of_ble_eq_true rfl) (some none) (Or.inr ⟨rfl, rfl⟩) ?_
  show jWP (some none) RX8 cX8_init 1 none (d + 1) 1 60 0 [some (.ref 74)] [] (75, c) (fun r w => r = none ∧ w = (76, va_up (va_up (va_up (va_up (va_up (va_up (c) 74 (.inr (8, [.int (nI 0), .int 0, .int 0, .int 0, .null]))) 74 (.inr (8, [.int (nI 0), .int (-2), .int 0, .int 0, .null]))) 74 (.inr (8, [.int (nI 0), .int (-2), .int (nI 0), .int 0, .null]))) 74 (.inr (8, [.int (nI 0), .int (-2), .int (nI 0), .int (nI 0), .null]))) 75 (.inl (1, 60, .inr (.inl fun _ => 0)))) 74 (.inr (8, [.int (nI 0), .int (-2), .int (nI 0), .int (nI 0), .ref 75]))))
  refine j_aload_n (i := 0) dX8_init_0 rfl rfl ?_
  refine j_objInit dX8_init_1 jlo_X8_3 (Nat.le_of_ble_eq_true rfl) ?_
  refine j_aload_n (i := 0) dX8_init_4 rfl rfl ?_
  refine j_iconst (v := nI 0) dX8_init_5 rfl ?_
  refine j_putfield dX8_init_6 jfl_X8_11 hs (fun _ => rfl) (fun _ => rfl) (Nat.le_of_ble_eq_true rfl) ?_
  refine j_aload_n (i := 0) dX8_init_9 rfl rfl ?_
  refine j_bipush (v := (-2)) dX8_init_10 rfl ?_
  refine j_putfield dX8_init_12 jfl_X8_15 rfl (fun _ => rfl) (fun _ => rfl) (Nat.le_of_ble_eq_true rfl) ?_
  refine j_aload_n (i := 0) dX8_init_15 rfl rfl ?_
  refine j_iconst (v := nI 0) dX8_init_16 rfl ?_
  refine j_putfield dX8_init_17 jfl_X8_18 rfl (fun _ => rfl) (fun _ => rfl) (Nat.le_of_ble_eq_true rfl) ?_
  refine j_aload_n (i := 0) dX8_init_20 rfl rfl ?_
  refine j_iconst (v := nI 0) dX8_init_21 rfl ?_
  refine j_putfield dX8_init_22 jfl_X8_21 rfl (fun _ => rfl) (fun _ => rfl) (Nat.le_of_ble_eq_true rfl) ?_
  refine j_aload_n (i := 0) dX8_init_25 rfl rfl ?_
  refine j_bipush (v := nI 60) dX8_init_26 rfl ?_
  refine j_newarr_l (N := 60) (bc := 0) (bs := 0) dX8_init_28 jw_arr_long (by decide) (nI_clamp (by decide)) (Nat.le_of_ble_eq_true rfl) ?_
  refine j_putfinal rfl dX8_init_30 jfl_X8_24 rfl rfl (fun _ => rfl) (fun _ => rfl) (Nat.le_of_ble_eq_true rfl) ?_
  exact j_return dX8_init_33 rfl ⟨rfl, rfl⟩
end CTOR

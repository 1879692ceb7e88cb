/-! THE CLASS'S CONSTRUCTORS, from the law's empty world. Places: 0 the tower, 1 numbers, 2 cells, 3 field, 4 square, 5 scale, 6 elements, 7 place, 8 rank, 9 ready (10 low, 11 high), 12 fine (13, 14), 15 least (16, 17), 18 script, 19 letters. -/
abbrev kRT (a b c d e : Value) : jE := .inr (9, [a, b, c, d, e])
abbrev kz (n : Nat) : jE := .inl (.int, n, .inl (fun _ => 0))
abbrev kNm : jE := .inr (6, [.ref 2, .int 0, .int 0, .int 0])
abbrev kFd : jE := .inr (4, [.ref 1, .int 0, .ref 4, .ref 5])
abbrev kSp (a b : Nat) : jE := .inr (8, [.ref 1, .ref 3, .ref a, .ref b, .int 0])
abbrev kEl : jE := .inr (3, [.ref 1, .ref 3, .ref 9, .ref 12, .int 0, .ref 7, .ref 8])
abbrev kLe : jE := .inr (5, [.ref 1, .ref 3, .int 0, .int 0, .ref 16, .ref 17])
abbrev kSc : jE := .inr (7, [.ref 1, .ref 19, .int 0])
abbrev kBy : jE := .inl (.byte, 2240, .inl (fun _ => 0))
set_option maxHeartbeats 2000000 in
set_option maxRecDepth 10000 in
theorem c_X3_init : jN vwCl yX3_init (wc yX3_init cX3_init 1 none) 1 60 [.ref 1] [kRT .null .null .null .null .null, .inr (6, [.null, .int 0, .int 0, .int 0])] 1 8192
    (fun pw => pw = [kRT .null .null .null .null .null, kNm, kz 8192]) := by
  refine jN_ofI (cc := cX3_init) (nL := 1) (by decide) rfl (Nat.le_of_ble_eq_true rfl) ?_
  intro X C hX hI hR
  refine J_aload_n (i := 0) C dX3_init_0 rfl rfl ?_
  refine J_obj C dX3_init_1 (gc mlX3_obj) (gc imObj) (gc cdObj) (by decide) (Nat.le_of_ble_eq_true rfl) ?_
  refine J_aload_n (i := 0) C dX3_init_4 rfl rfl ?_
  refine J_sipush (v := 8192) C dX3_init_5 (by decide) ?_
  refine J_newa (n := 8192) (a0 := (8192, .inl (fun _ => 0))) C .int 0 dX3_init_8 rfl (fun _ => rfl) (fun _ _ => rfl) (gc arr_int) (fun _ => rfl) rfl rfl (by decide) (by decide) rfl rfl (Nat.le_of_eq hX) (Nat.le_of_ble_eq_true rfl) (Nat.le_of_ble_eq_true rfl) (Nat.le_of_ble_eq_true rfl) ?_
  refine J_put (ci := 6) C 0 tyX3 tyX3_ok nmX3 dX3_init_10 (inT inX3) rfl (gc flX3_X3_cell) (by decide) rfl (tyX3_ok 0 (by decide)) (fun _ => rfl) (fun _ => rfl) rfl (Nat.le_of_ble_eq_true rfl) ?_
  refine hR _ _ _ _ _ dX3_init_13 rfl (by rw [hX]; exact Nat.le_of_ble_eq_true rfl) (Nat.le_refl _) (Nat.le_refl _)
set_option maxHeartbeats 2000000 in
set_option maxRecDepth 10000 in
theorem c_X1_init : jN vwCl yX1_init (wc yX1_init cX1_init 2 none) 1 60 [.ref 3, .ref 1] [kRT (.ref 1) .null .null .null .null, kNm, kz 8192, .inr (4, [.null, .int 0, .null, .null])] 2 21
    (fun pw => pw = [kRT (.ref 1) .null .null .null .null, kNm, kz 8192, kFd, kz 5, kz 16]) := by
  refine jN_ofI (cc := cX1_init) (nL := 2) (by decide) rfl (Nat.le_of_ble_eq_true rfl) ?_
  intro X C hX hI hR
  have hX1 : jn0 X ≤ 4 := Nat.le_of_eq hX
  refine J_aload_n (i := 0) C dX1_init_0 rfl rfl ?_
  refine J_obj C dX1_init_1 (gc mlX1_obj) (gc imObj) (gc cdObj) (by decide) (Nat.le_of_ble_eq_true rfl) ?_
  refine J_aload_n (i := 0) C dX1_init_4 rfl rfl ?_
  refine J_iconst (v := 5) C dX1_init_5 (by decide) ?_
  refine J_newa (n := 5) (a0 := (5, .inl (fun _ => 0))) C .int 0 dX1_init_6 rfl (fun _ => rfl) (fun _ _ => rfl) (gc arr_int) (fun _ => rfl) rfl rfl (by decide) (by decide) rfl rfl hX1 (Nat.le_of_ble_eq_true rfl) (Nat.le_of_ble_eq_true rfl) (Nat.le_of_ble_eq_true rfl) ?_
  refine J_putF (ci := 4) C 2 tyX1 tyX1_ok nmX1 hI dX1_init_8 (inT inX1) rfl (gc flX1_X1_square) (by decide) rfl rfl (tyX1_ok 2 (by decide)) (fun _ => rfl) (fun _ => rfl) rfl (Nat.le_of_ble_eq_true rfl) ?_
  refine J_aload_n (i := 0) C dX1_init_11 rfl rfl ?_
  refine J_bipush (v := 16) C dX1_init_12 (by decide) ?_
  refine J_newa (n := 16) (a0 := (16, .inl (fun _ => 0))) C .int 0 dX1_init_14 rfl (fun _ => rfl) (fun _ _ => rfl) (gc arr_int) (fun _ => rfl) rfl rfl (by decide) (by decide) rfl rfl (Nat.le_succ_of_le hX1) (Nat.le_of_ble_eq_true rfl) (Nat.le_of_ble_eq_true rfl) (Nat.le_of_ble_eq_true rfl) ?_
  refine J_putF (ci := 4) C 3 tyX1 tyX1_ok nmX1 hI dX1_init_16 (inT inX1) rfl (gc flX1_X1_scale) (by decide) rfl rfl (tyX1_ok 3 (by decide)) (fun _ => rfl) (fun _ => rfl) rfl (Nat.le_of_ble_eq_true rfl) ?_
  refine J_aload_n (i := 0) C dX1_init_19 rfl rfl ?_
  refine J_aload_n (i := 1) C dX1_init_20 rfl rfl ?_
  refine J_putF (ci := 4) C 0 tyX1 tyX1_ok nmX1 hI dX1_init_21 (inT inX1) rfl (gc flX1_X1_numbers) (by decide) rfl rfl (tyX1_ok 0 (by decide)) (fun _ => rfl) (fun _ => rfl) rfl (Nat.le_of_ble_eq_true rfl) ?_
  refine hR _ _ _ _ _ dX1_init_24 rfl (Nat.le_trans hX1 (Nat.le_of_ble_eq_true rfl)) (Nat.le_refl _) (Nat.le_refl _)
set_option maxHeartbeats 2000000 in
set_option maxRecDepth 10000 in
/-- Spans(), the first and the second -/
theorem c_X5_init1 : jN vwCl yX5_init (wc yX5_init cX5_init 3 none) 1 60 [.ref 9, .ref 1, .ref 3] [kRT (.ref 1) (.ref 3) .null .null .null, kNm, kz 8192, kFd, kz 5, kz 16, .inr (3, [.ref 1, .ref 3, .null, .null, .int 0, .ref 7, .ref 8]), kz 60, kz 60, .inr (8, [.null, .null, .null, .null, .int 0])] 2 32
    (fun pw => pw = [kRT (.ref 1) (.ref 3) .null .null .null, kNm, kz 8192, kFd, kz 5, kz 16, .inr (3, [.ref 1, .ref 3, .null, .null, .int 0, .ref 7, .ref 8]), kz 60, kz 60, kSp 10 11, kz 16, kz 16]) := by
  refine jN_ofI (cc := cX5_init) (nL := 3) (by decide) rfl (Nat.le_of_ble_eq_true rfl) ?_
  intro X C hX hI hR
  have hX1 : jn0 X ≤ 10 := Nat.le_of_eq hX
  refine J_aload_n (i := 0) C dX5_init_0 rfl rfl ?_
  refine J_obj C dX5_init_1 (gc mlX5_obj) (gc imObj) (gc cdObj) (by decide) (Nat.le_of_ble_eq_true rfl) ?_
  refine J_aload_n (i := 0) C dX5_init_4 rfl rfl ?_
  refine J_bipush (v := 16) C dX5_init_5 (by decide) ?_
  refine J_newa (n := 16) (a0 := (16, .inl (fun _ => 0))) C .int 0 dX5_init_7 rfl (fun _ => rfl) (fun _ _ => rfl) (gc arr_int) (fun _ => rfl) rfl rfl (by decide) (by decide) rfl rfl hX1 (Nat.le_of_ble_eq_true rfl) (Nat.le_of_ble_eq_true rfl) (Nat.le_of_ble_eq_true rfl) ?_
  refine J_putF (ci := 8) C 2 tyX5 tyX5_ok nmX5 hI dX5_init_9 (inT inX5) rfl (gc flX5_X5_low) (by decide) rfl rfl (tyX5_ok 2 (by decide)) (fun _ => rfl) (fun _ => rfl) rfl (Nat.le_of_ble_eq_true rfl) ?_
  refine J_aload_n (i := 0) C dX5_init_12 rfl rfl ?_
  refine J_bipush (v := 16) C dX5_init_13 (by decide) ?_
  refine J_newa (n := 16) (a0 := (16, .inl (fun _ => 0))) C .int 0 dX5_init_15 rfl (fun _ => rfl) (fun _ _ => rfl) (gc arr_int) (fun _ => rfl) rfl rfl (by decide) (by decide) rfl rfl (Nat.le_succ_of_le hX1) (Nat.le_of_ble_eq_true rfl) (Nat.le_of_ble_eq_true rfl) (Nat.le_of_ble_eq_true rfl) ?_
  refine J_putF (ci := 8) C 3 tyX5 tyX5_ok nmX5 hI dX5_init_17 (inT inX5) rfl (gc flX5_X5_high) (by decide) rfl rfl (tyX5_ok 3 (by decide)) (fun _ => rfl) (fun _ => rfl) rfl (Nat.le_of_ble_eq_true rfl) ?_
  refine J_aload_n (i := 0) C dX5_init_20 rfl rfl ?_
  refine J_aload_n (i := 1) C dX5_init_21 rfl rfl ?_
  refine J_putF (ci := 8) C 0 tyX5 tyX5_ok nmX5 hI dX5_init_22 (inT inX5) rfl (gc flX5_X5_numbers) (by decide) rfl rfl (tyX5_ok 0 (by decide)) (fun _ => rfl) (fun _ => rfl) rfl (Nat.le_of_ble_eq_true rfl) ?_
  refine J_aload_n (i := 0) C dX5_init_25 rfl rfl ?_
  refine J_aload_n (i := 2) C dX5_init_26 rfl rfl ?_
  refine J_putF (ci := 8) C 1 tyX5 tyX5_ok nmX5 hI dX5_init_27 (inT inX5) rfl (gc flX5_X5_field) (by decide) rfl rfl (tyX5_ok 1 (by decide)) (fun _ => rfl) (fun _ => rfl) rfl (Nat.le_of_ble_eq_true rfl) ?_
  refine hR _ _ _ _ _ dX5_init_30 rfl (Nat.le_trans hX1 (Nat.le_of_ble_eq_true rfl)) (Nat.le_refl _) (Nat.le_refl _)
set_option maxHeartbeats 2000000 in
set_option maxRecDepth 10000 in
theorem c_X5_init2 : jN vwCl yX5_init (wc yX5_init cX5_init 3 none) 1 60 [.ref 12, .ref 1, .ref 3] [kRT (.ref 1) (.ref 3) .null .null .null, kNm, kz 8192, kFd, kz 5, kz 16, .inr (3, [.ref 1, .ref 3, .ref 9, .null, .int 0, .ref 7, .ref 8]), kz 60, kz 60, kSp 10 11, kz 16, kz 16, .inr (8, [.null, .null, .null, .null, .int 0])] 2 32
    (fun pw => pw = [kRT (.ref 1) (.ref 3) .null .null .null, kNm, kz 8192, kFd, kz 5, kz 16, .inr (3, [.ref 1, .ref 3, .ref 9, .null, .int 0, .ref 7, .ref 8]), kz 60, kz 60, kSp 10 11, kz 16, kz 16, kSp 13 14, kz 16, kz 16]) := by
  refine jN_ofI (cc := cX5_init) (nL := 3) (by decide) rfl (Nat.le_of_ble_eq_true rfl) ?_
  intro X C hX hI hR
  have hX1 : jn0 X ≤ 13 := Nat.le_of_eq hX
  refine J_aload_n (i := 0) C dX5_init_0 rfl rfl ?_
  refine J_obj C dX5_init_1 (gc mlX5_obj) (gc imObj) (gc cdObj) (by decide) (Nat.le_of_ble_eq_true rfl) ?_
  refine J_aload_n (i := 0) C dX5_init_4 rfl rfl ?_
  refine J_bipush (v := 16) C dX5_init_5 (by decide) ?_
  refine J_newa (n := 16) (a0 := (16, .inl (fun _ => 0))) C .int 0 dX5_init_7 rfl (fun _ => rfl) (fun _ _ => rfl) (gc arr_int) (fun _ => rfl) rfl rfl (by decide) (by decide) rfl rfl hX1 (Nat.le_of_ble_eq_true rfl) (Nat.le_of_ble_eq_true rfl) (Nat.le_of_ble_eq_true rfl) ?_
  refine J_putF (ci := 8) C 2 tyX5 tyX5_ok nmX5 hI dX5_init_9 (inT inX5) rfl (gc flX5_X5_low) (by decide) rfl rfl (tyX5_ok 2 (by decide)) (fun _ => rfl) (fun _ => rfl) rfl (Nat.le_of_ble_eq_true rfl) ?_
  refine J_aload_n (i := 0) C dX5_init_12 rfl rfl ?_
  refine J_bipush (v := 16) C dX5_init_13 (by decide) ?_
  refine J_newa (n := 16) (a0 := (16, .inl (fun _ => 0))) C .int 0 dX5_init_15 rfl (fun _ => rfl) (fun _ _ => rfl) (gc arr_int) (fun _ => rfl) rfl rfl (by decide) (by decide) rfl rfl (Nat.le_succ_of_le hX1) (Nat.le_of_ble_eq_true rfl) (Nat.le_of_ble_eq_true rfl) (Nat.le_of_ble_eq_true rfl) ?_
  refine J_putF (ci := 8) C 3 tyX5 tyX5_ok nmX5 hI dX5_init_17 (inT inX5) rfl (gc flX5_X5_high) (by decide) rfl rfl (tyX5_ok 3 (by decide)) (fun _ => rfl) (fun _ => rfl) rfl (Nat.le_of_ble_eq_true rfl) ?_
  refine J_aload_n (i := 0) C dX5_init_20 rfl rfl ?_
  refine J_aload_n (i := 1) C dX5_init_21 rfl rfl ?_
  refine J_putF (ci := 8) C 0 tyX5 tyX5_ok nmX5 hI dX5_init_22 (inT inX5) rfl (gc flX5_X5_numbers) (by decide) rfl rfl (tyX5_ok 0 (by decide)) (fun _ => rfl) (fun _ => rfl) rfl (Nat.le_of_ble_eq_true rfl) ?_
  refine J_aload_n (i := 0) C dX5_init_25 rfl rfl ?_
  refine J_aload_n (i := 2) C dX5_init_26 rfl rfl ?_
  refine J_putF (ci := 8) C 1 tyX5 tyX5_ok nmX5 hI dX5_init_27 (inT inX5) rfl (gc flX5_X5_field) (by decide) rfl rfl (tyX5_ok 1 (by decide)) (fun _ => rfl) (fun _ => rfl) rfl (Nat.le_of_ble_eq_true rfl) ?_
  refine hR _ _ _ _ _ dX5_init_30 rfl (Nat.le_trans hX1 (Nat.le_of_ble_eq_true rfl)) (Nat.le_refl _) (Nat.le_refl _)

set_option maxHeartbeats 4000000 in
set_option maxRecDepth 10000 in
theorem c_X0_init : jN vwCl yX0_init (wc yX0_init cX0_init 3 none) 2 120 [.ref 6, .ref 1, .ref 3] [kRT (.ref 1) (.ref 3) .null .null .null, kNm, kz 8192, kFd, kz 5, kz 16, .inr (3, [.null, .null, .null, .null, .int 0, .null, .null])] 8 194
    (fun pw => pw = [kRT (.ref 1) (.ref 3) .null .null .null, kNm, kz 8192, kFd, kz 5, kz 16, kEl, kz 60, kz 60, kSp 10 11, kz 16, kz 16, kSp 13 14, kz 16, kz 16]) := by
  refine jN_ofI (cc := cX0_init) (nL := 3) (by decide) rfl (Nat.le_of_ble_eq_true rfl) ?_
  intro X C hX hI hR
  have hX1 : jn0 X ≤ 7 := Nat.le_of_eq hX
  refine J_aload_n (i := 0) C dX0_init_0 rfl rfl ?_
  refine J_obj C dX0_init_1 (gc mlX0_obj) (gc imObj) (gc cdObj) (by decide) (Nat.le_of_ble_eq_true rfl) ?_
  refine J_aload_n (i := 0) C dX0_init_4 rfl rfl ?_
  refine J_bipush (v := 60) C dX0_init_5 (by decide) ?_
  refine J_newa (n := 60) (a0 := (60, .inl (fun _ => 0))) C .int 0 dX0_init_7 rfl (fun _ => rfl) (fun _ _ => rfl) (gc arr_int) (fun _ => rfl) rfl rfl (by decide) (by decide) rfl rfl hX1 (Nat.le_of_ble_eq_true rfl) (Nat.le_of_ble_eq_true rfl) (Nat.le_of_ble_eq_true rfl) ?_
  refine J_putF (ci := 3) C 5 tyX0 tyX0_ok nmX0 hI dX0_init_9 (inT inX0) rfl (gc flX0_X0_place) (by decide) rfl rfl (tyX0_ok 5 (by decide)) (fun _ => rfl) (fun _ => rfl) rfl (Nat.le_of_ble_eq_true rfl) ?_
  refine J_aload_n (i := 0) C dX0_init_12 rfl rfl ?_
  refine J_bipush (v := 60) C dX0_init_13 (by decide) ?_
  refine J_newa (n := 60) (a0 := (60, .inl (fun _ => 0))) C .int 0 dX0_init_15 rfl (fun _ => rfl) (fun _ _ => rfl) (gc arr_int) (fun _ => rfl) rfl rfl (by decide) (by decide) rfl rfl (Nat.le_trans hX1 (Nat.le_of_ble_eq_true rfl)) (Nat.le_of_ble_eq_true rfl) (Nat.le_of_ble_eq_true rfl) (Nat.le_of_ble_eq_true rfl) ?_
  refine J_putF (ci := 3) C 6 tyX0 tyX0_ok nmX0 hI dX0_init_17 (inT inX0) rfl (gc flX0_X0_rank) (by decide) rfl rfl (tyX0_ok 6 (by decide)) (fun _ => rfl) (fun _ => rfl) rfl (Nat.le_of_ble_eq_true rfl) ?_
  refine J_aload_n (i := 0) C dX0_init_20 rfl rfl ?_
  refine J_aload_n (i := 1) C dX0_init_21 rfl rfl ?_
  refine J_putF (ci := 3) C 0 tyX0 tyX0_ok nmX0 hI dX0_init_22 (inT inX0) rfl (gc flX0_X0_numbers) (by decide) rfl rfl (tyX0_ok 0 (by decide)) (fun _ => rfl) (fun _ => rfl) rfl (Nat.le_of_ble_eq_true rfl) ?_
  refine J_aload_n (i := 0) C dX0_init_25 rfl rfl ?_
  refine J_aload_n (i := 2) C dX0_init_26 rfl rfl ?_
  refine J_putF (ci := 3) C 1 tyX0 tyX0_ok nmX0 hI dX0_init_27 (inT inX0) rfl (gc flX0_X0_field) (by decide) rfl rfl (tyX0_ok 1 (by decide)) (fun _ => rfl) (fun _ => rfl) rfl (Nat.le_of_ble_eq_true rfl) ?_
  refine J_aload_n (i := 0) C dX0_init_30 rfl rfl ?_
  refine J_new (ci := 8) (fs := [.null, .null, .null, .null, .int 0]) C tyX5 tyX5_ok dX0_init_31 (inT inX5) rfl (gc klX0_X5) (gc istX5) (gc iniX5) (fun _ j hj => by rcases (show j = 0 ∨ j = 1 ∨ j = 2 ∨ j = 3 ∨ j = 4 by omega) with rfl | rfl | rfl | rfl | rfl <;> rfl) rfl rfl rfl (Nat.le_trans hX1 (Nat.le_of_ble_eq_true rfl)) (Nat.le_of_ble_eq_true rfl) (Nat.le_of_ble_eq_true rfl) (Nat.le_of_ble_eq_true rfl) ?_
  refine J_dup C dX0_init_34 rfl ?_
  refine J_aload_n (i := 1) C dX0_init_35 rfl rfl ?_
  refine J_aload_n (i := 2) C dX0_init_36 rfl rfl ?_
  refine J_callIn C [.ref 1, .ref 3] 10 c_X5_init1 (gI cdX5_init) (gc iniX5) (gc mlX0_X5_init) (gc imX5_init) rfl rfl dsX5_init.2 ⟨by decide, by decide⟩ dX0_init_37 rfl (Nat.le_of_ble_eq_true rfl) rfl (Nat.le_of_ble_eq_true rfl) (Nat.le_trans hX1 (Nat.le_of_ble_eq_true rfl)) (Nat.le_of_ble_eq_true rfl) (Nat.le_of_ble_eq_true rfl) (fun pw h hl => ?_)
  subst h
  refine J_putF (ci := 3) C 2 tyX0 tyX0_ok nmX0 hI dX0_init_40 (inT inX0) rfl (gc flX0_X0_ready) (by decide) rfl rfl (tyX0_ok 2 (by decide)) (fun _ => rfl) (fun _ => rfl) rfl (Nat.le_of_ble_eq_true rfl) ?_
  refine J_aload_n (i := 0) C dX0_init_43 rfl rfl ?_
  refine J_new (ci := 8) (fs := [.null, .null, .null, .null, .int 0]) C tyX5 tyX5_ok dX0_init_44 (inT inX5) rfl (gc klX0_X5) (gc istX5) (gc iniX5) (fun _ j hj => by rcases (show j = 0 ∨ j = 1 ∨ j = 2 ∨ j = 3 ∨ j = 4 by omega) with rfl | rfl | rfl | rfl | rfl <;> rfl) rfl rfl rfl (Nat.le_trans hX1 (Nat.le_of_ble_eq_true rfl)) (Nat.le_of_ble_eq_true rfl) (Nat.le_of_ble_eq_true rfl) (Nat.le_of_ble_eq_true rfl) ?_
  refine J_dup C dX0_init_47 rfl ?_
  refine J_aload_n (i := 1) C dX0_init_48 rfl rfl ?_
  refine J_aload_n (i := 2) C dX0_init_49 rfl rfl ?_
  refine J_callIn C [.ref 1, .ref 3] 13 c_X5_init2 (gI cdX5_init) (gc iniX5) (gc mlX0_X5_init) (gc imX5_init) rfl rfl dsX5_init.2 ⟨by decide, by decide⟩ dX0_init_50 rfl (Nat.le_of_ble_eq_true rfl) rfl (Nat.le_of_ble_eq_true rfl) (Nat.le_trans hX1 (Nat.le_of_ble_eq_true rfl)) (Nat.le_of_ble_eq_true rfl) (Nat.le_of_ble_eq_true rfl) (fun pw h hl => ?_)
  subst h
  refine J_putF (ci := 3) C 3 tyX0 tyX0_ok nmX0 hI dX0_init_53 (inT inX0) rfl (gc flX0_X0_fine) (by decide) rfl rfl (tyX0_ok 3 (by decide)) (fun _ => rfl) (fun _ => rfl) rfl (Nat.le_of_ble_eq_true rfl) ?_
  refine hR _ _ _ _ _ dX0_init_56 rfl (Nat.le_trans hX1 (Nat.le_of_ble_eq_true rfl)) (Nat.le_refl _) (Nat.le_refl _)
set_option maxHeartbeats 4000000 in
set_option maxRecDepth 10000 in
theorem c_X2_init : jN vwCl yX2_init (wc yX2_init cX2_init 3 none) 1 60 [.ref 15, .ref 1, .ref 3] [kRT (.ref 1) (.ref 3) (.ref 6) .null .null, kNm, kz 8192, kFd, kz 5, kz 16, kEl, kz 60, kz 60, kSp 10 11, kz 16, kz 16, kSp 13 14, kz 16, kz 16, .inr (5, [.null, .null, .int 0, .int 0, .null, .null])] 2 34
    (fun pw => pw = [kRT (.ref 1) (.ref 3) (.ref 6) .null .null, kNm, kz 8192, kFd, kz 5, kz 16, kEl, kz 60, kz 60, kSp 10 11, kz 16, kz 16, kSp 13 14, kz 16, kz 16, kLe, kz 17, kz 17]) := by
  refine jN_ofI (cc := cX2_init) (nL := 3) (by decide) rfl (Nat.le_of_ble_eq_true rfl) ?_
  intro X C hX hI hR
  have hX1 : jn0 X ≤ 16 := Nat.le_of_eq hX
  refine J_aload_n (i := 0) C dX2_init_0 rfl rfl ?_
  refine J_obj C dX2_init_1 (gc mlX2_obj) (gc imObj) (gc cdObj) (by decide) (Nat.le_of_ble_eq_true rfl) ?_
  refine J_aload_n (i := 0) C dX2_init_4 rfl rfl ?_
  refine J_bipush (v := 17) C dX2_init_5 (by decide) ?_
  refine J_newa (n := 17) (a0 := (17, .inl (fun _ => 0))) C .int 0 dX2_init_7 rfl (fun _ => rfl) (fun _ _ => rfl) (gc arr_int) (fun _ => rfl) rfl rfl (by decide) (by decide) rfl rfl hX1 (Nat.le_of_ble_eq_true rfl) (Nat.le_of_ble_eq_true rfl) (Nat.le_of_ble_eq_true rfl) ?_
  refine J_putF (ci := 5) C 4 tyX2 tyX2_ok nmX2 hI dX2_init_9 (inT inX2) rfl (gc flX2_X2_low) (by decide) rfl rfl (tyX2_ok 4 (by decide)) (fun _ => rfl) (fun _ => rfl) rfl (Nat.le_of_ble_eq_true rfl) ?_
  refine J_aload_n (i := 0) C dX2_init_12 rfl rfl ?_
  refine J_bipush (v := 17) C dX2_init_13 (by decide) ?_
  refine J_newa (n := 17) (a0 := (17, .inl (fun _ => 0))) C .int 0 dX2_init_15 rfl (fun _ => rfl) (fun _ _ => rfl) (gc arr_int) (fun _ => rfl) rfl rfl (by decide) (by decide) rfl rfl (Nat.le_succ_of_le hX1) (Nat.le_of_ble_eq_true rfl) (Nat.le_of_ble_eq_true rfl) (Nat.le_of_ble_eq_true rfl) ?_
  refine J_putF (ci := 5) C 5 tyX2 tyX2_ok nmX2 hI dX2_init_17 (inT inX2) rfl (gc flX2_X2_high) (by decide) rfl rfl (tyX2_ok 5 (by decide)) (fun _ => rfl) (fun _ => rfl) rfl (Nat.le_of_ble_eq_true rfl) ?_
  refine J_aload_n (i := 0) C dX2_init_20 rfl rfl ?_
  refine J_aload_n (i := 1) C dX2_init_21 rfl rfl ?_
  refine J_putF (ci := 5) C 0 tyX2 tyX2_ok nmX2 hI dX2_init_22 (inT inX2) rfl (gc flX2_X2_numbers) (by decide) rfl rfl (tyX2_ok 0 (by decide)) (fun _ => rfl) (fun _ => rfl) rfl (Nat.le_of_ble_eq_true rfl) ?_
  refine J_aload_n (i := 0) C dX2_init_25 rfl rfl ?_
  refine J_aload_n (i := 2) C dX2_init_26 rfl rfl ?_
  refine J_putF (ci := 5) C 1 tyX2 tyX2_ok nmX2 hI dX2_init_27 (inT inX2) rfl (gc flX2_X2_field) (by decide) rfl rfl (tyX2_ok 1 (by decide)) (fun _ => rfl) (fun _ => rfl) rfl (Nat.le_of_ble_eq_true rfl) ?_
  refine hR _ _ _ _ _ dX2_init_30 rfl (Nat.le_trans hX1 (Nat.le_of_ble_eq_true rfl)) (Nat.le_refl _) (Nat.le_refl _)
set_option maxHeartbeats 4000000 in
set_option maxRecDepth 10000 in
theorem c_X4_init : jN vwCl yX4_init (wc yX4_init cX4_init 2 none) 1 60 [.ref 18, .ref 1] [kRT (.ref 1) (.ref 3) (.ref 6) (.ref 15) .null, kNm, kz 8192, kFd, kz 5, kz 16, kEl, kz 60, kz 60, kSp 10 11, kz 16, kz 16, kSp 13 14, kz 16, kz 16, kLe, kz 17, kz 17, .inr (7, [.null, .null, .int 0])] 1 2240
    (fun pw => pw = [kRT (.ref 1) (.ref 3) (.ref 6) (.ref 15) .null, kNm, kz 8192, kFd, kz 5, kz 16, kEl, kz 60, kz 60, kSp 10 11, kz 16, kz 16, kSp 13 14, kz 16, kz 16, kLe, kz 17, kz 17, kSc, kBy]) := by
  refine jN_ofI (cc := cX4_init) (nL := 2) (by decide) rfl (Nat.le_of_ble_eq_true rfl) ?_
  intro X C hX hI hR
  have hX1 : jn0 X ≤ 19 := Nat.le_of_eq hX
  refine J_aload_n (i := 0) C dX4_init_0 rfl rfl ?_
  refine J_obj C dX4_init_1 (gc mlX4_obj) (gc imObj) (gc cdObj) (by decide) (Nat.le_of_ble_eq_true rfl) ?_
  refine J_aload_n (i := 0) C dX4_init_4 rfl rfl ?_
  refine J_sipush (v := 2240) C dX4_init_5 (by decide) ?_
  refine J_newa (n := 2240) (a0 := (2240, .inl (fun _ => 0))) C .byte 2 dX4_init_8 rfl (fun _ => rfl) (fun _ _ => rfl) (gc arr_byte) (fun _ => rfl) rfl rfl (by decide) (by decide) rfl rfl hX1 (Nat.le_of_ble_eq_true rfl) (Nat.le_of_ble_eq_true rfl) (Nat.le_of_ble_eq_true rfl) ?_
  refine J_putF (ci := 7) C 1 tyX4 tyX4_ok nmX4 hI dX4_init_10 (inT inX4) rfl (gc flX4_X4_letters) (by decide) rfl rfl (tyX4_ok 1 (by decide)) (fun _ => rfl) (fun _ => rfl) rfl (Nat.le_of_ble_eq_true rfl) ?_
  refine J_aload_n (i := 0) C dX4_init_13 rfl rfl ?_
  refine J_aload_n (i := 1) C dX4_init_14 rfl rfl ?_
  refine J_putF (ci := 7) C 0 tyX4 tyX4_ok nmX4 hI dX4_init_15 (inT inX4) rfl (gc flX4_X4_numbers) (by decide) rfl rfl (tyX4_ok 0 (by decide)) (fun _ => rfl) (fun _ => rfl) rfl (Nat.le_of_ble_eq_true rfl) ?_
  refine hR _ _ _ _ _ dX4_init_18 rfl (Nat.le_trans hX1 (Nat.le_of_ble_eq_true rfl)) (Nat.le_refl _) (Nat.le_refl _)

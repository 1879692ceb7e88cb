/-- the reference's cells alone -/
abbrev mT (th : Int32) (z sz sg : Nat → Int32) (tk : Int32) (st ss sn : Nat → Int32) (el ro : Int32) (kt ks kn : Nat → Int32) (le : Int32) (lr : Nat → Int32) (pl : Int32) (rest : jW) : jW :=
  .inr (10, [.int th, .ref 21, .ref 22, .ref 23, .int tk, .ref 24, .ref 25, .ref 26, .int el, .int ro, .ref 27, .ref 28, .ref 29, .int le, .ref 30, .int pl]) :: .inl (.int, 1250000, .inl z) :: .inl (.int, 500, .inl sz) :: .inl (.int, 500, .inl sg) :: .inl (.int, 16384, .inl st) :: .inl (.int, 2048, .inl ss) :: .inl (.int, 2048, .inl sn) :: .inl (.int, 5000, .inl kt) :: .inl (.int, 2, .inl ks) :: .inl (.int, 2, .inl kn) :: .inl (.int, 4000, .inl lr) :: rest
abbrev z0 : Nat → Int32 := fun _ => 0
set_option maxHeartbeats 1000000 in
set_option maxRecDepth 20000 in
/-- RootTowersModel() -/
theorem m_init {tp fm kp : Int32} {f : Nat → Int32} {ht : Int32} {sq sc : Nat → Int32} {ct : Int32} {pl rk : Nat → Int32} {pr : Int32} {rl rh : Nat → Int32} {ln : Int32} {lt : Nat → Int32} :
    jN vwCl yX7_init (wc yX7_init cX7_init 2 none) 4 240 [.ref 20] (cW tp fm kp 8192 f ht sq sc ct pl rk pr rl rh (kSp 13 14) (kz 16) (kz 16) kLe (kz 17) (kz 17) ln lt [.inr (10, [.int 0, .null, .null, .null, .int 0, .null, .null, .null, .int 0, .int 0, .null, .null, .null, .int 0, .null, .int 0])]) 10 1280484
      (fun pw => pw = cW tp fm kp 8192 f ht sq sc ct pl rk pr rl rh (kSp 13 14) (kz 16) (kz 16) kLe (kz 17) (kz 17) ln lt (mT 0 (upd z0 2500 1) (upd (upd z0 0 0) 1 1) (upd (upd z0 0 0) 1 1) 2 z0 z0 z0 0 0 (upd z0 2500 1) (upd (upd z0 0 0) 1 1) (upd (upd z0 0 0) 1 1) 0 z0 0 [])) := by
  refine jN_ofI (cc := cX7_init) (nL := 2) (by decide) rfl (Nat.le_of_ble_eq_true rfl) ?_
  intro X C hX hI hR
  have hX1 : jn0 X ≤ 21 := Nat.le_of_eq hX
  have hX2 : ∀ n, 21 ≤ n → jn0 X ≤ n := fun n h => Nat.le_trans hX1 h
  refine J_aload_n (i := 0) C dX7_init_0 rfl rfl ?_
  refine J_obj C dX7_init_1 (gc mlX7_obj) (gc imObj) (gc cdObj) (by decide) (Nat.le_of_ble_eq_true rfl) ?_
  refine J_aload_n (i := 0) C dX7_init_4 rfl rfl ?_
  refine J_ldc C (gc coX7_1250000) dX7_init_5 ?_
  refine J_newa (n := 1250000) (a0 := (1250000, .inl (fun _ => 0))) C .int 0 dX7_init_7 rfl (fun _ => rfl) (fun _ _ => rfl) (gc arr_int) (fun _ => rfl) rfl rfl (by decide) (by decide) rfl rfl (hX2 _ (Nat.le_of_ble_eq_true rfl)) (Nat.le_of_ble_eq_true rfl) (Nat.le_of_ble_eq_true rfl) (Nat.le_of_ble_eq_true rfl) ?_
  refine J_putF (ci := 10) C 1 tyX7 tyX7_ok nmX7 hI dX7_init_9 (inT inX7) rfl (gc flX7_X7_z) (by decide) rfl rfl (tyX7_ok 1 (by decide)) (fun _ => rfl) (fun _ => rfl) rfl (Nat.le_of_ble_eq_true rfl) ?_
  refine J_eqw (pw' := cW tp fm kp 8192 f ht sq sc ct pl rk pr rl rh (kSp 13 14) (kz 16) (kz 16) kLe (kz 17) (kz 17) ln lt [.inr (10, [.int 0, .ref 21, .null, .null, .int 0, .null, .null, .null, .int 0, .int 0, .null, .null, .null, .int 0, .null, .int 0]), kz 1250000]) rfl ?_
  refine J_aload_n (i := 0) C dX7_init_12 rfl rfl ?_
  refine J_sipush (v := 500) C dX7_init_13 (by decide) ?_
  refine J_newa (n := 500) (a0 := (500, .inl (fun _ => 0))) C .int 0 dX7_init_16 rfl (fun _ => rfl) (fun _ _ => rfl) (gc arr_int) (fun _ => rfl) rfl rfl (by decide) (by decide) rfl rfl (hX2 _ (Nat.le_of_ble_eq_true rfl)) (Nat.le_of_ble_eq_true rfl) (Nat.le_of_ble_eq_true rfl) (Nat.le_of_ble_eq_true rfl) ?_
  refine J_putF (ci := 10) C 2 tyX7 tyX7_ok nmX7 hI dX7_init_18 (inT inX7) rfl (gc flX7_X7_size) (by decide) rfl rfl (tyX7_ok 2 (by decide)) (fun _ => rfl) (fun _ => rfl) rfl (Nat.le_of_ble_eq_true rfl) ?_
  refine J_eqw (pw' := cW tp fm kp 8192 f ht sq sc ct pl rk pr rl rh (kSp 13 14) (kz 16) (kz 16) kLe (kz 17) (kz 17) ln lt [.inr (10, [.int 0, .ref 21, .ref 22, .null, .int 0, .null, .null, .null, .int 0, .int 0, .null, .null, .null, .int 0, .null, .int 0]), kz 1250000, kz 500]) rfl ?_
  refine J_aload_n (i := 0) C dX7_init_21 rfl rfl ?_
  refine J_sipush (v := 500) C dX7_init_22 (by decide) ?_
  refine J_newa (n := 500) (a0 := (500, .inl (fun _ => 0))) C .int 0 dX7_init_25 rfl (fun _ => rfl) (fun _ _ => rfl) (gc arr_int) (fun _ => rfl) rfl rfl (by decide) (by decide) rfl rfl (hX2 _ (Nat.le_of_ble_eq_true rfl)) (Nat.le_of_ble_eq_true rfl) (Nat.le_of_ble_eq_true rfl) (Nat.le_of_ble_eq_true rfl) ?_
  refine J_putF (ci := 10) C 3 tyX7 tyX7_ok nmX7 hI dX7_init_27 (inT inX7) rfl (gc flX7_X7_sign) (by decide) rfl rfl (tyX7_ok 3 (by decide)) (fun _ => rfl) (fun _ => rfl) rfl (Nat.le_of_ble_eq_true rfl) ?_
  refine J_eqw (pw' := cW tp fm kp 8192 f ht sq sc ct pl rk pr rl rh (kSp 13 14) (kz 16) (kz 16) kLe (kz 17) (kz 17) ln lt [.inr (10, [.int 0, .ref 21, .ref 22, .ref 23, .int 0, .null, .null, .null, .int 0, .int 0, .null, .null, .null, .int 0, .null, .int 0]), kz 1250000, kz 500, kz 500]) rfl ?_
  refine J_aload_n (i := 0) C dX7_init_30 rfl rfl ?_
  refine J_sipush (v := 16384) C dX7_init_31 (by decide) ?_
  refine J_newa (n := 16384) (a0 := (16384, .inl (fun _ => 0))) C .int 0 dX7_init_34 rfl (fun _ => rfl) (fun _ _ => rfl) (gc arr_int) (fun _ => rfl) rfl rfl (by decide) (by decide) rfl rfl (hX2 _ (Nat.le_of_ble_eq_true rfl)) (Nat.le_of_ble_eq_true rfl) (Nat.le_of_ble_eq_true rfl) (Nat.le_of_ble_eq_true rfl) ?_
  refine J_putF (ci := 10) C 5 tyX7 tyX7_ok nmX7 hI dX7_init_36 (inT inX7) rfl (gc flX7_X7_store) (by decide) rfl rfl (tyX7_ok 5 (by decide)) (fun _ => rfl) (fun _ => rfl) rfl (Nat.le_of_ble_eq_true rfl) ?_
  refine J_eqw (pw' := cW tp fm kp 8192 f ht sq sc ct pl rk pr rl rh (kSp 13 14) (kz 16) (kz 16) kLe (kz 17) (kz 17) ln lt [.inr (10, [.int 0, .ref 21, .ref 22, .ref 23, .int 0, .ref 24, .null, .null, .int 0, .int 0, .null, .null, .null, .int 0, .null, .int 0]), kz 1250000, kz 500, kz 500, kz 16384]) rfl ?_
  refine J_aload_n (i := 0) C dX7_init_39 rfl rfl ?_
  refine J_sipush (v := 2048) C dX7_init_40 (by decide) ?_
  refine J_newa (n := 2048) (a0 := (2048, .inl (fun _ => 0))) C .int 0 dX7_init_43 rfl (fun _ => rfl) (fun _ _ => rfl) (gc arr_int) (fun _ => rfl) rfl rfl (by decide) (by decide) rfl rfl (hX2 _ (Nat.le_of_ble_eq_true rfl)) (Nat.le_of_ble_eq_true rfl) (Nat.le_of_ble_eq_true rfl) (Nat.le_of_ble_eq_true rfl) ?_
  refine J_putF (ci := 10) C 6 tyX7 tyX7_ok nmX7 hI dX7_init_45 (inT inX7) rfl (gc flX7_X7_storeSize) (by decide) rfl rfl (tyX7_ok 6 (by decide)) (fun _ => rfl) (fun _ => rfl) rfl (Nat.le_of_ble_eq_true rfl) ?_
  refine J_eqw (pw' := cW tp fm kp 8192 f ht sq sc ct pl rk pr rl rh (kSp 13 14) (kz 16) (kz 16) kLe (kz 17) (kz 17) ln lt [.inr (10, [.int 0, .ref 21, .ref 22, .ref 23, .int 0, .ref 24, .ref 25, .null, .int 0, .int 0, .null, .null, .null, .int 0, .null, .int 0]), kz 1250000, kz 500, kz 500, kz 16384, kz 2048]) rfl ?_
  refine J_aload_n (i := 0) C dX7_init_48 rfl rfl ?_
  refine J_sipush (v := 2048) C dX7_init_49 (by decide) ?_
  refine J_newa (n := 2048) (a0 := (2048, .inl (fun _ => 0))) C .int 0 dX7_init_52 rfl (fun _ => rfl) (fun _ _ => rfl) (gc arr_int) (fun _ => rfl) rfl rfl (by decide) (by decide) rfl rfl (hX2 _ (Nat.le_of_ble_eq_true rfl)) (Nat.le_of_ble_eq_true rfl) (Nat.le_of_ble_eq_true rfl) (Nat.le_of_ble_eq_true rfl) ?_
  refine J_putF (ci := 10) C 7 tyX7 tyX7_ok nmX7 hI dX7_init_54 (inT inX7) rfl (gc flX7_X7_storeSign) (by decide) rfl rfl (tyX7_ok 7 (by decide)) (fun _ => rfl) (fun _ => rfl) rfl (Nat.le_of_ble_eq_true rfl) ?_
  refine J_eqw (pw' := cW tp fm kp 8192 f ht sq sc ct pl rk pr rl rh (kSp 13 14) (kz 16) (kz 16) kLe (kz 17) (kz 17) ln lt [.inr (10, [.int 0, .ref 21, .ref 22, .ref 23, .int 0, .ref 24, .ref 25, .ref 26, .int 0, .int 0, .null, .null, .null, .int 0, .null, .int 0]), kz 1250000, kz 500, kz 500, kz 16384, kz 2048, kz 2048]) rfl ?_
  refine J_aload_n (i := 0) C dX7_init_57 rfl rfl ?_
  refine J_sipush (v := 5000) C dX7_init_58 (by decide) ?_
  refine J_newa (n := 5000) (a0 := (5000, .inl (fun _ => 0))) C .int 0 dX7_init_61 rfl (fun _ => rfl) (fun _ _ => rfl) (gc arr_int) (fun _ => rfl) rfl rfl (by decide) (by decide) rfl rfl (hX2 _ (Nat.le_of_ble_eq_true rfl)) (Nat.le_of_ble_eq_true rfl) (Nat.le_of_ble_eq_true rfl) (Nat.le_of_ble_eq_true rfl) ?_
  refine J_putF (ci := 10) C 10 tyX7 tyX7_ok nmX7 hI dX7_init_63 (inT inX7) rfl (gc flX7_X7_kept) (by decide) rfl rfl (tyX7_ok 10 (by decide)) (fun _ => rfl) (fun _ => rfl) rfl (Nat.le_of_ble_eq_true rfl) ?_
  refine J_eqw (pw' := cW tp fm kp 8192 f ht sq sc ct pl rk pr rl rh (kSp 13 14) (kz 16) (kz 16) kLe (kz 17) (kz 17) ln lt [.inr (10, [.int 0, .ref 21, .ref 22, .ref 23, .int 0, .ref 24, .ref 25, .ref 26, .int 0, .int 0, .ref 27, .null, .null, .int 0, .null, .int 0]), kz 1250000, kz 500, kz 500, kz 16384, kz 2048, kz 2048, kz 5000]) rfl ?_
  refine J_aload_n (i := 0) C dX7_init_66 rfl rfl ?_
  refine J_iconst (v := 2) C dX7_init_67 (by decide) ?_
  refine J_newa (n := 2) (a0 := (2, .inl (fun _ => 0))) C .int 0 dX7_init_68 rfl (fun _ => rfl) (fun _ _ => rfl) (gc arr_int) (fun _ => rfl) rfl rfl (by decide) (by decide) rfl rfl (hX2 _ (Nat.le_of_ble_eq_true rfl)) (Nat.le_of_ble_eq_true rfl) (Nat.le_of_ble_eq_true rfl) (Nat.le_of_ble_eq_true rfl) ?_
  refine J_putF (ci := 10) C 11 tyX7 tyX7_ok nmX7 hI dX7_init_70 (inT inX7) rfl (gc flX7_X7_keptSize) (by decide) rfl rfl (tyX7_ok 11 (by decide)) (fun _ => rfl) (fun _ => rfl) rfl (Nat.le_of_ble_eq_true rfl) ?_
  refine J_eqw (pw' := cW tp fm kp 8192 f ht sq sc ct pl rk pr rl rh (kSp 13 14) (kz 16) (kz 16) kLe (kz 17) (kz 17) ln lt [.inr (10, [.int 0, .ref 21, .ref 22, .ref 23, .int 0, .ref 24, .ref 25, .ref 26, .int 0, .int 0, .ref 27, .ref 28, .null, .int 0, .null, .int 0]), kz 1250000, kz 500, kz 500, kz 16384, kz 2048, kz 2048, kz 5000, kz 2]) rfl ?_
  refine J_aload_n (i := 0) C dX7_init_73 rfl rfl ?_
  refine J_iconst (v := 2) C dX7_init_74 (by decide) ?_
  refine J_newa (n := 2) (a0 := (2, .inl (fun _ => 0))) C .int 0 dX7_init_75 rfl (fun _ => rfl) (fun _ _ => rfl) (gc arr_int) (fun _ => rfl) rfl rfl (by decide) (by decide) rfl rfl (hX2 _ (Nat.le_of_ble_eq_true rfl)) (Nat.le_of_ble_eq_true rfl) (Nat.le_of_ble_eq_true rfl) (Nat.le_of_ble_eq_true rfl) ?_
  refine J_putF (ci := 10) C 12 tyX7 tyX7_ok nmX7 hI dX7_init_77 (inT inX7) rfl (gc flX7_X7_keptSign) (by decide) rfl rfl (tyX7_ok 12 (by decide)) (fun _ => rfl) (fun _ => rfl) rfl (Nat.le_of_ble_eq_true rfl) ?_
  refine J_eqw (pw' := cW tp fm kp 8192 f ht sq sc ct pl rk pr rl rh (kSp 13 14) (kz 16) (kz 16) kLe (kz 17) (kz 17) ln lt [.inr (10, [.int 0, .ref 21, .ref 22, .ref 23, .int 0, .ref 24, .ref 25, .ref 26, .int 0, .int 0, .ref 27, .ref 28, .ref 29, .int 0, .null, .int 0]), kz 1250000, kz 500, kz 500, kz 16384, kz 2048, kz 2048, kz 5000, kz 2, kz 2]) rfl ?_
  refine J_aload_n (i := 0) C dX7_init_80 rfl rfl ?_
  refine J_sipush (v := 4000) C dX7_init_81 (by decide) ?_
  refine J_newa (n := 4000) (a0 := (4000, .inl (fun _ => 0))) C .int 0 dX7_init_84 rfl (fun _ => rfl) (fun _ _ => rfl) (gc arr_int) (fun _ => rfl) rfl rfl (by decide) (by decide) rfl rfl (hX2 _ (Nat.le_of_ble_eq_true rfl)) (Nat.le_of_ble_eq_true rfl) (Nat.le_of_ble_eq_true rfl) (Nat.le_of_ble_eq_true rfl) ?_
  refine J_putF (ci := 10) C 14 tyX7 tyX7_ok nmX7 hI dX7_init_86 (inT inX7) rfl (gc flX7_X7_letterRow) (by decide) rfl rfl (tyX7_ok 14 (by decide)) (fun _ => rfl) (fun _ => rfl) rfl (Nat.le_of_ble_eq_true rfl) ?_
  refine J_eqw (pw' := cW tp fm kp 8192 f ht sq sc ct pl rk pr rl rh (kSp 13 14) (kz 16) (kz 16) kLe (kz 17) (kz 17) ln lt [.inr (10, [.int 0, .ref 21, .ref 22, .ref 23, .int 0, .ref 24, .ref 25, .ref 26, .int 0, .int 0, .ref 27, .ref 28, .ref 29, .int 0, .ref 30, .int 0]), kz 1250000, kz 500, kz 500, kz 16384, kz 2048, kz 2048, kz 5000, kz 2, kz 2, kz 4000]) rfl ?_
  refine J_aload_n (i := 0) C dX7_init_89 rfl rfl ?_
  refine J_callVi C [] rfl rfl 31 m_clear (gV mlX7_X7_clear imX7_clear slX7_clear iniX7 cdX7_clear) rfl dsX7_clear ⟨by decide, by decide⟩ dX7_init_90 rfl (Nat.le_of_ble_eq_true rfl) rfl (Nat.le_of_ble_eq_true rfl) (hX2 _ (Nat.le_of_ble_eq_true rfl)) (Nat.le_of_ble_eq_true rfl) (Nat.le_of_ble_eq_true rfl) (fun r pw h hl => ?_)
  obtain ⟨rfl, rfl⟩ := h
  refine J_istore_n (i := 1) C dX7_init_93 rfl (by decide) ?_
  refine hR _ _ _ _ _ dX7_init_94 rfl (hX2 _ (Nat.le_of_ble_eq_true rfl)) (Nat.le_refl _) (Nat.le_refl _)

set_option maxHeartbeats 4000000 in
set_option maxRecDepth 10000 in
/-- RootTowers() -/
theorem c_X6_init : jN vwCl yX6_init (wc yX6_init cX6_init 1 none) 6 360 [.ref 0] [kRT .null .null .null .null .null] 19 10705
    (fun pw => pw = cW (nI (bgT (rsF (fun _ => 0)) 130)) (nI (bgT (rsF (fun _ => 0)) 130)) (nI (bgT (rsF (fun _ => 0)) 130)) 8192 (bgF (rsF (fun _ => 0)) 130) 0 (fun _ => 0) (upd (fun _ => 0) 0 128) 0 (fun _ => 0) (fun _ => 0) 4 (upd (fun _ => 0) 0 (nI 130)) (upd (fun _ => 0) 0 (nI 130)) (kSp 13 14) (kz 16) (kz 16) kLe (kz 17) (kz 17) 0 (fun _ => 0) []) := by
  refine jN_ofI (cc := cX6_init) (nL := 1) (by decide) rfl (Nat.le_of_ble_eq_true rfl) ?_
  intro X C hX hI hR
  have hX1 : jn0 X ≤ 1 := Nat.le_of_eq hX
  refine J_aload_n (i := 0) C dX6_init_0 rfl rfl ?_
  refine J_obj C dX6_init_1 (gc mlX6_obj) (gc imObj) (gc cdObj) (by decide) (Nat.le_of_ble_eq_true rfl) ?_
  refine J_aload_n (i := 0) C dX6_init_4 rfl rfl ?_
  refine J_new (ci := 6) (fs := [.null, .int 0, .int 0, .int 0]) C tyX3 tyX3_ok dX6_init_5 (inT inX3) rfl (gc klX6_X3) (gc istX3) (gc iniX3) (fun _ j hj => by rcases (show j = 0 ∨ j = 1 ∨ j = 2 ∨ j = 3 by omega) with rfl | rfl | rfl | rfl <;> rfl) rfl rfl rfl hX1 (Nat.le_of_ble_eq_true rfl) (Nat.le_of_ble_eq_true rfl) (Nat.le_of_ble_eq_true rfl) ?_
  refine J_dup C dX6_init_8 rfl ?_
  refine J_callIn C [] 2 c_X3_init (gI cdX3_init) (gc iniX3) (gc mlX6_X3_init) (gc imX3_init) rfl rfl dsX3_init.2 ⟨by decide, by decide⟩ dX6_init_9 rfl (Nat.le_of_ble_eq_true rfl) rfl (Nat.le_of_ble_eq_true rfl) (Nat.le_trans hX1 (Nat.le_of_ble_eq_true rfl)) (Nat.le_of_ble_eq_true rfl) (Nat.le_of_ble_eq_true rfl) (fun pw h hl => ?_)
  subst h
  refine J_putF (ci := 9) C 0 tyX6 tyX6_ok nmX6 hI dX6_init_12 (inT inX6) rfl (gc flX6_X6_numbers) (by decide) rfl rfl (tyX6_ok 0 (by decide)) (fun _ => rfl) (fun _ => rfl) rfl (Nat.le_of_ble_eq_true rfl) ?_
  refine J_aload_n (i := 0) C dX6_init_15 rfl rfl ?_
  refine J_new (ci := 4) (fs := [.null, .int 0, .null, .null]) C tyX1 tyX1_ok dX6_init_16 (inT inX1) rfl (gc klX6_X1) (gc istX1) (gc iniX1) (fun _ j hj => by rcases (show j = 0 ∨ j = 1 ∨ j = 2 ∨ j = 3 by omega) with rfl | rfl | rfl | rfl <;> rfl) rfl rfl rfl (Nat.le_trans hX1 (Nat.le_of_ble_eq_true rfl)) (Nat.le_of_ble_eq_true rfl) (Nat.le_of_ble_eq_true rfl) (Nat.le_of_ble_eq_true rfl) ?_
  refine J_dup C dX6_init_19 rfl ?_
  refine J_aload_n (i := 0) C dX6_init_20 rfl rfl ?_
  refine J_get (ci := 9) (k := 0) C dX6_init_21 (inT inX6) rfl (gc flX6_X6_numbers) (by decide) rfl rfl ?_
  refine J_callIn C [.ref 1] 4 c_X1_init (gI cdX1_init) (gc iniX1) (gc mlX6_X1_init) (gc imX1_init) rfl rfl dsX1_init.2 ⟨by decide, by decide⟩ dX6_init_24 rfl (Nat.le_of_ble_eq_true rfl) rfl (Nat.le_of_ble_eq_true rfl) (Nat.le_trans hX1 (Nat.le_of_ble_eq_true rfl)) (Nat.le_of_ble_eq_true rfl) (Nat.le_of_ble_eq_true rfl) (fun pw h hl => ?_)
  subst h
  refine J_putF (ci := 9) C 1 tyX6 tyX6_ok nmX6 hI dX6_init_27 (inT inX6) rfl (gc flX6_X6_field) (by decide) rfl rfl (tyX6_ok 1 (by decide)) (fun _ => rfl) (fun _ => rfl) rfl (Nat.le_of_ble_eq_true rfl) ?_
  refine J_aload_n (i := 0) C dX6_init_30 rfl rfl ?_
  refine J_new (ci := 3) (fs := [.null, .null, .null, .null, .int 0, .null, .null]) C tyX0 tyX0_ok dX6_init_31 (inT inX0) rfl (gc klX6_X0) (gc istX0) (gc iniX0) (fun _ j hj => by rcases (show j = 0 ∨ j = 1 ∨ j = 2 ∨ j = 3 ∨ j = 4 ∨ j = 5 ∨ j = 6 by omega) with rfl | rfl | rfl | rfl | rfl | rfl | rfl <;> rfl) rfl rfl rfl (Nat.le_trans hX1 (Nat.le_of_ble_eq_true rfl)) (Nat.le_of_ble_eq_true rfl) (Nat.le_of_ble_eq_true rfl) (Nat.le_of_ble_eq_true rfl) ?_
  refine J_dup C dX6_init_34 rfl ?_
  refine J_aload_n (i := 0) C dX6_init_35 rfl rfl ?_
  refine J_get (ci := 9) (k := 0) C dX6_init_36 (inT inX6) rfl (gc flX6_X6_numbers) (by decide) rfl rfl ?_
  refine J_aload_n (i := 0) C dX6_init_39 rfl rfl ?_
  refine J_get (ci := 9) (k := 1) C dX6_init_40 (inT inX6) rfl (gc flX6_X6_field) (by decide) rfl rfl ?_
  refine J_callIn C [.ref 1, .ref 3] 7 c_X0_init (gI cdX0_init) (gc iniX0) (gc mlX6_X0_init) (gc imX0_init) rfl rfl dsX0_init.2 ⟨by decide, by decide⟩ dX6_init_43 rfl (Nat.le_of_ble_eq_true rfl) rfl (Nat.le_of_ble_eq_true rfl) (Nat.le_trans hX1 (Nat.le_of_ble_eq_true rfl)) (Nat.le_of_ble_eq_true rfl) (Nat.le_of_ble_eq_true rfl) (fun pw h hl => ?_)
  subst h
  refine J_putF (ci := 9) C 2 tyX6 tyX6_ok nmX6 hI dX6_init_46 (inT inX6) rfl (gc flX6_X6_elements) (by decide) rfl rfl (tyX6_ok 2 (by decide)) (fun _ => rfl) (fun _ => rfl) rfl (Nat.le_of_ble_eq_true rfl) ?_
  refine J_aload_n (i := 0) C dX6_init_49 rfl rfl ?_
  refine J_new (ci := 5) (fs := [.null, .null, .int 0, .int 0, .null, .null]) C tyX2 tyX2_ok dX6_init_50 (inT inX2) rfl (gc klX6_X2) (gc istX2) (gc iniX2) (fun _ j hj => by rcases (show j = 0 ∨ j = 1 ∨ j = 2 ∨ j = 3 ∨ j = 4 ∨ j = 5 by omega) with rfl | rfl | rfl | rfl | rfl | rfl <;> rfl) rfl rfl rfl (Nat.le_trans hX1 (Nat.le_of_ble_eq_true rfl)) (Nat.le_of_ble_eq_true rfl) (Nat.le_of_ble_eq_true rfl) (Nat.le_of_ble_eq_true rfl) ?_
  refine J_dup C dX6_init_53 rfl ?_
  refine J_aload_n (i := 0) C dX6_init_54 rfl rfl ?_
  refine J_get (ci := 9) (k := 0) C dX6_init_55 (inT inX6) rfl (gc flX6_X6_numbers) (by decide) rfl rfl ?_
  refine J_aload_n (i := 0) C dX6_init_58 rfl rfl ?_
  refine J_get (ci := 9) (k := 1) C dX6_init_59 (inT inX6) rfl (gc flX6_X6_field) (by decide) rfl rfl ?_
  refine J_callIn C [.ref 1, .ref 3] 16 c_X2_init (gI cdX2_init) (gc iniX2) (gc mlX6_X2_init) (gc imX2_init) rfl rfl dsX2_init.2 ⟨by decide, by decide⟩ dX6_init_62 rfl (Nat.le_of_ble_eq_true rfl) rfl (Nat.le_of_ble_eq_true rfl) (Nat.le_trans hX1 (Nat.le_of_ble_eq_true rfl)) (Nat.le_of_ble_eq_true rfl) (Nat.le_of_ble_eq_true rfl) (fun pw h hl => ?_)
  subst h
  refine J_putF (ci := 9) C 3 tyX6 tyX6_ok nmX6 hI dX6_init_65 (inT inX6) rfl (gc flX6_X6_least) (by decide) rfl rfl (tyX6_ok 3 (by decide)) (fun _ => rfl) (fun _ => rfl) rfl (Nat.le_of_ble_eq_true rfl) ?_
  refine J_aload_n (i := 0) C dX6_init_68 rfl rfl ?_
  refine J_new (ci := 7) (fs := [.null, .null, .int 0]) C tyX4 tyX4_ok dX6_init_69 (inT inX4) rfl (gc klX6_X4) (gc istX4) (gc iniX4) (fun _ j hj => by rcases (show j = 0 ∨ j = 1 ∨ j = 2 by omega) with rfl | rfl | rfl <;> rfl) rfl rfl rfl (Nat.le_trans hX1 (Nat.le_of_ble_eq_true rfl)) (Nat.le_of_ble_eq_true rfl) (Nat.le_of_ble_eq_true rfl) (Nat.le_of_ble_eq_true rfl) ?_
  refine J_dup C dX6_init_72 rfl ?_
  refine J_aload_n (i := 0) C dX6_init_73 rfl rfl ?_
  refine J_get (ci := 9) (k := 0) C dX6_init_74 (inT inX6) rfl (gc flX6_X6_numbers) (by decide) rfl rfl ?_
  refine J_callIn C [.ref 1] 19 c_X4_init (gI cdX4_init) (gc iniX4) (gc mlX6_X4_init) (gc imX4_init) rfl rfl dsX4_init.2 ⟨by decide, by decide⟩ dX6_init_77 rfl (Nat.le_of_ble_eq_true rfl) rfl (Nat.le_of_ble_eq_true rfl) (Nat.le_trans hX1 (Nat.le_of_ble_eq_true rfl)) (Nat.le_of_ble_eq_true rfl) (Nat.le_of_ble_eq_true rfl) (fun pw h hl => ?_)
  subst h
  refine J_putF (ci := 9) C 4 tyX6 tyX6_ok nmX6 hI dX6_init_80 (inT inX6) rfl (gc flX6_X6_script) (by decide) rfl rfl (tyX6_ok 4 (by decide)) (fun _ => rfl) (fun _ => rfl) rfl (Nat.le_of_ble_eq_true rfl) ?_
  refine J_aload_n (i := 0) C dX6_init_83 rfl rfl ?_
  refine J_callVn C [] rfl rfl 20 c_beginAnew (gV mlX6_X6_beginAnew imX6_beginAnew slX6_beginAnew iniX6 cdX6_beginAnew) rfl dsX6_beginAnew ⟨by decide, by decide⟩ dX6_init_84 rfl (Nat.le_of_ble_eq_true rfl) rfl (Nat.le_of_ble_eq_true rfl) (Nat.le_trans hX1 (Nat.le_of_ble_eq_true rfl)) (Nat.le_of_ble_eq_true rfl) (Nat.le_of_ble_eq_true rfl) (fun pw h hl => ?_)
  subst h
  refine hR _ _ _ _ _ dX6_init_87 rfl (Nat.le_trans hX1 (Nat.le_of_ble_eq_true rfl)) (Nat.le_refl _) (Nat.le_refl _)

/-- the whole class: see 'THE CLASS'S CONSTRUCTORS' for the places -/
abbrev cW (tp fm kp : Int32) (N : Nat) (f : Nat → Int32) (ht : Int32) (sq sc : Nat → Int32) (ct : Int32) (pl rk : Nat → Int32) (pr : Int32) (rl rh : Nat → Int32) (s12 s13 s14 s15 s16 s17 : jE) (ln : Int32) (lt : Nat → Int32) (rest : jW) : jW :=
  kRT (.ref 1) (.ref 3) (.ref 6) (.ref 15) (.ref 18) :: .inr (6, [.ref 2, .int tp, .int fm, .int kp]) :: .inl (.int, N, .inl f) :: .inr (4, [.ref 1, .int ht, .ref 4, .ref 5]) :: .inl (.int, 5, .inl sq) :: .inl (.int, 16, .inl sc) :: .inr (3, [.ref 1, .ref 3, .ref 9, .ref 12, .int ct, .ref 7, .ref 8]) :: .inl (.int, 60, .inl pl) :: .inl (.int, 60, .inl rk) :: .inr (8, [.ref 1, .ref 3, .ref 10, .ref 11, .int pr]) :: .inl (.int, 16, .inl rl) :: .inl (.int, 16, .inl rh) :: s12 :: s13 :: s14 :: s15 :: s16 :: s17 :: .inr (7, [.ref 1, .ref 19, .int ln]) :: .inl (.byte, 2240, .inl lt) :: rest
set_option maxHeartbeats 2000000 in
/-- Field.reset() -/
theorem c_X1_reset {tp fm kp : Int32} {N : Nat} {f : Nat → Int32} {ht : Int32} {sq sc : Nat → Int32} {ct : Int32} {pl rk : Nat → Int32} {pr : Int32} {rl rh : Nat → Int32} {s12 s13 s14 s15 s16 s17 : jE} {ln : Int32} {lt : Nat → Int32} {rest : jW} :
    jN vwCl yX1_reset (wc yX1_reset cX1_reset 1 none) 0 0 [.ref 3] (cW tp fm kp N f ht sq sc ct pl rk pr rl rh s12 s13 s14 s15 s16 s17 ln lt rest) 0 0 (fun pw => pw = cW tp fm kp N f 0 sq (upd sc 0 128) ct pl rk pr rl rh s12 s13 s14 s15 s16 s17 ln lt rest) := by
  refine jN_of (cc := cX1_reset) (nL := 1) (by decide) rfl (Nat.le_of_ble_eq_true rfl) ?_
  intro X C hX hR
  refine J_aload_n (i := 0) C dX1_reset_0 rfl rfl ?_
  refine J_iconst (v := 0) C dX1_reset_1 (by decide) ?_
  refine J_put (ci := 4) C 1 tyX1 tyX1_ok nmX1 dX1_reset_2 (inT inX1) rfl (gc flX1_X1_height) (by decide) rfl (tyX1_ok 1 (by decide)) (fun _ => rfl) (fun _ => rfl) rfl (Nat.le_of_ble_eq_true rfl) ?_
  refine J_aload_n (i := 0) C dX1_reset_5 rfl rfl ?_
  refine J_get (ci := 4) (k := 3) C dX1_reset_6 (inT inX1) rfl (gc flX1_X1_scale) (by decide) rfl rfl ?_
  refine J_iconst (v := 0) C dX1_reset_9 (by decide) ?_
  refine J_sipush (v := 128) C dX1_reset_10 (by decide) ?_
  refine J_iast C dX1_reset_13 rfl (vp_in_nI (n := 0) (by decide) (by decide)) ?_
  refine hR _ _ _ _ _ dX1_reset_14 rfl (Nat.le_of_eq hX) (Nat.le_refl _) (Nat.le_refl _)
/-- the row of limbs after raised(128, 4) at t -/
def bgF (f : Nat → Int32) (t : Nat) : Nat → Int32 := upd (raN f t 128 4 1) t (headN (trimN (raN f t 128 4 1) t 5) 0)
def bgT (f : Nat → Int32) (t : Nat) : Nat := t + 1 + trimN (raN f t 128 4 1) t 5
set_option maxHeartbeats 2000000 in
/-- Spans.begin(4), of the bounds that stay -/
theorem c_X5_begin {fm kp : Int32} {N : Nat} {f : Nat → Int32} {ht : Int32} {sq sc : Nat → Int32} {ct : Int32} {pl rk : Nat → Int32} {pr : Int32} {rl rh : Nat → Int32} {s12 s13 s14 s15 s16 s17 : jE} {ln : Int32} {lt : Nat → Int32} {rest : jW} {t : Nat} (h1 : 130 ≤ t) (h2 : t + 6 ≤ N) (hN : N < 2 ^ 30) (h128 : f 128 = nI 2) :
    jN vwCl yX5_begin (wc yX5_begin cX5_begin 2 none) 3 180 [.ref 9, .int 4] (cW (nI t) fm kp N f ht sq sc ct pl rk pr rl rh s12 s13 s14 s15 s16 s17 ln lt rest) 0 0 (fun pw => pw = cW (nI (bgT f t)) fm kp N (bgF f t) ht sq sc ct pl rk 4 (upd rl 0 (nI t)) (upd rh 0 (nI t)) s12 s13 s14 s15 s16 s17 ln lt rest) := by
  refine jN_of (cc := cX5_begin) (nL := 2) (by decide) rfl (Nat.le_of_ble_eq_true rfl) ?_
  intro X C hX hR
  refine J_aload_n (i := 0) C dX5_begin_0 rfl rfl ?_
  refine J_iload_n (i := 1) C dX5_begin_1 rfl rfl ?_
  refine J_put (ci := 8) C 4 tyX5 tyX5_ok nmX5 dX5_begin_2 (inT inX5) rfl (gc flX5_X5_places) (by decide) rfl (tyX5_ok 4 (by decide)) (fun _ => rfl) (fun _ => rfl) rfl (Nat.le_of_ble_eq_true rfl) ?_
  refine J_aload_n (i := 0) C dX5_begin_5 rfl rfl ?_
  refine J_get (ci := 8) (k := 2) C dX5_begin_6 (inT inX5) rfl (gc flX5_X5_low) (by decide) rfl rfl ?_
  refine J_iconst (v := 0) C dX5_begin_9 (by decide) ?_
  refine J_aload_n (i := 0) C dX5_begin_10 rfl rfl ?_
  refine J_get (ci := 8) (k := 0) C dX5_begin_11 (inT inX5) rfl (gc flX5_X5_numbers) (by decide) rfl rfl ?_
  refine J_sipush (v := 128) C dX5_begin_14 (by decide) ?_
  refine J_aload_n (i := 0) C dX5_begin_17 rfl rfl ?_
  refine J_get (ci := 8) (k := 4) C dX5_begin_18 (inT inX5) rfl (gc flX5_X5_places) (by decide) rfl rfl ?_
  refine J_callVi C [.int 128, .int 4] rfl rfl 12 (c_raised (p := 128) (n := 4) (k := 2) (by omega) (by omega) hN h128 (by decide)) (gV mlX5_X3_raised imX3_raised slX3_raised iniX3 cdX3_raised) rfl dsX3_raised ⟨by decide, by decide⟩ dX5_begin_21 rfl (Nat.le_of_ble_eq_true rfl) rfl (Nat.le_of_ble_eq_true rfl) (Nat.le_of_eq hX) (Nat.le_of_ble_eq_true rfl) (Nat.le_of_ble_eq_true rfl) (fun r pw h hl => ?_)
  obtain ⟨rfl, rfl⟩ := h
  refine J_iast C dX5_begin_24 rfl (vp_in_nI (n := 0) (by decide) (by decide)) ?_
  refine J_aload_n (i := 0) C dX5_begin_25 rfl rfl ?_
  refine J_get (ci := 8) (k := 3) C dX5_begin_26 (inT inX5) rfl (gc flX5_X5_high) (by decide) rfl rfl ?_
  refine J_iconst (v := 0) C dX5_begin_29 (by decide) ?_
  refine J_aload_n (i := 0) C dX5_begin_30 rfl rfl ?_
  refine J_get (ci := 8) (k := 2) C dX5_begin_31 (inT inX5) rfl (gc flX5_X5_low) (by decide) rfl rfl ?_
  refine J_iconst (v := 0) C dX5_begin_34 (by decide) ?_
  refine J_iald C dX5_begin_35 rfl (vp_in_nI (n := 0) (by decide) (by decide)) ?_
  refine J_iast C dX5_begin_36 rfl (vp_in_nI (n := 0) (by decide) (by decide)) ?_
  refine hR _ _ _ _ _ dX5_begin_37 rfl (Nat.le_of_eq hX) (Nat.le_refl _) (Nat.le_refl _)
set_option maxHeartbeats 2000000 in
/-- Elements.reset() -/
theorem c_X0_reset {fm kp : Int32} {N : Nat} {f : Nat → Int32} {ht : Int32} {sq sc : Nat → Int32} {ct : Int32} {pl rk : Nat → Int32} {pr : Int32} {rl rh : Nat → Int32} {s12 s13 s14 s15 s16 s17 : jE} {ln : Int32} {lt : Nat → Int32} {rest : jW} {t : Nat} (h1 : 130 ≤ t) (h2 : t + 6 ≤ N) (hN : N < 2 ^ 30) (h128 : f 128 = nI 2) :
    jN vwCl yX0_reset (wc yX0_reset cX0_reset 1 none) 4 240 [.ref 6] (cW (nI t) fm kp N f ht sq sc ct pl rk pr rl rh s12 s13 s14 s15 s16 s17 ln lt rest) 0 0 (fun pw => pw = cW (nI (bgT f t)) fm kp N (bgF f t) ht sq sc 0 pl rk 4 (upd rl 0 (nI t)) (upd rh 0 (nI t)) s12 s13 s14 s15 s16 s17 ln lt rest) := by
  refine jN_of (cc := cX0_reset) (nL := 1) (by decide) rfl (Nat.le_of_ble_eq_true rfl) ?_
  intro X C hX hR
  refine J_aload_n (i := 0) C dX0_reset_0 rfl rfl ?_
  refine J_iconst (v := 0) C dX0_reset_1 (by decide) ?_
  refine J_put (ci := 3) C 4 tyX0 tyX0_ok nmX0 dX0_reset_2 (inT inX0) rfl (gc flX0_X0_count) (by decide) rfl (tyX0_ok 4 (by decide)) (fun _ => rfl) (fun _ => rfl) rfl (Nat.le_of_ble_eq_true rfl) ?_
  refine J_aload_n (i := 0) C dX0_reset_5 rfl rfl ?_
  refine J_get (ci := 3) (k := 2) C dX0_reset_6 (inT inX0) rfl (gc flX0_X0_ready) (by decide) rfl rfl ?_
  refine J_iconst (v := 4) C dX0_reset_9 (by decide) ?_
  refine J_callVn C [.int 4] rfl rfl 12 (c_X5_begin h1 h2 hN h128) (gV mlX0_X5_begin imX5_begin slX5_begin iniX5 cdX5_begin) rfl dsX5_begin ⟨by decide, by decide⟩ dX0_reset_10 rfl (Nat.le_of_ble_eq_true rfl) rfl (Nat.le_of_ble_eq_true rfl) (Nat.le_of_eq hX) (Nat.le_of_ble_eq_true rfl) (Nat.le_of_ble_eq_true rfl) (fun pw h hl => ?_)
  subst h
  refine hR _ _ _ _ _ dX0_reset_13 rfl (Nat.le_of_eq hX) (Nat.le_refl _) (Nat.le_refl _)
theorem lb_0 : lb 0 = 0 := by decide
theorem lb_1 : lb 1 = 1 := by decide
theorem lb_10 : lb (1 / 1000000000) = 0 := by decide
theorem lb_100 : lb (1 / 1000000000 / 1000000000) = 0 := by decide
theorem lb_00 : lb (0 / 1000000000) = 0 := by decide
theorem lb_000 : lb (0 / 1000000000 / 1000000000) = 0 := by decide
theorem trim_w1 (f : Nat → Int32) (t : Nat) : trimN (whL f t 1) t 3 = 1 := by
  have e3 : whL f t 1 (t + 3) = 0 := by simp only [whL]; rw [pk_us, lb_100]
  have e2 : whL f t 1 (t + 2) = 0 := by simp only [whL]; rw [pk_un (by omega), pk_us, lb_10]
  have e1 : whL f t 1 (t + 1) = 1 := by simp only [whL]; rw [pk_un (by omega), pk_un (by omega), pk_us, lb_1]
  simp only [trimN]
  rw [if_pos e3, if_pos e2, if_neg (by rw [e1]; decide)]
theorem trim_w0 (f : Nat → Int32) (t : Nat) : trimN (whL f t 0) t 3 = 0 := by
  have e3 : whL f t 0 (t + 3) = 0 := by simp only [whL]; rw [pk_us, lb_000]
  have e2 : whL f t 0 (t + 2) = 0 := by simp only [whL]; rw [pk_un (by omega), pk_us, lb_00]
  have e1 : whL f t 0 (t + 1) = 0 := by simp only [whL]; rw [pk_un (by omega), pk_un (by omega), pk_us, lb_0]
  simp only [trimN]
  rw [if_pos e3, if_pos e2, if_pos e1]
theorem whF_lo (f : Nat → Int32) (t : Nat) (v : Int64) {j : Nat} (h : j < t) : whF f t v j = f j := by
  unfold whF
  rw [pk_un (by omega)]
  simp only [whL]
  rw [pk_un (by omega), pk_un (by omega), pk_un (by omega)]
theorem whF_1 (f : Nat → Int32) (t : Nat) : whF f t 1 t = nI 2 ∧ whF f t 1 (t + 1) = nI 1 := by
  refine ⟨?_, ?_⟩
  · unfold whF
    rw [pk_us, trim_w1]
    rfl
  · unfold whF
    rw [pk_un (by omega)]
    simp only [whL]
    rw [pk_un (by omega), pk_un (by omega), pk_us, lb_1]
    rfl
theorem whF_0 (f : Nat → Int32) (t : Nat) : whF f t 0 t = 0 := by
  unfold whF
  rw [pk_us, trim_w0]
  rfl
theorem rs_facts (f : Nat → Int32) : rsF f 0 = 0 ∧ rsF f 64 = nI 2 ∧ rsF f 65 = nI 1 ∧ rsF f 128 = nI 2 ∧ rsF f 129 = nI 1 ∧ rsT f = 130 := by
  unfold rsF rsT
  refine ⟨?_, ?_, ?_, (whF_1 _ 128).1, (whF_1 _ 128).2, ?_⟩
  · rw [whF_lo _ _ _ (by decide), whF_lo _ _ _ (by decide), whF_0]
  · rw [whF_lo _ _ _ (by decide), (whF_1 _ 64).1]
  · rw [whF_lo _ _ _ (by decide), (whF_1 _ 64).2]
  · unfold whT
    rw [trim_w1]
theorem bgF_lo (f : Nat → Int32) (t : Nat) {j : Nat} (h : j < t) : bgF f t j = f j := by
  unfold bgF
  rw [pk_un (by omega)]
  unfold raN
  rw [pk_cpy_out (by omega)]
  unfold fillN
  rw [if_neg (by omega)]
set_option maxHeartbeats 4000000 in
/-- beginAnew() -/
theorem c_beginAnew {tp fm kp : Int32} {f : Nat → Int32} {ht : Int32} {sq sc : Nat → Int32} {ct : Int32} {pl rk : Nat → Int32} {pr : Int32} {rl rh : Nat → Int32} {s12 s13 s14 s15 s16 s17 : jE} {ln : Int32} {lt : Nat → Int32} {rest : jW} :
    jN vwCl yX6_beginAnew (wc yX6_beginAnew cX6_beginAnew 1 none) 5 300 [.ref 0] (cW tp fm kp 8192 f ht sq sc ct pl rk pr rl rh s12 s13 s14 s15 s16 s17 ln lt rest) 0 0
      (fun pw => pw = cW (nI (bgT (rsF f) 130)) (nI (bgT (rsF f) 130)) (nI (bgT (rsF f) 130)) 8192 (bgF (rsF f) 130) 0 sq (upd sc 0 128) 0 pl rk 4 (upd rl 0 (nI 130)) (upd rh 0 (nI 130)) s12 s13 s14 s15 s16 s17 0 lt rest) := by
  refine jN_of (cc := cX6_beginAnew) (nL := 1) (by decide) rfl (Nat.le_of_ble_eq_true rfl) ?_
  intro X C hX hR
  obtain ⟨f0, f64, f65, f128, f129, fT⟩ := rs_facts f
  refine J_aload_n (i := 0) C dX6_beginAnew_0 rfl rfl ?_
  refine J_get (ci := 9) (k := 0) C dX6_beginAnew_1 (inT inX6) rfl (gc flX6_X6_numbers) (by decide) rfl rfl ?_
  refine J_callVn C [] rfl rfl 12 (c_X3_reset (N := 8192) (by decide) (by decide)) (gV mlX6_X3_reset imX3_reset slX3_reset iniX3 cdX3_reset) rfl dsX3_reset ⟨by decide, by decide⟩ dX6_beginAnew_4 rfl (Nat.le_of_ble_eq_true rfl) rfl (Nat.le_of_ble_eq_true rfl) (Nat.le_of_eq hX) (Nat.le_of_ble_eq_true rfl) (Nat.le_of_ble_eq_true rfl) (fun pw h hl => ?_)
  subst h
  refine J_eqw (pw' := cW (nI 130) fm kp 8192 (rsF f) ht sq sc ct pl rk pr rl rh s12 s13 s14 s15 s16 s17 ln lt rest) (by rw [fT]) ?_
  refine J_aload_n (i := 0) C dX6_beginAnew_7 rfl rfl ?_
  refine J_get (ci := 9) (k := 1) C dX6_beginAnew_8 (inT inX6) rfl (gc flX6_X6_field) (by decide) rfl rfl ?_
  refine J_callVn C [] rfl rfl 12 c_X1_reset (gV mlX6_X1_reset imX1_reset slX1_reset iniX1 cdX1_reset) rfl dsX1_reset ⟨by decide, by decide⟩ dX6_beginAnew_11 rfl (Nat.le_of_ble_eq_true rfl) rfl (Nat.le_of_ble_eq_true rfl) (Nat.le_of_eq hX) (Nat.le_of_ble_eq_true rfl) (Nat.le_of_ble_eq_true rfl) (fun pw h hl => ?_)
  subst h
  refine J_aload_n (i := 0) C dX6_beginAnew_14 rfl rfl ?_
  refine J_get (ci := 9) (k := 2) C dX6_beginAnew_15 (inT inX6) rfl (gc flX6_X6_elements) (by decide) rfl rfl ?_
  refine J_callVn C [] rfl rfl 12 (c_X0_reset (N := 8192) (t := 130) (by decide) (by decide) (by decide) f128) (gV mlX6_X0_reset imX0_reset slX0_reset iniX0 cdX0_reset) rfl dsX0_reset ⟨by decide, by decide⟩ dX6_beginAnew_18 rfl (Nat.le_of_ble_eq_true rfl) rfl (Nat.le_of_ble_eq_true rfl) (Nat.le_of_eq hX) (Nat.le_of_ble_eq_true rfl) (Nat.le_of_ble_eq_true rfl) (fun pw h hl => ?_)
  subst h
  refine J_aload_n (i := 0) C dX6_beginAnew_21 rfl rfl ?_
  refine J_get (ci := 9) (k := 4) C dX6_beginAnew_22 (inT inX6) rfl (gc flX6_X6_script) (by decide) rfl rfl ?_
  refine J_iconst (v := 0) C dX6_beginAnew_25 (by decide) ?_
  refine J_put (ci := 7) C 2 tyX4 tyX4_ok nmX4 dX6_beginAnew_26 (inT inX4) rfl (gc flX6_X4_length) (by decide) rfl (tyX4_ok 2 (by decide)) (fun _ => rfl) (fun _ => rfl) rfl (Nat.le_of_ble_eq_true rfl) ?_
  refine J_aload_n (i := 0) C dX6_beginAnew_29 rfl rfl ?_
  refine J_get (ci := 9) (k := 0) C dX6_beginAnew_30 (inT inX6) rfl (gc flX6_X6_numbers) (by decide) rfl rfl ?_
  refine J_callVn C [] rfl rfl 12 c_settle (gV mlX6_X3_settle imX3_settle slX3_settle iniX3 cdX3_settle) rfl dsX3_settle ⟨by decide, by decide⟩ dX6_beginAnew_33 rfl (Nat.le_of_ble_eq_true rfl) rfl (Nat.le_of_ble_eq_true rfl) (Nat.le_of_eq hX) (Nat.le_of_ble_eq_true rfl) (Nat.le_of_ble_eq_true rfl) (fun pw h hl => ?_)
  subst h
  refine hR _ _ _ _ _ dX6_beginAnew_36 rfl (Nat.le_of_eq hX) (Nat.le_refl _) (Nat.le_refl _)

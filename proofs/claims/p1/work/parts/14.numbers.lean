set_option maxHeartbeats 1000000 in
/-- place(p, to): a number without its sign -/
theorem c_place {x0 : jE} {rest : jW} {tp fm kp : Int32} {N : Nat} {f : Nat → Int32} {p k to : Nat} (hp : p + 1 + k / 2 ≤ N) (ht : to + 1 + k / 2 ≤ N) (hN : N < 2 ^ 30) (hk : f p = nI k) (hk2 : k < 2 ^ 30) :
    jN vwCl yX3_place (wc yX3_place cX3_place 4 none) 1 60 [.ref 1, .int (nI p), .int (nI to)] (nW x0 tp fm kp N f rest) 0 0 (fun pw => pw = nW x0 tp fm kp N (upd (va_cpy f f (p + 1) (to + 1) (k / 2)) to (nI (2 * (k / 2)))) rest) := by
  refine jN_of (cc := cX3_place) (nL := 4) (by decide) rfl (Nat.le_of_ble_eq_true rfl) ?_
  intro X C hX hR
  refine J_aload_n (i := 0) C dX3_place_0 rfl rfl ?_
  refine J_get (ci := 6) (k := 0) C dX3_place_1 (inT inX3) rfl (gc flX3_X3_cell) (by decide) rfl rfl ?_
  refine J_iload_n (i := 1) C dX3_place_4 rfl rfl ?_
  refine J_iald C dX3_place_5 rfl (vp_in_nI (show p < N by omega) (by omega)) ?_
  refine J_eqi (y := nI k) (by rw [nI_clamp (by omega), hk]) ?_
  refine J_iconst (v := 1) C dX3_place_6 (by decide) ?_
  refine J_ishr C dX3_place_7 ?_
  refine J_eqi (nI_shr1 (by omega)) ?_
  refine J_istore_n (i := 3) C dX3_place_8 rfl (by decide) ?_
  refine J_aload_n (i := 0) C dX3_place_9 rfl rfl ?_
  refine J_get (ci := 6) (k := 0) C dX3_place_10 (inT inX3) rfl (gc flX3_X3_cell) (by decide) rfl rfl ?_
  refine J_iload_n (i := 1) C dX3_place_13 rfl rfl ?_
  refine J_iconst (v := 1) C dX3_place_14 (by decide) ?_
  refine J_iadd C dX3_place_15 ?_
  refine J_eqi (nI_1 p) ?_
  refine J_aload_n (i := 0) C dX3_place_16 rfl rfl ?_
  refine J_get (ci := 6) (k := 0) C dX3_place_17 (inT inX3) rfl (gc flX3_X3_cell) (by decide) rfl rfl ?_
  refine J_iload_n (i := 2) C dX3_place_20 rfl rfl ?_
  refine J_iconst (v := 1) C dX3_place_21 (by decide) ?_
  refine J_iadd C dX3_place_22 ?_
  refine J_eqi (nI_1 to) ?_
  refine J_iload_n (i := 3) C dX3_place_23 rfl rfl ?_
  refine J_copy C dX3_place_24 (gc mlX3_ac) (gc acNat) (gc acSt) (gc iniSys) rfl rfl rfl rfl rfl hp ht ⟨by omega,by omega⟩ (by decide) (Nat.le_of_ble_eq_true rfl) ?_
  refine J_aload_n (i := 0) C dX3_place_27 rfl rfl ?_
  refine J_get (ci := 6) (k := 0) C dX3_place_28 (inT inX3) rfl (gc flX3_X3_cell) (by decide) rfl rfl ?_
  refine J_iload_n (i := 2) C dX3_place_31 rfl rfl ?_
  refine J_iconst (v := 2) C dX3_place_32 (by decide) ?_
  refine J_iload_n (i := 3) C dX3_place_33 rfl rfl ?_
  refine J_imul C dX3_place_34 ?_
  refine J_eqi (y := nI (2 * (k / 2))) (show nI 2 * nI _ = _ from pk_mul 2 _) ?_
  refine J_iast C dX3_place_35 rfl (vp_in_nI (show to < N by omega) (by omega)) ?_
  refine hR _ _ _ _ _ dX3_place_36 ?_ (Nat.le_of_eq hX) (Nat.le_refl _) (Nat.le_refl _)
  rw [nI_clamp (by omega)]
  rfl
set_option maxHeartbeats 1000000 in
/-- value(p), of a number of at most two limbs -/
theorem c_value {x0 : jE} {rest : jW} {tp fm kp : Int32} {N : Nat} {f : Nat → Int32} {p k d1 d2 : Nat} (hp : p + 2 < N) (hN : N < 2 ^ 30) (hk : f p = nI k) (hk2 : k < 8) (h1 : 0 < k / 2 → f (p + 1) = nI d1) (h2 : 1 < k / 2 → f (p + 2) = nI d2) (b1 : d1 < 2 ^ 31) (b2 : d2 < 2 ^ 31) :
    jG vwCl yX3_value (wc yX3_value cX3_value 5 (some .long)) 0 0 [.ref 1, .int (nI p)] (nW x0 tp fm kp N f rest) 0 0 (fun r pw => r = lN ((if 1 < k / 2 then d2 else 0) * 1000000000 + (if 0 < k / 2 then d1 else 0)) ∧ pw = nW x0 tp fm kp N f rest) := by
  refine jG_of (cc := cX3_value) (nL := 5) (by decide) rfl (Nat.le_of_ble_eq_true rfl) ?_
  intro X C hX hR
  -- the lower limb and the end
  have hE : ∀ (lv : Nat → Option Value) (u : Nat), u = (if 1 < k / 2 then d2 else 0) → lv 0 = some (.ref 1) → lv 1 = some (.int (nI p)) → lv 2 = some (.int (nI (k / 2))) → J X 27 lv [.long (lN u)] (nW x0 tp fm kp N f rest) 0 0 := by
    intro lv u hu h0 h1' h2'
    refine J_lstore_n (i := 3) C dX3_value_27 rfl (by decide) ?_
    have g0 := js2_ref (i := 3) (v := .long (lN u)) h0 (by decide) (by decide)
    have g1 := js2_int (i := 3) (v := .long (lN u)) h1' (by decide) (by decide)
    have g2 := js2_int (i := 3) (v := .long (lN u)) h2' (by decide) (by decide)
    have g3 : js2 lv 3 (.long (lN u)) 3 = some (.long (lN u)) := js2_at
    generalize js2 lv 3 (.long (lN u)) = lw at g0 g1 g2 g3
    refine J_lload_n (i := 3) C dX3_value_28 rfl g3 ?_
    refine J_ldc2 C (gc clX3_1000000000) dX3_value_29 ?_
    refine J_lmul C dX3_value_32 ?_
    refine J_eql (y := lN (u * 1000000000)) (show lN u * lN 1000000000 = _ from lN_mul _ _) ?_
    refine J_iload_n (i := 2) C dX3_value_33 rfl g2 ?_
    refine J_if_le (tgt := 48) C dX3_value_34 (by decide) (fun h34q => ?_) (fun h34q => ?_)
    · have hz : k / 2 = 0 := by
        rcases Nat.eq_zero_or_pos (k / 2) with e | e
        · exact e
        · exact absurd h34q (nI_nle e (by omega))
      refine J_iconst (v := 0) C dX3_value_48 (by decide) ?_
      refine J_i2l C dX3_value_49 rfl ?_
      refine J_ladd C dX3_value_50 ?_
      refine hR _ _ _ _ _ _ dX3_value_51 ⟨?_,rfl⟩ (Nat.le_of_eq hX) (Nat.le_refl _) (Nat.le_refl _)
      rw [hu, if_neg (show ¬ 0 < k / 2 by omega), show (0 : Int32).toInt64 = lN 0 from rfl, lN_add]
    · have hz : 0 < k / 2 := by
        rcases Nat.eq_zero_or_pos (k / 2) with e | e
        · exact absurd (by rw [e]; decide) h34q
        · exact e
      refine J_aload_n (i := 0) C dX3_value_37 rfl g0 ?_
      refine J_get (ci := 6) (k := 0) C dX3_value_38 (inT inX3) rfl (gc flX3_X3_cell) (by decide) rfl rfl ?_
      refine J_iload_n (i := 1) C dX3_value_41 rfl g1 ?_
      refine J_iconst (v := 1) C dX3_value_42 (by decide) ?_
      refine J_iadd C dX3_value_43 ?_
      refine J_eqi (nI_1 p) ?_
      refine J_iald C dX3_value_44 rfl (vp_in_nI (show p + 1 < N by omega) (by omega)) ?_
      refine J_eqi (y := nI d1) (by rw [nI_clamp (by omega), h1 hz]) ?_
      refine J_goto (tgt := 49) C dX3_value_45 (by decide) ?_
      refine J_i2l C dX3_value_49 rfl ?_
      refine J_ladd C dX3_value_50 ?_
      refine hR _ _ _ _ _ _ dX3_value_51 ⟨?_,rfl⟩ (Nat.le_of_eq hX) (Nat.le_refl _) (Nat.le_refl _)
      rw [hu, if_pos hz, nI_l b1, lN_add]
  refine J_aload_n (i := 0) C dX3_value_0 rfl rfl ?_
  refine J_get (ci := 6) (k := 0) C dX3_value_1 (inT inX3) rfl (gc flX3_X3_cell) (by decide) rfl rfl ?_
  refine J_iload_n (i := 1) C dX3_value_4 rfl rfl ?_
  refine J_iald C dX3_value_5 rfl (vp_in_nI (show p < N by omega) (by omega)) ?_
  refine J_eqi (y := nI k) (by rw [nI_clamp (by omega), hk]) ?_
  refine J_iconst (v := 1) C dX3_value_6 (by decide) ?_
  refine J_ishr C dX3_value_7 ?_
  refine J_eqi (nI_shr1 (by omega)) ?_
  refine J_istore_n (i := 2) C dX3_value_8 rfl (by decide) ?_
  refine J_iload_n (i := 2) C dX3_value_9 rfl rfl ?_
  refine J_iconst (v := 1) C dX3_value_10 (by decide) ?_
  refine J_icmp_le (tgt := 26) C dX3_value_11 (by decide) (fun h11q => ?_) (fun h11q => ?_)
  · have hz : ¬ 1 < k / 2 := fun q => absurd (show nI (k / 2) ≤ nI 1 from h11q) (nI_ge q (by omega))
    refine J_lconst (v := 0) C dX3_value_26 (by decide) ?_
    exact hE _ 0 (by rw [if_neg hz]) rfl rfl rfl
  · have hz : 1 < k / 2 := by
      rcases Nat.lt_or_ge 1 (k / 2) with q | q
      · exact q
      · exact absurd (show nI (k / 2) ≤ nI 1 from nI_le q (by omega)) h11q
    refine J_aload_n (i := 0) C dX3_value_14 rfl rfl ?_
    refine J_get (ci := 6) (k := 0) C dX3_value_15 (inT inX3) rfl (gc flX3_X3_cell) (by decide) rfl rfl ?_
    refine J_iload_n (i := 1) C dX3_value_18 rfl rfl ?_
    refine J_iconst (v := 2) C dX3_value_19 (by decide) ?_
    refine J_iadd C dX3_value_20 ?_
    refine J_eqi (y := nI (p + 2)) (show nI p + nI 2 = _ from nI_add _ _) ?_
    refine J_iald C dX3_value_21 rfl (vp_in_nI (show p + 2 < N by omega) (by omega)) ?_
    refine J_eqi (y := nI d2) (by rw [nI_clamp (by omega), h2 hz]) ?_
    refine J_i2l C dX3_value_22 rfl ?_
    refine J_goto (tgt := 27) C dX3_value_23 (by decide) ?_
    refine J_eql (nI_l b2) ?_
    exact hE _ d2 (by rw [if_pos hz]) rfl rfl rfl
set_option maxHeartbeats 1000000 in
/-- shorten(p, n) -/
theorem c_shorten {x0 : jE} {rest : jW} {tp fm kp : Int32} {N : Nat} {f : Nat → Int32} {p n : Nat} (hp : p + n < N) (hN : N < 2 ^ 30) :
    jN vwCl yX3_shorten (wc yX3_shorten cX3_shorten 4 none) 0 0 [.ref 1, .int (nI p), .int (nI n)] (nW x0 tp fm kp N f rest) 0 0 (fun pw => pw = nW x0 tp fm kp N (upd f p (nI (2 * trimN f p n))) rest) := by
  refine jN_of (cc := cX3_shorten) (nL := 4) (by decide) rfl (Nat.le_of_ble_eq_true rfl) ?_
  intro X C hX hR
  have hE : ∀ (k : Nat) (lv : Nat → Option Value), k = trimN f p n → lv 0 = some (.ref 1) → lv 1 = some (.int (nI p)) → lv 3 = some (.int (nI k)) → J X 23 lv [] (nW x0 tp fm kp N f rest) 0 0 := by
    intro k lv hk h0 h1 h3
    have hkn : k ≤ n := by rw [hk]; exact trimN_le f p n
    refine J_aload_n (i := 0) C dX3_shorten_23 rfl h0 ?_
    refine J_get (ci := 6) (k := 0) C dX3_shorten_24 (inT inX3) rfl (gc flX3_X3_cell) (by decide) rfl rfl ?_
    refine J_iload_n (i := 1) C dX3_shorten_27 rfl h1 ?_
    refine J_iconst (v := 2) C dX3_shorten_28 (by decide) ?_
    refine J_iload_n (i := 3) C dX3_shorten_29 rfl h3 ?_
    refine J_imul C dX3_shorten_30 ?_
    refine J_eqi (y := nI (2 * k)) (show nI 2 * nI _ = _ from pk_mul 2 _) ?_
    refine J_iast C dX3_shorten_31 rfl (vp_in_nI (show p < N by omega) (by omega)) ?_
    refine hR _ _ _ _ _ dX3_shorten_32 ?_ (Nat.le_of_eq hX) (Nat.le_refl _) (Nat.le_refl _)
    rw [nI_clamp (by omega), hk]
    rfl
  have hL : ∀ (j : Nat) (lv : Nat → Option Value), j ≤ n → trimN f p j = trimN f p n → lv 0 = some (.ref 1) → lv 1 = some (.int (nI p)) → lv 3 = some (.int (nI j)) → J X 2 lv [] (nW x0 tp fm kp N f rest) 0 0 := by
    intro j
    induction j with
    | zero =>
      intro lv hj ht h0 h1 h3
      refine J_iload_n (i := 3) C dX3_shorten_2 rfl h3 ?_
      refine J_if_le (tgt := 23) C dX3_shorten_3 (by decide) (fun h3q => ?_) (fun h3q => ?_)
      · exact hE 0 lv (by rw [← ht]; rfl) h0 h1 h3
      · exact absurd (by decide) h3q
    | succ j ih =>
      intro lv hj ht h0 h1 h3
      refine J_iload_n (i := 3) C dX3_shorten_2 rfl h3 ?_
      refine J_if_le (tgt := 23) C dX3_shorten_3 (by decide) (fun h3q => ?_) (fun h3q => ?_)
      · exact absurd h3q (nI_nle (by omega) (by omega))
      · refine J_aload_n (i := 0) C dX3_shorten_6 rfl h0 ?_
        refine J_get (ci := 6) (k := 0) C dX3_shorten_7 (inT inX3) rfl (gc flX3_X3_cell) (by decide) rfl rfl ?_
        refine J_iload_n (i := 1) C dX3_shorten_10 rfl h1 ?_
        refine J_iload_n (i := 3) C dX3_shorten_11 rfl h3 ?_
        refine J_iadd C dX3_shorten_12 ?_
        refine J_eqi (nI_add _ _) ?_
        refine J_iald C dX3_shorten_13 rfl (vp_in_nI (show p + (j + 1) < N by omega) (by omega)) ?_
        refine J_eqi (y := f (p + (j + 1))) (by rw [nI_clamp (by omega)]) ?_
        refine J_if_ne (tgt := 23) C dX3_shorten_14 (by decide) (fun h14q => ?_) (fun h14q => ?_)
        · refine hE (j + 1) lv ?_ h0 h1 h3
          rw [← ht, trimN, if_neg h14q]
        · refine J_iinc C dX3_shorten_17 h3 (pk_m1 j) ?_
          refine J_goto (tgt := 2) C dX3_shorten_20 (by decide) ?_
          refine ih _ (by omega) ?_ (js1_ref h0 (by decide)) (js1_int h1 (by decide)) js1_at
          rw [← ht, trimN, if_pos h14q]
  refine J_iload_n (i := 2) C dX3_shorten_0 rfl rfl ?_
  refine J_istore_n (i := 3) C dX3_shorten_1 rfl (by decide) ?_
  exact hL n _ (Nat.le_refl n) rfl rfl rfl rfl
theorem ten_ne {k : Nat} (hk : k < 10) : ¬ nI (10 ^ k) = 0 := by
  have h : 10 ^ k < 2 ^ 31 := Nat.lt_of_le_of_lt (Nat.pow_le_pow_right (by decide) (show k ≤ 9 by omega)) (by decide)
  exact nI_ne0 (Nat.pow_pos (by decide)) h
set_option maxHeartbeats 1000000 in
/-- highFigures(p, n, shift): some long -/
theorem c_highFigures {x0 : jE} {rest : jW} {tp fm kp : Int32} {N : Nat} {f : Nat → Int32} {p n s : Nat} (hn : 2 ≤ n) (hp : p + n < N) (hN : N < 2 ^ 30) (hs : s < 10) :
    jG vwCl yX3_highFigures (wc yX3_highFigures cX3_highFigures 6 (some .long)) 0 0 [.ref 1, .int (nI p), .int (nI n), .int (nI s)] (nW x0 tp fm kp N f rest) 0 0 (fun _ pw => pw = nW x0 tp fm kp N f rest) := by
  refine jG_of (cc := cX3_highFigures) (nL := 6) (by decide) rfl (Nat.le_of_ble_eq_true rfl) ?_
  intro X C hX hR
  refine J_aload_n (i := 0) C dX3_highFigures_0 rfl rfl ?_
  refine J_get (ci := 6) (k := 0) C dX3_highFigures_1 (inT inX3) rfl (gc flX3_X3_cell) (by decide) rfl rfl ?_
  refine J_iload_n (i := 1) C dX3_highFigures_4 rfl rfl ?_
  refine J_iload_n (i := 2) C dX3_highFigures_5 rfl rfl ?_
  refine J_iadd C dX3_highFigures_6 ?_
  refine J_eqi (nI_add _ _) ?_
  refine J_iald C dX3_highFigures_7 rfl (vp_in_nI hp (by omega)) ?_
  refine J_i2l C dX3_highFigures_8 rfl ?_
  refine J_ldc2 C (gc clX3_1000000000) dX3_highFigures_9 ?_
  refine J_lmul C dX3_highFigures_12 ?_
  refine J_aload_n (i := 0) C dX3_highFigures_13 rfl rfl ?_
  refine J_get (ci := 6) (k := 0) C dX3_highFigures_14 (inT inX3) rfl (gc flX3_X3_cell) (by decide) rfl rfl ?_
  refine J_iload_n (i := 1) C dX3_highFigures_17 rfl rfl ?_
  refine J_iload_n (i := 2) C dX3_highFigures_18 rfl rfl ?_
  refine J_iadd C dX3_highFigures_19 ?_
  refine J_eqi (nI_add _ _) ?_
  refine J_iconst (v := 1) C dX3_highFigures_20 (by decide) ?_
  refine J_isub C dX3_highFigures_21 ?_
  refine J_eqi (y := nI (p + n - 1)) (show _ - nI 1 = _ from pk_sub (by omega)) ?_
  refine J_iald C dX3_highFigures_22 rfl (vp_in_nI (show p + n - 1 < N by omega) (by omega)) ?_
  refine J_i2l C dX3_highFigures_23 rfl ?_
  refine J_ladd C dX3_highFigures_24 ?_
  refine J_lstore C dX3_highFigures_25 (by decide) ?_
  refine J_lload C dX3_highFigures_27 rfl ?_
  refine J_tens C dX3_highFigures_29 (gc flX3_TENS) ?_
  refine J_iload_n (i := 3) C dX3_highFigures_32 rfl rfl ?_
  refine J_tald C dX3_highFigures_33 rfl hs ?_
  refine J_i2l C dX3_highFigures_34 rfl ?_
  refine J_lmul C dX3_highFigures_35 ?_
  refine J_aload_n (i := 0) C dX3_highFigures_36 rfl rfl ?_
  refine J_get (ci := 6) (k := 0) C dX3_highFigures_37 (inT inX3) rfl (gc flX3_X3_cell) (by decide) rfl rfl ?_
  refine J_iload_n (i := 1) C dX3_highFigures_40 rfl rfl ?_
  refine J_iload_n (i := 2) C dX3_highFigures_41 rfl rfl ?_
  refine J_iadd C dX3_highFigures_42 ?_
  refine J_eqi (nI_add _ _) ?_
  refine J_iconst (v := 2) C dX3_highFigures_43 (by decide) ?_
  refine J_isub C dX3_highFigures_44 ?_
  refine J_eqi (y := nI (p + n - 2)) (show _ - nI 2 = _ from pk_sub (by omega)) ?_
  refine J_iald C dX3_highFigures_45 rfl (vp_in_nI (show p + n - 2 < N by omega) (by omega)) ?_
  refine J_tens C dX3_highFigures_46 (gc flX3_TENS) ?_
  refine J_bipush (v := 9) C dX3_highFigures_49 (by decide) ?_
  refine J_iload_n (i := 3) C dX3_highFigures_51 rfl rfl ?_
  refine J_isub C dX3_highFigures_52 ?_
  refine J_eqi (y := nI (9 - s)) (show nI 9 - _ = _ from pk_sub (by omega)) ?_
  refine J_tald C dX3_highFigures_53 rfl (show 9 - s < 10 by omega) ?_
  refine J_idiv C dX3_highFigures_54 (ten_ne (show 9 - s < 10 by omega)) ?_
  refine J_i2l C dX3_highFigures_55 rfl ?_
  refine J_ladd C dX3_highFigures_56 ?_
  refine hR _ _ _ _ _ _ dX3_highFigures_57 rfl (Nat.le_of_eq hX) (Nat.le_refl _) (Nat.le_refl _)

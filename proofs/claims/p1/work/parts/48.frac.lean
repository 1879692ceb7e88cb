theorem lb_in (v : Int64) : ∃ d : Nat, d < 1000000000 ∧ lb v = nI d := by
  have h5 := Int.lt_tmod_of_pos v.toInt (b := 1000000000) (by decide)
  have h6 := Int.tmod_lt_of_pos v.toInt (b := 1000000000) (by decide)
  have hm : (lbL v).toInt = v.toInt.tmod 1000000000 := ldr_m v
  unfold lb
  generalize lbL v = r at *
  by_cases h : r < 0
  · rw [if_pos h]
    have h2 : r.toInt < 0 := Int64.lt_iff_toInt_lt.mp h
    refine ⟨(-r.toInt).toNat, by omega, ?_⟩
    rw [← lN_i]
    congr 1
    refine lN_ofInt (by omega) ?_
    rw [Int64.toInt_neg, bm64 (by omega) (by omega)]
    omega
  · rw [if_neg h]
    have h2 : ¬ r.toInt < 0 := fun q => h (Int64.lt_iff_toInt_lt.mpr q)
    refine ⟨r.toInt.toNat, by omega, ?_⟩
    rw [← lN_i]
    congr 1
    exact lN_ofInt (by omega) (by omega)
theorem sh_whole (f : Nat → Int32) (t : Nat) (v : Int64) : ∃ k : Nat, sh (upd (whL f t v) t (headN (trimN (whL f t v) t 3) (sgL v))) t k ∧ k / 2 = trimN (whL f t v) t 3 := by
  have hl : lm (whL f t v) (t + 1) 3 := by
    unfold whL
    obtain ⟨d1, a1, b1⟩ := lb_in v
    obtain ⟨d2, a2, b2⟩ := lb_in (v / 1000000000)
    obtain ⟨d3, a3, b3⟩ := lb_in (v / 1000000000 / 1000000000)
    rw [b1, b2, b3]
    exact lm_up (n := 2) (lm_up (n := 1) (lm_up (n := 0) (fun k hk => absurd hk (by omega)) a1) a2) a3
  have ht := trimN_le (whL f t v) t 3
  obtain ⟨b, hb, eb⟩ : ∃ b : Nat, b < 2 ∧ sgL v = nI b := by
    unfold sgL
    by_cases h : v < 0
    · exact ⟨1, by decide, by rw [if_pos h]; rfl⟩
    · exact ⟨0, by decide, by rw [if_neg h]; rfl⟩
  rw [eb]
  obtain ⟨k, h1, h2, -⟩ := sh_closed hl (by omega) hb
  exact ⟨k, h1, h2⟩
theorem whL_below {f : Nat → Int32} {t j : Nat} {v : Int64} {x : Int32} (h : j < t) : upd (whL f t v) t x j = f j := by
  rw [pk_un (by omega)]
  unfold whL
  rw [pk_un (by omega), pk_un (by omega), pk_un (by omega)]
theorem figN_le {f : Nat → Int32} {p k : Nat} (h : k < 8) : figN f p k ≤ 60 := by
  unfold figN
  have := lf_in (f (p + k / 2))
  split <;> omega
/-! THE ELEMENTS (place 6) -/
abbrev eW (x0 : jE) (tp fm kp : Int32) (N : Nat) (f : Nat → Int32) (ht : Int32) (sq sc : Nat → Int32) (ct : Int32) (pl rk : Nat → Int32) (rest : jW) : jW := fW x0 tp fm kp N f ht sq sc (.inr (3, [.ref 1, .ref 3, .ref 9, .ref 12, .int ct, .ref 7, .ref 8]) :: .inl (.int, 60, .inl pl) :: .inl (.int, 60, .inl rk) :: rest)
set_option maxHeartbeats 4000000 in
/-- isWide(0, ratio): no -/
theorem c_isWide0 {x0 : jE} {fm kp : Int32} {N : Nat} {f : Nat → Int32} {ht : Int32} {sq sc : Nat → Int32} {ct : Int32} {pl rk : Nat → Int32} {rest : jW} {t ra v k1 k2 : Nat} (h1 : sh f ra k1) (h2 : sh f v k2) (hv : ra + 1 + k1 / 2 = v) (hvt : v + 1 + k2 / 2 = t) (h128 : f 128 = nI 2) (h129 : f 129 = nI 1) (h130 : 130 ≤ ra) (hsc : sc 0 = nI 128) (ht' : t + 60 ≤ N) (hN : N < 2 ^ 30) :
    jI vwCl yX0_isWide (wc yX0_isWide cX0_isWide 7 (some .boolean)) 6 360 [.ref 6, .int (nI 0), .int (nI ra)] (eW x0 (nI t) fm kp N f ht sq sc ct pl rk rest) 0 0 (fun r pw => r = nI 0 ∧ ∃ g : Nat → Int32, pw = eW x0 (nI t) fm kp N g ht sq sc ct pl rk rest ∧ ∀ j, j < t → g j = f j) := by
  refine jI_of (cc := cX0_isWide) (nL := 7) .boolean (by decide) rfl (Nat.le_of_ble_eq_true rfl) (fun _ _ hq => by rw [hq.1]; rfl) ?_
  intro X C hX hR
  have b1 := h1.2.1
  have b2 := h2.2.1
  refine J_aload_n (i := 0) C dX0_isWide_0 rfl rfl ?_
  refine J_get (ci := 3) (k := 0) C dX0_isWide_1 (inT inX0) rfl (gc flX0_X0_numbers) (by decide) rfl rfl ?_
  refine J_get (ci := 6) (k := 1) C dX0_isWide_4 (inT inX3) rfl (gc flX0_X3_top) (by decide) rfl rfl ?_
  refine J_istore_n (i := 3) C dX0_isWide_7 rfl (by decide) ?_
  refine J_aload_n (i := 0) C dX0_isWide_8 rfl rfl ?_
  refine J_get (ci := 3) (k := 0) C dX0_isWide_9 (inT inX0) rfl (gc flX0_X0_numbers) (by decide) rfl rfl ?_
  refine J_iload_n (i := 2) C dX0_isWide_12 rfl rfl ?_
  refine J_callVi C [.int (nI ra)] rfl rfl 9 (c_next (by omega) (by omega) h1.1 (by omega)) (gV mlX0_X3_next imX3_next slX3_next iniX3 cdX3_next) rfl dsX3_next ⟨by decide, by decide⟩ dX0_isWide_13 rfl (Nat.le_of_ble_eq_true rfl) rfl (Nat.le_of_ble_eq_true rfl) (Nat.le_of_eq hX) (Nat.le_of_ble_eq_true rfl) (Nat.le_of_ble_eq_true rfl) (fun r pw h hl => ?_)
  obtain ⟨rfl, rfl⟩ := h
  rw [hv]
  refine J_istore C dX0_isWide_16 (by decide) ?_
  refine J_iconst (v := nI 0) C dX0_isWide_18 (by decide) ?_
  refine J_istore C dX0_isWide_19 (by decide) ?_
  refine J_iconst (v := nI 0) C dX0_isWide_21 (by decide) ?_
  refine J_istore C dX0_isWide_22 (by decide) ?_
  refine J_iload C dX0_isWide_24 rfl ?_
  refine J_iconst (v := nI 1) C dX0_isWide_26 (by decide) ?_
  refine J_iload_n (i := 1) C dX0_isWide_27 rfl rfl ?_
  refine J_ishl C dX0_isWide_28 ?_
  refine J_eqi (y := nI 1) (by decide) ?_
  refine J_icmp_ge (tgt := 85) C dX0_isWide_29 (by decide) (fun h29q => have h29 := (nI_leI (by omega) (by omega)).mp h29q; ?_) (fun h29q => have h29 := (not_congr (nI_leI (by omega) (by omega))).mp h29q; ?_)
  · exact absurd h29 (by decide)
  · refine J_iload C dX0_isWide_32 rfl ?_
    refine J_if_ne (tgt := 85) C dX0_isWide_34 (by decide) (fun h34q => have h34 := (not_congr (nI_z (by omega))).mp h34q; ?_) (fun h34q => have h34 := (nI_z (by omega)).mp h34q; ?_)
    · exact absurd rfl h34
    · refine J_aload_n (i := 0) C dX0_isWide_37 rfl rfl ?_
      refine J_get (ci := 3) (k := 0) C dX0_isWide_38 (inT inX0) rfl (gc flX0_X0_numbers) (by decide) rfl rfl ?_
      refine J_aload_n (i := 0) C dX0_isWide_41 rfl rfl ?_
      refine J_get (ci := 3) (k := 1) C dX0_isWide_42 (inT inX0) rfl (gc flX0_X0_field) (by decide) rfl rfl ?_
      refine J_iload C dX0_isWide_45 rfl ?_
      refine J_iload_n (i := 2) C dX0_isWide_47 rfl rfl ?_
      refine J_iload C dX0_isWide_48 rfl ?_
      refine J_callVi C [.int (nI v), .int (nI ra), .int (nI 0)] rfl rfl 9 (c_part0 h2 h1 (by omega) (by omega) h128 h129 (by omega) hsc ht' hN) (gV mlX0_X1_part imX1_part slX1_part iniX1 cdX1_part) rfl dsX1_part ⟨by decide, by decide⟩ dX0_isWide_50 rfl (Nat.le_of_ble_eq_true rfl) rfl (Nat.le_of_ble_eq_true rfl) (Nat.le_of_eq hX) (Nat.le_of_ble_eq_true rfl) (Nat.le_of_ble_eq_true rfl) (fun r pw h hl => ?_)
      obtain ⟨rfl, c1, c2, g, rfl, s1, s2, s3⟩ := h
      have b3 := s1.2.1
      have b4 := s2.2.1
      refine J_bipush (v := nI 60) C dX0_isWide_53 (by decide) ?_
      refine J_callVi C [.int (nI t), .int (nI 60)] rfl rfl 9 (c_notWider (by omega) (by omega) hN s1.1 (by omega) s2.1 (by omega) (figN_le b3) (figN_le b4) (by decide)) (gV mlX0_X3_isWider imX3_isWider slX3_isWider iniX3 cdX3_isWider) rfl dsX3_isWider ⟨by decide, by decide⟩ dX0_isWide_55 rfl (Nat.le_of_ble_eq_true rfl) rfl (Nat.le_of_ble_eq_true rfl) (Nat.le_of_eq hX) (Nat.le_of_ble_eq_true rfl) (Nat.le_of_ble_eq_true rfl) (fun r pw h hl => ?_)
      obtain ⟨rfl, rfl⟩ := h
      refine J_istore C dX0_isWide_58 (by decide) ?_
      refine J_aload_n (i := 0) C dX0_isWide_60 rfl rfl ?_
      refine J_get (ci := 3) (k := 0) C dX0_isWide_61 (inT inX0) rfl (gc flX0_X0_numbers) (by decide) rfl rfl ?_
      refine J_iload_n (i := 3) C dX0_isWide_64 rfl rfl ?_
      refine J_put (ci := 6) C 1 tyX3 tyX3_ok nmX3 dX0_isWide_65 (inT inX3) rfl (gc flX0_X3_top) (by decide) rfl (tyX3_ok 1 (by decide)) (fun _ => rfl) (fun _ => rfl) rfl (Nat.le_of_ble_eq_true rfl) ?_
      refine J_aload_n (i := 0) C dX0_isWide_68 rfl rfl ?_
      refine J_get (ci := 3) (k := 0) C dX0_isWide_69 (inT inX0) rfl (gc flX0_X0_numbers) (by decide) rfl rfl ?_
      refine J_iload C dX0_isWide_72 rfl ?_
      have w : g v = nI k2 := by rw [s3 v (by omega)]; exact h2.1
      refine J_callVi C [.int (nI v)] rfl rfl 9 (c_next (by omega) (by omega) w (by omega)) (gV mlX0_X3_next imX3_next slX3_next iniX3 cdX3_next) rfl dsX3_next ⟨by decide, by decide⟩ dX0_isWide_74 rfl (Nat.le_of_ble_eq_true rfl) rfl (Nat.le_of_ble_eq_true rfl) (Nat.le_of_eq hX) (Nat.le_of_ble_eq_true rfl) (Nat.le_of_ble_eq_true rfl) (fun r pw h hl => ?_)
      obtain ⟨rfl, rfl⟩ := h
      refine J_istore C dX0_isWide_77 (by decide) ?_
      refine J_iinc C dX0_isWide_79 rfl (nI_1 _) ?_
      refine J_goto (tgt := 24) C dX0_isWide_82 (by decide) ?_
      refine J_iload C dX0_isWide_24 rfl ?_
      refine J_iconst (v := nI 1) C dX0_isWide_26 (by decide) ?_
      refine J_iload_n (i := 1) C dX0_isWide_27 rfl rfl ?_
      refine J_ishl C dX0_isWide_28 ?_
      refine J_eqi (y := nI 1) (by decide) ?_
      refine J_icmp_ge (tgt := 85) C dX0_isWide_29 (by decide) (fun h29q => have h29 := (nI_leI (by omega) (by omega)).mp h29q; ?_) (fun h29q => have h29 := (not_congr (nI_leI (by omega) (by omega))).mp h29q; ?_)
      · refine J_iload C dX0_isWide_85 rfl ?_
        refine hR _ _ _ _ _ _ dX0_isWide_87 ⟨rfl,g,rfl,s3⟩ (Nat.le_of_eq hX) (Nat.le_refl _) (Nat.le_refl _)
      · exact absurd (by decide) h29
set_option maxHeartbeats 4000000 in
/-- adopt(0, ratio), of the first element -/
theorem c_adopt0 {x0 : jE} {tp kp : Int32} {N : Nat} {f : Nat → Int32} {ht : Int32} {sq sc : Nat → Int32} {pl rk : Nat → Int32} {rest : jW} {ra v k1 k2 : Nat} (h1 : sh f ra k1) (h2 : sh f v k2) (hv : ra + 1 + k1 / 2 = v) (h128 : f 128 = nI 2) (h129 : f 129 = nI 1) (h130 : 130 ≤ ra) (hsc : sc 0 = nI 128) (ht' : ra + 100 ≤ N) (hN : N < 2 ^ 30) :
    jI vwCl yX0_adopt (wc yX0_adopt cX0_adopt 5 (some .int)) 7 420 [.ref 6, .int (nI 0), .int (nI ra)] (eW x0 tp (nI ra) kp N f ht sq sc (nI 0) pl rk rest) 0 0 (fun r pw => r = nI 0 ∧ ∃ (tp fm kp : Int32) (f : Nat → Int32) (ct : Int32) (pl rk : Nat → Int32), pw = eW x0 tp fm kp N f ht sq sc ct pl rk rest) := by
  refine jI_of (cc := cX0_adopt) (nL := 5) .int (by decide) rfl (Nat.le_of_ble_eq_true rfl) (fun _ _ _ => rfl) ?_
  intro X C hX hR
  have b1 := h1.2.1
  have b2 := h2.2.1
  refine J_aload_n (i := 0) C dX0_adopt_0 rfl rfl ?_
  refine J_get (ci := 3) (k := 0) C dX0_adopt_1 (inT inX0) rfl (gc flX0_X0_numbers) (by decide) rfl rfl ?_
  refine J_iload_n (i := 2) C dX0_adopt_4 rfl rfl ?_
  refine J_callVi C [.int (nI ra)] rfl rfl 9 (c_next (by omega) (by omega) h1.1 (by omega)) (gV mlX0_X3_next imX3_next slX3_next iniX3 cdX3_next) rfl dsX3_next ⟨by decide, by decide⟩ dX0_adopt_5 rfl (Nat.le_of_ble_eq_true rfl) rfl (Nat.le_of_ble_eq_true rfl) (Nat.le_of_eq hX) (Nat.le_of_ble_eq_true rfl) (Nat.le_of_ble_eq_true rfl) (fun r pw h hl => ?_)
  obtain ⟨rfl, rfl⟩ := h
  rw [hv]
  refine J_istore_n (i := 3) C dX0_adopt_8 rfl (by decide) ?_
  refine J_iload_n (i := 1) C dX0_adopt_9 rfl rfl ?_
  refine J_istore C dX0_adopt_10 (by decide) ?_
  refine J_iload C dX0_adopt_12 rfl ?_
  refine J_if_le (tgt := 33) C dX0_adopt_14 (by decide) (fun h14q => have h14 := (nI_le0 (by omega)).mp h14q; ?_) (fun h14q => have h14 := (not_congr (nI_le0 (by omega))).mp h14q; ?_)
  · refine J_aload_n (i := 0) C dX0_adopt_33 rfl rfl ?_
    refine J_get (ci := 3) (k := 0) C dX0_adopt_34 (inT inX0) rfl (gc flX0_X0_numbers) (by decide) rfl rfl ?_
    refine J_aload_n (i := 0) C dX0_adopt_37 rfl rfl ?_
    refine J_get (ci := 3) (k := 0) C dX0_adopt_38 (inT inX0) rfl (gc flX0_X0_numbers) (by decide) rfl rfl ?_
    refine J_iload_n (i := 3) C dX0_adopt_41 rfl rfl ?_
    refine J_iconst (v := nI 1) C dX0_adopt_42 (by decide) ?_
    refine J_iload C dX0_adopt_43 rfl ?_
    refine J_ishl C dX0_adopt_45 ?_
    refine J_eqi (y := nI 1) (by decide) ?_
    refine J_callVi C [.int (nI v), .int (nI 1)] rfl rfl 9 (c_skip1 (by omega) hN h2.1 (by omega)) (gV mlX0_X3_skip imX3_skip slX3_skip iniX3 cdX3_skip) rfl dsX3_skip ⟨by decide, by decide⟩ dX0_adopt_46 rfl (Nat.le_of_ble_eq_true rfl) rfl (Nat.le_of_ble_eq_true rfl) (Nat.le_of_eq hX) (Nat.le_of_ble_eq_true rfl) (Nat.le_of_ble_eq_true rfl) (fun r pw h hl => ?_)
    obtain ⟨rfl, rfl⟩ := h
    refine J_put (ci := 6) C 1 tyX3 tyX3_ok nmX3 dX0_adopt_49 (inT inX3) rfl (gc flX0_X3_top) (by decide) rfl (tyX3_ok 1 (by decide)) (fun _ => rfl) (fun _ => rfl) rfl (Nat.le_of_ble_eq_true rfl) ?_
    refine J_aload_n (i := 0) C dX0_adopt_52 rfl rfl ?_
    refine J_get (ci := 3) (k := 1) C dX0_adopt_53 (inT inX0) rfl (gc flX0_X0_field) (by decide) rfl rfl ?_
    refine J_iload C dX0_adopt_56 rfl ?_
    refine J_iload_n (i := 2) C dX0_adopt_58 rfl rfl ?_
    refine J_callVi C [.int (nI 0), .int (nI ra)] rfl rfl 9 (c_reduced0 (t := v + (1 + k2 / 2)) h1 h2 hv (by omega) (by omega) hN) (gV mlX0_X1_reduced imX1_reduced slX1_reduced iniX1 cdX1_reduced) rfl dsX1_reduced ⟨by decide, by decide⟩ dX0_adopt_59 rfl (Nat.le_of_ble_eq_true rfl) rfl (Nat.le_of_ble_eq_true rfl) (Nat.le_of_eq hX) (Nat.le_of_ble_eq_true rfl) (Nat.le_of_ble_eq_true rfl) (fun r pw h hl => ?_)
    obtain ⟨rfl, c1, c2, g, rfl, s1, s2, s3⟩ := h
    have b3 := s1.2.1
    have b4 := s2.2.1
    refine J_pop C dX0_adopt_62 rfl ?_
    refine J_aload_n (i := 0) C dX0_adopt_63 rfl rfl ?_
    refine J_iload C dX0_adopt_64 rfl ?_
    refine J_iload_n (i := 2) C dX0_adopt_66 rfl rfl ?_
    refine J_callVi C [.int (nI 0), .int (nI ra)] rfl rfl 9 (c_isWide0 (t := ra + 1 + c1 / 2 + 1 + c2 / 2) s1 s2 rfl rfl (by rw [s3 _ (by omega)]; exact h128) (by rw [s3 _ (by omega)]; exact h129) h130 hsc (by omega) hN) (gV mlX0_X0_isWide imX0_isWide slX0_isWide iniX0 cdX0_isWide) rfl dsX0_isWide ⟨by decide, by decide⟩ dX0_adopt_67 rfl (Nat.le_of_ble_eq_true rfl) rfl (Nat.le_of_ble_eq_true rfl) (Nat.le_of_eq hX) (Nat.le_of_ble_eq_true rfl) (Nat.le_of_ble_eq_true rfl) (fun r pw h hl => ?_)
    obtain ⟨rfl, g2, rfl, s4⟩ := h
    refine J_if_eq (tgt := 83) C dX0_adopt_70 (by decide) (fun h70q => have h70 := (nI_z (by omega)).mp h70q; ?_) (fun h70q => have h70 := (not_congr (nI_z (by omega))).mp h70q; ?_)
    · refine J_aload_n (i := 0) C dX0_adopt_83 rfl rfl ?_
      refine J_get (ci := 3) (k := 5) C dX0_adopt_84 (inT inX0) rfl (gc flX0_X0_place) (by decide) rfl rfl ?_
      refine J_aload_n (i := 0) C dX0_adopt_87 rfl rfl ?_
      refine J_get (ci := 3) (k := 4) C dX0_adopt_88 (inT inX0) rfl (gc flX0_X0_count) (by decide) rfl rfl ?_
      refine J_aload_n (i := 0) C dX0_adopt_91 rfl rfl ?_
      refine J_get (ci := 3) (k := 0) C dX0_adopt_92 (inT inX0) rfl (gc flX0_X0_numbers) (by decide) rfl rfl ?_
      refine J_aload_n (i := 0) C dX0_adopt_95 rfl rfl ?_
      refine J_get (ci := 3) (k := 0) C dX0_adopt_96 (inT inX0) rfl (gc flX0_X0_numbers) (by decide) rfl rfl ?_
      refine J_get (ci := 6) (k := 2) C dX0_adopt_99 (inT inX3) rfl (gc flX0_X3_firm) (by decide) rfl rfl ?_
      refine J_iload_n (i := 2) C dX0_adopt_102 rfl rfl ?_
      refine J_callVi C [.int (nI ra), .int (nI ra)] rfl rfl 9 (c_slid (f := g2) (t := ra + 1 + c1 / 2 + 1 + c2 / 2) (by omega) (by omega) (by omega) hN) (gV mlX0_X3_slid imX3_slid slX3_slid iniX3 cdX3_slid) rfl dsX3_slid ⟨by decide, by decide⟩ dX0_adopt_103 rfl (Nat.le_of_ble_eq_true rfl) rfl (Nat.le_of_ble_eq_true rfl) (Nat.le_of_eq hX) (Nat.le_of_ble_eq_true rfl) (Nat.le_of_ble_eq_true rfl) (fun r pw h hl => ?_)
      obtain ⟨rfl, rfl⟩ := h
      refine J_iastN C dX0_adopt_106 rfl (by omega) (by omega) ?_
      refine J_aload_n (i := 0) C dX0_adopt_107 rfl rfl ?_
      refine J_get (ci := 3) (k := 6) C dX0_adopt_108 (inT inX0) rfl (gc flX0_X0_rank) (by decide) rfl rfl ?_
      refine J_aload_n (i := 0) C dX0_adopt_111 rfl rfl ?_
      refine J_get (ci := 3) (k := 4) C dX0_adopt_112 (inT inX0) rfl (gc flX0_X0_count) (by decide) rfl rfl ?_
      refine J_iload C dX0_adopt_115 rfl ?_
      refine J_iastN C dX0_adopt_117 rfl (by omega) (by omega) ?_
      refine J_aload_n (i := 0) C dX0_adopt_118 rfl rfl ?_
      refine J_get (ci := 3) (k := 0) C dX0_adopt_119 (inT inX0) rfl (gc flX0_X0_numbers) (by decide) rfl rfl ?_
      refine J_callVn C [] rfl rfl 9 c_settle (gV mlX0_X3_settle imX3_settle slX3_settle iniX3 cdX3_settle) rfl dsX3_settle ⟨by decide, by decide⟩ dX0_adopt_122 rfl (Nat.le_of_ble_eq_true rfl) rfl (Nat.le_of_ble_eq_true rfl) (Nat.le_of_eq hX) (Nat.le_of_ble_eq_true rfl) (Nat.le_of_ble_eq_true rfl) (fun pw h hl => ?_)
      subst h
      refine J_aload_n (i := 0) C dX0_adopt_125 rfl rfl ?_
      refine J_dup C dX0_adopt_126 rfl ?_
      refine J_get (ci := 3) (k := 4) C dX0_adopt_127 (inT inX0) rfl (gc flX0_X0_count) (by decide) rfl rfl ?_
      refine J_iconst (v := nI 1) C dX0_adopt_130 (by decide) ?_
      refine J_iadd C dX0_adopt_131 ?_
      refine J_eqi (nI_add _ _) ?_
      refine J_put (ci := 3) C 4 tyX0 tyX0_ok nmX0 dX0_adopt_132 (inT inX0) rfl (gc flX0_X0_count) (by decide) rfl (tyX0_ok 4 (by decide)) (fun _ => rfl) (fun _ => rfl) rfl (Nat.le_of_ble_eq_true rfl) ?_
      refine J_aload_n (i := 0) C dX0_adopt_135 rfl rfl ?_
      refine J_get (ci := 3) (k := 4) C dX0_adopt_136 (inT inX0) rfl (gc flX0_X0_count) (by decide) rfl rfl ?_
      refine J_iconst (v := nI 1) C dX0_adopt_139 (by decide) ?_
      refine J_isub C dX0_adopt_140 ?_
      refine J_eqi (pk_sub (by omega)) ?_
      refine hR _ _ _ _ _ _ dX0_adopt_141 ⟨rfl,_,_,_,_,_,_,_,rfl⟩ (Nat.le_of_eq hX) (Nat.le_refl _) (Nat.le_refl _)
    · exact absurd rfl h70
  · exact absurd rfl h14
set_option maxHeartbeats 4000000 in
/-- fraction(up, down), of a fresh object -/
theorem c_fraction {f : Nat → Int32} {sq sc : Nat → Int32} {pl rk : Nat → Int32} {pr : Int32} {rl rh : Nat → Int32} {s12 s13 s14 s15 s16 s17 : jE} {ln : Int32} {lt : Nat → Int32} {rest : jW} {t : Nat} {up down : Int64} (h128 : f 128 = nI 2) (h129 : f 129 = nI 1) (h130 : 130 ≤ t) (hsc : sc 0 = nI 128) (ht : t + 120 ≤ 8192) :
    jI vwCl yX6_fraction (wc yX6_fraction cX6_fraction 6 (some .int)) 8 480 [.ref 0, .long up, .long down] (cW (nI t) (nI t) (nI t) 8192 f 0 sq sc 0 pl rk pr rl rh s12 s13 s14 s15 s16 s17 ln lt rest) 0 0 (fun r pw => (r = if down = 0 then -2 else 0) ∧ ∃ (tp fm kp : Int32) (f : Nat → Int32) (ct : Int32) (pl rk : Nat → Int32), pw = cW tp fm kp 8192 f 0 sq sc ct pl rk pr rl rh s12 s13 s14 s15 s16 s17 ln lt rest) := by
  refine jI_of (cc := cX6_fraction) (nL := 6) .int (by decide) rfl (Nat.le_of_ble_eq_true rfl) (fun _ _ _ => rfl) ?_
  intro X C hX hR
  refine J_aload_n (i := 0) C dX6_fraction_0 rfl rfl ?_
  refine J_get (ci := 9) (k := 2) C dX6_fraction_1 (inT inX6) rfl (gc flX6_X6_elements) (by decide) rfl rfl ?_
  refine J_callVi C [] rfl rfl 12 c_isFull (gV mlX6_X0_isFull imX0_isFull slX0_isFull iniX0 cdX0_isFull) rfl dsX0_isFull ⟨by decide, by decide⟩ dX6_fraction_4 rfl (Nat.le_of_ble_eq_true rfl) rfl (Nat.le_of_ble_eq_true rfl) (Nat.le_of_eq hX) (Nat.le_of_ble_eq_true rfl) (Nat.le_of_ble_eq_true rfl) (fun r pw h hl => ?_)
  obtain ⟨rfl, rfl⟩ := h
  refine J_if_eq (tgt := 12) C dX6_fraction_7 (by decide) (fun h7q => ?_) (fun h7q => ?_)
  · refine J_lload_n (i := 3) C dX6_fraction_12 rfl rfl ?_
    refine J_lconst (v := 0) C dX6_fraction_13 (by decide) ?_
    refine J_lcmp C dX6_fraction_14 ?_
    refine J_if_ne (tgt := 21) C dX6_fraction_15 (by decide) (fun h15q => ?_) (fun h15q => ?_)
    · have hd : ¬ down = 0 := fun w => h15q ((lg_cmp_eq _ _).mpr w)
      obtain ⟨k1, s1, e1⟩ := sh_whole f t down
      have b1 := s1.2.1
      refine J_aload_n (i := 0) C dX6_fraction_21 rfl rfl ?_
      refine J_get (ci := 9) (k := 0) C dX6_fraction_22 (inT inX6) rfl (gc flX6_X6_numbers) (by decide) rfl rfl ?_
      refine J_lload_n (i := 3) C dX6_fraction_25 rfl rfl ?_
      refine J_callVi C [.long down] rfl rfl 12 (c_whole (t := t) (by omega) (by decide)) (gV mlX6_X3_whole imX3_whole slX3_whole iniX3 cdX3_whole) rfl dsX3_whole ⟨by decide, by decide⟩ dX6_fraction_26 rfl (Nat.le_of_ble_eq_true rfl) rfl (Nat.le_of_ble_eq_true rfl) (Nat.le_of_eq hX) (Nat.le_of_ble_eq_true rfl) (Nat.le_of_ble_eq_true rfl) (fun r pw h hl => ?_)
      obtain ⟨rfl, rfl⟩ := h
      have g1 : ∀ j, j < t → upd (whL f t down) t (headN (trimN (whL f t down) t 3) (sgL down)) j = f j := fun j hj => whL_below hj
      generalize upd (whL f t down) t (headN (trimN (whL f t down) t 3) (sgL down)) = g at s1 g1
      generalize hT : t + 1 + trimN (whL f t down) t 3 = T
      have eT : t + 1 + k1 / 2 = T := by omega
      obtain ⟨k2, s2, e2⟩ := sh_whole g T up
      refine J_istore C dX6_fraction_29 (by decide) ?_
      refine J_aload_n (i := 0) C dX6_fraction_31 rfl rfl ?_
      refine J_get (ci := 9) (k := 0) C dX6_fraction_32 (inT inX6) rfl (gc flX6_X6_numbers) (by decide) rfl rfl ?_
      refine J_lload_n (i := 1) C dX6_fraction_35 rfl rfl ?_
      refine J_callVi C [.long up] rfl rfl 12 (c_whole (t := T) (by omega) (by decide)) (gV mlX6_X3_whole imX3_whole slX3_whole iniX3 cdX3_whole) rfl dsX3_whole ⟨by decide, by decide⟩ dX6_fraction_36 rfl (Nat.le_of_ble_eq_true rfl) rfl (Nat.le_of_ble_eq_true rfl) (Nat.le_of_eq hX) (Nat.le_of_ble_eq_true rfl) (Nat.le_of_ble_eq_true rfl) (fun r pw h hl => ?_)
      obtain ⟨rfl, rfl⟩ := h
      have g2 : ∀ j, j < T → upd (whL g T up) T (headN (trimN (whL g T up) T 3) (sgL up)) j = g j := fun j hj => whL_below hj
      generalize upd (whL g T up) T (headN (trimN (whL g T up) T 3) (sgL up)) = G at s2 g2
      refine J_pop C dX6_fraction_39 rfl ?_
      refine J_aload_n (i := 0) C dX6_fraction_40 rfl rfl ?_
      refine J_get (ci := 9) (k := 2) C dX6_fraction_41 (inT inX6) rfl (gc flX6_X6_elements) (by decide) rfl rfl ?_
      refine J_iconst (v := nI 0) C dX6_fraction_44 (by decide) ?_
      refine J_iload C dX6_fraction_45 rfl ?_
      refine J_callVi C [.int (nI 0), .int (nI t)] rfl rfl 12 (c_adopt0 (N := 8192) (sh_eq s1 (fun j z1 z2 => g2 j (by omega))) s2 eT (by rw [g2 _ (by omega), g1 _ (by omega)]; exact h128) (by rw [g2 _ (by omega), g1 _ (by omega)]; exact h129) h130 hsc (by omega) (by decide)) (gV mlX6_X0_adopt imX0_adopt slX0_adopt iniX0 cdX0_adopt) rfl dsX0_adopt ⟨by decide, by decide⟩ dX6_fraction_47 rfl (Nat.le_of_ble_eq_true rfl) rfl (Nat.le_of_ble_eq_true rfl) (Nat.le_of_eq hX) (Nat.le_of_ble_eq_true rfl) (Nat.le_of_ble_eq_true rfl) (fun r pw h hl => ?_)
      obtain ⟨rfl, tp2, fm2, kp2, f2, ct2, pl2, rk2, rfl⟩ := h
      refine hR _ _ _ _ _ _ dX6_fraction_50 ⟨?_,tp2,fm2,kp2,f2,ct2,pl2,rk2,rfl⟩ (Nat.le_of_eq hX) (Nat.le_refl _) (Nat.le_refl _)
      rw [if_neg hd]; rfl
    · refine J_bipush (v := -2) C dX6_fraction_18 (by decide) ?_
      refine hR _ _ _ _ _ _ dX6_fraction_20 ⟨?_,_,_,_,_,_,_,_,rfl⟩ (Nat.le_of_eq hX) (Nat.le_refl _) (Nat.le_refl _)
      rw [if_pos ((lg_cmp_eq _ _).mp h15q)]
  · exact absurd rfl h7q

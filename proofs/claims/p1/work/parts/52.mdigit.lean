/-- one limb: x = w - G y - c, divided by 10^9 with rests toward 0 -/
theorem sub_long {w gy c : Nat} (hw : w < 1000000000) (hg : gy ≤ 999999998000000001) (hc : c ≤ 1000000000) : ∃ d c' : Nat, d < 1000000000 ∧ c' ≤ 1000000000 ∧ d + (gy + c) = w + c' * 1000000000 ∧
    (¬ (lN w - lN gy - lN c - (lN w - lN gy - lN c) / lN 1000000000 * lN 1000000000) < 0 → (lN w - lN gy - lN c - (lN w - lN gy - lN c) / lN 1000000000 * lN 1000000000) = lN d ∧ -((lN w - lN gy - lN c) / lN 1000000000) = lN c') ∧
    ((lN w - lN gy - lN c - (lN w - lN gy - lN c) / lN 1000000000 * lN 1000000000) < 0 → (lN w - lN gy - lN c - (lN w - lN gy - lN c) / lN 1000000000 * lN 1000000000) + lN 1000000000 = lN d ∧ -((lN w - lN gy - lN c) / lN 1000000000) + lN 1 = lN c') := by
  have hx : (lN w - lN gy - lN c).toInt = (w : Int) - gy - c := by
    rw [Int64.toInt_sub, Int64.toInt_sub, pk_lT (by omega), pk_lT (by omega), pk_lT (by omega), bm64 (x := (w : Int) - gy) (by omega) (by omega), bm64 (by omega) (by omega)]
  generalize lN w - lN gy - lN c = x at *
  have hd := ldr_d x
  have hm := ldr_m x
  have h4 := Int.mul_tdiv_add_tmod x.toInt 1000000000
  have h5 := Int.lt_tmod_of_pos x.toInt (b := 1000000000) (by decide)
  have h6 := Int.tmod_lt_of_pos x.toInt (b := 1000000000) (by decide)
  generalize x - x / lN 1000000000 * lN 1000000000 = r at *
  generalize x / lN 1000000000 = q at *
  generalize x.toInt.tmod 1000000000 = m at *
  generalize x.toInt.tdiv 1000000000 = k at *
  by_cases hr : r < 0
  · have hr2 : r.toInt < 0 := Int64.lt_iff_toInt_lt.mp hr
    refine ⟨(m + 1000000000).toNat, (-k + 1).toNat, by omega, by omega, by omega, fun w => absurd hr w, fun _ => ⟨lN_ofInt (by omega) ?_, lN_ofInt (by omega) ?_⟩⟩
    · rw [Int64.toInt_add, pk_lT (by decide), hm, bm64 (by omega) (by omega)]; omega
    · rw [Int64.toInt_add, Int64.toInt_neg, pk_lT (by decide), hd, bm64 (x := -k) (by omega) (by omega), bm64 (by omega) (by omega)]; omega
  · have hr2 : ¬ r.toInt < 0 := fun w => hr (Int64.lt_iff_toInt_lt.mpr w)
    refine ⟨m.toNat, (-k).toNat, by omega, by omega, by omega, fun _ => ⟨lN_ofInt (by omega) ?_, lN_ofInt (by omega) ?_⟩, fun w => absurd w hr⟩
    · rw [hm]; omega
    · rw [Int64.toInt_neg, hd, bm64 (by omega) (by omega)]; omega
theorem lN_less' (u : Nat) : lN u - lN (u + 1) = -1 := by
  rw [← lN_1, Int64.sub_eq_add_neg, Int64.neg_add, Int64.sub_eq_add_neg, ← Int64.add_assoc, ← Int64.sub_eq_add_neg (lN u), Int64.sub_self]
  decide
section MD
variable {c0 c1 c2 c3 c4 c5 c6 c7 c8 c9 c10 c11 c12 c13 c14 c15 c16 c17 c18 c19 : jE} {th : Int32} {z sz sg : Nat → Int32} {tk : Int32} {st ss sn : Nat → Int32} {el ro : Int32} {kt ks kn : Nat → Int32} {le : Int32} {lr : Nat → Int32} {pl : Int32} {rest : jW}
set_option maxHeartbeats 8000000 in
/-- digit(r, v, j, n): Knuth's step -/
theorem m_digit {r v j m : Nat} (hr : r < 500) (hv5 : v < 500) (hrv : r ≠ v) (hj : j + m < 100) (hu : lm z (2500 * r + j) (m + 3)) (hv : lm z (2500 * v) (m + 2)) (htop : 0 < dg z (2500 * v + (m + 1))) (hUV : vN z (2500 * r + j) (m + 3) < vN z (2500 * v) (m + 2) * 1000000000) :
    jI vwCl yX7_digit (wc yX7_digit cX7_digit 23 (some .int)) 0 0 [.ref 20, .int (nI r), .int (nI v), .int (nI j), .int (nI (m + 2))] (mW c0 c1 c2 c3 c4 c5 c6 c7 c8 c9 c10 c11 c12 c13 c14 c15 c16 c17 c18 c19 th z sz sg tk st ss sn el ro kt ks kn le lr pl rest) 0 0 (fun _ pw => ∃ (g : Nat → Int32), pw = (mW c0 c1 c2 c3 c4 c5 c6 c7 c8 c9 c10 c11 c12 c13 c14 c15 c16 c17 c18 c19 th g sz sg tk st ss sn el ro kt ks kn le lr pl rest) ∧ lm g (2500 * r + j) (m + 2) ∧ g (2500 * r + j + (m + 2)) = nI 0 ∧ vN g (2500 * r + j) (m + 2) < vN z (2500 * v) (m + 2) ∧ ∀ i, i < 2500 * r + j ∨ 2500 * r + j + (m + 2) < i → g i = z i) := by
  refine jI_of (cc := cX7_digit) (nL := 23) .int (by decide) rfl (Nat.le_of_ble_eq_true rfl) (fun _ _ _ => rfl) ?_
  intro X C hX hR
  generalize hu' : 2500 * r + j = u at *
  generalize hv' : 2500 * v = q at *
  have huN : u + (m + 2) < 1250000 := by omega
  have hqN : q + (m + 2) < 1250000 := by omega
  have hsep : q + (m + 2) ≤ u ∨ u + (m + 2) < q := by omega
  obtain ⟨a2, b2⟩ := hu (m + 2) (by omega)
  obtain ⟨a1, b1⟩ := hu (m + 1) (by omega)
  obtain ⟨a0, b0⟩ := hu m (by omega)
  obtain ⟨s1, t1⟩ := hv (m + 1) (by omega)
  obtain ⟨s0, t0⟩ := hv m (by omega)
  have eU := vN_3 z u m
  have eV := vN_2 z q m
  have lU := vN_lt (lm_le hu (show m ≤ m + 3 by omega))
  have lV := vN_lt (lm_le hv (show m ≤ m + 2 by omega))
  have lV2 := vN_lt hv
  have eU2 : vN z u (m + 3) = vN z u (m + 2) + dg z (u + (m + 2)) * 1000000000 ^ (m + 2) := rfl
  have hu2 : dg z (u + (m + 2)) ≤ dg z (q + (m + 1)) := by
    have hV : vN z q (m + 2) < (dg z (q + (m + 1)) + 1) * 1000000000 ^ (m + 1) := by
      show vN z q (m + 1) + dg z (q + (m + 1)) * 1000000000 ^ (m + 1) < _
      rw [Nat.add_mul, Nat.one_mul, Nat.add_comm]
      exact Nat.add_lt_add_left (vN_lt (lm_le hv (show m + 1 ≤ m + 2 by omega))) _
    refine kn_top (b := 1000000000) (P := 1000000000 ^ (m + 1)) ?_ hV hUV (by decide)
    rw [eU2, show 1000000000 * 1000000000 ^ (m + 1) = 1000000000 ^ (m + 2) by rw [Nat.pow_succ 1000000000 (m + 1), Nat.mul_comm]]
    omega
  have z1 : z (u + (m + 2) - 1) = nI (dg z (u + (m + 1))) := by rw [show u + (m + 2) - 1 = u + (m + 1) by omega]; exact a1
  have z2 : z (q + (m + 2) - 1) = nI (dg z (q + (m + 1))) := by rw [show q + (m + 2) - 1 = q + (m + 1) by omega]; exact s1
  have z3 : z (q + (m + 2) - 2) = nI (dg z (q + m)) := by rw [show q + (m + 2) - 2 = q + m by omega]; exact s0
  have z4 : z (u + (m + 2) - 2) = nI (dg z (u + m)) := by rw [show u + (m + 2) - 2 = u + m by omega]; exact a0
  generalize dg z (u + (m + 2)) = u2 at *
  generalize dg z (u + (m + 1)) = u1 at *
  generalize dg z (u + m) = u0 at *
  generalize dg z (q + (m + 1)) = v1 at *
  generalize dg z (q + m) = v0 at *
  generalize hU : vN z u (m + 3) = U at *
  generalize hV : vN z q (m + 2) = V at *
  have hVX : V < 1000000000 ^ (m + 2) := lV2
  have ev : (nI 2500 * nI v : Int32) = nI q := (pk_mul _ _).trans (congrArg nI hv')
  -- the end
  have hE : ∀ (g : Nat → Int32) (y G : Int64) (lv : Nat → Option Value), y = lN 0 → lm g u (m + 2) → vN g u (m + 2) < V → (∀ i, i < u ∨ u + (m + 2) < i → g i = z i) → lv 0 = some (.ref 20) → lv 4 = some (.int (nI (m + 2))) → lv 5 = some (.int (nI u)) → lv 12 = some (.long G) → lv 18 = some (.long y) → J X 392 lv [] (mW c0 c1 c2 c3 c4 c5 c6 c7 c8 c9 c10 c11 c12 c13 c14 c15 c16 c17 c18 c19 th g sz sg tk st ss sn el ro kt ks kn le lr pl rest) 0 0 := by
    intro g y G lv hy hg hgV he h0 h4 h5 h12 h18
    subst hy
    refine J_aload_n (i := 0) C dX7_digit_392 rfl h0 ?_
    refine J_get (ci := 10) (k := 1) C dX7_digit_393 (inT inX7) rfl (gc flX7_X7_z) (by decide) rfl rfl ?_
    refine J_iload C dX7_digit_396 h5 ?_
    refine J_iload C dX7_digit_398 h4 ?_
    refine J_iadd C dX7_digit_400 ?_
    refine J_eqi (nI_add _ _) ?_
    refine J_lload C dX7_digit_401 h18 ?_
    refine J_l2i C dX7_digit_403 (lN_i _) ?_
    refine J_st21 C dX7_digit_404 (by omega) ?_
    refine J_lload C dX7_digit_405 h12 ?_
    refine J_l2i C dX7_digit_407 rfl ?_
    refine hR _ _ _ _ _ _ dX7_digit_408 ⟨_,rfl,lm_un hg (by omega),pk_us,?_,fun i hi => ?_⟩ (Nat.le_of_eq hX) (Nat.le_refl _) (Nat.le_refl _)
    · rw [vN_un (by omega)]; exact hgV
    · rw [pk_un (by omega)]; exact he i hi
  -- adding back
  have hB : ∀ (G : Int64) (g1 : Nat → Int32), lm g1 u (m + 2) → 1000000000 ^ (m + 2) ≤ vN g1 u (m + 2) + V → (∀ i, i < u ∨ u + (m + 2) < i → g1 i = z i) → ∀ (d i bk : Nat) (h : Nat → Int32) (lv : Nat → Option Value), i + d = m + 2 → bk < 2 → lm h u i → (∀ i', i' < u ∨ u + i ≤ i' → h i' = g1 i') → vN h u i + bk * 1000000000 ^ i = vN g1 u i + vN z q i → lv 0 = some (.ref 20) → lv 2 = some (.int (nI v)) → lv 4 = some (.int (nI (m + 2))) → lv 5 = some (.int (nI u)) → lv 12 = some (.long G) → lv 18 = some (.long (-1)) → lv 20 = some (.int (nI bk)) → lv 21 = some (.int (nI i)) → J X 301 lv [] (mW c0 c1 c2 c3 c4 c5 c6 c7 c8 c9 c10 c11 c12 c13 c14 c15 c16 c17 c18 c19 th h sz sg tk st ss sn el ro kt ks kn le lr pl rest) 0 0 := by
    intro G g1 hg1 hge hgf d
    induction d with
    | zero =>
      intro i bk h lv hd hb hh he hs h0 h2 h4 h5 h12 h18 h20 h21
      have hi : i = m + 2 := by omega
      subst hi
      rw [hV] at hs
      obtain ⟨q1, q2⟩ := add_end hs hb hge (vN_lt hh) (vN_lt hg1) hVX
      subst q1
      have gl := vN_lt hg1
      refine J_iload C dX7_digit_301 h21 ?_
      refine J_iload C dX7_digit_303 h4 ?_
      refine J_icmp_ge (tgt := 384) C dX7_digit_305 (by decide) (fun h305q => have h305 := (nI_leI (by omega) (by omega)).mp h305q; ?_) (fun h305q => have h305 := (not_congr (nI_leI (by omega) (by omega))).mp h305q; ?_)
      · refine J_lload C dX7_digit_384 h18 ?_
        refine J_iload C dX7_digit_386 h20 ?_
        refine J_i2l C dX7_digit_388 (nI_l (by omega)) ?_
        refine J_ladd C dX7_digit_389 ?_
        refine J_eql (y := lN 0) (by decide) ?_
        refine J_lstore C dX7_digit_390 (by decide) ?_
        exact hE h (lN 0) G _ rfl hh (by omega) (fun i' hi' => by rw [he i' (by omega)]; exact hgf i' hi') (js2_ref h0 (by decide) (by decide)) (js2_int h4 (by decide) (by decide)) (js2_int h5 (by decide) (by decide)) (js2_long h12 (by decide) (by decide) (by decide)) js2_at
      · exact absurd (Nat.le_refl _) h305
    | succ d ih =>
      intro i bk h lv hd hb hh he hs h0 h2 h4 h5 h12 h18 h20 h21
      obtain ⟨p1, p2⟩ := hg1 i (by omega)
      obtain ⟨p3, p4⟩ := hv i (by omega)
      have c1 : h (u + i) = nI (dg g1 (u + i)) := by rw [he _ (by omega)]; exact p1
      have c2 : h (q + i) = nI (dg z (q + i)) := by rw [he _ (by omega), hgf _ (by omega)]; exact p3
      have e1 : vN g1 u (i + 1) = vN g1 u i + dg g1 (u + i) * 1000000000 ^ i := rfl
      have e2 : vN z q (i + 1) = vN z q i + dg z (q + i) * 1000000000 ^ i := rfl
      generalize dg g1 (u + i) = w at *
      generalize dg z (q + i) = y at *
      refine J_iload C dX7_digit_301 h21 ?_
      refine J_iload C dX7_digit_303 h4 ?_
      refine J_icmp_ge (tgt := 384) C dX7_digit_305 (by decide) (fun h305q => have h305 := (nI_leI (by omega) (by omega)).mp h305q; ?_) (fun h305q => have h305 := (not_congr (nI_leI (by omega) (by omega))).mp h305q; ?_)
      · exact absurd h305 (by omega)
      · refine J_aload_n (i := 0) C dX7_digit_308 rfl h0 ?_
        refine J_get (ci := 10) (k := 1) C dX7_digit_309 (inT inX7) rfl (gc flX7_X7_z) (by decide) rfl rfl ?_
        refine J_iload C dX7_digit_312 h5 ?_
        refine J_iload C dX7_digit_314 h21 ?_
        refine J_iadd C dX7_digit_316 ?_
        refine J_eqi (nI_add _ _) ?_
        refine J_ialdN C dX7_digit_317 rfl (by omega) (by omega) c1 ?_
        refine J_aload_n (i := 0) C dX7_digit_318 rfl h0 ?_
        refine J_get (ci := 10) (k := 1) C dX7_digit_319 (inT inX7) rfl (gc flX7_X7_z) (by decide) rfl rfl ?_
        refine J_sipush (v := nI 2500) C dX7_digit_322 (by decide) ?_
        refine J_iload_n (i := 2) C dX7_digit_325 rfl h2 ?_
        refine J_imul C dX7_digit_326 ?_
        refine J_eqi ev ?_
        refine J_iload C dX7_digit_327 h21 ?_
        refine J_iadd C dX7_digit_329 ?_
        refine J_eqi (nI_add _ _) ?_
        refine J_ialdN C dX7_digit_330 rfl (by omega) (by omega) c2 ?_
        refine J_iadd C dX7_digit_331 ?_
        refine J_eqi (nI_add _ _) ?_
        refine J_iload C dX7_digit_332 h20 ?_
        refine J_iadd C dX7_digit_334 ?_
        refine J_eqi (nI_add _ _) ?_
        refine J_istore C dX7_digit_335 (by decide) ?_
        refine J_iload C dX7_digit_337 js1_at ?_
        refine J_ldc C (gc coX7_1000000000) dX7_digit_339 ?_
        refine J_eqi (y := nI 1000000000) (by decide) ?_
        refine J_icmp_lt (tgt := 348) C dX7_digit_341 (by decide) (fun h341q => have h341 := (nI_ltI (by omega) (by omega)).mp h341q; ?_) (fun h341q => have h341 := (not_congr (nI_ltI (by omega) (by omega))).mp h341q; ?_)
        · refine J_iconst (v := nI 0) C dX7_digit_348 (by decide) ?_
          refine J_istore C dX7_digit_349 (by decide) ?_
          refine J_aload_n (i := 0) C dX7_digit_351 rfl (js1_ref (js1_ref h0 (by decide)) (by decide)) ?_
          refine J_get (ci := 10) (k := 1) C dX7_digit_352 (inT inX7) rfl (gc flX7_X7_z) (by decide) rfl rfl ?_
          refine J_iload C dX7_digit_355 (js1_int (js1_int h5 (by decide)) (by decide)) ?_
          refine J_iload C dX7_digit_357 (js1_int (js1_int h21 (by decide)) (by decide)) ?_
          refine J_iadd C dX7_digit_359 ?_
          refine J_eqi (nI_add _ _) ?_
          refine J_iload C dX7_digit_360 (js1_int js1_at (by decide)) ?_
          refine J_ldc C (gc coX7_1000000000) dX7_digit_362 ?_
          refine J_eqi (y := nI 1000000000) (by decide) ?_
          refine J_icmp_lt (tgt := 375) C dX7_digit_364 (by decide) (fun h364q => have h364 := (nI_ltI (by omega) (by omega)).mp h364q; ?_) (fun h364q => have h364 := (not_congr (nI_ltI (by omega) (by omega))).mp h364q; ?_)
          · refine J_iload C dX7_digit_375 (js1_int js1_at (by decide)) ?_
            refine J_st21 C dX7_digit_377 (by omega) ?_
            refine J_iinc C dX7_digit_378 (js1_int (js1_int h21 (by decide)) (by decide)) (nI_1 _) ?_
            refine J_goto (tgt := 301) C dX7_digit_381 (by decide) ?_
            refine ih (i + 1) 0 _ _ (by omega) (by decide) (lm_up hh (by omega)) (fun i' hi' => ?_) ?_ (js1_ref (js1_ref (js1_ref h0 (by decide)) (by decide)) (by decide)) (js1_int (js1_int (js1_int h2 (by decide)) (by decide)) (by decide)) (js1_int (js1_int (js1_int h4 (by decide)) (by decide)) (by decide)) (js1_int (js1_int (js1_int h5 (by decide)) (by decide)) (by decide)) (js1_long (js1_long (js1_long h12 (by decide) (by decide)) (by decide) (by decide)) (by decide) (by decide)) (js1_long (js1_long (js1_long h18 (by decide) (by decide)) (by decide) (by decide)) (by decide) (by decide)) (js1_int js1_at (by decide)) js1_at
            · rw [pk_un (by omega)]; exact he i' (by omega)
            · rw [vN_up (by omega), e1, e2, Nat.pow_succ]
              exact add_step hs (by omega)
          · exact absurd h341 h364
        · refine J_iconst (v := nI 1) C dX7_digit_344 (by decide) ?_
          refine J_goto (tgt := 349) C dX7_digit_345 (by decide) ?_
          refine J_istore C dX7_digit_349 (by decide) ?_
          refine J_aload_n (i := 0) C dX7_digit_351 rfl (js1_ref (js1_ref h0 (by decide)) (by decide)) ?_
          refine J_get (ci := 10) (k := 1) C dX7_digit_352 (inT inX7) rfl (gc flX7_X7_z) (by decide) rfl rfl ?_
          refine J_iload C dX7_digit_355 (js1_int (js1_int h5 (by decide)) (by decide)) ?_
          refine J_iload C dX7_digit_357 (js1_int (js1_int h21 (by decide)) (by decide)) ?_
          refine J_iadd C dX7_digit_359 ?_
          refine J_eqi (nI_add _ _) ?_
          refine J_iload C dX7_digit_360 (js1_int js1_at (by decide)) ?_
          refine J_ldc C (gc coX7_1000000000) dX7_digit_362 ?_
          refine J_eqi (y := nI 1000000000) (by decide) ?_
          refine J_icmp_lt (tgt := 375) C dX7_digit_364 (by decide) (fun h364q => have h364 := (nI_ltI (by omega) (by omega)).mp h364q; ?_) (fun h364q => have h364 := (not_congr (nI_ltI (by omega) (by omega))).mp h364q; ?_)
          · exact absurd h364 h341
          · refine J_iload C dX7_digit_367 (js1_int js1_at (by decide)) ?_
            refine J_ldc C (gc coX7_1000000000) dX7_digit_369 ?_
            refine J_eqi (y := nI 1000000000) (by decide) ?_
            refine J_isub C dX7_digit_371 ?_
            refine J_eqi (pk_sub (by omega)) ?_
            refine J_goto (tgt := 377) C dX7_digit_372 (by decide) ?_
            refine J_st21 C dX7_digit_377 (by omega) ?_
            refine J_iinc C dX7_digit_378 (js1_int (js1_int h21 (by decide)) (by decide)) (nI_1 _) ?_
            refine J_goto (tgt := 301) C dX7_digit_381 (by decide) ?_
            refine ih (i + 1) 1 _ _ (by omega) (by decide) (lm_up hh (by omega)) (fun i' hi' => ?_) ?_ (js1_ref (js1_ref (js1_ref h0 (by decide)) (by decide)) (by decide)) (js1_int (js1_int (js1_int h2 (by decide)) (by decide)) (by decide)) (js1_int (js1_int (js1_int h4 (by decide)) (by decide)) (by decide)) (js1_int (js1_int (js1_int h5 (by decide)) (by decide)) (by decide)) (js1_long (js1_long (js1_long h12 (by decide) (by decide)) (by decide) (by decide)) (by decide) (by decide)) (js1_long (js1_long (js1_long h18 (by decide) (by decide)) (by decide) (by decide)) (by decide) (by decide)) (js1_int js1_at (by decide)) js1_at
            · rw [pk_un (by omega)]; exact he i' (by omega)
            · rw [vN_up (by omega), e1, e2, Nat.pow_succ]
              exact add_step hs (by omega)
  -- taking away
  have hS : ∀ (G : Nat), G < 1000000000 → U < (G + 1) * V → G * V < U + V → ∀ (d i cr : Nat) (g : Nat → Int32) (lv : Nat → Option Value), i + d = m + 2 → cr ≤ 1000000000 → lm g u i → (∀ i', i' < u ∨ u + i ≤ i' → g i' = z i') → vN g u i + G * vN z q i = vN z u i + cr * 1000000000 ^ i → lv 0 = some (.ref 20) → lv 2 = some (.int (nI v)) → lv 4 = some (.int (nI (m + 2))) → lv 5 = some (.int (nI u)) → lv 12 = some (.long (lN G)) → lv 16 = some (.long (lN cr)) → lv 18 = some (.int (nI i)) → J X 168 lv [] (mW c0 c1 c2 c3 c4 c5 c6 c7 c8 c9 c10 c11 c12 c13 c14 c15 c16 c17 c18 c19 th g sz sg tk st ss sn el ro kt ks kn le lr pl rest) 0 0 := by
    intro G hG hG1 hG2 d
    induction d with
    | zero =>
      intro i cr g lv hd hc hg he hs h0 h2 h4 h5 h12 h16 h18
      have hi : i = m + 2 := by omega
      subst hi
      rw [hV] at hs
      have c1 : g (u + (m + 2)) = nI u2 := by rw [he _ (by omega)]; exact a2
      have gl := vN_lt hg
      have hgz : ∀ i', i' < u ∨ u + (m + 2) < i' → g i' = z i' := fun i' hi' => he i' (by omega)
      refine J_iload C dX7_digit_168 h18 ?_
      refine J_iload C dX7_digit_170 h4 ?_
      refine J_icmp_ge (tgt := 266) C dX7_digit_172 (by decide) (fun h172q => have h172 := (nI_leI (by omega) (by omega)).mp h172q; ?_) (fun h172q => have h172 := (not_congr (nI_leI (by omega) (by omega))).mp h172q; ?_)
      · rcases Nat.lt_or_ge u2 cr with w | w
        · obtain ⟨r1, r2, r3, r4, r5⟩ := kn_L5b hVX gl hG2 eU2 hs w
          subst r1
          refine J_aload_n (i := 0) C dX7_digit_266 rfl h0 ?_
          refine J_get (ci := 10) (k := 1) C dX7_digit_267 (inT inX7) rfl (gc flX7_X7_z) (by decide) rfl rfl ?_
          refine J_iload C dX7_digit_270 h5 ?_
          refine J_iload C dX7_digit_272 h4 ?_
          refine J_iadd C dX7_digit_274 ?_
          refine J_eqi (nI_add _ _) ?_
          refine J_ialdN C dX7_digit_275 rfl (by omega) (by omega) c1 ?_
          refine J_i2l C dX7_digit_276 (nI_l (by omega)) ?_
          refine J_lload C dX7_digit_277 h16 ?_
          refine J_lsub C dX7_digit_279 ?_
          refine J_eql (y := -1) (lN_less' u2) ?_
          refine J_lstore C dX7_digit_280 (by decide) ?_
          refine J_lload C dX7_digit_282 js2_at ?_
          refine J_lconst (v := 0) C dX7_digit_284 (by decide) ?_
          refine J_lcmp C dX7_digit_285 ?_
          refine J_if_ge (tgt := 392) C dX7_digit_286 (by decide) (fun h286q => ?_) (fun h286q => ?_)
          · exact absurd h286q (by decide)
          · refine J_lload C dX7_digit_289 (js2_long h12 (by decide) (by decide) (by decide)) ?_
            refine J_lconst (v := lN 1) C dX7_digit_291 (by decide) ?_
            refine J_lsub C dX7_digit_292 ?_
            refine J_eql (lN_sub (by omega)) ?_
            refine J_lstore C dX7_digit_293 (by decide) ?_
            refine J_iconst (v := nI 0) C dX7_digit_295 (by decide) ?_
            refine J_istore C dX7_digit_296 (by decide) ?_
            refine J_iconst (v := nI 0) C dX7_digit_298 (by decide) ?_
            refine J_istore C dX7_digit_299 (by decide) ?_
            exact hB _ g hg r2 hgz (m + 2) 0 0 g _ (by omega) (by decide) (fun k hk => absurd hk (by omega)) (fun _ _ => rfl) (by simp [vN]) (js1_ref (js1_ref (js2_ref (js2_ref h0 (by decide) (by decide)) (by decide) (by decide)) (by decide)) (by decide)) (js1_int (js1_int (js2_int (js2_int h2 (by decide) (by decide)) (by decide) (by decide)) (by decide)) (by decide)) (js1_int (js1_int (js2_int (js2_int h4 (by decide) (by decide)) (by decide) (by decide)) (by decide)) (by decide)) (js1_int (js1_int (js2_int (js2_int h5 (by decide) (by decide)) (by decide) (by decide)) (by decide)) (by decide)) (js1_long (js1_long js2_at (by decide) (by decide)) (by decide) (by decide)) (js1_long (js1_long (js2_long js2_at (by decide) (by decide) (by decide)) (by decide) (by decide)) (by decide) (by decide)) (js1_int js1_at (by decide)) js1_at
        · obtain ⟨r1, r2, r3⟩ := kn_L5a hVX hG1 eU2 hs w
          subst r1
          refine J_aload_n (i := 0) C dX7_digit_266 rfl h0 ?_
          refine J_get (ci := 10) (k := 1) C dX7_digit_267 (inT inX7) rfl (gc flX7_X7_z) (by decide) rfl rfl ?_
          refine J_iload C dX7_digit_270 h5 ?_
          refine J_iload C dX7_digit_272 h4 ?_
          refine J_iadd C dX7_digit_274 ?_
          refine J_eqi (nI_add _ _) ?_
          refine J_ialdN C dX7_digit_275 rfl (by omega) (by omega) c1 ?_
          refine J_i2l C dX7_digit_276 (nI_l (by omega)) ?_
          refine J_lload C dX7_digit_277 h16 ?_
          refine J_lsub C dX7_digit_279 ?_
          refine J_eql (y := lN 0) ((lN_sub (Nat.le_refl _)).trans (congrArg lN (Nat.sub_self _))) ?_
          refine J_lstore C dX7_digit_280 (by decide) ?_
          refine J_lload C dX7_digit_282 js2_at ?_
          refine J_lconst (v := lN 0) C dX7_digit_284 (by decide) ?_
          refine J_lcmp C dX7_digit_285 ?_
          refine J_if_ge (tgt := 392) C dX7_digit_286 (by decide) (fun h286q => have h286 := ((lg_cmp_ge _ _).trans (pk_lLE (by omega) (by omega))).mp h286q; ?_) (fun h286q => have h286 := (not_congr ((lg_cmp_ge _ _).trans (pk_lLE (by omega) (by omega)))).mp h286q; ?_)
          · exact hE g (lN 0) _ _ rfl hg r2 hgz (js2_ref h0 (by decide) (by decide)) (js2_int h4 (by decide) (by decide)) (js2_int h5 (by decide) (by decide)) (js2_long h12 (by decide) (by decide) (by decide)) js2_at
          · exact absurd (Nat.le_refl 0) h286
      · exact absurd (Nat.le_refl _) h172
    | succ d ih =>
      intro i cr g lv hd hc hg he hs h0 h2 h4 h5 h12 h16 h18
      obtain ⟨p1, p2⟩ := hu i (by omega)
      obtain ⟨p3, p4⟩ := hv i (by omega)
      have c1 : g (u + i) = nI (dg z (u + i)) := by rw [he _ (by omega)]; exact p1
      have c2 : g (q + i) = nI (dg z (q + i)) := by rw [he _ (by omega)]; exact p3
      have e1 : vN z u (i + 1) = vN z u i + dg z (u + i) * 1000000000 ^ i := rfl
      have e2 : vN z q (i + 1) = vN z q i + dg z (q + i) * 1000000000 ^ i := rfl
      generalize dg z (u + i) = w at *
      generalize dg z (q + i) = y at *
      have n1 : G * y ≤ 999999999 * 999999999 := Nat.mul_le_mul (by omega) (by omega)
      obtain ⟨dd, c', k1, k2, k3, k4, k5⟩ := sub_long (w := w) (gy := G * y) (c := cr) p2 (by omega) hc
      refine J_iload C dX7_digit_168 h18 ?_
      refine J_iload C dX7_digit_170 h4 ?_
      refine J_icmp_ge (tgt := 266) C dX7_digit_172 (by decide) (fun h172q => have h172 := (nI_leI (by omega) (by omega)).mp h172q; ?_) (fun h172q => have h172 := (not_congr (nI_leI (by omega) (by omega))).mp h172q; ?_)
      · exact absurd h172 (by omega)
      · refine J_aload_n (i := 0) C dX7_digit_175 rfl h0 ?_
        refine J_get (ci := 10) (k := 1) C dX7_digit_176 (inT inX7) rfl (gc flX7_X7_z) (by decide) rfl rfl ?_
        refine J_iload C dX7_digit_179 h5 ?_
        refine J_iload C dX7_digit_181 h18 ?_
        refine J_iadd C dX7_digit_183 ?_
        refine J_eqi (nI_add _ _) ?_
        refine J_ialdN C dX7_digit_184 rfl (by omega) (by omega) c1 ?_
        refine J_i2l C dX7_digit_185 (nI_l (by omega)) ?_
        refine J_lload C dX7_digit_186 h12 ?_
        refine J_aload_n (i := 0) C dX7_digit_188 rfl h0 ?_
        refine J_get (ci := 10) (k := 1) C dX7_digit_189 (inT inX7) rfl (gc flX7_X7_z) (by decide) rfl rfl ?_
        refine J_sipush (v := nI 2500) C dX7_digit_192 (by decide) ?_
        refine J_iload_n (i := 2) C dX7_digit_195 rfl h2 ?_
        refine J_imul C dX7_digit_196 ?_
        refine J_eqi ev ?_
        refine J_iload C dX7_digit_197 h18 ?_
        refine J_iadd C dX7_digit_199 ?_
        refine J_eqi (nI_add _ _) ?_
        refine J_ialdN C dX7_digit_200 rfl (by omega) (by omega) c2 ?_
        refine J_i2l C dX7_digit_201 (nI_l (by omega)) ?_
        refine J_lmul C dX7_digit_202 ?_
        refine J_eql (lN_mul _ _) ?_
        refine J_lsub C dX7_digit_203 ?_
        refine J_lload C dX7_digit_204 h16 ?_
        refine J_lsub C dX7_digit_206 ?_
        refine J_lstore C dX7_digit_207 (by decide) ?_
        refine J_lload C dX7_digit_209 js2_at ?_
        refine J_ldc2 C (gc clX7_1000000000) dX7_digit_211 ?_
        refine J_eql (y := lN 1000000000) (by decide) ?_
        refine J_lrem C dX7_digit_214 (lN_ne0 (by omega) (by omega)) ?_
        refine J_lstore C dX7_digit_215 (by decide) ?_
        refine J_lload C dX7_digit_217 (js2_long js2_at (by decide) (by decide) (by decide)) ?_
        refine J_ldc2 C (gc clX7_1000000000) dX7_digit_219 ?_
        refine J_eql (y := lN 1000000000) (by decide) ?_
        refine J_ldiv C dX7_digit_222 (lN_ne0 (by omega) (by omega)) ?_
        refine J_lneg C dX7_digit_223 ?_
        refine J_lstore C dX7_digit_224 (by decide) ?_
        refine J_lload C dX7_digit_226 (js2_long js2_at (by decide) (by decide) (by decide)) ?_
        refine J_lconst (v := 0) C dX7_digit_228 (by decide) ?_
        refine J_lcmp C dX7_digit_229 ?_
        refine J_if_ge (tgt := 247) C dX7_digit_230 (by decide) (fun h230q => ?_) (fun h230q => ?_)
        · have hl := l_ge h230q
          obtain ⟨k6, k7⟩ := k4 hl
          refine J_aload_n (i := 0) C dX7_digit_247 rfl (js2_ref (js2_ref (js2_ref h0 (by decide) (by decide)) (by decide) (by decide)) (by decide) (by decide)) ?_
          refine J_get (ci := 10) (k := 1) C dX7_digit_248 (inT inX7) rfl (gc flX7_X7_z) (by decide) rfl rfl ?_
          refine J_iload C dX7_digit_251 (js2_int (js2_int (js2_int h5 (by decide) (by decide)) (by decide) (by decide)) (by decide) (by decide)) ?_
          refine J_iload C dX7_digit_253 (js2_int (js2_int (js2_int h18 (by decide) (by decide)) (by decide) (by decide)) (by decide) (by decide)) ?_
          refine J_iadd C dX7_digit_255 ?_
          refine J_eqi (nI_add _ _) ?_
          refine J_lload C dX7_digit_256 (js2_long js2_at (by decide) (by decide) (by decide)) ?_
          refine J_eql k6 ?_
          refine J_l2i C dX7_digit_258 (lN_i _) ?_
          refine J_st21 C dX7_digit_259 (by omega) ?_
          refine J_iinc C dX7_digit_260 (js2_int (js2_int (js2_int h18 (by decide) (by decide)) (by decide) (by decide)) (by decide) (by decide)) (nI_1 _) ?_
          refine J_goto (tgt := 168) C dX7_digit_263 (by decide) ?_
          refine ih (i + 1) c' _ _ (by omega) k2 (lm_up hg k1) (fun i' hi' => ?_) ?_ (js1_ref (js2_ref (js2_ref (js2_ref h0 (by decide) (by decide)) (by decide) (by decide)) (by decide) (by decide)) (by decide)) (js1_int (js2_int (js2_int (js2_int h2 (by decide) (by decide)) (by decide) (by decide)) (by decide) (by decide)) (by decide)) (js1_int (js2_int (js2_int (js2_int h4 (by decide) (by decide)) (by decide) (by decide)) (by decide) (by decide)) (by decide)) (js1_int (js2_int (js2_int (js2_int h5 (by decide) (by decide)) (by decide) (by decide)) (by decide) (by decide)) (by decide)) (js1_long (js2_long (js2_long (js2_long h12 (by decide) (by decide) (by decide)) (by decide) (by decide) (by decide)) (by decide) (by decide) (by decide)) (by decide) (by decide)) (by rw [← k7]; exact (js1_long js2_at (by decide) (by decide))) js1_at
          · rw [pk_un (by omega)]; exact he i' (by omega)
          · rw [vN_up k1, e1, e2, Nat.pow_succ]
            exact sub_step hs k3
        · have hl : (lN w - lN (G * y) - lN cr - (lN w - lN (G * y) - lN cr) / lN 1000000000 * lN 1000000000) < 0 := by
            rcases Int64.lt_or_le (lN w - lN (G * y) - lN cr - (lN w - lN (G * y) - lN cr) / lN 1000000000 * lN 1000000000) 0 with q3 | q3
            · exact q3
            · exact absurd (l_nge (Int64.not_lt.mpr q3)) h230q
          obtain ⟨k6, k7⟩ := k5 hl
          refine J_lload C dX7_digit_233 (js2_long js2_at (by decide) (by decide) (by decide)) ?_
          refine J_ldc2 C (gc clX7_1000000000) dX7_digit_235 ?_
          refine J_eql (y := lN 1000000000) (by decide) ?_
          refine J_ladd C dX7_digit_238 ?_
          refine J_eql k6 ?_
          refine J_lstore C dX7_digit_239 (by decide) ?_
          refine J_lload C dX7_digit_241 (js2_long js2_at (by decide) (by decide) (by decide)) ?_
          refine J_lconst (v := lN 1) C dX7_digit_243 (by decide) ?_
          refine J_ladd C dX7_digit_244 ?_
          refine J_eql k7 ?_
          refine J_lstore C dX7_digit_245 (by decide) ?_
          refine J_aload_n (i := 0) C dX7_digit_247 rfl (js2_ref (js2_ref (js2_ref (js2_ref (js2_ref h0 (by decide) (by decide)) (by decide) (by decide)) (by decide) (by decide)) (by decide) (by decide)) (by decide) (by decide)) ?_
          refine J_get (ci := 10) (k := 1) C dX7_digit_248 (inT inX7) rfl (gc flX7_X7_z) (by decide) rfl rfl ?_
          refine J_iload C dX7_digit_251 (js2_int (js2_int (js2_int (js2_int (js2_int h5 (by decide) (by decide)) (by decide) (by decide)) (by decide) (by decide)) (by decide) (by decide)) (by decide) (by decide)) ?_
          refine J_iload C dX7_digit_253 (js2_int (js2_int (js2_int (js2_int (js2_int h18 (by decide) (by decide)) (by decide) (by decide)) (by decide) (by decide)) (by decide) (by decide)) (by decide) (by decide)) ?_
          refine J_iadd C dX7_digit_255 ?_
          refine J_eqi (nI_add _ _) ?_
          refine J_lload C dX7_digit_256 (js2_long js2_at (by decide) (by decide) (by decide)) ?_
          refine J_l2i C dX7_digit_258 (lN_i _) ?_
          refine J_st21 C dX7_digit_259 (by omega) ?_
          refine J_iinc C dX7_digit_260 (js2_int (js2_int (js2_int (js2_int (js2_int h18 (by decide) (by decide)) (by decide) (by decide)) (by decide) (by decide)) (by decide) (by decide)) (by decide) (by decide)) (nI_1 _) ?_
          refine J_goto (tgt := 168) C dX7_digit_263 (by decide) ?_
          refine ih (i + 1) c' _ _ (by omega) k2 (lm_up hg k1) (fun i' hi' => ?_) ?_ (js1_ref (js2_ref (js2_ref (js2_ref (js2_ref (js2_ref h0 (by decide) (by decide)) (by decide) (by decide)) (by decide) (by decide)) (by decide) (by decide)) (by decide) (by decide)) (by decide)) (js1_int (js2_int (js2_int (js2_int (js2_int (js2_int h2 (by decide) (by decide)) (by decide) (by decide)) (by decide) (by decide)) (by decide) (by decide)) (by decide) (by decide)) (by decide)) (js1_int (js2_int (js2_int (js2_int (js2_int (js2_int h4 (by decide) (by decide)) (by decide) (by decide)) (by decide) (by decide)) (by decide) (by decide)) (by decide) (by decide)) (by decide)) (js1_int (js2_int (js2_int (js2_int (js2_int (js2_int h5 (by decide) (by decide)) (by decide) (by decide)) (by decide) (by decide)) (by decide) (by decide)) (by decide) (by decide)) (by decide)) (js1_long (js2_long (js2_long (js2_long (js2_long (js2_long h12 (by decide) (by decide) (by decide)) (by decide) (by decide) (by decide)) (by decide) (by decide) (by decide)) (by decide) (by decide) (by decide)) (by decide) (by decide) (by decide)) (by decide) (by decide)) (js1_long js2_at (by decide) (by decide)) js1_at
          · rw [pk_un (by omega)]; exact he i' (by omega)
          · rw [vN_up k1, e1, e2, Nat.pow_succ]
            exact sub_step hs k3
  -- the guess is good
  have hQ : ∀ (G L : Nat) (lv : Nat → Option Value), G < 1000000000 → L + G * v1 = u2 * 1000000000 + u1 → (G * v0 ≤ L * 1000000000 + u0 ∨ 1000000000 ≤ L) → U < (G + 1) * V → lv 0 = some (.ref 20) → lv 2 = some (.int (nI v)) → lv 4 = some (.int (nI (m + 2))) → lv 5 = some (.int (nI u)) → lv 12 = some (.long (lN G)) → J X 162 lv [] (mW c0 c1 c2 c3 c4 c5 c6 c7 c8 c9 c10 c11 c12 c13 c14 c15 c16 c17 c18 c19 th z sz sg tk st ss sn el ro kt ks kn le lr pl rest) 0 0 := by
    intro G L lv hG hL hT hG1 h0 h2 h4 h5 h12
    have hG2 : G * V < U + V := by
      rw [eU, eV]
      exact kn_L4 t0 lV (by omega) hG hL hT
    refine J_lconst (v := lN 0) C dX7_digit_162 (by decide) ?_
    refine J_lstore C dX7_digit_163 (by decide) ?_
    refine J_iconst (v := nI 0) C dX7_digit_165 (by decide) ?_
    refine J_istore C dX7_digit_166 (by decide) ?_
    exact hS G hG hG1 hG2 (m + 2) 0 0 z _ (by omega) (by decide) (fun k hk => absurd hk (by omega)) (fun _ _ => rfl) (by simp [vN]) (js1_ref (js2_ref h0 (by decide) (by decide)) (by decide)) (js1_int (js2_int h2 (by decide) (by decide)) (by decide)) (js1_int (js2_int h4 (by decide) (by decide)) (by decide)) (js1_int (js2_int h5 (by decide) (by decide)) (by decide)) (js1_long (js2_long h12 (by decide) (by decide) (by decide)) (by decide) (by decide)) (js1_long js2_at (by decide) (by decide)) js1_at
  -- the guess is brought down
  have hG : ∀ (G L : Nat) (lv : Nat → Option Value), L < 1000000000 → L + G * v1 = u2 * 1000000000 + u1 → U < (G + 1) * V → G < 1000000000000000001 → lv 0 = some (.ref 20) → lv 2 = some (.int (nI v)) → lv 4 = some (.int (nI (m + 2))) → lv 5 = some (.int (nI u)) → lv 8 = some (.long (lN v1)) → lv 10 = some (.long (lN v0)) → lv 12 = some (.long (lN G)) → lv 14 = some (.long (lN L)) → J X 90 lv [] (mW c0 c1 c2 c3 c4 c5 c6 c7 c8 c9 c10 c11 c12 c13 c14 c15 c16 c17 c18 c19 th z sz sg tk st ss sn el ro kt ks kn le lr pl rest) 0 0 := by
    intro G
    induction G with
    | zero =>
      intro L lv hL1 hL hG1 hGb h0 h2 h4 h5 h8 h10 h12 h14
      refine J_lload C dX7_digit_90 h12 ?_
      refine J_ldc2 C (gc clX7_1000000000) dX7_digit_92 ?_
      refine J_eql (y := lN 1000000000) (by decide) ?_
      refine J_lcmp C dX7_digit_95 ?_
      refine J_if_ge (tgt := 137) C dX7_digit_96 (by decide) (fun h96q => have h96 := ((lg_cmp_ge _ _).trans (pk_lLE (by omega) (by omega))).mp h96q; ?_) (fun h96q => have h96 := (not_congr ((lg_cmp_ge _ _).trans (pk_lLE (by omega) (by omega)))).mp h96q; ?_)
      · exact absurd h96 (by decide)
      · refine J_lload C dX7_digit_99 h14 ?_
        refine J_ldc2 C (gc clX7_1000000000) dX7_digit_101 ?_
        refine J_eql (y := lN 1000000000) (by decide) ?_
        refine J_lcmp C dX7_digit_104 ?_
        refine J_if_ge (tgt := 162) C dX7_digit_105 (by decide) (fun h105q => have h105 := ((lg_cmp_ge _ _).trans (pk_lLE (by omega) (by omega))).mp h105q; ?_) (fun h105q => have h105 := (not_congr ((lg_cmp_ge _ _).trans (pk_lLE (by omega) (by omega)))).mp h105q; ?_)
        · exact absurd h105 (by omega)
        · refine J_lload C dX7_digit_108 h12 ?_
          refine J_lload C dX7_digit_110 h10 ?_
          refine J_lmul C dX7_digit_112 ?_
          refine J_eql ((lN_mul _ _).trans (congrArg lN (Nat.zero_mul _))) ?_
          refine J_lload C dX7_digit_113 h14 ?_
          refine J_ldc2 C (gc clX7_1000000000) dX7_digit_115 ?_
          refine J_eql (y := lN 1000000000) (by decide) ?_
          refine J_lmul C dX7_digit_118 ?_
          refine J_eql (lN_mul _ _) ?_
          refine J_aload_n (i := 0) C dX7_digit_119 rfl h0 ?_
          refine J_get (ci := 10) (k := 1) C dX7_digit_120 (inT inX7) rfl (gc flX7_X7_z) (by decide) rfl rfl ?_
          refine J_iload C dX7_digit_123 h5 ?_
          refine J_iload C dX7_digit_125 h4 ?_
          refine J_iadd C dX7_digit_127 ?_
          refine J_eqi (nI_add _ _) ?_
          refine J_iconst (v := nI 2) C dX7_digit_128 (by decide) ?_
          refine J_isub C dX7_digit_129 ?_
          refine J_eqi (pk_sub (by omega)) ?_
          refine J_ialdN C dX7_digit_130 rfl (by omega) (by omega) z4 ?_
          refine J_i2l C dX7_digit_131 (nI_l (by omega)) ?_
          refine J_ladd C dX7_digit_132 ?_
          refine J_eql (lN_add _ _) ?_
          refine J_lcmp C dX7_digit_133 ?_
          refine J_if_le (tgt := 162) C dX7_digit_134 (by decide) (fun h134q => have h134 := ((lg_cmp_le _ _).trans (pk_lLE (by omega) (by omega))).mp h134q; ?_) (fun h134q => have h134 := (not_congr ((lg_cmp_le _ _).trans (pk_lLE (by omega) (by omega)))).mp h134q; ?_)
          · exact hQ 0 L lv (by decide) hL (Or.inl (by omega)) hG1 h0 h2 h4 h5 h12
          · exact absurd (Nat.zero_le _) h134
    | succ G ih =>
      intro L lv hL1 hL hG1 hGb h0 h2 h4 h5 h8 h10 h12 h14
      have hL2 : L + v1 + G * v1 = u2 * 1000000000 + u1 := by rw [Nat.add_mul, Nat.one_mul] at hL; omega
      have hgo : U < (G + 1) * V → J X 137 lv [] (mW c0 c1 c2 c3 c4 c5 c6 c7 c8 c9 c10 c11 c12 c13 c14 c15 c16 c17 c18 c19 th z sz sg tk st ss sn el ro kt ks kn le lr pl rest) 0 0 := by
        intro g2
        refine J_lload C dX7_digit_137 h12 ?_
        refine J_lconst (v := lN 1) C dX7_digit_139 (by decide) ?_
        refine J_lsub C dX7_digit_140 ?_
        refine J_eql (y := lN G) ((lN_sub (by omega)).trans (congrArg lN (by omega))) ?_
        refine J_lstore C dX7_digit_141 (by decide) ?_
        refine J_lload C dX7_digit_143 (js2_long h14 (by decide) (by decide) (by decide)) ?_
        refine J_lload C dX7_digit_145 (js2_long h8 (by decide) (by decide) (by decide)) ?_
        refine J_ladd C dX7_digit_147 ?_
        refine J_eql (lN_add _ _) ?_
        refine J_lstore C dX7_digit_148 (by decide) ?_
        refine J_lload C dX7_digit_150 js2_at ?_
        refine J_ldc2 C (gc clX7_1000000000) dX7_digit_152 ?_
        refine J_eql (y := lN 1000000000) (by decide) ?_
        refine J_lcmp C dX7_digit_155 ?_
        refine J_if_lt (tgt := 90) C dX7_digit_156 (by decide) (fun h156q => have h156 := ((lg_cmp_lt _ _).trans (pk_lLT (by omega) (by omega))).mp h156q; ?_) (fun h156q => have h156 := (not_congr ((lg_cmp_lt _ _).trans (pk_lLT (by omega) (by omega)))).mp h156q; ?_)
        · exact ih (L + v1) _ h156 hL2 g2 (by omega) (js2_ref (js2_ref h0 (by decide) (by decide)) (by decide) (by decide)) (js2_int (js2_int h2 (by decide) (by decide)) (by decide) (by decide)) (js2_int (js2_int h4 (by decide) (by decide)) (by decide) (by decide)) (js2_int (js2_int h5 (by decide) (by decide)) (by decide) (by decide)) (js2_long (js2_long h8 (by decide) (by decide) (by decide)) (by decide) (by decide) (by decide)) (js2_long (js2_long h10 (by decide) (by decide) (by decide)) (by decide) (by decide) (by decide)) (js2_long js2_at (by decide) (by decide) (by decide)) js2_at
        · refine J_goto (tgt := 162) C dX7_digit_159 (by decide) ?_
          refine hQ G (L + v1) _ ?_ hL2 (Or.inr (by omega)) g2 (js2_ref (js2_ref h0 (by decide) (by decide)) (by decide) (by decide)) (js2_int (js2_int h2 (by decide) (by decide)) (by decide) (by decide)) (js2_int (js2_int h4 (by decide) (by decide)) (by decide) (by decide)) (js2_int (js2_int h5 (by decide) (by decide)) (by decide) (by decide)) (js2_long js2_at (by decide) (by decide) (by decide))
          rcases Nat.lt_or_ge G 1000000000 with w | w
          · exact w
          · have : 1000000000 * v1 ≤ G * v1 := Nat.mul_le_mul_right _ w
            omega
      refine J_lload C dX7_digit_90 h12 ?_
      refine J_ldc2 C (gc clX7_1000000000) dX7_digit_92 ?_
      refine J_eql (y := lN 1000000000) (by decide) ?_
      refine J_lcmp C dX7_digit_95 ?_
      refine J_if_ge (tgt := 137) C dX7_digit_96 (by decide) (fun h96q => have h96 := ((lg_cmp_ge _ _).trans (pk_lLE (by omega) (by omega))).mp h96q; ?_) (fun h96q => have h96 := (not_congr ((lg_cmp_ge _ _).trans (pk_lLE (by omega) (by omega)))).mp h96q; ?_)
      · refine hgo ?_
        have : 1000000000 * V ≤ (G + 1) * V := Nat.mul_le_mul_right _ h96
        omega
      · refine J_lload C dX7_digit_99 h14 ?_
        refine J_ldc2 C (gc clX7_1000000000) dX7_digit_101 ?_
        refine J_eql (y := lN 1000000000) (by decide) ?_
        refine J_lcmp C dX7_digit_104 ?_
        refine J_if_ge (tgt := 162) C dX7_digit_105 (by decide) (fun h105q => have h105 := ((lg_cmp_ge _ _).trans (pk_lLE (by omega) (by omega))).mp h105q; ?_) (fun h105q => have h105 := (not_congr ((lg_cmp_ge _ _).trans (pk_lLE (by omega) (by omega)))).mp h105q; ?_)
        · exact absurd h105 (by omega)
        · have n1 : (G + 1) * v0 ≤ 999999999 * 999999999 := Nat.mul_le_mul (by omega) (by omega)
          refine J_lload C dX7_digit_108 h12 ?_
          refine J_lload C dX7_digit_110 h10 ?_
          refine J_lmul C dX7_digit_112 ?_
          refine J_eql (lN_mul _ _) ?_
          refine J_lload C dX7_digit_113 h14 ?_
          refine J_ldc2 C (gc clX7_1000000000) dX7_digit_115 ?_
          refine J_eql (y := lN 1000000000) (by decide) ?_
          refine J_lmul C dX7_digit_118 ?_
          refine J_eql (lN_mul _ _) ?_
          refine J_aload_n (i := 0) C dX7_digit_119 rfl h0 ?_
          refine J_get (ci := 10) (k := 1) C dX7_digit_120 (inT inX7) rfl (gc flX7_X7_z) (by decide) rfl rfl ?_
          refine J_iload C dX7_digit_123 h5 ?_
          refine J_iload C dX7_digit_125 h4 ?_
          refine J_iadd C dX7_digit_127 ?_
          refine J_eqi (nI_add _ _) ?_
          refine J_iconst (v := nI 2) C dX7_digit_128 (by decide) ?_
          refine J_isub C dX7_digit_129 ?_
          refine J_eqi (pk_sub (by omega)) ?_
          refine J_ialdN C dX7_digit_130 rfl (by omega) (by omega) z4 ?_
          refine J_i2l C dX7_digit_131 (nI_l (by omega)) ?_
          refine J_ladd C dX7_digit_132 ?_
          refine J_eql (lN_add _ _) ?_
          refine J_lcmp C dX7_digit_133 ?_
          refine J_if_le (tgt := 162) C dX7_digit_134 (by decide) (fun h134q => have h134 := ((lg_cmp_le _ _).trans (pk_lLE (by omega) (by omega))).mp h134q; ?_) (fun h134q => have h134 := (not_congr ((lg_cmp_le _ _).trans (pk_lLE (by omega) (by omega)))).mp h134q; ?_)
          · exact hQ (G + 1) L lv (by omega) hL (Or.inl h134) hG1 h0 h2 h4 h5 h12
          · refine hgo ?_
            rw [eU, eV]
            exact kn_L2 lU hL (by omega)
  -- the beginning
  have n1 : (u2 * 1000000000 + u1) / v1 * v1 ≤ u2 * 1000000000 + u1 := Nat.div_mul_le_self _ _
  have n2 : (u2 * 1000000000 + u1) / v1 ≤ u2 * 1000000000 + u1 := Nat.div_le_self _ _
  have n3 : (u2 * 1000000000 + u1) % v1 < v1 := Nat.mod_lt _ htop
  have n4 := Nat.div_add_mod' (u2 * 1000000000 + u1) v1
  refine J_sipush (v := nI 2500) C dX7_digit_0 (by decide) ?_
  refine J_iload_n (i := 1) C dX7_digit_3 rfl rfl ?_
  refine J_imul C dX7_digit_4 ?_
  refine J_eqi (pk_mul _ _) ?_
  refine J_iload_n (i := 3) C dX7_digit_5 rfl rfl ?_
  refine J_iadd C dX7_digit_6 ?_
  refine J_eqi (y := nI u) ((nI_add _ _).trans (congrArg nI hu')) ?_
  refine J_istore C dX7_digit_7 (by decide) ?_
  refine J_aload_n (i := 0) C dX7_digit_9 rfl rfl ?_
  refine J_get (ci := 10) (k := 1) C dX7_digit_10 (inT inX7) rfl (gc flX7_X7_z) (by decide) rfl rfl ?_
  refine J_iload C dX7_digit_13 rfl ?_
  refine J_iload C dX7_digit_15 rfl ?_
  refine J_iadd C dX7_digit_17 ?_
  refine J_eqi (nI_add _ _) ?_
  refine J_ialdN C dX7_digit_18 rfl (by omega) (by omega) a2 ?_
  refine J_i2l C dX7_digit_19 (nI_l (by omega)) ?_
  refine J_ldc2 C (gc clX7_1000000000) dX7_digit_20 ?_
  refine J_eql (y := lN 1000000000) (by decide) ?_
  refine J_lmul C dX7_digit_23 ?_
  refine J_eql (lN_mul _ _) ?_
  refine J_aload_n (i := 0) C dX7_digit_24 rfl rfl ?_
  refine J_get (ci := 10) (k := 1) C dX7_digit_25 (inT inX7) rfl (gc flX7_X7_z) (by decide) rfl rfl ?_
  refine J_iload C dX7_digit_28 rfl ?_
  refine J_iload C dX7_digit_30 rfl ?_
  refine J_iadd C dX7_digit_32 ?_
  refine J_eqi (nI_add _ _) ?_
  refine J_iconst (v := nI 1) C dX7_digit_33 (by decide) ?_
  refine J_isub C dX7_digit_34 ?_
  refine J_eqi (pk_sub (by omega)) ?_
  refine J_ialdN C dX7_digit_35 rfl (by omega) (by omega) z1 ?_
  refine J_i2l C dX7_digit_36 (nI_l (by omega)) ?_
  refine J_ladd C dX7_digit_37 ?_
  refine J_eql (lN_add _ _) ?_
  refine J_lstore C dX7_digit_38 (by decide) ?_
  refine J_aload_n (i := 0) C dX7_digit_40 rfl rfl ?_
  refine J_get (ci := 10) (k := 1) C dX7_digit_41 (inT inX7) rfl (gc flX7_X7_z) (by decide) rfl rfl ?_
  refine J_sipush (v := nI 2500) C dX7_digit_44 (by decide) ?_
  refine J_iload_n (i := 2) C dX7_digit_47 rfl rfl ?_
  refine J_imul C dX7_digit_48 ?_
  refine J_eqi ev ?_
  refine J_iload C dX7_digit_49 rfl ?_
  refine J_iadd C dX7_digit_51 ?_
  refine J_eqi (nI_add _ _) ?_
  refine J_iconst (v := nI 1) C dX7_digit_52 (by decide) ?_
  refine J_isub C dX7_digit_53 ?_
  refine J_eqi (pk_sub (by omega)) ?_
  refine J_ialdN C dX7_digit_54 rfl (by omega) (by omega) z2 ?_
  refine J_i2l C dX7_digit_55 (nI_l (by omega)) ?_
  refine J_lstore C dX7_digit_56 (by decide) ?_
  refine J_aload_n (i := 0) C dX7_digit_58 rfl rfl ?_
  refine J_get (ci := 10) (k := 1) C dX7_digit_59 (inT inX7) rfl (gc flX7_X7_z) (by decide) rfl rfl ?_
  refine J_sipush (v := nI 2500) C dX7_digit_62 (by decide) ?_
  refine J_iload_n (i := 2) C dX7_digit_65 rfl rfl ?_
  refine J_imul C dX7_digit_66 ?_
  refine J_eqi ev ?_
  refine J_iload C dX7_digit_67 rfl ?_
  refine J_iadd C dX7_digit_69 ?_
  refine J_eqi (nI_add _ _) ?_
  refine J_iconst (v := nI 2) C dX7_digit_70 (by decide) ?_
  refine J_isub C dX7_digit_71 ?_
  refine J_eqi (pk_sub (by omega)) ?_
  refine J_ialdN C dX7_digit_72 rfl (by omega) (by omega) z3 ?_
  refine J_i2l C dX7_digit_73 (nI_l (by omega)) ?_
  refine J_lstore C dX7_digit_74 (by decide) ?_
  refine J_lload C dX7_digit_76 rfl ?_
  refine J_lload C dX7_digit_78 rfl ?_
  refine J_ldiv C dX7_digit_80 (lN_ne0 (by omega) (by omega)) ?_
  refine J_eql (pk_lDiv (by omega) (by omega) (by omega)) ?_
  refine J_lstore C dX7_digit_81 (by decide) ?_
  refine J_lload C dX7_digit_83 rfl ?_
  refine J_lload C dX7_digit_85 rfl ?_
  refine J_lrem C dX7_digit_87 (lN_ne0 (by omega) (by omega)) ?_
  refine J_eql (pk_lRem (by omega) (by omega) (by omega)) ?_
  refine J_lstore C dX7_digit_88 (by decide) ?_
  refine hG _ _ _ (by omega) (by omega) ?_ (by omega) rfl rfl rfl rfl rfl rfl rfl rfl
  rw [eU, eV]
  exact kn_L1 b0 lU htop
end MD

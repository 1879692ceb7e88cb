theorem sh_short {f : Nat → Int32} {p n : Nat} (hl : lm f (p + 1) n) (hn : trimN f p n < 4) : sh (upd f p (nI (2 * trimN f p n))) p (2 * trimN f p n) := by
  obtain ⟨k, h1, h2, h3⟩ := sh_closed (b := 0) hl hn (by decide)
  have e : headN (trimN f p n) (nI 0) = nI (2 * trimN f p n) := by
    unfold headN
    by_cases q : trimN f p n = 0
    · rw [if_pos q, q]; rfl
    · rw [if_neg q, nI_add, Nat.add_zero]
  have e2 : k = 2 * trimN f p n := by
    obtain ⟨c1, c2, c3, c4, c5⟩ := h1
    by_cases q : k / 2 = 0
    · rw [c3 q]; omega
    · have := h3 (by omega); omega
  rw [e] at h1
  rw [← e2]
  rw [← e2] at h1
  exact h1
theorem sh_place {f : Nat → Int32} {p k a : Nat} (h : sh f p k) : sh (upd (va_cpy f f (p + 1) (a + 1) (k / 2)) a (nI (2 * (k / 2)))) a (2 * (k / 2)) := by
  obtain ⟨h1, h2, h3, h4, h5⟩ := h
  have e : 2 * (k / 2) / 2 = k / 2 := by omega
  have w : ∀ i, i < k / 2 → upd (va_cpy f f (p + 1) (a + 1) (k / 2)) a (nI (2 * (k / 2))) (a + 1 + i) = f (p + 1 + i) := fun i hi => by
    rw [pk_un (by omega), pk_cpy_in (by omega) (by omega)]; congr 1; omega
  refine ⟨pk_us, by omega, fun q => by omega, ?_, fun q => ?_⟩
  · rw [e]
    intro i hi
    exact lm_of ((w i hi).trans (h4 i hi).1) (h4 i hi).2
  · rw [e] at q ⊢
    have w2 := w (k / 2 - 1) (by omega)
    rw [show a + 1 + (k / 2 - 1) = a + k / 2 by omega, show p + 1 + (k / 2 - 1) = p + k / 2 by omega] at w2
    have : dg (upd (va_cpy f f (p + 1) (a + 1) (k / 2)) a (nI (2 * (k / 2)))) (a + k / 2) = dg f (p + k / 2) := by unfold dg; rw [w2]
    rw [this]; exact h5 q
set_option maxHeartbeats 8000000 in
/-- leaped(a, b), a of three limbs -/
theorem c_leaped {x0 : jE} {rest : jW} {tp fm kp : Int32} {N : Nat} {f : Nat → Int32} {a b k : Nat} (ha : sh f a 6) (hb : sh f b k) (hab : a + 4 ≤ b ∨ b + 4 ≤ a) (haN : a + 4 ≤ N) (hbN : b + 4 ≤ N) (hN : N < 2 ^ 30) :
    jI vwCl yX3_leaped (wc yX3_leaped cX3_leaped 27 (some .boolean)) 2 120 [.ref 1, .int (nI a), .int (nI b)] (nW x0 tp fm kp N f rest) 0 0 (fun r pw => ∃ (g : Nat → Int32), pw = nW x0 tp fm kp N g rest ∧ (∀ j, (j < a ∨ a + 4 ≤ j) → (j < b ∨ b + 4 ≤ j) → g j = f j) ∧ ((r = 0 ∧ sh g a 6 ∧ sh g b k) ∨ (r = 1 ∧ ∃ ka kb, ka < 4 ∧ kb < 4 ∧ sh g a (2 * ka) ∧ sh g b (2 * kb)))) := by
  refine jI_of (cc := cX3_leaped) (nL := 27) .boolean (by decide) rfl (Nat.le_of_ble_eq_true rfl) (fun r pw hq => ?_) ?_
  · obtain ⟨g, -, -, h | h⟩ := hq
    · rw [h.1]; rfl
    · rw [h.1]; rfl
  intro X C hX hR
  have ha' := ha
  have hb' := hb
  obtain ⟨e1, e2, e3, e4, e5⟩ := ha
  obtain ⟨q1, q2, q3, q4, q5⟩ := hb
  -- the limbs are written, the end
  have hW : ∀ (d i : Nat) (g : Nat → Int32) (cA cB xa xb ya yb : Int64) (lv : Nat → Option Value), i + d = 3 → lm g (a + 1) i → lm g (b + 1) i → (∀ j, (j < a ∨ a + 4 ≤ j) → (j < b ∨ b + 4 ≤ j) → g j = f j) → lv 0 = some (.ref 1) → lv 1 = some (.int (nI a)) → lv 2 = some (.int (nI b)) → lv 3 = some (.int (nI 3)) → lv 10 = some (.long xa) → lv 12 = some (.long xb) → lv 14 = some (.long ya) → lv 16 = some (.long yb) → lv 18 = some (.long cA) → lv 20 = some (.long cB) → lv 22 = some (.int (nI (i + 1))) → J X 273 lv [] (nW x0 tp fm kp N g rest) 0 0 := by
    intro d
    induction d with
    | zero =>
      intro i g cA cB xa xb ya yb lv hd hga hgb he h0 h1 h2 h3 h10 h12 h14 h16 h18 h20 h22
      have hi : i = 3 := by omega
      subst hi
      have t1 := trimN_le g a 3
      have t2 := trimN_le (upd g a (nI (2 * trimN g a 3))) b 3
      have s1 := sh_short hga (by omega)
      have s2 := sh_short (lm_un (x := nI (2 * trimN g a 3)) (j := a) hgb (by omega)) (by omega)
      refine J_iload C dX3_leaped_273 h22 ?_
      refine J_iload_n (i := 3) C dX3_leaped_275 rfl h3 ?_
      refine J_icmp_gt (tgt := 397) C dX3_leaped_276 (by decide) (fun h276q => have h276 := (nI_ltI (by omega) (by omega)).mp h276q; ?_) (fun h276q => have h276 := (not_congr (nI_ltI (by omega) (by omega))).mp h276q; ?_)
      · refine J_aload_n (i := 0) C dX3_leaped_397 rfl h0 ?_
        refine J_iload_n (i := 1) C dX3_leaped_398 rfl h1 ?_
        refine J_iload_n (i := 3) C dX3_leaped_399 rfl h3 ?_
        refine J_callVn C [.int (nI a), .int (nI 3)] rfl rfl 3 (c_shorten (by omega) hN) (gV mlX3_X3_shorten imX3_shorten slX3_shorten iniX3 cdX3_shorten) rfl dsX3_shorten ⟨by decide, by decide⟩ dX3_leaped_400 rfl (Nat.le_of_ble_eq_true rfl) rfl (Nat.le_of_ble_eq_true rfl) (Nat.le_of_eq hX) (Nat.le_of_ble_eq_true rfl) (Nat.le_of_ble_eq_true rfl) (fun pw h hl => ?_)
        subst h
        refine J_aload_n (i := 0) C dX3_leaped_403 rfl (jdrop_of h0 rfl) ?_
        refine J_iload_n (i := 2) C dX3_leaped_404 rfl (jdrop_of h2 rfl) ?_
        refine J_iload_n (i := 3) C dX3_leaped_405 rfl (jdrop_of h3 rfl) ?_
        refine J_callVn C [.int (nI b), .int (nI 3)] rfl rfl 3 (c_shorten (by omega) hN) (gV mlX3_X3_shorten imX3_shorten slX3_shorten iniX3 cdX3_shorten) rfl dsX3_shorten ⟨by decide, by decide⟩ dX3_leaped_406 rfl (Nat.le_of_ble_eq_true rfl) rfl (Nat.le_of_ble_eq_true rfl) (Nat.le_of_eq hX) (Nat.le_of_ble_eq_true rfl) (Nat.le_of_ble_eq_true rfl) (fun pw h hl => ?_)
        subst h
        refine J_iconst (v := nI 1) C dX3_leaped_409 (by decide) ?_
        refine hR _ _ _ _ _ _ dX3_leaped_410 ⟨_,rfl,fun j h1 h2 => ?_,Or.inr ⟨rfl,_,_,Nat.lt_of_le_of_lt t1 (by decide),Nat.lt_of_le_of_lt t2 (by decide),?_,s2⟩⟩ (Nat.le_of_eq hX) (Nat.le_refl _) (Nat.le_refl _)
        · rw [pk_un (by omega), pk_un (by omega)]; exact he j h1 h2
        · exact sh_eq s1 (fun j h1 h2 => pk_un (by omega))
      · exact absurd (by omega) h276
    | succ d ih =>
      intro i g cA cB xa xb ya yb lv hd hga hgb he h0 h1 h2 h3 h10 h12 h14 h16 h18 h20 h22
      refine J_iload C dX3_leaped_273 h22 ?_
      refine J_iload_n (i := 3) C dX3_leaped_275 rfl h3 ?_
      refine J_icmp_gt (tgt := 397) C dX3_leaped_276 (by decide) (fun h276q => have h276 := (nI_ltI (by omega) (by omega)).mp h276q; ?_) (fun h276q => have h276 := (not_congr (nI_ltI (by omega) (by omega))).mp h276q; ?_)
      · exact absurd h276 (by omega)
      · refine J_aload_n (i := 0) C dX3_leaped_279 rfl h0 ?_
        refine J_get (ci := 6) (k := 0) C dX3_leaped_280 (inT inX3) rfl (gc flX3_X3_cell) (by decide) rfl rfl ?_
        refine J_iload_n (i := 1) C dX3_leaped_283 rfl h1 ?_
        refine J_iload C dX3_leaped_284 h22 ?_
        refine J_iadd C dX3_leaped_286 ?_
        refine J_eqi (nI_add _ _) ?_
        refine J_ialdN C dX3_leaped_287 rfl (by omega) (by omega) rfl ?_
        refine J_i2l C dX3_leaped_288 rfl ?_
        refine J_lstore C dX3_leaped_289 (by decide) ?_
        refine J_aload_n (i := 0) C dX3_leaped_291 rfl (js2_ref h0 (by decide) (by decide)) ?_
        refine J_get (ci := 6) (k := 0) C dX3_leaped_292 (inT inX3) rfl (gc flX3_X3_cell) (by decide) rfl rfl ?_
        refine J_iload_n (i := 2) C dX3_leaped_295 rfl (js2_int h2 (by decide) (by decide)) ?_
        refine J_iload C dX3_leaped_296 (js2_int h22 (by decide) (by decide)) ?_
        refine J_iadd C dX3_leaped_298 ?_
        refine J_eqi (nI_add _ _) ?_
        refine J_ialdN C dX3_leaped_299 rfl (by omega) (by omega) rfl ?_
        refine J_i2l C dX3_leaped_300 rfl ?_
        refine J_lstore C dX3_leaped_301 (by decide) ?_
        refine J_lload C dX3_leaped_303 (js2_long (js2_long h18 (by decide) (by decide) (by decide)) (by decide) (by decide) (by decide)) ?_
        refine J_lload C dX3_leaped_305 (js2_long (js2_long h10 (by decide) (by decide) (by decide)) (by decide) (by decide) (by decide)) ?_
        refine J_lload C dX3_leaped_307 (js2_long js2_at (by decide) (by decide) (by decide)) ?_
        refine J_lmul C dX3_leaped_309 ?_
        refine J_lload C dX3_leaped_310 (js2_long (js2_long h12 (by decide) (by decide) (by decide)) (by decide) (by decide) (by decide)) ?_
        refine J_lload C dX3_leaped_312 js2_at ?_
        refine J_lmul C dX3_leaped_314 ?_
        refine J_ladd C dX3_leaped_315 ?_
        refine J_ladd C dX3_leaped_316 ?_
        refine J_lstore C dX3_leaped_317 (by decide) ?_
        refine J_lload C dX3_leaped_319 (js2_long (js2_long (js2_long h20 (by decide) (by decide) (by decide)) (by decide) (by decide) (by decide)) (by decide) (by decide) (by decide)) ?_
        refine J_lload C dX3_leaped_321 (js2_long (js2_long (js2_long h14 (by decide) (by decide) (by decide)) (by decide) (by decide) (by decide)) (by decide) (by decide) (by decide)) ?_
        refine J_lload C dX3_leaped_323 (js2_long (js2_long js2_at (by decide) (by decide) (by decide)) (by decide) (by decide) (by decide)) ?_
        refine J_lmul C dX3_leaped_325 ?_
        refine J_lload C dX3_leaped_326 (js2_long (js2_long (js2_long h16 (by decide) (by decide) (by decide)) (by decide) (by decide) (by decide)) (by decide) (by decide) (by decide)) ?_
        refine J_lload C dX3_leaped_328 (js2_long js2_at (by decide) (by decide) (by decide)) ?_
        refine J_lmul C dX3_leaped_330 ?_
        refine J_ladd C dX3_leaped_331 ?_
        refine J_ladd C dX3_leaped_332 ?_
        refine J_lstore C dX3_leaped_333 (by decide) ?_
        refine J_aload_n (i := 0) C dX3_leaped_335 rfl (js2_ref (js2_ref (js2_ref (js2_ref h0 (by decide) (by decide)) (by decide) (by decide)) (by decide) (by decide)) (by decide) (by decide)) ?_
        refine J_get (ci := 6) (k := 0) C dX3_leaped_336 (inT inX3) rfl (gc flX3_X3_cell) (by decide) rfl rfl ?_
        refine J_iload_n (i := 1) C dX3_leaped_339 rfl (js2_int (js2_int (js2_int (js2_int h1 (by decide) (by decide)) (by decide) (by decide)) (by decide) (by decide)) (by decide) (by decide)) ?_
        refine J_iload C dX3_leaped_340 (js2_int (js2_int (js2_int (js2_int h22 (by decide) (by decide)) (by decide) (by decide)) (by decide) (by decide)) (by decide) (by decide)) ?_
        refine J_iadd C dX3_leaped_342 ?_
        refine J_eqi (nI_add _ _) ?_
        refine J_lload C dX3_leaped_343 (js2_long js2_at (by decide) (by decide) (by decide)) ?_
        refine J_ldc2 C (gc clX3_1000000000) dX3_leaped_345 ?_
        refine J_eql (y := lN 1000000000) (by decide) ?_
        refine J_callTg C [.long _, .long (lN 1000000000)] 3 c_fmod (gI cdJ9_floorMod_f86c9) (gc iniJ9) (gc mlX3_J9_floorMod_f86c9) (gc stJ9_floorMod_f86c9) rfl dsJ9_floorMod_f86c9.2 ⟨by decide, by decide⟩ dX3_leaped_348 rfl (Nat.le_of_ble_eq_true rfl) rfl (Nat.le_of_ble_eq_true rfl) (Nat.le_of_eq hX) (Nat.le_of_ble_eq_true rfl) (Nat.le_of_ble_eq_true rfl) (fun r pw h hl => ?_)
        obtain ⟨⟨d1, hd1, rfl⟩, rfl⟩ := h
        refine J_l2i C dX3_leaped_351 (lN_i _) ?_
        refine J_iastN C dX3_leaped_352 rfl (by omega) (by omega) ?_
        refine J_aload_n (i := 0) C dX3_leaped_353 rfl (jdrop_of (js2_ref (js2_ref (js2_ref (js2_ref h0 (by decide) (by decide)) (by decide) (by decide)) (by decide) (by decide)) (by decide) (by decide)) rfl) ?_
        refine J_get (ci := 6) (k := 0) C dX3_leaped_354 (inT inX3) rfl (gc flX3_X3_cell) (by decide) rfl rfl ?_
        refine J_iload_n (i := 2) C dX3_leaped_357 rfl (jdrop_of (js2_int (js2_int (js2_int (js2_int h2 (by decide) (by decide)) (by decide) (by decide)) (by decide) (by decide)) (by decide) (by decide)) rfl) ?_
        refine J_iload C dX3_leaped_358 (jdrop_of (js2_int (js2_int (js2_int (js2_int h22 (by decide) (by decide)) (by decide) (by decide)) (by decide) (by decide)) (by decide) (by decide)) rfl) ?_
        refine J_iadd C dX3_leaped_360 ?_
        refine J_eqi (nI_add _ _) ?_
        refine J_lload C dX3_leaped_361 (jdrop_of js2_at rfl) ?_
        refine J_ldc2 C (gc clX3_1000000000) dX3_leaped_363 ?_
        refine J_eql (y := lN 1000000000) (by decide) ?_
        refine J_callTg C [.long _, .long (lN 1000000000)] 3 c_fmod (gI cdJ9_floorMod_f86c9) (gc iniJ9) (gc mlX3_J9_floorMod_f86c9) (gc stJ9_floorMod_f86c9) rfl dsJ9_floorMod_f86c9.2 ⟨by decide, by decide⟩ dX3_leaped_366 rfl (Nat.le_of_ble_eq_true rfl) rfl (Nat.le_of_ble_eq_true rfl) (Nat.le_of_eq hX) (Nat.le_of_ble_eq_true rfl) (Nat.le_of_ble_eq_true rfl) (fun r pw h hl => ?_)
        obtain ⟨⟨d2, hd2, rfl⟩, rfl⟩ := h
        refine J_l2i C dX3_leaped_369 (lN_i _) ?_
        refine J_iastN C dX3_leaped_370 rfl (by omega) (by omega) ?_
        refine J_lload C dX3_leaped_371 (jdrop_of (jdrop_of (js2_long js2_at (by decide) (by decide) (by decide)) rfl) rfl) ?_
        refine J_ldc2 C (gc clX3_1000000000) dX3_leaped_373 ?_
        refine J_eql (y := lN 1000000000) (by decide) ?_
        refine J_callTg C [.long _, .long (lN 1000000000)] 3 c_fdiv (gI cdJ9_floorDiv_f86c9) (gc iniJ9) (gc mlX3_J9_floorDiv_f86c9) (gc stJ9_floorDiv_f86c9) rfl dsJ9_floorDiv_f86c9.2 ⟨by decide, by decide⟩ dX3_leaped_376 rfl (Nat.le_of_ble_eq_true rfl) rfl (Nat.le_of_ble_eq_true rfl) (Nat.le_of_eq hX) (Nat.le_of_ble_eq_true rfl) (Nat.le_of_ble_eq_true rfl) (fun r pw h hl => ?_)
        subst h
        refine J_lstore C dX3_leaped_379 (by decide) ?_
        refine J_lload C dX3_leaped_381 (js2_long (jdrop_of (jdrop_of (jdrop_of js2_at rfl) rfl) rfl) (by decide) (by decide) (by decide)) ?_
        refine J_ldc2 C (gc clX3_1000000000) dX3_leaped_383 ?_
        refine J_eql (y := lN 1000000000) (by decide) ?_
        refine J_callTg C [.long _, .long (lN 1000000000)] 3 c_fdiv (gI cdJ9_floorDiv_f86c9) (gc iniJ9) (gc mlX3_J9_floorDiv_f86c9) (gc stJ9_floorDiv_f86c9) rfl dsJ9_floorDiv_f86c9.2 ⟨by decide, by decide⟩ dX3_leaped_386 rfl (Nat.le_of_ble_eq_true rfl) rfl (Nat.le_of_ble_eq_true rfl) (Nat.le_of_eq hX) (Nat.le_of_ble_eq_true rfl) (Nat.le_of_ble_eq_true rfl) (fun r pw h hl => ?_)
        subst h
        refine J_lstore C dX3_leaped_389 (by decide) ?_
        refine J_iinc C dX3_leaped_391 (js2_int (jdrop_of (js2_int (jdrop_of (jdrop_of (jdrop_of (js2_int (js2_int (js2_int (js2_int h22 (by decide) (by decide)) (by decide) (by decide)) (by decide) (by decide)) (by decide) (by decide)) rfl) rfl) rfl) (by decide) (by decide)) rfl) (by decide) (by decide)) (nI_1 _) ?_
        refine J_goto (tgt := 273) C dX3_leaped_394 (by decide) ?_
        refine ih (i + 1) _ _ _ xa xb ya yb _ (by omega) ?_ ?_ (fun j w1 w2 => ?_) (js1_ref (js2_ref (jdrop_of (js2_ref (jdrop_of (jdrop_of (jdrop_of (js2_ref (js2_ref (js2_ref (js2_ref h0 (by decide) (by decide)) (by decide) (by decide)) (by decide) (by decide)) (by decide) (by decide)) rfl) rfl) rfl) (by decide) (by decide)) rfl) (by decide) (by decide)) (by decide)) (js1_int (js2_int (jdrop_of (js2_int (jdrop_of (jdrop_of (jdrop_of (js2_int (js2_int (js2_int (js2_int h1 (by decide) (by decide)) (by decide) (by decide)) (by decide) (by decide)) (by decide) (by decide)) rfl) rfl) rfl) (by decide) (by decide)) rfl) (by decide) (by decide)) (by decide)) (js1_int (js2_int (jdrop_of (js2_int (jdrop_of (jdrop_of (jdrop_of (js2_int (js2_int (js2_int (js2_int h2 (by decide) (by decide)) (by decide) (by decide)) (by decide) (by decide)) (by decide) (by decide)) rfl) rfl) rfl) (by decide) (by decide)) rfl) (by decide) (by decide)) (by decide)) (js1_int (js2_int (jdrop_of (js2_int (jdrop_of (jdrop_of (jdrop_of (js2_int (js2_int (js2_int (js2_int h3 (by decide) (by decide)) (by decide) (by decide)) (by decide) (by decide)) (by decide) (by decide)) rfl) rfl) rfl) (by decide) (by decide)) rfl) (by decide) (by decide)) (by decide)) (js1_long (js2_long (jdrop_of (js2_long (jdrop_of (jdrop_of (jdrop_of (js2_long (js2_long (js2_long (js2_long h10 (by decide) (by decide) (by decide)) (by decide) (by decide) (by decide)) (by decide) (by decide) (by decide)) (by decide) (by decide) (by decide)) rfl) rfl) rfl) (by decide) (by decide) (by decide)) rfl) (by decide) (by decide) (by decide)) (by decide) (by decide)) (js1_long (js2_long (jdrop_of (js2_long (jdrop_of (jdrop_of (jdrop_of (js2_long (js2_long (js2_long (js2_long h12 (by decide) (by decide) (by decide)) (by decide) (by decide) (by decide)) (by decide) (by decide) (by decide)) (by decide) (by decide) (by decide)) rfl) rfl) rfl) (by decide) (by decide) (by decide)) rfl) (by decide) (by decide) (by decide)) (by decide) (by decide)) (js1_long (js2_long (jdrop_of (js2_long (jdrop_of (jdrop_of (jdrop_of (js2_long (js2_long (js2_long (js2_long h14 (by decide) (by decide) (by decide)) (by decide) (by decide) (by decide)) (by decide) (by decide) (by decide)) (by decide) (by decide) (by decide)) rfl) rfl) rfl) (by decide) (by decide) (by decide)) rfl) (by decide) (by decide) (by decide)) (by decide) (by decide)) (js1_long (js2_long (jdrop_of (js2_long (jdrop_of (jdrop_of (jdrop_of (js2_long (js2_long (js2_long (js2_long h16 (by decide) (by decide) (by decide)) (by decide) (by decide) (by decide)) (by decide) (by decide) (by decide)) (by decide) (by decide) (by decide)) rfl) rfl) rfl) (by decide) (by decide) (by decide)) rfl) (by decide) (by decide) (by decide)) (by decide) (by decide)) (js1_long (js2_long (jdrop_of js2_at rfl) (by decide) (by decide) (by decide)) (by decide) (by decide)) (js1_long js2_at (by decide) (by decide)) js1_at
        · refine lm_un ?_ (by omega)
          rw [show a + (i + 1) = a + 1 + i by omega]
          exact lm_up hga hd1
        · rw [show b + (i + 1) = b + 1 + i by omega]
          exact lm_up (lm_un hgb (by omega)) hd2
        · rw [pk_un (by omega), pk_un (by omega)]; exact he j w1 w2
  -- behind the search
  have hE : ∀ (g : Nat → Int32) (xa xb ya yb : Int64) (lv : Nat → Option Value), sh g a 6 → sh g b k → (∀ j, (j < a ∨ a + 4 ≤ j) → (j < b ∨ b + 4 ≤ j) → g j = f j) → lv 0 = some (.ref 1) → lv 1 = some (.int (nI a)) → lv 2 = some (.int (nI b)) → lv 3 = some (.int (nI 3)) → lv 10 = some (.long xa) → lv 12 = some (.long xb) → lv 14 = some (.long ya) → lv 16 = some (.long yb) → J X 255 lv [] (nW x0 tp fm kp N g rest) 0 0 := by
    intro g xa xb ya yb lv s1 s2 he h0 h1 h2 h3 h10 h12 h14 h16
    refine J_lload C dX3_leaped_255 h12 ?_
    refine J_lconst (v := 0) C dX3_leaped_257 (by decide) ?_
    refine J_lcmp C dX3_leaped_258 ?_
    refine J_if_ne (tgt := 264) C dX3_leaped_259 (by decide) (fun h259q => ?_) (fun h259q => ?_)
    · refine J_lconst (v := lN 0) C dX3_leaped_264 (by decide) ?_
      refine J_lstore C dX3_leaped_265 (by decide) ?_
      refine J_lconst (v := lN 0) C dX3_leaped_267 (by decide) ?_
      refine J_lstore C dX3_leaped_268 (by decide) ?_
      refine J_iconst (v := nI 1) C dX3_leaped_270 (by decide) ?_
      refine J_istore C dX3_leaped_271 (by decide) ?_
      exact hW 3 0 g _ _ xa xb ya yb _ rfl (fun k hk => absurd hk (by omega)) (fun k hk => absurd hk (by omega)) he (js1_ref (js2_ref (js2_ref h0 (by decide) (by decide)) (by decide) (by decide)) (by decide)) (js1_int (js2_int (js2_int h1 (by decide) (by decide)) (by decide) (by decide)) (by decide)) (js1_int (js2_int (js2_int h2 (by decide) (by decide)) (by decide) (by decide)) (by decide)) (js1_int (js2_int (js2_int h3 (by decide) (by decide)) (by decide) (by decide)) (by decide)) (js1_long (js2_long (js2_long h10 (by decide) (by decide) (by decide)) (by decide) (by decide) (by decide)) (by decide) (by decide)) (js1_long (js2_long (js2_long h12 (by decide) (by decide) (by decide)) (by decide) (by decide) (by decide)) (by decide) (by decide)) (js1_long (js2_long (js2_long h14 (by decide) (by decide) (by decide)) (by decide) (by decide) (by decide)) (by decide) (by decide)) (js1_long (js2_long (js2_long h16 (by decide) (by decide) (by decide)) (by decide) (by decide) (by decide)) (by decide) (by decide)) (js1_long (js2_long js2_at (by decide) (by decide) (by decide)) (by decide) (by decide)) (js1_long js2_at (by decide) (by decide)) js1_at
    · refine J_iconst (v := 0) C dX3_leaped_262 (by decide) ?_
      refine hR _ _ _ _ _ _ dX3_leaped_263 ⟨g,rfl,he,Or.inl ⟨rfl,s1,s2⟩⟩ (Nat.le_of_eq hX) (Nat.le_refl _) (Nat.le_refl _)
  -- the search
  have hL : ∀ (g : Nat → Int32), sh g a 6 → sh g b k → (∀ j, (j < a ∨ a + 4 ≤ j) → (j < b ∨ b + 4 ≤ j) → g j = f j) → ∀ (d i : Nat) (x y xa xb ya yb : Int64) (lv : Nat → Option Value), i + d = 100 → lv 0 = some (.ref 1) → lv 1 = some (.int (nI a)) → lv 2 = some (.int (nI b)) → lv 3 = some (.int (nI 3)) → lv 6 = some (.long x) → lv 8 = some (.long y) → lv 10 = some (.long xa) → lv 12 = some (.long xb) → lv 14 = some (.long ya) → lv 16 = some (.long yb) → lv 18 = some (.int (nI i)) → J X 99 lv [] (nW x0 tp fm kp N g rest) 0 0 := by
    intro g s1 s2 he d
    induction d with
    | zero =>
      intro i x y xa xb ya yb lv hd h0 h1 h2 h3 h6 h8 h10 h12 h14 h16 h18
      refine J_iload C dX3_leaped_99 h18 ?_
      refine J_bipush (v := nI 100) C dX3_leaped_101 (by decide) ?_
      refine J_icmp_ge (tgt := 255) C dX3_leaped_103 (by decide) (fun h103q => have h103 := (nI_leI (by omega) (by omega)).mp h103q; ?_) (fun h103q => have h103 := (not_congr (nI_leI (by omega) (by omega))).mp h103q; ?_)
      · exact hE g xa xb ya yb lv s1 s2 he h0 h1 h2 h3 h10 h12 h14 h16
      · exact absurd (by omega) h103
    | succ d ih =>
      intro i x y xa xb ya yb lv hd h0 h1 h2 h3 h6 h8 h10 h12 h14 h16 h18
      have hQ := hE g xa xb ya yb lv s1 s2 he h0 h1 h2 h3 h10 h12 h14 h16
      refine J_iload C dX3_leaped_99 h18 ?_
      refine J_bipush (v := nI 100) C dX3_leaped_101 (by decide) ?_
      refine J_icmp_ge (tgt := 255) C dX3_leaped_103 (by decide) (fun h103q => have h103 := (nI_leI (by omega) (by omega)).mp h103q; ?_) (fun h103q => have h103 := (not_congr (nI_leI (by omega) (by omega))).mp h103q; ?_)
      · exact hQ
      · refine J_lload C dX3_leaped_106 h8 ?_
        refine J_lload C dX3_leaped_108 h14 ?_
        refine J_ladd C dX3_leaped_110 ?_
        refine J_lconst (v := 0) C dX3_leaped_111 (by decide) ?_
        refine J_lcmp C dX3_leaped_112 ?_
        refine J_if_le (tgt := 255) C dX3_leaped_113 (by decide) (fun h113q => ?_) (fun h113q => ?_)
        · exact hQ
        · have n1 : ¬ y + ya = 0 := fun w => h113q (by rw [w]; exact (lg_cmp_le _ _).mpr (Int64.le_refl 0))
          refine J_lload C dX3_leaped_116 h8 ?_
          refine J_lload C dX3_leaped_118 h16 ?_
          refine J_ladd C dX3_leaped_120 ?_
          refine J_lconst (v := 0) C dX3_leaped_121 (by decide) ?_
          refine J_lcmp C dX3_leaped_122 ?_
          refine J_if_le (tgt := 255) C dX3_leaped_123 (by decide) (fun h123q => ?_) (fun h123q => ?_)
          · exact hQ
          · have n2 : ¬ y + yb = 0 := fun w => h123q (by rw [w]; exact (lg_cmp_le _ _).mpr (Int64.le_refl 0))
            refine J_lload C dX3_leaped_126 h6 ?_
            refine J_lload C dX3_leaped_128 h10 ?_
            refine J_ladd C dX3_leaped_130 ?_
            refine J_lload C dX3_leaped_131 h8 ?_
            refine J_lload C dX3_leaped_133 h14 ?_
            refine J_ladd C dX3_leaped_135 ?_
            refine J_ldiv C dX3_leaped_136 n1 ?_
            refine J_lstore C dX3_leaped_137 (by decide) ?_
            have hQ' : ∀ lw : Nat → Option Value, lw 0 = some (.ref 1) → lw 1 = some (.int (nI a)) → lw 2 = some (.int (nI b)) → lw 3 = some (.int (nI 3)) → lw 10 = some (.long xa) → lw 12 = some (.long xb) → lw 14 = some (.long ya) → lw 16 = some (.long yb) → J X 255 lw [] (nW x0 tp fm kp N g rest) 0 0 := fun lw k0 k1 k2 k3 k10 k12 k14 k16 => hE g xa xb ya yb lw s1 s2 he k0 k1 k2 k3 k10 k12 k14 k16
            refine J_lload C dX3_leaped_139 js2_at ?_
            refine J_ldc2 C (gc clX3_1000000000) dX3_leaped_141 ?_
            refine J_lcmp C dX3_leaped_144 ?_
            refine J_if_ge (tgt := 255) C dX3_leaped_145 (by decide) (fun h145q => ?_) (fun h145q => ?_)
            · exact hQ' _ (js2_ref h0 (by decide) (by decide)) (js2_int h1 (by decide) (by decide)) (js2_int h2 (by decide) (by decide)) (js2_int h3 (by decide) (by decide)) (js2_long h10 (by decide) (by decide) (by decide)) (js2_long h12 (by decide) (by decide) (by decide)) (js2_long h14 (by decide) (by decide) (by decide)) (js2_long h16 (by decide) (by decide) (by decide))
            · refine J_lload C dX3_leaped_148 js2_at ?_
              refine J_lload C dX3_leaped_150 (js2_long h6 (by decide) (by decide) (by decide)) ?_
              refine J_lload C dX3_leaped_152 (js2_long h12 (by decide) (by decide) (by decide)) ?_
              refine J_ladd C dX3_leaped_154 ?_
              refine J_lload C dX3_leaped_155 (js2_long h8 (by decide) (by decide) (by decide)) ?_
              refine J_lload C dX3_leaped_157 (js2_long h16 (by decide) (by decide) (by decide)) ?_
              refine J_ladd C dX3_leaped_159 ?_
              refine J_ldiv C dX3_leaped_160 n2 ?_
              refine J_lcmp C dX3_leaped_161 ?_
              refine J_if_eq (tgt := 168) C dX3_leaped_162 (by decide) (fun h162q => ?_) (fun h162q => ?_)
              · refine J_lload C dX3_leaped_168 (js2_long h10 (by decide) (by decide) (by decide)) ?_
                refine J_lload C dX3_leaped_170 js2_at ?_
                refine J_lload C dX3_leaped_172 (js2_long h14 (by decide) (by decide) (by decide)) ?_
                refine J_lmul C dX3_leaped_174 ?_
                refine J_lsub C dX3_leaped_175 ?_
                refine J_lstore C dX3_leaped_176 (by decide) ?_
                refine J_lload C dX3_leaped_178 (js2_long (js2_long h12 (by decide) (by decide) (by decide)) (by decide) (by decide) (by decide)) ?_
                refine J_lload C dX3_leaped_180 (js2_long js2_at (by decide) (by decide) (by decide)) ?_
                refine J_lload C dX3_leaped_182 (js2_long (js2_long h16 (by decide) (by decide) (by decide)) (by decide) (by decide) (by decide)) ?_
                refine J_lmul C dX3_leaped_184 ?_
                refine J_lsub C dX3_leaped_185 ?_
                refine J_lstore C dX3_leaped_186 (by decide) ?_
                refine J_lload C dX3_leaped_188 (js2_long js2_at (by decide) (by decide) (by decide)) ?_
                refine J_callTg C [.long _] 3 c_absl (gI cdJ9_abs_067f4) (gc iniJ9) (gc mlX3_J9_abs_067f4) (gc stJ9_abs_067f4) rfl dsJ9_abs_067f4.2 ⟨by decide, by decide⟩ dX3_leaped_190 rfl (Nat.le_of_ble_eq_true rfl) rfl (Nat.le_of_ble_eq_true rfl) (Nat.le_of_eq hX) (Nat.le_of_ble_eq_true rfl) (Nat.le_of_ble_eq_true rfl) (fun r pw h hl => ?_)
                subst h
                refine J_ldc2 C (gc clX3_1000000000) dX3_leaped_193 ?_
                refine J_lcmp C dX3_leaped_196 ?_
                refine J_if_ge (tgt := 255) C dX3_leaped_197 (by decide) (fun h197q => ?_) (fun h197q => ?_)
                · exact hQ' _ (jdrop_of (js2_ref (js2_ref (js2_ref h0 (by decide) (by decide)) (by decide) (by decide)) (by decide) (by decide)) rfl) (jdrop_of (js2_int (js2_int (js2_int h1 (by decide) (by decide)) (by decide) (by decide)) (by decide) (by decide)) rfl) (jdrop_of (js2_int (js2_int (js2_int h2 (by decide) (by decide)) (by decide) (by decide)) (by decide) (by decide)) rfl) (jdrop_of (js2_int (js2_int (js2_int h3 (by decide) (by decide)) (by decide) (by decide)) (by decide) (by decide)) rfl) (jdrop_of (js2_long (js2_long (js2_long h10 (by decide) (by decide) (by decide)) (by decide) (by decide) (by decide)) (by decide) (by decide) (by decide)) rfl) (jdrop_of (js2_long (js2_long (js2_long h12 (by decide) (by decide) (by decide)) (by decide) (by decide) (by decide)) (by decide) (by decide) (by decide)) rfl) (jdrop_of (js2_long (js2_long (js2_long h14 (by decide) (by decide) (by decide)) (by decide) (by decide) (by decide)) (by decide) (by decide) (by decide)) rfl) (jdrop_of (js2_long (js2_long (js2_long h16 (by decide) (by decide) (by decide)) (by decide) (by decide) (by decide)) (by decide) (by decide) (by decide)) rfl)
                · refine J_lload C dX3_leaped_200 (jdrop_of js2_at rfl) ?_
                  refine J_callTg C [.long _] 3 c_absl (gI cdJ9_abs_067f4) (gc iniJ9) (gc mlX3_J9_abs_067f4) (gc stJ9_abs_067f4) rfl dsJ9_abs_067f4.2 ⟨by decide, by decide⟩ dX3_leaped_202 rfl (Nat.le_of_ble_eq_true rfl) rfl (Nat.le_of_ble_eq_true rfl) (Nat.le_of_eq hX) (Nat.le_of_ble_eq_true rfl) (Nat.le_of_ble_eq_true rfl) (fun r pw h hl => ?_)
                  subst h
                  refine J_ldc2 C (gc clX3_1000000000) dX3_leaped_205 ?_
                  refine J_lcmp C dX3_leaped_208 ?_
                  refine J_if_lt (tgt := 215) C dX3_leaped_209 (by decide) (fun h209q => ?_) (fun h209q => ?_)
                  · refine J_lload C dX3_leaped_215 (jdrop_of (jdrop_of (js2_long (js2_long (js2_long h6 (by decide) (by decide) (by decide)) (by decide) (by decide) (by decide)) (by decide) (by decide) (by decide)) rfl) rfl) ?_
                    refine J_lload C dX3_leaped_217 (jdrop_of (jdrop_of (js2_long (js2_long js2_at (by decide) (by decide) (by decide)) (by decide) (by decide) (by decide)) rfl) rfl) ?_
                    refine J_lload C dX3_leaped_219 (jdrop_of (jdrop_of (js2_long (js2_long (js2_long h8 (by decide) (by decide) (by decide)) (by decide) (by decide) (by decide)) (by decide) (by decide) (by decide)) rfl) rfl) ?_
                    refine J_lmul C dX3_leaped_221 ?_
                    refine J_lsub C dX3_leaped_222 ?_
                    refine J_lstore C dX3_leaped_223 (by decide) ?_
                    refine J_lload C dX3_leaped_225 (js2_long (jdrop_of (jdrop_of (js2_long (js2_long (js2_long h8 (by decide) (by decide) (by decide)) (by decide) (by decide) (by decide)) (by decide) (by decide) (by decide)) rfl) rfl) (by decide) (by decide) (by decide)) ?_
                    refine J_lstore C dX3_leaped_227 (by decide) ?_
                    refine J_lload C dX3_leaped_229 (js2_long js2_at (by decide) (by decide) (by decide)) ?_
                    refine J_lstore C dX3_leaped_231 (by decide) ?_
                    refine J_lload C dX3_leaped_233 (js2_long (js2_long (js2_long (jdrop_of (jdrop_of (js2_long (js2_long (js2_long h14 (by decide) (by decide) (by decide)) (by decide) (by decide) (by decide)) (by decide) (by decide) (by decide)) rfl) rfl) (by decide) (by decide) (by decide)) (by decide) (by decide) (by decide)) (by decide) (by decide) (by decide)) ?_
                    refine J_lstore C dX3_leaped_235 (by decide) ?_
                    refine J_lload C dX3_leaped_237 (js2_long (js2_long (js2_long (js2_long (jdrop_of (jdrop_of (js2_long (js2_long (js2_long h16 (by decide) (by decide) (by decide)) (by decide) (by decide) (by decide)) (by decide) (by decide) (by decide)) rfl) rfl) (by decide) (by decide) (by decide)) (by decide) (by decide) (by decide)) (by decide) (by decide) (by decide)) (by decide) (by decide) (by decide)) ?_
                    refine J_lstore C dX3_leaped_239 (by decide) ?_
                    refine J_lload C dX3_leaped_241 (js2_long (js2_long (js2_long (js2_long (js2_long (jdrop_of (jdrop_of (js2_long js2_at (by decide) (by decide) (by decide)) rfl) rfl) (by decide) (by decide) (by decide)) (by decide) (by decide) (by decide)) (by decide) (by decide) (by decide)) (by decide) (by decide) (by decide)) (by decide) (by decide) (by decide)) ?_
                    refine J_lstore C dX3_leaped_243 (by decide) ?_
                    refine J_lload C dX3_leaped_245 (js2_long (js2_long (js2_long (js2_long (js2_long (js2_long (jdrop_of (jdrop_of js2_at rfl) rfl) (by decide) (by decide) (by decide)) (by decide) (by decide) (by decide)) (by decide) (by decide) (by decide)) (by decide) (by decide) (by decide)) (by decide) (by decide) (by decide)) (by decide) (by decide) (by decide)) ?_
                    refine J_lstore C dX3_leaped_247 (by decide) ?_
                    refine J_iinc C dX3_leaped_249 (js2_int (js2_int (js2_int (js2_int (js2_int (js2_int (js2_int (jdrop_of (jdrop_of (js2_int (js2_int (js2_int h18 (by decide) (by decide)) (by decide) (by decide)) (by decide) (by decide)) rfl) rfl) (by decide) (by decide)) (by decide) (by decide)) (by decide) (by decide)) (by decide) (by decide)) (by decide) (by decide)) (by decide) (by decide)) (by decide) (by decide)) (nI_1 _) ?_
                    refine J_goto (tgt := 99) C dX3_leaped_252 (by decide) ?_
                    exact ih (i + 1) _ _ _ _ _ _ _ (by omega) (js1_ref (js2_ref (js2_ref (js2_ref (js2_ref (js2_ref (js2_ref (js2_ref (jdrop_of (jdrop_of (js2_ref (js2_ref (js2_ref h0 (by decide) (by decide)) (by decide) (by decide)) (by decide) (by decide)) rfl) rfl) (by decide) (by decide)) (by decide) (by decide)) (by decide) (by decide)) (by decide) (by decide)) (by decide) (by decide)) (by decide) (by decide)) (by decide) (by decide)) (by decide)) (js1_int (js2_int (js2_int (js2_int (js2_int (js2_int (js2_int (js2_int (jdrop_of (jdrop_of (js2_int (js2_int (js2_int h1 (by decide) (by decide)) (by decide) (by decide)) (by decide) (by decide)) rfl) rfl) (by decide) (by decide)) (by decide) (by decide)) (by decide) (by decide)) (by decide) (by decide)) (by decide) (by decide)) (by decide) (by decide)) (by decide) (by decide)) (by decide)) (js1_int (js2_int (js2_int (js2_int (js2_int (js2_int (js2_int (js2_int (jdrop_of (jdrop_of (js2_int (js2_int (js2_int h2 (by decide) (by decide)) (by decide) (by decide)) (by decide) (by decide)) rfl) rfl) (by decide) (by decide)) (by decide) (by decide)) (by decide) (by decide)) (by decide) (by decide)) (by decide) (by decide)) (by decide) (by decide)) (by decide) (by decide)) (by decide)) (js1_int (js2_int (js2_int (js2_int (js2_int (js2_int (js2_int (js2_int (jdrop_of (jdrop_of (js2_int (js2_int (js2_int h3 (by decide) (by decide)) (by decide) (by decide)) (by decide) (by decide)) rfl) rfl) (by decide) (by decide)) (by decide) (by decide)) (by decide) (by decide)) (by decide) (by decide)) (by decide) (by decide)) (by decide) (by decide)) (by decide) (by decide)) (by decide)) (js1_long (js2_long (js2_long (js2_long (js2_long (js2_long js2_at (by decide) (by decide) (by decide)) (by decide) (by decide) (by decide)) (by decide) (by decide) (by decide)) (by decide) (by decide) (by decide)) (by decide) (by decide) (by decide)) (by decide) (by decide)) (js1_long (js2_long (js2_long (js2_long (js2_long js2_at (by decide) (by decide) (by decide)) (by decide) (by decide) (by decide)) (by decide) (by decide) (by decide)) (by decide) (by decide) (by decide)) (by decide) (by decide)) (js1_long (js2_long (js2_long (js2_long js2_at (by decide) (by decide) (by decide)) (by decide) (by decide) (by decide)) (by decide) (by decide) (by decide)) (by decide) (by decide)) (js1_long (js2_long (js2_long js2_at (by decide) (by decide) (by decide)) (by decide) (by decide) (by decide)) (by decide) (by decide)) (js1_long (js2_long js2_at (by decide) (by decide) (by decide)) (by decide) (by decide)) (js1_long js2_at (by decide) (by decide)) js1_at
                  · refine J_goto (tgt := 255) C dX3_leaped_212 (by decide) ?_
                    exact hQ' _ (jdrop_of (jdrop_of (js2_ref (js2_ref (js2_ref h0 (by decide) (by decide)) (by decide) (by decide)) (by decide) (by decide)) rfl) rfl) (jdrop_of (jdrop_of (js2_int (js2_int (js2_int h1 (by decide) (by decide)) (by decide) (by decide)) (by decide) (by decide)) rfl) rfl) (jdrop_of (jdrop_of (js2_int (js2_int (js2_int h2 (by decide) (by decide)) (by decide) (by decide)) (by decide) (by decide)) rfl) rfl) (jdrop_of (jdrop_of (js2_int (js2_int (js2_int h3 (by decide) (by decide)) (by decide) (by decide)) (by decide) (by decide)) rfl) rfl) (jdrop_of (jdrop_of (js2_long (js2_long (js2_long h10 (by decide) (by decide) (by decide)) (by decide) (by decide) (by decide)) (by decide) (by decide) (by decide)) rfl) rfl) (jdrop_of (jdrop_of (js2_long (js2_long (js2_long h12 (by decide) (by decide) (by decide)) (by decide) (by decide) (by decide)) (by decide) (by decide) (by decide)) rfl) rfl) (jdrop_of (jdrop_of (js2_long (js2_long (js2_long h14 (by decide) (by decide) (by decide)) (by decide) (by decide) (by decide)) (by decide) (by decide) (by decide)) rfl) rfl) (jdrop_of (jdrop_of (js2_long (js2_long (js2_long h16 (by decide) (by decide) (by decide)) (by decide) (by decide) (by decide)) (by decide) (by decide) (by decide)) rfl) rfl)
              · refine J_goto (tgt := 255) C dX3_leaped_165 (by decide) ?_
                exact hQ' _ (js2_ref h0 (by decide) (by decide)) (js2_int h1 (by decide) (by decide)) (js2_int h2 (by decide) (by decide)) (js2_int h3 (by decide) (by decide)) (js2_long h10 (by decide) (by decide) (by decide)) (js2_long h12 (by decide) (by decide) (by decide)) (js2_long h14 (by decide) (by decide) (by decide)) (js2_long h16 (by decide) (by decide) (by decide))
  refine J_aload_n (i := 0) C dX3_leaped_0 rfl rfl ?_
  refine J_get (ci := 6) (k := 0) C dX3_leaped_1 (inT inX3) rfl (gc flX3_X3_cell) (by decide) rfl rfl ?_
  refine J_iload_n (i := 1) C dX3_leaped_4 rfl rfl ?_
  refine J_ialdN C dX3_leaped_5 rfl (by omega) (by omega) e1 ?_
  refine J_iconst (v := nI 1) C dX3_leaped_6 (by decide) ?_
  refine J_ishr C dX3_leaped_7 ?_
  refine J_eqi (nI_shr1N (by omega)) ?_
  refine J_istore_n (i := 3) C dX3_leaped_8 rfl (by decide) ?_
  refine J_aload_n (i := 0) C dX3_leaped_9 rfl rfl ?_
  refine J_get (ci := 6) (k := 0) C dX3_leaped_10 (inT inX3) rfl (gc flX3_X3_cell) (by decide) rfl rfl ?_
  refine J_iload_n (i := 2) C dX3_leaped_13 rfl rfl ?_
  refine J_ialdN C dX3_leaped_14 rfl (by omega) (by omega) q1 ?_
  refine J_iconst (v := nI 1) C dX3_leaped_15 (by decide) ?_
  refine J_ishr C dX3_leaped_16 ?_
  refine J_eqi (nI_shr1N (by omega)) ?_
  refine J_istore C dX3_leaped_17 (by decide) ?_
  refine J_iload C dX3_leaped_19 rfl ?_
  refine J_iload_n (i := 3) C dX3_leaped_21 rfl rfl ?_
  refine J_iconst (v := nI 1) C dX3_leaped_22 (by decide) ?_
  refine J_isub C dX3_leaped_23 ?_
  refine J_eqi (pk_sub (by omega)) ?_
  refine J_icmp_ge (tgt := 29) C dX3_leaped_24 (by decide) (fun h24q => have h24 := (nI_leI (by omega) (by omega)).mp h24q; ?_) (fun h24q => have h24 := (not_congr (nI_leI (by omega) (by omega))).mp h24q; ?_)
  · have s1 : sh (fillN f (b + 1 + k / 2) (b + 1 + 6 / 2) (nI 0)) a 6 := sh_eq ha' (fun j h1 h2 => by unfold fillN; rw [if_neg (by omega)])
    have s2 : sh (fillN f (b + 1 + k / 2) (b + 1 + 6 / 2) (nI 0)) b k := sh_eq hb' (fun j h1 h2 => by unfold fillN; rw [if_neg (by omega)])
    have s3 : ∀ j, (j < a ∨ a + 4 ≤ j) → (j < b ∨ b + 4 ≤ j) → fillN f (b + 1 + k / 2) (b + 1 + 6 / 2) (nI 0) j = f j := fun j h1 h2 => by unfold fillN; rw [if_neg (by omega)]
    refine J_aload_n (i := 0) C dX3_leaped_29 rfl rfl ?_
    refine J_get (ci := 6) (k := 0) C dX3_leaped_30 (inT inX3) rfl (gc flX3_X3_cell) (by decide) rfl rfl ?_
    refine J_iload_n (i := 2) C dX3_leaped_33 rfl rfl ?_
    refine J_iconst (v := nI 1) C dX3_leaped_34 (by decide) ?_
    refine J_iadd C dX3_leaped_35 ?_
    refine J_eqi (nI_add _ _) ?_
    refine J_iload C dX3_leaped_36 rfl ?_
    refine J_iadd C dX3_leaped_38 ?_
    refine J_eqi (nI_add _ _) ?_
    refine J_iload_n (i := 2) C dX3_leaped_39 rfl rfl ?_
    refine J_iconst (v := nI 1) C dX3_leaped_40 (by decide) ?_
    refine J_iadd C dX3_leaped_41 ?_
    refine J_eqi (nI_add _ _) ?_
    refine J_iload_n (i := 3) C dX3_leaped_42 rfl rfl ?_
    refine J_iadd C dX3_leaped_43 ?_
    refine J_eqi (nI_add _ _) ?_
    refine J_iconst (v := nI 0) C dX3_leaped_44 (by decide) ?_
    refine J_callTn C [.ref 2, .int (nI (b + 1 + k / 2)), .int (nI (b + 1 + 6 / 2)), .int (nI 0)] 3 (c_fill (by omega) (by omega) hN) (gI cdJ7_fill_fda19) (gc iniJ7) (gc mlX3_J7_fill_fda19) (gc stJ7_fill_fda19) rfl dsJ7_fill_fda19.2 ⟨by decide, by decide⟩ dX3_leaped_45 rfl (Nat.le_of_ble_eq_true rfl) rfl (Nat.le_of_ble_eq_true rfl) (Nat.le_of_eq hX) (Nat.le_of_ble_eq_true rfl) (Nat.le_of_ble_eq_true rfl) (fun pw h hl => ?_)
    subst h
    generalize fillN f (b + 1 + k / 2) (b + 1 + 6 / 2) (nI 0) = g at s1 s2 s3
    have hlf := lf_in (g (a + 6 / 2))
    refine J_bipush (v := nI 9) C dX3_leaped_48 (by decide) ?_
    refine J_aload_n (i := 0) C dX3_leaped_50 rfl rfl ?_
    refine J_get (ci := 6) (k := 0) C dX3_leaped_51 (inT inX3) rfl (gc flX3_X3_cell) (by decide) rfl rfl ?_
    refine J_iload_n (i := 1) C dX3_leaped_54 rfl rfl ?_
    refine J_iload_n (i := 3) C dX3_leaped_55 rfl rfl ?_
    refine J_iadd C dX3_leaped_56 ?_
    refine J_eqi (nI_add _ _) ?_
    refine J_ialdN C dX3_leaped_57 rfl (by omega) (by omega) rfl ?_
    refine J_callSi C [.int (g (a + 6 / 2))] 3 c_limbFigures (gSt mlX3_X3_limbFigures stX3_limbFigures iniX3 cdX3_limbFigures) rfl dsX3_limbFigures ⟨by decide, by decide⟩ dX3_leaped_58 rfl (Nat.le_of_ble_eq_true rfl) rfl (Nat.le_of_ble_eq_true rfl) (Nat.le_of_eq hX) (Nat.le_of_ble_eq_true rfl) (Nat.le_of_ble_eq_true rfl) (fun r pw h hl => ?_)
    obtain ⟨rfl, rfl⟩ := h
    refine J_isub C dX3_leaped_61 ?_
    refine J_eqi (pk_sub (by omega)) ?_
    refine J_istore C dX3_leaped_62 (by decide) ?_
    refine J_aload_n (i := 0) C dX3_leaped_64 rfl rfl ?_
    refine J_iload_n (i := 1) C dX3_leaped_65 rfl rfl ?_
    refine J_iload_n (i := 3) C dX3_leaped_66 rfl rfl ?_
    refine J_iload C dX3_leaped_67 rfl ?_
    refine J_callVg C [.int (nI a), .int (nI (6 / 2)), .int (nI (9 - lf (g (a + 6 / 2))))] rfl rfl 3 (c_highFigures (by decide) (by omega) hN (by omega)) (gV mlX3_X3_highFigures imX3_highFigures slX3_highFigures iniX3 cdX3_highFigures) rfl dsX3_highFigures ⟨by decide, by decide⟩ dX3_leaped_69 rfl (Nat.le_of_ble_eq_true rfl) rfl (Nat.le_of_ble_eq_true rfl) (Nat.le_of_eq hX) (Nat.le_of_ble_eq_true rfl) (Nat.le_of_ble_eq_true rfl) (fun r pw h hl => ?_)
    subst h
    refine J_lstore C dX3_leaped_72 (by decide) ?_
    refine J_aload_n (i := 0) C dX3_leaped_74 rfl rfl ?_
    refine J_iload_n (i := 2) C dX3_leaped_75 rfl rfl ?_
    refine J_iload_n (i := 3) C dX3_leaped_76 rfl rfl ?_
    refine J_iload C dX3_leaped_77 rfl ?_
    refine J_callVg C [.int (nI b), .int (nI (6 / 2)), .int (nI (9 - lf (g (a + 6 / 2))))] rfl rfl 3 (c_highFigures (by decide) (by omega) hN (by omega)) (gV mlX3_X3_highFigures imX3_highFigures slX3_highFigures iniX3 cdX3_highFigures) rfl dsX3_highFigures ⟨by decide, by decide⟩ dX3_leaped_79 rfl (Nat.le_of_ble_eq_true rfl) rfl (Nat.le_of_ble_eq_true rfl) (Nat.le_of_eq hX) (Nat.le_of_ble_eq_true rfl) (Nat.le_of_ble_eq_true rfl) (fun r pw h hl => ?_)
    subst h
    refine J_lstore C dX3_leaped_82 (by decide) ?_
    refine J_lconst (v := 1) C dX3_leaped_84 (by decide) ?_
    refine J_lstore C dX3_leaped_85 (by decide) ?_
    refine J_lconst (v := 0) C dX3_leaped_87 (by decide) ?_
    refine J_lstore C dX3_leaped_88 (by decide) ?_
    refine J_lconst (v := 0) C dX3_leaped_90 (by decide) ?_
    refine J_lstore C dX3_leaped_91 (by decide) ?_
    refine J_lconst (v := 1) C dX3_leaped_93 (by decide) ?_
    refine J_lstore C dX3_leaped_94 (by decide) ?_
    refine J_iconst (v := 0) C dX3_leaped_96 (by decide) ?_
    refine J_istore C dX3_leaped_97 (by decide) ?_
    exact hL g s1 s2 s3 100 0 _ _ _ _ _ _ _ rfl rfl rfl rfl rfl rfl rfl rfl rfl rfl rfl rfl
  · refine J_iconst (v := nI 0) C dX3_leaped_27 (by decide) ?_
    refine hR _ _ _ _ _ _ dX3_leaped_28 ⟨f,rfl,fun _ _ _ => rfl,Or.inl ⟨rfl,ha',hb'⟩⟩ (Nat.le_of_eq hX) (Nat.le_refl _) (Nat.le_refl _)
theorem if_le {i j a : Nat} : (if i < j then a else 0) ≤ a := by
  by_cases w : i < j
  · rw [if_pos w]; exact Nat.le_refl _
  · rw [if_neg w]; exact Nat.zero_le _
theorem two_bd {x y : Nat} (hx : x < 1000000000) (hy : y < 1000000000) : x * 1000000000 + y < 1000000000000000000 := by omega
set_option maxHeartbeats 4000000 in
/-- smallDivisor(a, b) -/
theorem c_smallDivisor {x0 : jE} {rest : jW} {tp fm kp : Int32} {N : Nat} {f : Nat → Int32} {a b ka kb : Nat} (ha : sh f a ka) (hb : sh f b kb) (haN : a + 3 ≤ N) (hbN : b + 3 ≤ N) (hN : N < 2 ^ 30) :
    jN vwCl yX3_smallDivisor (wc yX3_smallDivisor cX3_smallDivisor 10 none) 1 60 [.ref 1, .int (nI a), .int (nI b)] (nW x0 tp fm kp N f rest) 0 0 (fun pw => ∃ (g : Nat → Int32) (k : Nat), pw = nW x0 tp fm kp N g rest ∧ sh g a k ∧ k < 6 ∧ ∀ j, j < a ∨ a + 2 < j → g j = f j) := by
  refine jN_of (cc := cX3_smallDivisor) (nL := 10) (by decide) rfl (Nat.le_of_ble_eq_true rfl) ?_
  intro X C hX hR
  obtain ⟨e1, e2, e3, e4, e5⟩ := ha
  obtain ⟨q1, q2, q3, q4, q5⟩ := hb
  have hE : ∀ (x : Nat) (lv : Nat → Option Value), x < 1000000000000000000 → lv 0 = some (.ref 1) → lv 1 = some (.int (nI a)) → lv 3 = some (.long (lN x)) → J X 49 lv [] (nW x0 tp fm kp N f rest) 0 0 := by
    intro x lv hx h0 h1 h3
    have hF : ∀ c : Nat, (c = 4 ∧ ¬ x / 1000000000 = 0) ∨ c = 2 → J X 98 lv [.int (nI c), .int (nI a), .ref 2] (nW x0 tp fm kp N (upd (upd f (a + 1) (nI (x % 1000000000))) (a + 2) (nI (x / 1000000000))) rest) 0 0 := by
      intro c hc
      have l1 : lm (upd (upd (upd f (a + 1) (nI (x % 1000000000))) (a + 2) (nI (x / 1000000000))) a (nI c)) (a + 1) 2 := by
        refine lm_un ?_ (by omega)
        exact lm_up (n := 1) (lm_up (n := 0) (fun k hk => absurd hk (by omega)) (by omega)) (by omega)
      refine J_iastN C dX3_smallDivisor_98 rfl (by omega) (by omega) ?_
      refine hR _ _ _ _ _ dX3_smallDivisor_99 ⟨_,c,rfl,⟨pk_us,by omega,fun w => by omega,lm_le l1 (by omega),fun w => ?_⟩,by omega,fun j hj => ?_⟩ (Nat.le_of_eq hX) (Nat.le_refl _) (Nat.le_refl _)
      · rcases hc with w2 | w2
        · rw [w2.1, show a + 4 / 2 = a + 2 by omega]
          rw [dg_of ((pk_un (by omega)).trans pk_us) (by omega)]
          omega
        · omega
      · rw [pk_un (by omega), pk_un (by omega), pk_un (by omega)]
    refine J_aload_n (i := 0) C dX3_smallDivisor_49 rfl h0 ?_
    refine J_get (ci := 6) (k := 0) C dX3_smallDivisor_50 (inT inX3) rfl (gc flX3_X3_cell) (by decide) rfl rfl ?_
    refine J_iload_n (i := 1) C dX3_smallDivisor_53 rfl h1 ?_
    refine J_iconst (v := nI 1) C dX3_smallDivisor_54 (by decide) ?_
    refine J_iadd C dX3_smallDivisor_55 ?_
    refine J_eqi (nI_add _ _) ?_
    refine J_lload_n (i := 3) C dX3_smallDivisor_56 rfl h3 ?_
    refine J_ldc2 C (gc clX3_1000000000) dX3_smallDivisor_57 ?_
    refine J_eql (y := lN 1000000000) (by decide) ?_
    refine J_lrem C dX3_smallDivisor_60 (lN_ne0 (by omega) (by omega)) ?_
    refine J_eql (pk_lRem (by omega) (by omega) (by omega)) ?_
    refine J_l2i C dX3_smallDivisor_61 (lN_i _) ?_
    refine J_iastN C dX3_smallDivisor_62 rfl (by omega) (by omega) ?_
    refine J_aload_n (i := 0) C dX3_smallDivisor_63 rfl h0 ?_
    refine J_get (ci := 6) (k := 0) C dX3_smallDivisor_64 (inT inX3) rfl (gc flX3_X3_cell) (by decide) rfl rfl ?_
    refine J_iload_n (i := 1) C dX3_smallDivisor_67 rfl h1 ?_
    refine J_iconst (v := nI 2) C dX3_smallDivisor_68 (by decide) ?_
    refine J_iadd C dX3_smallDivisor_69 ?_
    refine J_eqi (nI_add _ _) ?_
    refine J_lload_n (i := 3) C dX3_smallDivisor_70 rfl h3 ?_
    refine J_ldc2 C (gc clX3_1000000000) dX3_smallDivisor_71 ?_
    refine J_eql (y := lN 1000000000) (by decide) ?_
    refine J_ldiv C dX3_smallDivisor_74 (lN_ne0 (by omega) (by omega)) ?_
    refine J_eql (pk_lDiv (by omega) (by omega) (by omega)) ?_
    refine J_l2i C dX3_smallDivisor_75 (lN_i _) ?_
    refine J_iastN C dX3_smallDivisor_76 rfl (by omega) (by omega) ?_
    refine J_aload_n (i := 0) C dX3_smallDivisor_77 rfl h0 ?_
    refine J_get (ci := 6) (k := 0) C dX3_smallDivisor_78 (inT inX3) rfl (gc flX3_X3_cell) (by decide) rfl rfl ?_
    refine J_iload_n (i := 1) C dX3_smallDivisor_81 rfl h1 ?_
    refine J_aload_n (i := 0) C dX3_smallDivisor_82 rfl h0 ?_
    refine J_get (ci := 6) (k := 0) C dX3_smallDivisor_83 (inT inX3) rfl (gc flX3_X3_cell) (by decide) rfl rfl ?_
    refine J_iload_n (i := 1) C dX3_smallDivisor_86 rfl h1 ?_
    refine J_iconst (v := nI 2) C dX3_smallDivisor_87 (by decide) ?_
    refine J_iadd C dX3_smallDivisor_88 ?_
    refine J_eqi (nI_add _ _) ?_
    refine J_ialdN C dX3_smallDivisor_89 rfl (by omega) (by omega) pk_us ?_
    refine J_if_eq (tgt := 97) C dX3_smallDivisor_90 (by decide) (fun h90q => have h90 := (nI_z (by omega)).mp h90q; ?_) (fun h90q => have h90 := (not_congr (nI_z (by omega))).mp h90q; ?_)
    · refine J_iconst (v := nI 2) C dX3_smallDivisor_97 (by decide) ?_
      exact hF 2 (Or.inr rfl)
    · refine J_iconst (v := nI 4) C dX3_smallDivisor_93 (by decide) ?_
      refine J_goto (tgt := 98) C dX3_smallDivisor_94 (by decide) ?_
      exact hF 4 (Or.inl ⟨rfl, h90⟩)
  have hL : ∀ (d i x y : Nat) (lv : Nat → Option Value), i + d = 100 → x < 1000000000000000000 → y < 1000000000000000000 → lv 0 = some (.ref 1) → lv 1 = some (.int (nI a)) → lv 3 = some (.long (lN x)) → lv 5 = some (.long (lN y)) → lv 7 = some (.int (nI i)) → J X 16 lv [] (nW x0 tp fm kp N f rest) 0 0 := by
    intro d
    induction d with
    | zero =>
      intro i x y lv hd hx hy h0 h1 h3 h5 h7
      refine J_iload C dX3_smallDivisor_16 h7 ?_
      refine J_bipush (v := nI 100) C dX3_smallDivisor_18 (by decide) ?_
      refine J_icmp_ge (tgt := 49) C dX3_smallDivisor_20 (by decide) (fun h20q => have h20 := (nI_leI (by omega) (by omega)).mp h20q; ?_) (fun h20q => have h20 := (not_congr (nI_leI (by omega) (by omega))).mp h20q; ?_)
      · exact hE x lv hx h0 h1 h3
      · exact absurd (by omega) h20
    | succ d ih =>
      intro i x y lv hd hx hy h0 h1 h3 h5 h7
      refine J_iload C dX3_smallDivisor_16 h7 ?_
      refine J_bipush (v := nI 100) C dX3_smallDivisor_18 (by decide) ?_
      refine J_icmp_ge (tgt := 49) C dX3_smallDivisor_20 (by decide) (fun h20q => have h20 := (nI_leI (by omega) (by omega)).mp h20q; ?_) (fun h20q => have h20 := (not_congr (nI_leI (by omega) (by omega))).mp h20q; ?_)
      · exact hE x lv hx h0 h1 h3
      · refine J_lload C dX3_smallDivisor_23 h5 ?_
        refine J_lconst (v := lN 0) C dX3_smallDivisor_25 (by decide) ?_
        refine J_lcmp C dX3_smallDivisor_26 ?_
        refine J_if_eq (tgt := 49) C dX3_smallDivisor_27 (by decide) (fun h27q => have h27 := ((lg_cmp_eq _ _).trans (pk_lEQ (by omega) (by omega))).mp h27q; ?_) (fun h27q => have h27 := (not_congr ((lg_cmp_eq _ _).trans (pk_lEQ (by omega) (by omega)))).mp h27q; ?_)
        · exact hE x lv hx h0 h1 h3
        · have n1 : x % y < y := Nat.mod_lt _ (by omega)
          refine J_lload_n (i := 3) C dX3_smallDivisor_30 rfl h3 ?_
          refine J_lload C dX3_smallDivisor_31 h5 ?_
          refine J_lrem C dX3_smallDivisor_33 (lN_ne0 (by omega) (by omega)) ?_
          refine J_eql (pk_lRem (by omega) (by omega) (by omega)) ?_
          refine J_lstore C dX3_smallDivisor_34 (by decide) ?_
          refine J_lload C dX3_smallDivisor_36 (js2_long h5 (by decide) (by decide) (by decide)) ?_
          refine J_lstore_n (i := 3) C dX3_smallDivisor_38 rfl (by decide) ?_
          refine J_lload C dX3_smallDivisor_39 (js2_long js2_at (by decide) (by decide) (by decide)) ?_
          refine J_lstore C dX3_smallDivisor_41 (by decide) ?_
          refine J_iinc C dX3_smallDivisor_43 (js2_int (js2_int (js2_int h7 (by decide) (by decide)) (by decide) (by decide)) (by decide) (by decide)) (nI_1 _) ?_
          refine J_goto (tgt := 16) C dX3_smallDivisor_46 (by decide) ?_
          exact ih (i + 1) _ _ _ (by omega) hy (by omega) (js1_ref (js2_ref (js2_ref (js2_ref h0 (by decide) (by decide)) (by decide) (by decide)) (by decide) (by decide)) (by decide)) (js1_int (js2_int (js2_int (js2_int h1 (by decide) (by decide)) (by decide) (by decide)) (by decide) (by decide)) (by decide)) (js1_long (js2_long js2_at (by decide) (by decide) (by decide)) (by decide) (by decide)) (js1_long js2_at (by decide) (by decide)) js1_at
  have va : ∀ w, w < ka / 2 → f (a + (w + 1)) = nI (dg f (a + 1 + w)) ∧ dg f (a + 1 + w) < 1000000000 := fun w hw => by
    rw [show a + (w + 1) = a + 1 + w by omega]; exact e4 w hw
  have vb : ∀ w, w < kb / 2 → f (b + (w + 1)) = nI (dg f (b + 1 + w)) ∧ dg f (b + 1 + w) < 1000000000 := fun w hw => by
    rw [show b + (w + 1) = b + 1 + w by omega]; exact q4 w hw
  obtain ⟨a1, a1b, a1e⟩ : ∃ d : Nat, d < 1000000000 ∧ (0 < ka / 2 → f (a + 1) = nI d) := by
    by_cases w : 0 < ka / 2
    · exact ⟨_, (va 0 w).2, fun _ => (va 0 w).1⟩
    · exact ⟨0, by decide, fun z => absurd z w⟩
  obtain ⟨a2, a2b, a2e⟩ : ∃ d : Nat, d < 1000000000 ∧ (1 < ka / 2 → f (a + 2) = nI d) := by
    by_cases w : 1 < ka / 2
    · exact ⟨_, (va 1 w).2, fun _ => (va 1 w).1⟩
    · exact ⟨0, by decide, fun z => absurd z w⟩
  obtain ⟨b1, b1b, b1e⟩ : ∃ d : Nat, d < 1000000000 ∧ (0 < kb / 2 → f (b + 1) = nI d) := by
    by_cases w : 0 < kb / 2
    · exact ⟨_, (vb 0 w).2, fun _ => (vb 0 w).1⟩
    · exact ⟨0, by decide, fun z => absurd z w⟩
  obtain ⟨b2, b2b, b2e⟩ : ∃ d : Nat, d < 1000000000 ∧ (1 < kb / 2 → f (b + 2) = nI d) := by
    by_cases w : 1 < kb / 2
    · exact ⟨_, (vb 1 w).2, fun _ => (vb 1 w).1⟩
    · exact ⟨0, by decide, fun z => absurd z w⟩
  have v1 : (if 1 < ka / 2 then a2 else 0) * 1000000000 + (if 0 < ka / 2 then a1 else 0) < 1000000000000000000 := two_bd (Nat.lt_of_le_of_lt if_le a2b) (Nat.lt_of_le_of_lt if_le a1b)
  have v2 : (if 1 < kb / 2 then b2 else 0) * 1000000000 + (if 0 < kb / 2 then b1 else 0) < 1000000000000000000 := two_bd (Nat.lt_of_le_of_lt if_le b2b) (Nat.lt_of_le_of_lt if_le b1b)
  refine J_aload_n (i := 0) C dX3_smallDivisor_0 rfl rfl ?_
  refine J_iload_n (i := 1) C dX3_smallDivisor_1 rfl rfl ?_
  refine J_callVg C [.int (nI a)] rfl rfl 3 (c_value (by omega) hN e1 e2 a1e a2e (by omega) (by omega)) (gV mlX3_X3_value imX3_value slX3_value iniX3 cdX3_value) rfl dsX3_value ⟨by decide, by decide⟩ dX3_smallDivisor_2 rfl (Nat.le_of_ble_eq_true rfl) rfl (Nat.le_of_ble_eq_true rfl) (Nat.le_of_eq hX) (Nat.le_of_ble_eq_true rfl) (Nat.le_of_ble_eq_true rfl) (fun r pw h hl => ?_)
  obtain ⟨rfl, rfl⟩ := h
  refine J_lstore_n (i := 3) C dX3_smallDivisor_5 rfl (by decide) ?_
  refine J_aload_n (i := 0) C dX3_smallDivisor_6 rfl rfl ?_
  refine J_iload_n (i := 2) C dX3_smallDivisor_7 rfl rfl ?_
  refine J_callVg C [.int (nI b)] rfl rfl 3 (c_value (by omega) hN q1 q2 b1e b2e (by omega) (by omega)) (gV mlX3_X3_value imX3_value slX3_value iniX3 cdX3_value) rfl dsX3_value ⟨by decide, by decide⟩ dX3_smallDivisor_8 rfl (Nat.le_of_ble_eq_true rfl) rfl (Nat.le_of_ble_eq_true rfl) (Nat.le_of_eq hX) (Nat.le_of_ble_eq_true rfl) (Nat.le_of_ble_eq_true rfl) (fun r pw h hl => ?_)
  obtain ⟨rfl, rfl⟩ := h
  refine J_lstore C dX3_smallDivisor_11 (by decide) ?_
  refine J_iconst (v := nI 0) C dX3_smallDivisor_13 (by decide) ?_
  refine J_istore C dX3_smallDivisor_14 (by decide) ?_
  exact hL 100 0 _ _ _ rfl v1 v2 rfl rfl rfl rfl rfl

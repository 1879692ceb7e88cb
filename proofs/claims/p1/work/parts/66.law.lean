theorem J_genl {X : jK} {pc : Nat} {lv : Nat → Option Value} {st : List Value} {pw : jW} {nc ns : Nat} {x : Int64} (k : ∀ y : Int64, y = x → J X pc lv (.long y :: st) pw nc ns) : J X pc lv (.long x :: st) pw nc ns := k x rfl
section LAW
variable {tp fm kp : Int32} {N : Nat} {f : Nat → Int32} {sq sc : Nat → Int32} {pl rk : Nat → Int32} {pr : Int32} {rl rh : Nat → Int32} {s12 s13 s14 s15 s16 s17 : jE} {lt : Nat → Int32} {th : Int32} {z sz sg : Nat → Int32} {tk : Int32} {st ss sn kt ks kn : Nat → Int32} {lr : Nat → Int32} {p2 : Int32} {g : Nat → Int64}
variable {X : jK} {b : Nat} {xs : Nat → Int32} {nc ns : Nat}

set_option maxHeartbeats 2000000 in
theorem law_1 (C : jX X cL_law 7 RL (Cond.initialized RL :: gT) vwCl 2048 84000 600002 7302231) (S : jS X b 5 xs) (hn0 : jn0 X = 0) (hnc : nc + 100 ≤ 600002) (hns : ns + 1000 ≤ 7302231) (hEnd : ∀ (lv : Nat → Option Value) (pw : jW) (nc ns : Nat), nc ≤ 600002 → ns ≤ 7302231 → lv 0 = some (.ref 2000) → lv 4 = some (.int (nI 0)) → J X 866 lv [] pw nc ns) {lv : Nat → Option Value} (h0 : lv 0 = some (.ref 2000)) (h1 : lv 1 = some (.ref 0)) (h2 : lv 2 = some (.ref 20)) (h3 : lv 3 = some (.ref 31)) (h4 : lv 4 = some (.int (nI 0))) : J X 233 lv [] (cW tp fm kp N f 0 sq sc 0 pl rk pr rl rh s12 s13 s14 s15 s16 s17 0 lt (mT th z sz sg tk st ss sn 0 0 kt ks kn 0 lr p2 [.inl (.long, 1, .inr (.inl g))])) nc ns := by
  refine J_aload_n (i := 1) C dL_law_233 rfl h1 ?_
  refine J_aload_n (i := 0) C dL_law_234 rfl h0 ?_
  refine J_iload C dL_law_235 h4 ?_
  refine J_iconst (v := nI 1) C dL_law_237 (by decide) ?_
  refine J_iadd C dL_law_238 ?_
  refine J_eqi (nI_add _ _) ?_
  refine J_sld C S dL_law_239 (by decide) (by decide) ?_
  refine J_aload_n (i := 0) C dL_law_240 rfl h0 ?_
  refine J_iload C dL_law_241 h4 ?_
  refine J_iconst (v := nI 2) C dL_law_243 (by decide) ?_
  refine J_iadd C dL_law_244 ?_
  refine J_eqi (nI_add _ _) ?_
  refine J_sld C S dL_law_245 (by decide) (by decide) ?_
  refine J_aload_n (i := 0) C dL_law_246 rfl h0 ?_
  refine J_iload C dL_law_247 h4 ?_
  refine J_iconst (v := nI 3) C dL_law_249 (by decide) ?_
  refine J_iadd C dL_law_250 ?_
  refine J_eqi (nI_add _ _) ?_
  refine J_sld C S dL_law_251 (by decide) (by decide) ?_
  refine J_callVi C [.int (xs (0 + 1)), .int (xs (0 + 2)), .int (xs (0 + 3))] rfl rfl 32 c_apply (gV mlL_X6_apply imX6_apply slX6_apply iniX6 cdX6_apply) rfl dsX6_apply ⟨by decide, by decide⟩ dL_law_252 rfl (Nat.le_of_ble_eq_true rfl) rfl (Nat.le_of_ble_eq_true rfl) (by rw [hn0]; exact Nat.zero_le _) (by omega) (by omega) (fun r pw h hl => ?_)
  clear hl
  obtain ⟨rfl, rfl⟩ := h
  refine J_aload_n (i := 2) C dL_law_255 rfl (jdrop_of h2 rfl) ?_
  refine J_aload_n (i := 0) C dL_law_256 rfl (jdrop_of h0 rfl) ?_
  refine J_iload C dL_law_257 (jdrop_of h4 rfl) ?_
  refine J_iconst (v := nI 1) C dL_law_259 (by decide) ?_
  refine J_iadd C dL_law_260 ?_
  refine J_eqi (nI_add _ _) ?_
  refine J_sld C S dL_law_261 (by decide) (by decide) ?_
  refine J_aload_n (i := 0) C dL_law_262 rfl (jdrop_of h0 rfl) ?_
  refine J_iload C dL_law_263 (jdrop_of h4 rfl) ?_
  refine J_iconst (v := nI 2) C dL_law_265 (by decide) ?_
  refine J_iadd C dL_law_266 ?_
  refine J_eqi (nI_add _ _) ?_
  refine J_sld C S dL_law_267 (by decide) (by decide) ?_
  refine J_aload_n (i := 0) C dL_law_268 rfl (jdrop_of h0 rfl) ?_
  refine J_iload C dL_law_269 (jdrop_of h4 rfl) ?_
  refine J_iconst (v := nI 3) C dL_law_271 (by decide) ?_
  refine J_iadd C dL_law_272 ?_
  refine J_eqi (nI_add _ _) ?_
  refine J_sld C S dL_law_273 (by decide) (by decide) ?_
  refine J_callVi C [.int (xs (0 + 1)), .int (xs (0 + 2)), .int (xs (0 + 3))] rfl rfl 32 m_apply (gV mlL_X7_apply imX7_apply slX7_apply iniX7 cdX7_apply) rfl dsX7_apply ⟨by decide, by decide⟩ dL_law_274 rfl (Nat.le_of_ble_eq_true rfl) rfl (Nat.le_of_ble_eq_true rfl) (by rw [hn0]; exact Nat.zero_le _) (by omega) (by omega) (fun r pw h hl => ?_)
  clear hl
  obtain ⟨rfl, rfl⟩ := h
  refine J_icmp_eq (tgt := 866) C dL_law_277 (by decide) (fun h277q => ?_) (fun h277q => ?_)
  · exact hEnd _ _ _ _ (by omega) (by omega) (jdrop_of (jdrop_of h0 rfl) rfl) (jdrop_of (jdrop_of h4 rfl) rfl)
  · exact absurd rfl h277q

set_option maxHeartbeats 2000000 in
theorem law_3 (C : jX X cL_law 7 RL (Cond.initialized RL :: gT) vwCl 2048 84000 600002 7302231) (S : jS X b 5 xs) (hn0 : jn0 X = 0) (hnc : nc + 100 ≤ 600002) (hns : ns + 1000 ≤ 7302231) (hEnd : ∀ (lv : Nat → Option Value) (pw : jW) (nc ns : Nat), nc ≤ 600002 → ns ≤ 7302231 → lv 0 = some (.ref 2000) → lv 4 = some (.int (nI 0)) → J X 866 lv [] pw nc ns) {lv : Nat → Option Value} (h0 : lv 0 = some (.ref 2000)) (h1 : lv 1 = some (.ref 0)) (h2 : lv 2 = some (.ref 20)) (h3 : lv 3 = some (.ref 31)) (h4 : lv 4 = some (.int (nI 0))) : J X 338 lv [] (cW tp fm kp N f 0 sq sc 0 pl rk pr rl rh s12 s13 s14 s15 s16 s17 0 lt (mT th z sz sg tk st ss sn 0 0 kt ks kn 0 lr p2 [.inl (.long, 1, .inr (.inl g))])) nc ns := by
  refine J_aload_n (i := 1) C dL_law_338 rfl h1 ?_
  refine J_aload_n (i := 0) C dL_law_339 rfl h0 ?_
  refine J_iload C dL_law_340 h4 ?_
  refine J_iconst (v := nI 1) C dL_law_342 (by decide) ?_
  refine J_iadd C dL_law_343 ?_
  refine J_eqi (nI_add _ _) ?_
  refine J_sld C S dL_law_344 (by decide) (by decide) ?_
  refine J_callVi C [.int (xs (0 + 1))] rfl rfl 32 c_root (gV mlL_X6_root imX6_root slX6_root iniX6 cdX6_root) rfl dsX6_root ⟨by decide, by decide⟩ dL_law_345 rfl (Nat.le_of_ble_eq_true rfl) rfl (Nat.le_of_ble_eq_true rfl) (by rw [hn0]; exact Nat.zero_le _) (by omega) (by omega) (fun r pw h hl => ?_)
  clear hl
  obtain ⟨rfl, rfl⟩ := h
  refine J_aload_n (i := 2) C dL_law_348 rfl (jdrop_of h2 rfl) ?_
  refine J_aload_n (i := 0) C dL_law_349 rfl (jdrop_of h0 rfl) ?_
  refine J_iload C dL_law_350 (jdrop_of h4 rfl) ?_
  refine J_iconst (v := nI 1) C dL_law_352 (by decide) ?_
  refine J_iadd C dL_law_353 ?_
  refine J_eqi (nI_add _ _) ?_
  refine J_sld C S dL_law_354 (by decide) (by decide) ?_
  refine J_callVi C [.int (xs (0 + 1))] rfl rfl 32 m_root (gV mlL_X7_root imX7_root slX7_root iniX7 cdX7_root) rfl dsX7_root ⟨by decide, by decide⟩ dL_law_355 rfl (Nat.le_of_ble_eq_true rfl) rfl (Nat.le_of_ble_eq_true rfl) (by rw [hn0]; exact Nat.zero_le _) (by omega) (by omega) (fun r pw h hl => ?_)
  clear hl
  obtain ⟨rfl, rfl⟩ := h
  refine J_icmp_eq (tgt := 866) C dL_law_358 (by decide) (fun h358q => ?_) (fun h358q => ?_)
  · exact hEnd _ _ _ _ (by omega) (by omega) (jdrop_of (jdrop_of h0 rfl) rfl) (jdrop_of (jdrop_of h4 rfl) rfl)
  · exact absurd rfl h358q

set_option maxHeartbeats 2000000 in
theorem law_4 (C : jX X cL_law 7 RL (Cond.initialized RL :: gT) vwCl 2048 84000 600002 7302231) (S : jS X b 5 xs) (hn0 : jn0 X = 0) (hnc : nc + 100 ≤ 600002) (hns : ns + 1000 ≤ 7302231) (hEnd : ∀ (lv : Nat → Option Value) (pw : jW) (nc ns : Nat), nc ≤ 600002 → ns ≤ 7302231 → lv 0 = some (.ref 2000) → lv 4 = some (.int (nI 0)) → J X 866 lv [] pw nc ns) {lv : Nat → Option Value} (h0 : lv 0 = some (.ref 2000)) (h1 : lv 1 = some (.ref 0)) (h2 : lv 2 = some (.ref 20)) (h3 : lv 3 = some (.ref 31)) (h4 : lv 4 = some (.int (nI 0))) : J X 363 lv [] (cW tp fm kp N f 0 sq sc 0 pl rk pr rl rh s12 s13 s14 s15 s16 s17 0 lt (mT th z sz sg tk st ss sn 0 0 kt ks kn 0 lr p2 [.inl (.long, 1, .inr (.inl g))])) nc ns := by
  refine J_aload_n (i := 1) C dL_law_363 rfl h1 ?_
  refine J_aload_n (i := 0) C dL_law_364 rfl h0 ?_
  refine J_iload C dL_law_365 h4 ?_
  refine J_iconst (v := nI 1) C dL_law_367 (by decide) ?_
  refine J_iadd C dL_law_368 ?_
  refine J_eqi (nI_add _ _) ?_
  refine J_sld C S dL_law_369 (by decide) (by decide) ?_
  refine J_callVi C [.int (xs (0 + 1))] rfl rfl 32 c_isSquare (gV mlL_X6_isSquare imX6_isSquare slX6_isSquare iniX6 cdX6_isSquare) rfl dsX6_isSquare ⟨by decide, by decide⟩ dL_law_370 rfl (Nat.le_of_ble_eq_true rfl) rfl (Nat.le_of_ble_eq_true rfl) (by rw [hn0]; exact Nat.zero_le _) (by omega) (by omega) (fun r pw h hl => ?_)
  clear hl
  obtain ⟨rfl, rfl⟩ := h
  refine J_aload_n (i := 2) C dL_law_373 rfl (jdrop_of h2 rfl) ?_
  refine J_aload_n (i := 0) C dL_law_374 rfl (jdrop_of h0 rfl) ?_
  refine J_iload C dL_law_375 (jdrop_of h4 rfl) ?_
  refine J_iconst (v := nI 1) C dL_law_377 (by decide) ?_
  refine J_iadd C dL_law_378 ?_
  refine J_eqi (nI_add _ _) ?_
  refine J_sld C S dL_law_379 (by decide) (by decide) ?_
  refine J_callVi C [.int (xs (0 + 1))] rfl rfl 32 m_isSquare (gV mlL_X7_isSquare imX7_isSquare slX7_isSquare iniX7 cdX7_isSquare) rfl dsX7_isSquare ⟨by decide, by decide⟩ dL_law_380 rfl (Nat.le_of_ble_eq_true rfl) rfl (Nat.le_of_ble_eq_true rfl) (by rw [hn0]; exact Nat.zero_le _) (by omega) (by omega) (fun r pw h hl => ?_)
  clear hl
  obtain ⟨rfl, rfl⟩ := h
  refine J_icmp_eq (tgt := 866) C dL_law_383 (by decide) (fun h383q => ?_) (fun h383q => ?_)
  · exact hEnd _ _ _ _ (by omega) (by omega) (jdrop_of (jdrop_of h0 rfl) rfl) (jdrop_of (jdrop_of h4 rfl) rfl)
  · exact absurd rfl h383q

set_option maxHeartbeats 2000000 in
theorem law_5 (C : jX X cL_law 7 RL (Cond.initialized RL :: gT) vwCl 2048 84000 600002 7302231) (S : jS X b 5 xs) (hn0 : jn0 X = 0) (hnc : nc + 100 ≤ 600002) (hns : ns + 1000 ≤ 7302231) (hEnd : ∀ (lv : Nat → Option Value) (pw : jW) (nc ns : Nat), nc ≤ 600002 → ns ≤ 7302231 → lv 0 = some (.ref 2000) → lv 4 = some (.int (nI 0)) → J X 866 lv [] pw nc ns) {lv : Nat → Option Value} (h0 : lv 0 = some (.ref 2000)) (h1 : lv 1 = some (.ref 0)) (h2 : lv 2 = some (.ref 20)) (h3 : lv 3 = some (.ref 31)) (h4 : lv 4 = some (.int (nI 0))) : J X 388 lv [] (cW tp fm kp N f 0 sq sc 0 pl rk pr rl rh s12 s13 s14 s15 s16 s17 0 lt (mT th z sz sg tk st ss sn 0 0 kt ks kn 0 lr p2 [.inl (.long, 1, .inr (.inl g))])) nc ns := by
  refine J_aload_n (i := 1) C dL_law_388 rfl h1 ?_
  refine J_aload_n (i := 0) C dL_law_389 rfl h0 ?_
  refine J_iload C dL_law_390 h4 ?_
  refine J_iconst (v := nI 1) C dL_law_392 (by decide) ?_
  refine J_iadd C dL_law_393 ?_
  refine J_eqi (nI_add _ _) ?_
  refine J_sld C S dL_law_394 (by decide) (by decide) ?_
  refine J_callVi C [.int (xs (0 + 1))] rfl rfl 32 c_sign (gV mlL_X6_sign imX6_sign slX6_sign iniX6 cdX6_sign) rfl dsX6_sign ⟨by decide, by decide⟩ dL_law_395 rfl (Nat.le_of_ble_eq_true rfl) rfl (Nat.le_of_ble_eq_true rfl) (by rw [hn0]; exact Nat.zero_le _) (by omega) (by omega) (fun r pw h hl => ?_)
  clear hl
  obtain ⟨rfl, rfl⟩ := h
  refine J_aload_n (i := 2) C dL_law_398 rfl (jdrop_of h2 rfl) ?_
  refine J_aload_n (i := 0) C dL_law_399 rfl (jdrop_of h0 rfl) ?_
  refine J_iload C dL_law_400 (jdrop_of h4 rfl) ?_
  refine J_iconst (v := nI 1) C dL_law_402 (by decide) ?_
  refine J_iadd C dL_law_403 ?_
  refine J_eqi (nI_add _ _) ?_
  refine J_sld C S dL_law_404 (by decide) (by decide) ?_
  refine J_callVi C [.int (xs (0 + 1))] rfl rfl 32 m_sign (gV mlL_X7_sign imX7_sign slX7_sign iniX7 cdX7_sign) rfl dsX7_sign ⟨by decide, by decide⟩ dL_law_405 rfl (Nat.le_of_ble_eq_true rfl) rfl (Nat.le_of_ble_eq_true rfl) (by rw [hn0]; exact Nat.zero_le _) (by omega) (by omega) (fun r pw h hl => ?_)
  clear hl
  obtain ⟨rfl, rfl⟩ := h
  refine J_icmp_eq (tgt := 866) C dL_law_408 (by decide) (fun h408q => ?_) (fun h408q => ?_)
  · exact hEnd _ _ _ _ (by omega) (by omega) (jdrop_of (jdrop_of h0 rfl) rfl) (jdrop_of (jdrop_of h4 rfl) rfl)
  · exact absurd rfl h408q

set_option maxHeartbeats 2000000 in
theorem law_6 (C : jX X cL_law 7 RL (Cond.initialized RL :: gT) vwCl 2048 84000 600002 7302231) (S : jS X b 5 xs) (hn0 : jn0 X = 0) (hnc : nc + 100 ≤ 600002) (hns : ns + 1000 ≤ 7302231) (hEnd : ∀ (lv : Nat → Option Value) (pw : jW) (nc ns : Nat), nc ≤ 600002 → ns ≤ 7302231 → lv 0 = some (.ref 2000) → lv 4 = some (.int (nI 0)) → J X 866 lv [] pw nc ns) {lv : Nat → Option Value} (h0 : lv 0 = some (.ref 2000)) (h1 : lv 1 = some (.ref 0)) (h2 : lv 2 = some (.ref 20)) (h3 : lv 3 = some (.ref 31)) (h4 : lv 4 = some (.int (nI 0))) : J X 413 lv [] (cW tp fm kp N f 0 sq sc 0 pl rk pr rl rh s12 s13 s14 s15 s16 s17 0 lt (mT th z sz sg tk st ss sn 0 0 kt ks kn 0 lr p2 [.inl (.long, 1, .inr (.inl g))])) nc ns := by
  refine J_aload_n (i := 1) C dL_law_413 rfl h1 ?_
  refine J_aload_n (i := 0) C dL_law_414 rfl h0 ?_
  refine J_iload C dL_law_415 h4 ?_
  refine J_iconst (v := nI 1) C dL_law_417 (by decide) ?_
  refine J_iadd C dL_law_418 ?_
  refine J_eqi (nI_add _ _) ?_
  refine J_sld C S dL_law_419 (by decide) (by decide) ?_
  refine J_aload_n (i := 0) C dL_law_420 rfl h0 ?_
  refine J_iload C dL_law_421 h4 ?_
  refine J_iconst (v := nI 2) C dL_law_423 (by decide) ?_
  refine J_iadd C dL_law_424 ?_
  refine J_eqi (nI_add _ _) ?_
  refine J_sld C S dL_law_425 (by decide) (by decide) ?_
  refine J_callVi C [.int (xs (0 + 1)), .int (xs (0 + 2))] rfl rfl 32 c_compare (gV mlL_X6_compare imX6_compare slX6_compare iniX6 cdX6_compare) rfl dsX6_compare ⟨by decide, by decide⟩ dL_law_426 rfl (Nat.le_of_ble_eq_true rfl) rfl (Nat.le_of_ble_eq_true rfl) (by rw [hn0]; exact Nat.zero_le _) (by omega) (by omega) (fun r pw h hl => ?_)
  clear hl
  obtain ⟨rfl, rfl⟩ := h
  refine J_aload_n (i := 2) C dL_law_429 rfl (jdrop_of h2 rfl) ?_
  refine J_aload_n (i := 0) C dL_law_430 rfl (jdrop_of h0 rfl) ?_
  refine J_iload C dL_law_431 (jdrop_of h4 rfl) ?_
  refine J_iconst (v := nI 1) C dL_law_433 (by decide) ?_
  refine J_iadd C dL_law_434 ?_
  refine J_eqi (nI_add _ _) ?_
  refine J_sld C S dL_law_435 (by decide) (by decide) ?_
  refine J_aload_n (i := 0) C dL_law_436 rfl (jdrop_of h0 rfl) ?_
  refine J_iload C dL_law_437 (jdrop_of h4 rfl) ?_
  refine J_iconst (v := nI 2) C dL_law_439 (by decide) ?_
  refine J_iadd C dL_law_440 ?_
  refine J_eqi (nI_add _ _) ?_
  refine J_sld C S dL_law_441 (by decide) (by decide) ?_
  refine J_callVi C [.int (xs (0 + 1)), .int (xs (0 + 2))] rfl rfl 32 m_compare (gV mlL_X7_compare imX7_compare slX7_compare iniX7 cdX7_compare) rfl dsX7_compare ⟨by decide, by decide⟩ dL_law_442 rfl (Nat.le_of_ble_eq_true rfl) rfl (Nat.le_of_ble_eq_true rfl) (by rw [hn0]; exact Nat.zero_le _) (by omega) (by omega) (fun r pw h hl => ?_)
  clear hl
  obtain ⟨rfl, rfl⟩ := h
  refine J_icmp_eq (tgt := 866) C dL_law_445 (by decide) (fun h445q => ?_) (fun h445q => ?_)
  · exact hEnd _ _ _ _ (by omega) (by omega) (jdrop_of (jdrop_of h0 rfl) rfl) (jdrop_of (jdrop_of h4 rfl) rfl)
  · exact absurd rfl h445q

set_option maxHeartbeats 2000000 in
theorem law_7 (C : jX X cL_law 7 RL (Cond.initialized RL :: gT) vwCl 2048 84000 600002 7302231) (S : jS X b 5 xs) (hn0 : jn0 X = 0) (hnc : nc + 100 ≤ 600002) (hns : ns + 1000 ≤ 7302231) (hEnd : ∀ (lv : Nat → Option Value) (pw : jW) (nc ns : Nat), nc ≤ 600002 → ns ≤ 7302231 → lv 0 = some (.ref 2000) → lv 4 = some (.int (nI 0)) → J X 866 lv [] pw nc ns) {lv : Nat → Option Value} (h0 : lv 0 = some (.ref 2000)) (h1 : lv 1 = some (.ref 0)) (h2 : lv 2 = some (.ref 20)) (h3 : lv 3 = some (.ref 31)) (h4 : lv 4 = some (.int (nI 0))) : J X 450 lv [] (cW tp fm kp N f 0 sq sc 0 pl rk pr rl rh s12 s13 s14 s15 s16 s17 0 lt (mT th z sz sg tk st ss sn 0 0 kt ks kn 0 lr p2 [.inl (.long, 1, .inr (.inl g))])) nc ns := by
  refine J_aload_n (i := 1) C dL_law_450 rfl h1 ?_
  refine J_aload_n (i := 0) C dL_law_451 rfl h0 ?_
  refine J_iload C dL_law_452 h4 ?_
  refine J_iconst (v := nI 1) C dL_law_454 (by decide) ?_
  refine J_iadd C dL_law_455 ?_
  refine J_eqi (nI_add _ _) ?_
  refine J_sld C S dL_law_456 (by decide) (by decide) ?_
  refine J_callVi C [.int (xs (0 + 1))] rfl rfl 32 c_level (gV mlL_X6_level imX6_level slX6_level iniX6 cdX6_level) rfl dsX6_level ⟨by decide, by decide⟩ dL_law_457 rfl (Nat.le_of_ble_eq_true rfl) rfl (Nat.le_of_ble_eq_true rfl) (by rw [hn0]; exact Nat.zero_le _) (by omega) (by omega) (fun r pw h hl => ?_)
  clear hl
  obtain ⟨rfl, rfl⟩ := h
  refine J_aload_n (i := 2) C dL_law_460 rfl (jdrop_of h2 rfl) ?_
  refine J_aload_n (i := 0) C dL_law_461 rfl (jdrop_of h0 rfl) ?_
  refine J_iload C dL_law_462 (jdrop_of h4 rfl) ?_
  refine J_iconst (v := nI 1) C dL_law_464 (by decide) ?_
  refine J_iadd C dL_law_465 ?_
  refine J_eqi (nI_add _ _) ?_
  refine J_sld C S dL_law_466 (by decide) (by decide) ?_
  refine J_callVi C [.int (xs (0 + 1))] rfl rfl 32 m_level (gV mlL_X7_level imX7_level slX7_level iniX7 cdX7_level) rfl dsX7_level ⟨by decide, by decide⟩ dL_law_467 rfl (Nat.le_of_ble_eq_true rfl) rfl (Nat.le_of_ble_eq_true rfl) (by rw [hn0]; exact Nat.zero_le _) (by omega) (by omega) (fun r pw h hl => ?_)
  clear hl
  obtain ⟨rfl, rfl⟩ := h
  refine J_icmp_eq (tgt := 866) C dL_law_470 (by decide) (fun h470q => ?_) (fun h470q => ?_)
  · exact hEnd _ _ _ _ (by omega) (by omega) (jdrop_of (jdrop_of h0 rfl) rfl) (jdrop_of (jdrop_of h4 rfl) rfl)
  · exact absurd rfl h470q

set_option maxHeartbeats 2000000 in
theorem law_8 (C : jX X cL_law 7 RL (Cond.initialized RL :: gT) vwCl 2048 84000 600002 7302231) (S : jS X b 5 xs) (hn0 : jn0 X = 0) (hnc : nc + 100 ≤ 600002) (hns : ns + 1000 ≤ 7302231) (hEnd : ∀ (lv : Nat → Option Value) (pw : jW) (nc ns : Nat), nc ≤ 600002 → ns ≤ 7302231 → lv 0 = some (.ref 2000) → lv 4 = some (.int (nI 0)) → J X 866 lv [] pw nc ns) {lv : Nat → Option Value} (h0 : lv 0 = some (.ref 2000)) (h1 : lv 1 = some (.ref 0)) (h2 : lv 2 = some (.ref 20)) (h3 : lv 3 = some (.ref 31)) (h4 : lv 4 = some (.int (nI 0))) : J X 475 lv [] (cW tp fm kp N f 0 sq sc 0 pl rk pr rl rh s12 s13 s14 s15 s16 s17 0 lt (mT th z sz sg tk st ss sn 0 0 kt ks kn 0 lr p2 [.inl (.long, 1, .inr (.inl g))])) nc ns := by
  refine J_aload_n (i := 1) C dL_law_475 rfl h1 ?_
  refine J_aload_n (i := 0) C dL_law_476 rfl h0 ?_
  refine J_iload C dL_law_477 h4 ?_
  refine J_iconst (v := nI 1) C dL_law_479 (by decide) ?_
  refine J_iadd C dL_law_480 ?_
  refine J_eqi (nI_add _ _) ?_
  refine J_sld C S dL_law_481 (by decide) (by decide) ?_
  refine J_aload_n (i := 0) C dL_law_482 rfl h0 ?_
  refine J_iload C dL_law_483 h4 ?_
  refine J_iconst (v := nI 2) C dL_law_485 (by decide) ?_
  refine J_iadd C dL_law_486 ?_
  refine J_eqi (nI_add _ _) ?_
  refine J_sld C S dL_law_487 (by decide) (by decide) ?_
  refine J_callVi C [.int (xs (0 + 1)), .int (xs (0 + 2))] rfl rfl 32 c_coordinate (gV mlL_X6_coordinate imX6_coordinate slX6_coordinate iniX6 cdX6_coordinate) rfl dsX6_coordinate ⟨by decide, by decide⟩ dL_law_488 rfl (Nat.le_of_ble_eq_true rfl) rfl (Nat.le_of_ble_eq_true rfl) (by rw [hn0]; exact Nat.zero_le _) (by omega) (by omega) (fun r pw h hl => ?_)
  clear hl
  obtain ⟨rfl, rfl⟩ := h
  refine J_aload_n (i := 2) C dL_law_491 rfl (jdrop_of h2 rfl) ?_
  refine J_aload_n (i := 0) C dL_law_492 rfl (jdrop_of h0 rfl) ?_
  refine J_iload C dL_law_493 (jdrop_of h4 rfl) ?_
  refine J_iconst (v := nI 1) C dL_law_495 (by decide) ?_
  refine J_iadd C dL_law_496 ?_
  refine J_eqi (nI_add _ _) ?_
  refine J_sld C S dL_law_497 (by decide) (by decide) ?_
  refine J_aload_n (i := 0) C dL_law_498 rfl (jdrop_of h0 rfl) ?_
  refine J_iload C dL_law_499 (jdrop_of h4 rfl) ?_
  refine J_iconst (v := nI 2) C dL_law_501 (by decide) ?_
  refine J_iadd C dL_law_502 ?_
  refine J_eqi (nI_add _ _) ?_
  refine J_sld C S dL_law_503 (by decide) (by decide) ?_
  refine J_callVi C [.int (xs (0 + 1)), .int (xs (0 + 2))] rfl rfl 32 m_coordinate (gV mlL_X7_coordinate imX7_coordinate slX7_coordinate iniX7 cdX7_coordinate) rfl dsX7_coordinate ⟨by decide, by decide⟩ dL_law_504 rfl (Nat.le_of_ble_eq_true rfl) rfl (Nat.le_of_ble_eq_true rfl) (by rw [hn0]; exact Nat.zero_le _) (by omega) (by omega) (fun r pw h hl => ?_)
  clear hl
  obtain ⟨rfl, rfl⟩ := h
  refine J_icmp_eq (tgt := 866) C dL_law_507 (by decide) (fun h507q => ?_) (fun h507q => ?_)
  · exact hEnd _ _ _ _ (by omega) (by omega) (jdrop_of (jdrop_of h0 rfl) rfl) (jdrop_of (jdrop_of h4 rfl) rfl)
  · exact absurd rfl h507q

set_option maxHeartbeats 2000000 in
theorem law_9 (C : jX X cL_law 7 RL (Cond.initialized RL :: gT) vwCl 2048 84000 600002 7302231) (S : jS X b 5 xs) (hn0 : jn0 X = 0) (hnc : nc + 100 ≤ 600002) (hns : ns + 1000 ≤ 7302231) (hEnd : ∀ (lv : Nat → Option Value) (pw : jW) (nc ns : Nat), nc ≤ 600002 → ns ≤ 7302231 → lv 0 = some (.ref 2000) → lv 4 = some (.int (nI 0)) → J X 866 lv [] pw nc ns) {lv : Nat → Option Value} (h0 : lv 0 = some (.ref 2000)) (h1 : lv 1 = some (.ref 0)) (h2 : lv 2 = some (.ref 20)) (h3 : lv 3 = some (.ref 31)) (h4 : lv 4 = some (.int (nI 0))) : J X 512 lv [] (cW tp fm kp N f 0 sq sc 0 pl rk pr rl rh s12 s13 s14 s15 s16 s17 0 lt (mT th z sz sg tk st ss sn 0 0 kt ks kn 0 lr p2 [.inl (.long, 1, .inr (.inl g))])) nc ns := by
  refine J_aload_n (i := 1) C dL_law_512 rfl h1 ?_
  refine J_aload_n (i := 0) C dL_law_513 rfl h0 ?_
  refine J_iload C dL_law_514 h4 ?_
  refine J_iconst (v := nI 1) C dL_law_516 (by decide) ?_
  refine J_iadd C dL_law_517 ?_
  refine J_eqi (nI_add _ _) ?_
  refine J_sld C S dL_law_518 (by decide) (by decide) ?_
  refine J_aload_n (i := 0) C dL_law_519 rfl h0 ?_
  refine J_iload C dL_law_520 h4 ?_
  refine J_iconst (v := nI 2) C dL_law_522 (by decide) ?_
  refine J_iadd C dL_law_523 ?_
  refine J_eqi (nI_add _ _) ?_
  refine J_sld C S dL_law_524 (by decide) (by decide) ?_
  refine J_callVi C [.int (xs (0 + 1)), .int (xs (0 + 2))] rfl rfl 32 c_radicand (gV mlL_X6_radicand imX6_radicand slX6_radicand iniX6 cdX6_radicand) rfl dsX6_radicand ⟨by decide, by decide⟩ dL_law_525 rfl (Nat.le_of_ble_eq_true rfl) rfl (Nat.le_of_ble_eq_true rfl) (by rw [hn0]; exact Nat.zero_le _) (by omega) (by omega) (fun r pw h hl => ?_)
  clear hl
  obtain ⟨rfl, rfl⟩ := h
  refine J_aload_n (i := 2) C dL_law_528 rfl (jdrop_of h2 rfl) ?_
  refine J_aload_n (i := 0) C dL_law_529 rfl (jdrop_of h0 rfl) ?_
  refine J_iload C dL_law_530 (jdrop_of h4 rfl) ?_
  refine J_iconst (v := nI 1) C dL_law_532 (by decide) ?_
  refine J_iadd C dL_law_533 ?_
  refine J_eqi (nI_add _ _) ?_
  refine J_sld C S dL_law_534 (by decide) (by decide) ?_
  refine J_aload_n (i := 0) C dL_law_535 rfl (jdrop_of h0 rfl) ?_
  refine J_iload C dL_law_536 (jdrop_of h4 rfl) ?_
  refine J_iconst (v := nI 2) C dL_law_538 (by decide) ?_
  refine J_iadd C dL_law_539 ?_
  refine J_eqi (nI_add _ _) ?_
  refine J_sld C S dL_law_540 (by decide) (by decide) ?_
  refine J_callVi C [.int (xs (0 + 1)), .int (xs (0 + 2))] rfl rfl 32 m_radicand (gV mlL_X7_radicand imX7_radicand slX7_radicand iniX7 cdX7_radicand) rfl dsX7_radicand ⟨by decide, by decide⟩ dL_law_541 rfl (Nat.le_of_ble_eq_true rfl) rfl (Nat.le_of_ble_eq_true rfl) (by rw [hn0]; exact Nat.zero_le _) (by omega) (by omega) (fun r pw h hl => ?_)
  clear hl
  obtain ⟨rfl, rfl⟩ := h
  refine J_icmp_eq (tgt := 866) C dL_law_544 (by decide) (fun h544q => ?_) (fun h544q => ?_)
  · exact hEnd _ _ _ _ (by omega) (by omega) (jdrop_of (jdrop_of h0 rfl) rfl) (jdrop_of (jdrop_of h4 rfl) rfl)
  · exact absurd rfl h544q

set_option maxHeartbeats 2000000 in
theorem law_10 (C : jX X cL_law 7 RL (Cond.initialized RL :: gT) vwCl 2048 84000 600002 7302231) (S : jS X b 5 xs) (hn0 : jn0 X = 0) (hnc : nc + 100 ≤ 600002) (hns : ns + 1000 ≤ 7302231) (hEnd : ∀ (lv : Nat → Option Value) (pw : jW) (nc ns : Nat), nc ≤ 600002 → ns ≤ 7302231 → lv 0 = some (.ref 2000) → lv 4 = some (.int (nI 0)) → J X 866 lv [] pw nc ns) {lv : Nat → Option Value} (h0 : lv 0 = some (.ref 2000)) (h1 : lv 1 = some (.ref 0)) (h2 : lv 2 = some (.ref 20)) (h3 : lv 3 = some (.ref 31)) (h4 : lv 4 = some (.int (nI 0))) : J X 549 lv [] (cW tp fm kp N f 0 sq sc 0 pl rk pr rl rh s12 s13 s14 s15 s16 s17 0 lt (mT th z sz sg tk st ss sn 0 0 kt ks kn 0 lr p2 [.inl (.long, 1, .inr (.inl g))])) nc ns := by
  refine J_aload_n (i := 1) C dL_law_549 rfl h1 ?_
  refine J_aload_n (i := 0) C dL_law_550 rfl h0 ?_
  refine J_iload C dL_law_551 h4 ?_
  refine J_iconst (v := nI 1) C dL_law_553 (by decide) ?_
  refine J_iadd C dL_law_554 ?_
  refine J_eqi (nI_add _ _) ?_
  refine J_sld C S dL_law_555 (by decide) (by decide) ?_
  refine J_callVi C [.int (xs (0 + 1))] rfl rfl 32 c_degree (gV mlL_X6_degree imX6_degree slX6_degree iniX6 cdX6_degree) rfl dsX6_degree ⟨by decide, by decide⟩ dL_law_556 rfl (Nat.le_of_ble_eq_true rfl) rfl (Nat.le_of_ble_eq_true rfl) (by rw [hn0]; exact Nat.zero_le _) (by omega) (by omega) (fun r pw h hl => ?_)
  clear hl
  obtain ⟨rfl, rfl⟩ := h
  refine J_aload_n (i := 2) C dL_law_559 rfl (jdrop_of h2 rfl) ?_
  refine J_aload_n (i := 0) C dL_law_560 rfl (jdrop_of h0 rfl) ?_
  refine J_iload C dL_law_561 (jdrop_of h4 rfl) ?_
  refine J_iconst (v := nI 1) C dL_law_563 (by decide) ?_
  refine J_iadd C dL_law_564 ?_
  refine J_eqi (nI_add _ _) ?_
  refine J_sld C S dL_law_565 (by decide) (by decide) ?_
  refine J_callVi C [.int (xs (0 + 1))] rfl rfl 32 m_degree (gV mlL_X7_degree imX7_degree slX7_degree iniX7 cdX7_degree) rfl dsX7_degree ⟨by decide, by decide⟩ dL_law_566 rfl (Nat.le_of_ble_eq_true rfl) rfl (Nat.le_of_ble_eq_true rfl) (by rw [hn0]; exact Nat.zero_le _) (by omega) (by omega) (fun r pw h hl => ?_)
  clear hl
  obtain ⟨rfl, rfl⟩ := h
  refine J_icmp_eq (tgt := 866) C dL_law_569 (by decide) (fun h569q => ?_) (fun h569q => ?_)
  · exact hEnd _ _ _ _ (by omega) (by omega) (jdrop_of (jdrop_of h0 rfl) rfl) (jdrop_of (jdrop_of h4 rfl) rfl)
  · exact absurd rfl h569q

set_option maxHeartbeats 2000000 in
theorem law_11 (C : jX X cL_law 7 RL (Cond.initialized RL :: gT) vwCl 2048 84000 600002 7302231) (S : jS X b 5 xs) (hn0 : jn0 X = 0) (hnc : nc + 100 ≤ 600002) (hns : ns + 1000 ≤ 7302231) (hEnd : ∀ (lv : Nat → Option Value) (pw : jW) (nc ns : Nat), nc ≤ 600002 → ns ≤ 7302231 → lv 0 = some (.ref 2000) → lv 4 = some (.int (nI 0)) → J X 866 lv [] pw nc ns) {lv : Nat → Option Value} (h0 : lv 0 = some (.ref 2000)) (h1 : lv 1 = some (.ref 0)) (h2 : lv 2 = some (.ref 20)) (h3 : lv 3 = some (.ref 31)) (h4 : lv 4 = some (.int (nI 0))) : J X 574 lv [] (cW tp fm kp N f 0 sq sc 0 pl rk pr rl rh s12 s13 s14 s15 s16 s17 0 lt (mT th z sz sg tk st ss sn 0 0 kt ks kn 0 lr p2 [.inl (.long, 1, .inr (.inl g))])) nc ns := by
  refine J_aload_n (i := 1) C dL_law_574 rfl h1 ?_
  refine J_aload_n (i := 0) C dL_law_575 rfl h0 ?_
  refine J_iload C dL_law_576 h4 ?_
  refine J_iconst (v := nI 1) C dL_law_578 (by decide) ?_
  refine J_iadd C dL_law_579 ?_
  refine J_eqi (nI_add _ _) ?_
  refine J_sld C S dL_law_580 (by decide) (by decide) ?_
  refine J_aload_n (i := 0) C dL_law_581 rfl h0 ?_
  refine J_iload C dL_law_582 h4 ?_
  refine J_iconst (v := nI 2) C dL_law_584 (by decide) ?_
  refine J_iadd C dL_law_585 ?_
  refine J_eqi (nI_add _ _) ?_
  refine J_sld C S dL_law_586 (by decide) (by decide) ?_
  refine J_callVi C [.int (xs (0 + 1)), .int (xs (0 + 2))] rfl rfl 32 c_equation (gV mlL_X6_equation imX6_equation slX6_equation iniX6 cdX6_equation) rfl dsX6_equation ⟨by decide, by decide⟩ dL_law_587 rfl (Nat.le_of_ble_eq_true rfl) rfl (Nat.le_of_ble_eq_true rfl) (by rw [hn0]; exact Nat.zero_le _) (by omega) (by omega) (fun r pw h hl => ?_)
  clear hl
  obtain ⟨rfl, rfl⟩ := h
  refine J_aload_n (i := 2) C dL_law_590 rfl (jdrop_of h2 rfl) ?_
  refine J_aload_n (i := 0) C dL_law_591 rfl (jdrop_of h0 rfl) ?_
  refine J_iload C dL_law_592 (jdrop_of h4 rfl) ?_
  refine J_iconst (v := nI 1) C dL_law_594 (by decide) ?_
  refine J_iadd C dL_law_595 ?_
  refine J_eqi (nI_add _ _) ?_
  refine J_sld C S dL_law_596 (by decide) (by decide) ?_
  refine J_aload_n (i := 0) C dL_law_597 rfl (jdrop_of h0 rfl) ?_
  refine J_iload C dL_law_598 (jdrop_of h4 rfl) ?_
  refine J_iconst (v := nI 2) C dL_law_600 (by decide) ?_
  refine J_iadd C dL_law_601 ?_
  refine J_eqi (nI_add _ _) ?_
  refine J_sld C S dL_law_602 (by decide) (by decide) ?_
  refine J_callVi C [.int (xs (0 + 1)), .int (xs (0 + 2))] rfl rfl 32 m_equation (gV mlL_X7_equation imX7_equation slX7_equation iniX7 cdX7_equation) rfl dsX7_equation ⟨by decide, by decide⟩ dL_law_603 rfl (Nat.le_of_ble_eq_true rfl) rfl (Nat.le_of_ble_eq_true rfl) (by rw [hn0]; exact Nat.zero_le _) (by omega) (by omega) (fun r pw h hl => ?_)
  clear hl
  obtain ⟨rfl, rfl⟩ := h
  refine J_icmp_eq (tgt := 866) C dL_law_606 (by decide) (fun h606q => ?_) (fun h606q => ?_)
  · exact hEnd _ _ _ _ (by omega) (by omega) (jdrop_of (jdrop_of h0 rfl) rfl) (jdrop_of (jdrop_of h4 rfl) rfl)
  · exact absurd rfl h606q

set_option maxHeartbeats 2000000 in
theorem law_12 (C : jX X cL_law 7 RL (Cond.initialized RL :: gT) vwCl 2048 84000 600002 7302231) (S : jS X b 5 xs) (hn0 : jn0 X = 0) (hnc : nc + 100 ≤ 600002) (hns : ns + 1000 ≤ 7302231) (hEnd : ∀ (lv : Nat → Option Value) (pw : jW) (nc ns : Nat), nc ≤ 600002 → ns ≤ 7302231 → lv 0 = some (.ref 2000) → lv 4 = some (.int (nI 0)) → J X 866 lv [] pw nc ns) {lv : Nat → Option Value} (h0 : lv 0 = some (.ref 2000)) (h1 : lv 1 = some (.ref 0)) (h2 : lv 2 = some (.ref 20)) (h3 : lv 3 = some (.ref 31)) (h4 : lv 4 = some (.int (nI 0))) : J X 611 lv [] (cW tp fm kp N f 0 sq sc 0 pl rk pr rl rh s12 s13 s14 s15 s16 s17 0 lt (mT th z sz sg tk st ss sn 0 0 kt ks kn 0 lr p2 [.inl (.long, 1, .inr (.inl g))])) nc ns := by
  refine J_aload_n (i := 1) C dL_law_611 rfl h1 ?_
  refine J_aload_n (i := 0) C dL_law_612 rfl h0 ?_
  refine J_iload C dL_law_613 h4 ?_
  refine J_iconst (v := nI 1) C dL_law_615 (by decide) ?_
  refine J_iadd C dL_law_616 ?_
  refine J_eqi (nI_add _ _) ?_
  refine J_sld C S dL_law_617 (by decide) (by decide) ?_
  refine J_aload_n (i := 0) C dL_law_618 rfl h0 ?_
  refine J_iload C dL_law_619 h4 ?_
  refine J_iconst (v := nI 2) C dL_law_621 (by decide) ?_
  refine J_iadd C dL_law_622 ?_
  refine J_eqi (nI_add _ _) ?_
  refine J_sld C S dL_law_623 (by decide) (by decide) ?_
  refine J_callVi C [.int (xs (0 + 1)), .int (xs (0 + 2))] rfl rfl 32 c_cut (gV mlL_X6_cut imX6_cut slX6_cut iniX6 cdX6_cut) rfl dsX6_cut ⟨by decide, by decide⟩ dL_law_624 rfl (Nat.le_of_ble_eq_true rfl) rfl (Nat.le_of_ble_eq_true rfl) (by rw [hn0]; exact Nat.zero_le _) (by omega) (by omega) (fun r pw h hl => ?_)
  clear hl
  obtain ⟨rfl, rfl⟩ := h
  refine J_aload_n (i := 2) C dL_law_627 rfl (jdrop_of h2 rfl) ?_
  refine J_aload_n (i := 0) C dL_law_628 rfl (jdrop_of h0 rfl) ?_
  refine J_iload C dL_law_629 (jdrop_of h4 rfl) ?_
  refine J_iconst (v := nI 1) C dL_law_631 (by decide) ?_
  refine J_iadd C dL_law_632 ?_
  refine J_eqi (nI_add _ _) ?_
  refine J_sld C S dL_law_633 (by decide) (by decide) ?_
  refine J_aload_n (i := 0) C dL_law_634 rfl (jdrop_of h0 rfl) ?_
  refine J_iload C dL_law_635 (jdrop_of h4 rfl) ?_
  refine J_iconst (v := nI 2) C dL_law_637 (by decide) ?_
  refine J_iadd C dL_law_638 ?_
  refine J_eqi (nI_add _ _) ?_
  refine J_sld C S dL_law_639 (by decide) (by decide) ?_
  refine J_callVi C [.int (xs (0 + 1)), .int (xs (0 + 2))] rfl rfl 32 m_cut (gV mlL_X7_cut imX7_cut slX7_cut iniX7 cdX7_cut) rfl dsX7_cut ⟨by decide, by decide⟩ dL_law_640 rfl (Nat.le_of_ble_eq_true rfl) rfl (Nat.le_of_ble_eq_true rfl) (by rw [hn0]; exact Nat.zero_le _) (by omega) (by omega) (fun r pw h hl => ?_)
  clear hl
  obtain ⟨rfl, rfl⟩ := h
  refine J_icmp_eq (tgt := 866) C dL_law_643 (by decide) (fun h643q => ?_) (fun h643q => ?_)
  · exact hEnd _ _ _ _ (by omega) (by omega) (jdrop_of (jdrop_of h0 rfl) rfl) (jdrop_of (jdrop_of h4 rfl) rfl)
  · exact absurd rfl h643q

set_option maxHeartbeats 2000000 in
theorem law_13 (C : jX X cL_law 7 RL (Cond.initialized RL :: gT) vwCl 2048 84000 600002 7302231) (S : jS X b 5 xs) (hn0 : jn0 X = 0) (hnc : nc + 100 ≤ 600002) (hns : ns + 1000 ≤ 7302231) (hEnd : ∀ (lv : Nat → Option Value) (pw : jW) (nc ns : Nat), nc ≤ 600002 → ns ≤ 7302231 → lv 0 = some (.ref 2000) → lv 4 = some (.int (nI 0)) → J X 866 lv [] pw nc ns) {lv : Nat → Option Value} (h0 : lv 0 = some (.ref 2000)) (h1 : lv 1 = some (.ref 0)) (h2 : lv 2 = some (.ref 20)) (h3 : lv 3 = some (.ref 31)) (h4 : lv 4 = some (.int (nI 0))) : J X 648 lv [] (cW tp fm kp N f 0 sq sc 0 pl rk pr rl rh s12 s13 s14 s15 s16 s17 0 lt (mT th z sz sg tk st ss sn 0 0 kt ks kn 0 lr p2 [.inl (.long, 1, .inr (.inl g))])) nc ns := by
  refine J_aload_n (i := 1) C dL_law_648 rfl h1 ?_
  refine J_aload_n (i := 0) C dL_law_649 rfl h0 ?_
  refine J_iload C dL_law_650 h4 ?_
  refine J_iconst (v := nI 1) C dL_law_652 (by decide) ?_
  refine J_iadd C dL_law_653 ?_
  refine J_eqi (nI_add _ _) ?_
  refine J_sld C S dL_law_654 (by decide) (by decide) ?_
  refine J_aload_n (i := 0) C dL_law_655 rfl h0 ?_
  refine J_iload C dL_law_656 h4 ?_
  refine J_iconst (v := nI 2) C dL_law_658 (by decide) ?_
  refine J_iadd C dL_law_659 ?_
  refine J_eqi (nI_add _ _) ?_
  refine J_sld C S dL_law_660 (by decide) (by decide) ?_
  refine J_callVi C [.int (xs (0 + 1)), .int (xs (0 + 2))] rfl rfl 32 c_denest (gV mlL_X6_denest imX6_denest slX6_denest iniX6 cdX6_denest) rfl dsX6_denest ⟨by decide, by decide⟩ dL_law_661 rfl (Nat.le_of_ble_eq_true rfl) rfl (Nat.le_of_ble_eq_true rfl) (by rw [hn0]; exact Nat.zero_le _) (by omega) (by omega) (fun r pw h hl => ?_)
  clear hl
  obtain ⟨rfl, rfl⟩ := h
  refine J_aload_n (i := 2) C dL_law_664 rfl (jdrop_of h2 rfl) ?_
  refine J_aload_n (i := 0) C dL_law_665 rfl (jdrop_of h0 rfl) ?_
  refine J_iload C dL_law_666 (jdrop_of h4 rfl) ?_
  refine J_iconst (v := nI 1) C dL_law_668 (by decide) ?_
  refine J_iadd C dL_law_669 ?_
  refine J_eqi (nI_add _ _) ?_
  refine J_sld C S dL_law_670 (by decide) (by decide) ?_
  refine J_aload_n (i := 0) C dL_law_671 rfl (jdrop_of h0 rfl) ?_
  refine J_iload C dL_law_672 (jdrop_of h4 rfl) ?_
  refine J_iconst (v := nI 2) C dL_law_674 (by decide) ?_
  refine J_iadd C dL_law_675 ?_
  refine J_eqi (nI_add _ _) ?_
  refine J_sld C S dL_law_676 (by decide) (by decide) ?_
  refine J_callVi C [.int (xs (0 + 1)), .int (xs (0 + 2))] rfl rfl 32 m_denest (gV mlL_X7_denest imX7_denest slX7_denest iniX7 cdX7_denest) rfl dsX7_denest ⟨by decide, by decide⟩ dL_law_677 rfl (Nat.le_of_ble_eq_true rfl) rfl (Nat.le_of_ble_eq_true rfl) (by rw [hn0]; exact Nat.zero_le _) (by omega) (by omega) (fun r pw h hl => ?_)
  clear hl
  obtain ⟨rfl, rfl⟩ := h
  refine J_icmp_eq (tgt := 866) C dL_law_680 (by decide) (fun h680q => ?_) (fun h680q => ?_)
  · exact hEnd _ _ _ _ (by omega) (by omega) (jdrop_of (jdrop_of h0 rfl) rfl) (jdrop_of (jdrop_of h4 rfl) rfl)
  · exact absurd rfl h680q

set_option maxHeartbeats 2000000 in
theorem law_14 (C : jX X cL_law 7 RL (Cond.initialized RL :: gT) vwCl 2048 84000 600002 7302231) (S : jS X b 5 xs) (hn0 : jn0 X = 0) (hnc : nc + 100 ≤ 600002) (hns : ns + 1000 ≤ 7302231) (hEnd : ∀ (lv : Nat → Option Value) (pw : jW) (nc ns : Nat), nc ≤ 600002 → ns ≤ 7302231 → lv 0 = some (.ref 2000) → lv 4 = some (.int (nI 0)) → J X 866 lv [] pw nc ns) {lv : Nat → Option Value} (h0 : lv 0 = some (.ref 2000)) (h1 : lv 1 = some (.ref 0)) (h2 : lv 2 = some (.ref 20)) (h3 : lv 3 = some (.ref 31)) (h4 : lv 4 = some (.int (nI 0))) : J X 685 lv [] (cW tp fm kp N f 0 sq sc 0 pl rk pr rl rh s12 s13 s14 s15 s16 s17 0 lt (mT th z sz sg tk st ss sn 0 0 kt ks kn 0 lr p2 [.inl (.long, 1, .inr (.inl g))])) nc ns := by
  refine J_aload_n (i := 1) C dL_law_685 rfl h1 ?_
  refine J_aload_n (i := 0) C dL_law_686 rfl h0 ?_
  refine J_iload C dL_law_687 h4 ?_
  refine J_iconst (v := nI 1) C dL_law_689 (by decide) ?_
  refine J_iadd C dL_law_690 ?_
  refine J_eqi (nI_add _ _) ?_
  refine J_sld C S dL_law_691 (by decide) (by decide) ?_
  refine J_callVi C [.int (xs (0 + 1))] rfl rfl 32 c_text (gV mlL_X6_text imX6_text slX6_text iniX6 cdX6_text) rfl dsX6_text ⟨by decide, by decide⟩ dL_law_692 rfl (Nat.le_of_ble_eq_true rfl) rfl (Nat.le_of_ble_eq_true rfl) (by rw [hn0]; exact Nat.zero_le _) (by omega) (by omega) (fun r pw h hl => ?_)
  clear hl
  obtain ⟨rfl, rfl⟩ := h
  refine J_aload_n (i := 2) C dL_law_695 rfl (jdrop_of h2 rfl) ?_
  refine J_aload_n (i := 0) C dL_law_696 rfl (jdrop_of h0 rfl) ?_
  refine J_iload C dL_law_697 (jdrop_of h4 rfl) ?_
  refine J_iconst (v := nI 1) C dL_law_699 (by decide) ?_
  refine J_iadd C dL_law_700 ?_
  refine J_eqi (nI_add _ _) ?_
  refine J_sld C S dL_law_701 (by decide) (by decide) ?_
  refine J_callVi C [.int (xs (0 + 1))] rfl rfl 32 m_text (gV mlL_X7_text imX7_text slX7_text iniX7 cdX7_text) rfl dsX7_text ⟨by decide, by decide⟩ dL_law_702 rfl (Nat.le_of_ble_eq_true rfl) rfl (Nat.le_of_ble_eq_true rfl) (by rw [hn0]; exact Nat.zero_le _) (by omega) (by omega) (fun r pw h hl => ?_)
  clear hl
  obtain ⟨rfl, rfl⟩ := h
  refine J_icmp_eq (tgt := 866) C dL_law_705 (by decide) (fun h705q => ?_) (fun h705q => ?_)
  · exact hEnd _ _ _ _ (by omega) (by omega) (jdrop_of (jdrop_of h0 rfl) rfl) (jdrop_of (jdrop_of h4 rfl) rfl)
  · exact absurd rfl h705q

set_option maxHeartbeats 2000000 in
theorem law_18 (C : jX X cL_law 7 RL (Cond.initialized RL :: gT) vwCl 2048 84000 600002 7302231) (S : jS X b 5 xs) (hn0 : jn0 X = 0) (hnc : nc + 100 ≤ 600002) (hns : ns + 1000 ≤ 7302231) (hEnd : ∀ (lv : Nat → Option Value) (pw : jW) (nc ns : Nat), nc ≤ 600002 → ns ≤ 7302231 → lv 0 = some (.ref 2000) → lv 4 = some (.int (nI 0)) → J X 866 lv [] pw nc ns) {lv : Nat → Option Value} (h0 : lv 0 = some (.ref 2000)) (h1 : lv 1 = some (.ref 0)) (h2 : lv 2 = some (.ref 20)) (h3 : lv 3 = some (.ref 31)) (h4 : lv 4 = some (.int (nI 0))) : J X 828 lv [] (cW tp fm kp N f 0 sq sc 0 pl rk pr rl rh s12 s13 s14 s15 s16 s17 0 lt (mT th z sz sg tk st ss sn 0 0 kt ks kn 0 lr p2 [.inl (.long, 1, .inr (.inl g))])) nc ns := by
  refine J_aload_n (i := 1) C dL_law_828 rfl h1 ?_
  refine J_aload_n (i := 0) C dL_law_829 rfl h0 ?_
  refine J_iload C dL_law_830 h4 ?_
  refine J_iconst (v := nI 1) C dL_law_832 (by decide) ?_
  refine J_iadd C dL_law_833 ?_
  refine J_eqi (nI_add _ _) ?_
  refine J_sld C S dL_law_834 (by decide) (by decide) ?_
  refine J_callVi C [.int (xs (0 + 1))] rfl rfl 32 c_told (gV mlL_X6_told imX6_told slX6_told iniX6 cdX6_told) rfl dsX6_told ⟨by decide, by decide⟩ dL_law_835 rfl (Nat.le_of_ble_eq_true rfl) rfl (Nat.le_of_ble_eq_true rfl) (by rw [hn0]; exact Nat.zero_le _) (by omega) (by omega) (fun r pw h hl => ?_)
  clear hl
  obtain ⟨rfl, rfl⟩ := h
  refine J_aload_n (i := 2) C dL_law_838 rfl (jdrop_of h2 rfl) ?_
  refine J_aload_n (i := 0) C dL_law_839 rfl (jdrop_of h0 rfl) ?_
  refine J_iload C dL_law_840 (jdrop_of h4 rfl) ?_
  refine J_iconst (v := nI 1) C dL_law_842 (by decide) ?_
  refine J_iadd C dL_law_843 ?_
  refine J_eqi (nI_add _ _) ?_
  refine J_sld C S dL_law_844 (by decide) (by decide) ?_
  refine J_callVi C [.int (xs (0 + 1))] rfl rfl 32 m_told (gV mlL_X7_told imX7_told slX7_told iniX7 cdX7_told) rfl dsX7_told ⟨by decide, by decide⟩ dL_law_845 rfl (Nat.le_of_ble_eq_true rfl) rfl (Nat.le_of_ble_eq_true rfl) (by rw [hn0]; exact Nat.zero_le _) (by omega) (by omega) (fun r pw h hl => ?_)
  clear hl
  obtain ⟨rfl, rfl⟩ := h
  refine J_icmp_eq (tgt := 866) C dL_law_848 (by decide) (fun h848q => ?_) (fun h848q => ?_)
  · exact hEnd _ _ _ _ (by omega) (by omega) (jdrop_of (jdrop_of h0 rfl) rfl) (jdrop_of (jdrop_of h4 rfl) rfl)
  · exact absurd rfl h848q

set_option maxHeartbeats 2000000 in
theorem law_16 (C : jX X cL_law 7 RL (Cond.initialized RL :: gT) vwCl 2048 84000 600002 7302231) (S : jS X b 5 xs) (hn0 : jn0 X = 0) (hnc : nc + 100 ≤ 600002) (hns : ns + 1000 ≤ 7302231) (hEnd : ∀ (lv : Nat → Option Value) (pw : jW) (nc ns : Nat), nc ≤ 600002 → ns ≤ 7302231 → lv 0 = some (.ref 2000) → lv 4 = some (.int (nI 0)) → J X 866 lv [] pw nc ns) {lv : Nat → Option Value} (h0 : lv 0 = some (.ref 2000)) (h1 : lv 1 = some (.ref 0)) (h2 : lv 2 = some (.ref 20)) (h3 : lv 3 = some (.ref 31)) (h4 : lv 4 = some (.int (nI 0))) (hN2 : 200 ≤ N) (hN : N < 2 ^ 30) (f0 : f 0 = 0) (f64 : f 64 = nI 2) (f65 : f 65 = nI 1) (k0 : ks 0 = 0) (k1 : ks 1 = 1) (g0 : kn 0 = 0) (g1 : kn 1 = 1) (hk : kt 2500 = 1) : J X 766 lv [] (cW tp fm kp N f 0 sq sc 0 pl rk pr rl rh s12 s13 s14 s15 s16 s17 0 lt (mT th z sz sg tk st ss sn 0 0 kt ks kn 0 lr p2 [.inl (.long, 1, .inr (.inl g))])) nc ns := by
  refine J_aload_n (i := 1) C dL_law_766 rfl h1 ?_
  refine J_aload_n (i := 0) C dL_law_767 rfl h0 ?_
  refine J_iload C dL_law_768 h4 ?_
  refine J_iconst (v := nI 1) C dL_law_770 (by decide) ?_
  refine J_iadd C dL_law_771 ?_
  refine J_eqi (nI_add _ _) ?_
  refine J_sld C S dL_law_772 (by decide) (by decide) ?_
  refine J_callVi C [.int (xs (0 + 1))] rfl rfl 32 (c_result hN2 hN f0 f64 f65) (gV mlL_X6_result imX6_result slX6_result iniX6 cdX6_result) rfl dsX6_result ⟨by decide, by decide⟩ dL_law_773 rfl (Nat.le_of_ble_eq_true rfl) rfl (Nat.le_of_ble_eq_true rfl) (by rw [hn0]; exact Nat.zero_le _) (by omega) (by omega) (fun r pw h hl => ?_)
  clear hl
  obtain ⟨rfl, rfl⟩ := h
  refine J_aload_n (i := 2) C dL_law_776 rfl (jdrop_of h2 rfl) ?_
  refine J_aload_n (i := 0) C dL_law_777 rfl (jdrop_of h0 rfl) ?_
  refine J_iload C dL_law_778 (jdrop_of h4 rfl) ?_
  refine J_iconst (v := nI 1) C dL_law_780 (by decide) ?_
  refine J_iadd C dL_law_781 ?_
  refine J_eqi (nI_add _ _) ?_
  refine J_sld C S dL_law_782 (by decide) (by decide) ?_
  refine J_callVi C [.int (xs (0 + 1))] rfl rfl 32 (m_result k0 k1 g0 g1 hk) (gV mlL_X7_result imX7_result slX7_result iniX7 cdX7_result) rfl dsX7_result ⟨by decide, by decide⟩ dL_law_783 rfl (Nat.le_of_ble_eq_true rfl) rfl (Nat.le_of_ble_eq_true rfl) (by rw [hn0]; exact Nat.zero_le _) (by omega) (by omega) (fun r pw h hl => ?_)
  clear hl
  obtain ⟨rfl, hpw⟩ := h
  refine J_icmp_eq (tgt := 866) C dL_law_786 (by decide) (fun h786q => ?_) (fun h786q => ?_)
  · exact hEnd _ _ _ _ (by omega) (by omega) (jdrop_of (jdrop_of h0 rfl) rfl) (jdrop_of (jdrop_of h4 rfl) rfl)
  · exact absurd rfl h786q

set_option maxHeartbeats 2000000 in
theorem law_17 (C : jX X cL_law 7 RL (Cond.initialized RL :: gT) vwCl 2048 84000 600002 7302231) (S : jS X b 5 xs) (hn0 : jn0 X = 0) (hnc : nc + 100 ≤ 600002) (hns : ns + 1000 ≤ 7302231) (hEnd : ∀ (lv : Nat → Option Value) (pw : jW) (nc ns : Nat), nc ≤ 600002 → ns ≤ 7302231 → lv 0 = some (.ref 2000) → lv 4 = some (.int (nI 0)) → J X 866 lv [] pw nc ns) {lv : Nat → Option Value} (h0 : lv 0 = some (.ref 2000)) (h1 : lv 1 = some (.ref 0)) (h2 : lv 2 = some (.ref 20)) (h3 : lv 3 = some (.ref 31)) (h4 : lv 4 = some (.int (nI 0))) (hN2 : 200 ≤ N) (hN : N < 2 ^ 30) (f0 : f 0 = 0) (f64 : f 64 = nI 2) (f65 : f 65 = nI 1) (k0 : ks 0 = 0) (k1 : ks 1 = 1) (g0 : kn 0 = 0) (g1 : kn 1 = 1) (hk : kt 2500 = 1) : J X 791 lv [] (cW tp fm kp N f 0 sq sc 0 pl rk pr rl rh s12 s13 s14 s15 s16 s17 0 lt (mT th z sz sg tk st ss sn 0 0 kt ks kn 0 lr p2 [.inl (.long, 1, .inr (.inl g))])) nc ns := by
  refine J_aload_n (i := 1) C dL_law_791 rfl h1 ?_
  refine J_aload_n (i := 0) C dL_law_792 rfl h0 ?_
  refine J_iload C dL_law_793 h4 ?_
  refine J_iconst (v := nI 1) C dL_law_795 (by decide) ?_
  refine J_iadd C dL_law_796 ?_
  refine J_eqi (nI_add _ _) ?_
  refine J_sld C S dL_law_797 (by decide) (by decide) ?_
  refine J_aload_n (i := 0) C dL_law_798 rfl h0 ?_
  refine J_iload C dL_law_799 h4 ?_
  refine J_iconst (v := nI 2) C dL_law_801 (by decide) ?_
  refine J_iadd C dL_law_802 ?_
  refine J_eqi (nI_add _ _) ?_
  refine J_sld C S dL_law_803 (by decide) (by decide) ?_
  refine J_callVi C [.int (xs (0 + 1)), .int (xs (0 + 2))] rfl rfl 32 (c_figure hN2 hN f0 f64 f65) (gV mlL_X6_figure imX6_figure slX6_figure iniX6 cdX6_figure) rfl dsX6_figure ⟨by decide, by decide⟩ dL_law_804 rfl (Nat.le_of_ble_eq_true rfl) rfl (Nat.le_of_ble_eq_true rfl) (by rw [hn0]; exact Nat.zero_le _) (by omega) (by omega) (fun r pw h hl => ?_)
  clear hl
  obtain ⟨rfl, rfl⟩ := h
  refine J_aload_n (i := 2) C dL_law_807 rfl (jdrop_of h2 rfl) ?_
  refine J_aload_n (i := 0) C dL_law_808 rfl (jdrop_of h0 rfl) ?_
  refine J_iload C dL_law_809 (jdrop_of h4 rfl) ?_
  refine J_iconst (v := nI 1) C dL_law_811 (by decide) ?_
  refine J_iadd C dL_law_812 ?_
  refine J_eqi (nI_add _ _) ?_
  refine J_sld C S dL_law_813 (by decide) (by decide) ?_
  refine J_aload_n (i := 0) C dL_law_814 rfl (jdrop_of h0 rfl) ?_
  refine J_iload C dL_law_815 (jdrop_of h4 rfl) ?_
  refine J_iconst (v := nI 2) C dL_law_817 (by decide) ?_
  refine J_iadd C dL_law_818 ?_
  refine J_eqi (nI_add _ _) ?_
  refine J_sld C S dL_law_819 (by decide) (by decide) ?_
  refine J_callVi C [.int (xs (0 + 1)), .int (xs (0 + 2))] rfl rfl 32 (m_figure k0 k1 g0 g1 hk) (gV mlL_X7_figure imX7_figure slX7_figure iniX7 cdX7_figure) rfl dsX7_figure ⟨by decide, by decide⟩ dL_law_820 rfl (Nat.le_of_ble_eq_true rfl) rfl (Nat.le_of_ble_eq_true rfl) (by rw [hn0]; exact Nat.zero_le _) (by omega) (by omega) (fun r pw h hl => ?_)
  clear hl
  obtain ⟨rfl, hpw⟩ := h
  refine J_icmp_eq (tgt := 866) C dL_law_823 (by decide) (fun h823q => ?_) (fun h823q => ?_)
  · exact hEnd _ _ _ _ (by omega) (by omega) (jdrop_of (jdrop_of h0 rfl) rfl) (jdrop_of (jdrop_of h4 rfl) rfl)
  · exact absurd rfl h823q

set_option maxHeartbeats 2000000 in
theorem law_19 (C : jX X cL_law 7 RL (Cond.initialized RL :: gT) vwCl 2048 84000 600002 7302231) (S : jS X b 5 xs) (hn0 : jn0 X = 0) (hnc : nc + 100 ≤ 600002) (hns : ns + 1000 ≤ 7302231) (hEnd : ∀ (lv : Nat → Option Value) (pw : jW) (nc ns : Nat), nc ≤ 600002 → ns ≤ 7302231 → lv 0 = some (.ref 2000) → lv 4 = some (.int (nI 0)) → J X 866 lv [] pw nc ns) {lv : Nat → Option Value} (h0 : lv 0 = some (.ref 2000)) (h1 : lv 1 = some (.ref 0)) (h2 : lv 2 = some (.ref 20)) (h3 : lv 3 = some (.ref 31)) (h4 : lv 4 = some (.int (nI 0))) (hN8 : N = 8192) : J X 853 lv [] (cW tp fm kp N f 0 sq sc 0 pl rk pr rl rh s12 s13 s14 s15 s16 s17 0 lt (mT th z sz sg tk st ss sn 0 0 kt ks kn 0 lr p2 [.inl (.long, 1, .inr (.inl g))])) nc ns := by
  subst hN8
  refine J_aload_n (i := 1) C dL_law_853 rfl h1 ?_
  refine J_callVi C [] rfl rfl 32 c_clear (gV mlL_X6_clear imX6_clear slX6_clear iniX6 cdX6_clear) rfl dsX6_clear ⟨by decide, by decide⟩ dL_law_854 rfl (Nat.le_of_ble_eq_true rfl) rfl (Nat.le_of_ble_eq_true rfl) (by rw [hn0]; exact Nat.zero_le _) (by omega) (by omega) (fun r pw h hl => ?_)
  clear hl
  obtain ⟨rfl, tp', f', sc', rl', rh', rfl⟩ := h
  refine J_aload_n (i := 2) C dL_law_857 rfl (jdrop_of h2 rfl) ?_
  refine J_callVi C [] rfl rfl 32 m_clear (gV mlL_X7_clear imX7_clear slX7_clear iniX7 cdX7_clear) rfl dsX7_clear ⟨by decide, by decide⟩ dL_law_858 rfl (Nat.le_of_ble_eq_true rfl) rfl (Nat.le_of_ble_eq_true rfl) (by rw [hn0]; exact Nat.zero_le _) (by omega) (by omega) (fun r pw h hl => ?_)
  clear hl
  obtain ⟨rfl, rfl⟩ := h
  refine J_icmp_eq (tgt := 866) C dL_law_861 (by decide) (fun h861q => ?_) (fun h861q => ?_)
  · exact hEnd _ _ _ _ (by omega) (by omega) (jdrop_of (jdrop_of h0 rfl) rfl) (jdrop_of (jdrop_of h4 rfl) rfl)
  · exact absurd rfl h861q

end LAW

section LB
variable {tp fm kp : Int32} {N : Nat} {f : Nat → Int32} {sq sc : Nat → Int32} {pl rk : Nat → Int32} {pr : Int32} {rl rh : Nat → Int32} {s12 s13 s14 s15 s16 s17 : jE} {lt : Nat → Int32} {th : Int32} {z sz sg : Nat → Int32} {tk : Int32} {st ss sn kt ks kn : Nat → Int32} {lr : Nat → Int32} {p2 : Int32} {g : Nat → Int64}
variable {X : jK} {b : Nat} {xs : Nat → Int32} {nc ns : Nat}
set_option maxHeartbeats 4000000 in
/-- one call, compared -/
theorem law_body (C : jX X cL_law 7 RL (Cond.initialized RL :: gT) vwCl 2048 84000 600002 7302231) (S : jS X b 5 xs) (hn0 : jn0 X = 0) (hnc : nc + 100 ≤ 600002) (hns : ns + 1000 ≤ 7302231) (hEnd : ∀ (lv : Nat → Option Value) (pw : jW) (nc ns : Nat), nc ≤ 600002 → ns ≤ 7302231 → lv 0 = some (.ref 2000) → lv 4 = some (.int (nI 0)) → J X 866 lv [] pw nc ns) {lv : Nat → Option Value} (h0 : lv 0 = some (.ref 2000)) (h1 : lv 1 = some (.ref 0)) (h2 : lv 2 = some (.ref 20)) (h3 : lv 3 = some (.ref 31)) (h4 : lv 4 = some (.int (nI 0))) (TT : jT X) (f0 : f 0 = 0) (f64 : f 64 = nI 2) (f65 : f 65 = nI 1) (k0 : ks 0 = 0) (k1 : ks 1 = 1) (g0 : kn 0 = 0) (g1 : kn 1 = 1) (hk : kt 2500 = 1) {t : Nat} (hN8 : N = 8192) (e1 : tp = nI t) (e2 : fm = nI t) (e3 : kp = nI t) (f128 : f 128 = nI 2) (f129 : f 129 = nI 1) (h130 : 130 ≤ t) (hsc : sc 0 = nI 128) (ht : t + 120 ≤ 8192) : J X 32 lv [] (cW tp fm kp N f 0 sq sc 0 pl rk pr rl rh s12 s13 s14 s15 s16 s17 0 lt (mT th z sz sg tk st ss sn 0 0 kt ks kn 0 lr p2 [.inl (.long, 1, .inr (.inl g))])) nc ns := by
  refine J_aload_n (i := 0) C dL_law_32 rfl h0 ?_
  refine J_iload C dL_law_33 h4 ?_
  refine J_sld C S dL_law_35 (by decide) (by decide) ?_
  refine J_bipush (v := nI 31) C dL_law_36 (by decide) ?_
  refine J_iand C dL_law_38 ?_
  obtain ⟨k, hk5, ek⟩ := pk_andE (xs 0) (m := nI 31) 5 (by decide)
  refine J_eqi ek ?_
  rcases (show k = 0 ∨ k = 1 ∨ k = 2 ∨ k = 3 ∨ k = 4 ∨ k = 5 ∨ k = 6 ∨ k = 7 ∨ k = 8 ∨ k = 9 ∨ k = 10 ∨ k = 11 ∨ k = 12 ∨ k = 13 ∨ k = 14 ∨ k = 15 ∨ k = 16 ∨ k = 17 ∨ k = 18 ∨ k = 19 ∨ 20 ≤ k by omega) with rfl | rfl | rfl | rfl | rfl | rfl | rfl | rfl | rfl | rfl | rfl | rfl | rfl | rfl | rfl | rfl | rfl | rfl | rfl | rfl | hk20
  · refine J_tswIn (off := 93) (tgt := 132) C dL_law_39 (by decide) (by decide) (by decide) (by decide) ?_
    exact law_0 C S hn0 hnc hns hEnd h0 h1 h2 h3 h4 hN8 e1 e2 e3 f128 f129 h130 hsc ht
  · refine J_tswIn (off := 194) (tgt := 233) C dL_law_39 (by decide) (by decide) (by decide) (by decide) ?_
    exact law_1 C S hn0 hnc hns hEnd h0 h1 h2 h3 h4
  · refine J_tswIn (off := 243) (tgt := 282) C dL_law_39 (by decide) (by decide) (by decide) (by decide) ?_
    exact law_2 C S hn0 hnc hns hEnd h0 h1 h2 h3 h4
  · refine J_tswIn (off := 299) (tgt := 338) C dL_law_39 (by decide) (by decide) (by decide) (by decide) ?_
    exact law_3 C S hn0 hnc hns hEnd h0 h1 h2 h3 h4
  · refine J_tswIn (off := 324) (tgt := 363) C dL_law_39 (by decide) (by decide) (by decide) (by decide) ?_
    exact law_4 C S hn0 hnc hns hEnd h0 h1 h2 h3 h4
  · refine J_tswIn (off := 349) (tgt := 388) C dL_law_39 (by decide) (by decide) (by decide) (by decide) ?_
    exact law_5 C S hn0 hnc hns hEnd h0 h1 h2 h3 h4
  · refine J_tswIn (off := 374) (tgt := 413) C dL_law_39 (by decide) (by decide) (by decide) (by decide) ?_
    exact law_6 C S hn0 hnc hns hEnd h0 h1 h2 h3 h4
  · refine J_tswIn (off := 411) (tgt := 450) C dL_law_39 (by decide) (by decide) (by decide) (by decide) ?_
    exact law_7 C S hn0 hnc hns hEnd h0 h1 h2 h3 h4
  · refine J_tswIn (off := 436) (tgt := 475) C dL_law_39 (by decide) (by decide) (by decide) (by decide) ?_
    exact law_8 C S hn0 hnc hns hEnd h0 h1 h2 h3 h4
  · refine J_tswIn (off := 473) (tgt := 512) C dL_law_39 (by decide) (by decide) (by decide) (by decide) ?_
    exact law_9 C S hn0 hnc hns hEnd h0 h1 h2 h3 h4
  · refine J_tswIn (off := 510) (tgt := 549) C dL_law_39 (by decide) (by decide) (by decide) (by decide) ?_
    exact law_10 C S hn0 hnc hns hEnd h0 h1 h2 h3 h4
  · refine J_tswIn (off := 535) (tgt := 574) C dL_law_39 (by decide) (by decide) (by decide) (by decide) ?_
    exact law_11 C S hn0 hnc hns hEnd h0 h1 h2 h3 h4
  · refine J_tswIn (off := 572) (tgt := 611) C dL_law_39 (by decide) (by decide) (by decide) (by decide) ?_
    exact law_12 C S hn0 hnc hns hEnd h0 h1 h2 h3 h4
  · refine J_tswIn (off := 609) (tgt := 648) C dL_law_39 (by decide) (by decide) (by decide) (by decide) ?_
    exact law_13 C S hn0 hnc hns hEnd h0 h1 h2 h3 h4
  · refine J_tswIn (off := 646) (tgt := 685) C dL_law_39 (by decide) (by decide) (by decide) (by decide) ?_
    exact law_14 C S hn0 hnc hns hEnd h0 h1 h2 h3 h4
  · refine J_tswIn (off := 671) (tgt := 710) C dL_law_39 (by decide) (by decide) (by decide) (by decide) ?_
    exact law_15 C S hn0 hnc hns hEnd h0 h1 h2 h3 h4 TT
  · refine J_tswIn (off := 727) (tgt := 766) C dL_law_39 (by decide) (by decide) (by decide) (by decide) ?_
    exact law_16 C S hn0 hnc hns hEnd h0 h1 h2 h3 h4 (by omega) (by omega) f0 f64 f65 k0 k1 g0 g1 hk
  · refine J_tswIn (off := 752) (tgt := 791) C dL_law_39 (by decide) (by decide) (by decide) (by decide) ?_
    exact law_17 C S hn0 hnc hns hEnd h0 h1 h2 h3 h4 (by omega) (by omega) f0 f64 f65 k0 k1 g0 g1 hk
  · refine J_tswIn (off := 789) (tgt := 828) C dL_law_39 (by decide) (by decide) (by decide) (by decide) ?_
    exact law_18 C S hn0 hnc hns hEnd h0 h1 h2 h3 h4
  · refine J_tswIn (off := 814) (tgt := 853) C dL_law_39 (by decide) (by decide) (by decide) (by decide) ?_
    exact law_19 C S hn0 hnc hns hEnd h0 h1 h2 h3 h4 hN8
  · refine J_tswOut (tgt := 866) C dL_law_39 (Or.inr ?_) (by decide) ?_
    · rw [nI_toInt (by omega)]; omega
    · exact hEnd _ _ _ _ (by omega) (by omega) h0 h4
end LB
set_option maxHeartbeats 8000000 in
set_option maxRecDepth 20000 in
/-- THE LAW, from its entry -/
theorem whole_start {p : Program} {e : Env} {s : State} {m : MethodId} {below : List Frame} {meth : Method} {c : Code} (l : Launch) (hlt : l.stackTraces = false) {b L : Nat} {xs : Nat → Int32} (hL : L ≤ 5) (C0 : lw_At p s m meth c b L xs) : W p l e room_1 s m #[Value.ref b] below meth c s.heap [] 0 0 (lw_Z below #[Value.ref b] s) (entryFrame m ([Value.ref b] : List Value).toArray 7) := by
  obtain ⟨hx, hb, hr, hml, hown, hts, hX0, hbl, hlocks, hgv⟩ := id C0
  obtain ⟨D, ty, hK⟩ := st_K hts
  obtain ⟨t, z1, z2⟩ := st_Z hts hgv
  obtain ⟨w1, w2⟩ := st_T hts hgv
  have hJ : ∀ (ad0 : Nat → Nat) (X : jK), ad0 1000 = t → ad0 2000 = b → X = ((p, l, e, room_1, s), (m, #[Value.ref b], below, meth, c), (7, D, vwCl, ty), (fun q => s.heap.size ≤ q, ad0, 0, lw_Z below #[Value.ref b] s)) → J X 0 (jent [.ref 2000]) [] [] 0 0 := by
    intro ad0 X hd1 hd2 hXe
    have C : jX X cL_law 7 RL (Cond.initialized RL :: gT) vwCl 2048 84000 600002 7302231 := by
      rw [hXe]
      refine ⟨⟨hx, hb, hml, hown, fun w hw => ?_⟩, hK, fun q h => h, ⟨by rw [hd1]; exact z1, by rw [hd1]; exact z2⟩, rfl, rfl, rfl, rfl, rfl, rfl⟩
      rcases List.mem_cons.mp hw with e9 | h9
      · rw [e9]; exact hts _ (gT_tbl iniL)
      · exact hts _ (gT_tbl h9)
    have S : jS X b L xs := by
      rw [hXe]
      exact ⟨hX0, hbl, Nat.not_le.mpr hbl, hd2⟩
    have TT : jT X := by
      rw [hXe]
      exact ⟨hlt, w1, w2⟩
    have hn0 : jn0 X = 0 := by rw [hXe]; rfl
    have hn1 : ∀ n : Nat, jn0 X ≤ n := fun n => by rw [hn0]; exact Nat.zero_le n
    have hR : ∀ (lv : Nat → Option Value) (pw : jW) (nc ns : Nat), nc ≤ 600002 → ns ≤ 7302231 → J X 872 lv [] pw nc ns := by
      intro lv pw nc ns h1 h2
      refine J_iconst (v := 1) C dL_law_872 (by decide) ?_
      rw [hXe]
      exact J_lend hx hb hr hlocks dL_law_873 h1 h2
    have hB : ∀ (lv : Nat → Option Value) (nc ns : Nat), nc + 100 ≤ 600002 → ns + 1000 ≤ 7302231 → lv 0 = some (.ref 2000) → lv 1 = some (.ref 0) → lv 2 = some (.ref 20) → lv 3 = some (.ref 31) → lv 4 = some (.int (nI 0)) → J X 23 lv [] (cW (nI (bgT (rsF (fun _ => 0)) 130)) (nI (bgT (rsF (fun _ => 0)) 130)) (nI (bgT (rsF (fun _ => 0)) 130)) 8192 (bgF (rsF (fun _ => 0)) 130) 0 (fun _ => 0) (upd (fun _ => 0) 0 128) 0 (fun _ => 0) (fun _ => 0) 4 (upd (fun _ => 0) 0 (nI 130)) (upd (fun _ => 0) 0 (nI 130)) (kSp 13 14) (kz 16) (kz 16) kLe (kz 17) (kz 17) 0 (fun _ => 0) (mT 0 (upd z0 2500 1) (upd (upd z0 0 0) 1 1) (upd (upd z0 0 0) 1 1) 2 z0 z0 z0 0 0 (upd z0 2500 1) (upd (upd z0 0 0) 1 1) (upd (upd z0 0 0) 1 1) 0 z0 0 [.inl (.long, 1, .inr (.inl (fun _ => 0)))])) nc ns := by
      intro lv nc ns hnc hns h0 h1 h2 h3 h4
      rcases Nat.lt_or_ge L 5 with hl5 | hl5
      · refine J_iload C dL_law_23 h4 ?_
        refine J_aload_n (i := 0) C dL_law_25 rfl h0 ?_
        refine J_slen C S dL_law_26 ?_
        refine J_iconst (v := nI 5) C dL_law_27 (by decide) ?_
        refine J_isub C dL_law_28 ?_
        refine J_icmp_gt (tgt := 872) C dL_law_29 (by decide) (fun h29q => ?_) (fun h29q => ?_)
        · exact hR _ _ _ _ (by omega) (by omega)
        · exact absurd (pk_sneg (by decide) hl5) h29q
      · have hL5 : L = 5 := by omega
        subst hL5
        have hEnd : ∀ (lv : Nat → Option Value) (pw : jW) (nc ns : Nat), nc ≤ 600002 → ns ≤ 7302231 → lv 0 = some (.ref 2000) → lv 4 = some (.int (nI 0)) → J X 866 lv [] pw nc ns := by
          intro lv pw nc ns h1 h2 h0 h4
          refine J_iinc C dL_law_866 h4 (show nI 0 + Int32.ofInt 5 = nI 5 by decide) ?_
          refine J_goto (tgt := 23) C dL_law_869 (by decide) ?_
          refine J_iload C dL_law_23 js1_at ?_
          refine J_aload_n (i := 0) C dL_law_25 rfl (js1_ref h0 (by decide)) ?_
          refine J_slen C S dL_law_26 ?_
          refine J_iconst (v := nI 5) C dL_law_27 (by decide) ?_
          refine J_isub C dL_law_28 ?_
          refine J_eqi (pk_sub (by omega)) ?_
          refine J_icmp_gt (tgt := 872) C dL_law_29 (by decide) (fun h29q => have h29 := (nI_ltI (by omega) (by omega)).mp h29q; ?_) (fun h29q => have h29 := (not_congr (nI_ltI (by omega) (by omega))).mp h29q; ?_)
          · exact hR _ _ _ _ h1 h2
          · exact absurd (by decide) h29
        obtain ⟨f0, f64, f65, f128, f129, fT⟩ := rs_facts (fun _ => 0)
        have bt := bg_t (rsF (fun _ => 0))
        refine J_iload C dL_law_23 h4 ?_
        refine J_aload_n (i := 0) C dL_law_25 rfl h0 ?_
        refine J_slen C S dL_law_26 ?_
        refine J_iconst (v := nI 5) C dL_law_27 (by decide) ?_
        refine J_isub C dL_law_28 ?_
        refine J_eqi (pk_sub (by omega)) ?_
        refine J_icmp_gt (tgt := 872) C dL_law_29 (by decide) (fun h29q => have h29 := (nI_ltI (by omega) (by omega)).mp h29q; ?_) (fun h29q => have h29 := (not_congr (nI_ltI (by omega) (by omega))).mp h29q; ?_)
        · exact absurd h29 (by decide)
        · exact law_body C S hn0 hnc hns hEnd h0 h1 h2 h3 h4 TT (by rw [bg_lo (by decide)]; exact f0) (by rw [bg_lo (by decide)]; exact f64) (by rw [bg_lo (by decide)]; exact f65) rfl rfl rfl rfl rfl rfl rfl rfl rfl (by rw [bg_lo (by decide)]; exact f128) (by rw [bg_lo (by decide)]; exact f129) bt.1 rfl (by omega)
    refine J_new (ci := 9) (fs := [.null, .null, .null, .null, .null]) C tyX6 tyX6_ok dL_law_0 (inT inX6) rfl (gc klL_X6) (gc istX6) (gc iniX6) (fun _ j hj => by rcases (show j = 0 ∨ j = 1 ∨ j = 2 ∨ j = 3 ∨ j = 4 by omega) with rfl | rfl | rfl | rfl | rfl <;> rfl) rfl rfl rfl (hn1 _) (Nat.le_of_ble_eq_true rfl) (Nat.le_of_ble_eq_true rfl) (Nat.le_of_ble_eq_true rfl) ?_
    refine J_dup C dL_law_3 rfl ?_
    refine J_callIn C [] 1 c_X6_init (gI cdX6_init) (gc iniX6) (gc mlL_X6_init) (gc imX6_init) rfl rfl dsX6_init.2 ⟨by decide, by decide⟩ dL_law_4 rfl (Nat.le_of_ble_eq_true rfl) rfl (Nat.le_of_ble_eq_true rfl) (hn1 _) (Nat.le_of_ble_eq_true rfl) (Nat.le_of_ble_eq_true rfl) (fun pw h hl => ?_)
    subst h
    clear hl
    refine J_astore_n (i := 1) C dL_law_7 rfl (by decide) ?_
    refine J_new (ci := 10) (fs := [.int 0, .null, .null, .null, .int 0, .null, .null, .null, .int 0, .int 0, .null, .null, .null, .int 0, .null, .int 0]) C tyX7 tyX7_ok dL_law_8 (inT inX7) rfl (gc klL_X7) (gc istX7) (gc iniX7) (fun _ j hj => by rcases (show j = 0 ∨ j = 1 ∨ j = 2 ∨ j = 3 ∨ j = 4 ∨ j = 5 ∨ j = 6 ∨ j = 7 ∨ j = 8 ∨ j = 9 ∨ j = 10 ∨ j = 11 ∨ j = 12 ∨ j = 13 ∨ j = 14 ∨ j = 15 by omega) with rfl | rfl | rfl | rfl | rfl | rfl | rfl | rfl | rfl | rfl | rfl | rfl | rfl | rfl | rfl | rfl <;> rfl) rfl rfl rfl (hn1 _) (Nat.le_of_ble_eq_true rfl) (Nat.le_of_ble_eq_true rfl) (Nat.le_of_ble_eq_true rfl) ?_
    refine J_dup C dL_law_11 rfl ?_
    refine J_eqw (pw' := cW (nI (bgT (rsF (fun _ => 0)) 130)) (nI (bgT (rsF (fun _ => 0)) 130)) (nI (bgT (rsF (fun _ => 0)) 130)) 8192 (bgF (rsF (fun _ => 0)) 130) 0 (fun _ => 0) (upd (fun _ => 0) 0 128) 0 (fun _ => 0) (fun _ => 0) 4 (upd (fun _ => 0) 0 (nI 130)) (upd (fun _ => 0) 0 (nI 130)) (kSp 13 14) (kz 16) (kz 16) kLe (kz 17) (kz 17) 0 (fun _ => 0) [.inr (10, [.int 0, .null, .null, .null, .int 0, .null, .null, .null, .int 0, .int 0, .null, .null, .null, .int 0, .null, .int 0])]) rfl ?_
    refine J_callIn C [] 21 m_init (gI cdX7_init) (gc iniX7) (gc mlL_X7_init) (gc imX7_init) rfl rfl dsX7_init.2 ⟨by decide, by decide⟩ dL_law_12 rfl (Nat.le_of_ble_eq_true rfl) rfl (Nat.le_of_ble_eq_true rfl) (hn1 _) (Nat.le_of_ble_eq_true rfl) (Nat.le_of_ble_eq_true rfl) (fun pw h hl => ?_)
    subst h
    clear hl
    refine J_astore_n (i := 2) C dL_law_15 rfl (by decide) ?_
    refine J_iconst (v := 1) C dL_law_16 (by decide) ?_
    refine J_newa (n := 1) (a0 := (1, .inr (.inl (fun _ => 0)))) C .long 1 dL_law_17 rfl (fun _ => rfl) (fun _ _ => rfl) (gc arr_long) (fun _ => rfl) rfl rfl (by decide) (by decide) rfl rfl (hn1 _) (Nat.le_of_ble_eq_true rfl) (Nat.le_of_ble_eq_true rfl) (Nat.le_of_ble_eq_true rfl) ?_
    refine J_astore_n (i := 3) C dL_law_19 rfl (by decide) ?_
    refine J_iconst (v := nI 0) C dL_law_20 (by decide) ?_
    refine J_istore C dL_law_21 (by decide) ?_
    exact hB _ _ _ (by decide) (by decide) rfl rfl rfl rfl rfl
  have ed : ∀ n, (fun i : Nat => if i = 1000 then t else if i = 2000 then b else n) 2000 = b := fun n => by
    show (if 2000 = 1000 then t else if 2000 = 2000 then b else n) = b
    rw [if_neg (by decide), if_pos rfl]
  have K := hJ (fun i => if i = 1000 then t else if i = 2000 then b else 0) _ (if_pos rfl) (ed 0) rfl
  have hl2 := lv_entry (([.ref 2000] : List Value).map (jv (fun i => if i = 1000 then t else if i = 2000 then b else 0))) (n := 7) (Nat.le_of_ble_eq_true rfl)
  have e1 : ([Value.ref b] : List Value) = ([.ref 2000] : List Value).map (jv (fun i => if i = 1000 then t else if i = 2000 then b else 0)) := by
    show [Value.ref b] = [Value.ref ((fun i : Nat => if i = 1000 then t else if i = 2000 then b else 0) 2000)]
    rw [ed 0]
  rw [lg_entry_eq, e1]
  generalize (lg_sl (([.ref 2000] : List Value).map (jv (fun i => if i = 1000 then t else if i = 2000 then b else 0))) ++ List.replicate (7 - (lg_sl (([.ref 2000] : List Value).map (jv (fun i => if i = 1000 then t else if i = 2000 then b else 0)))).length) Slot.unset).toArray = ls at hl2 ⊢
  exact K (fun i => if i = 1000 then t else if i = 2000 then b else 0) s.heap [] ls (fun _ _ => rfl) (fun k q h => by simp [jr] at h) ⟨fun i j p q h => by simp [jr] at h, fun k q h => by simp [jr] at h⟩ va_S.rf (jent_L hl2)

section ML
variable {c0 c1 c2 c3 c4 c5 c6 c7 c8 c9 c10 c11 c12 c13 c14 c15 c16 c17 c18 c19 : jE} {th : Int32} {z sz sg : Nat → Int32} {tk : Int32} {st ss sn : Nat → Int32} {el ro : Int32} {kt ks kn : Nat → Int32} {le : Int32} {lr : Nat → Int32} {pl : Int32} {rest : jW}
set_option maxHeartbeats 1000000 in
theorem m_least {pw : jW} {a b : Nat} (ha : a < 2 ^ 31) (hb : b < 2 ^ 31) : jI vwCl yX7_least (wc yX7_least cX7_least 2 (some .int)) 0 0 [.int (nI a), .int (nI b)] pw 0 0 (fun r pw' => r = nI (min a b) ∧ pw' = pw) := by
  refine jI_of (cc := cX7_least) (nL := 2) .int (by decide) rfl (Nat.le_of_ble_eq_true rfl) (fun _ _ _ => rfl) ?_
  intro X C hX hR
  refine J_iload_n (i := 0) C dX7_least_0 rfl rfl ?_
  refine J_iload_n (i := 1) C dX7_least_1 rfl rfl ?_
  refine J_icmp_ge (tgt := 9) C dX7_least_2 (by decide) (fun h2q => have h2 := (nI_leI (by omega) (by omega)).mp h2q; ?_) (fun h2q => have h2 := (not_congr (nI_leI (by omega) (by omega))).mp h2q; ?_)
  · refine J_iload_n (i := 1) C dX7_least_9 rfl rfl ?_
    refine hR _ _ _ _ _ _ dX7_least_10 ⟨congrArg nI (by omega),rfl⟩ (Nat.le_of_eq hX) (Nat.le_refl _) (Nat.le_refl _)
  · refine J_iload_n (i := 0) C dX7_least_5 rfl rfl ?_
    refine J_goto (tgt := 10) C dX7_least_6 (by decide) ?_
    refine hR _ _ _ _ _ _ dX7_least_10 ⟨congrArg nI (by omega),rfl⟩ (Nat.le_of_eq hX) (Nat.le_refl _) (Nat.le_refl _)
set_option maxHeartbeats 8000000 in
/-- common(a, b, to), b not 0 -/
theorem m_common {a b to t n m : Nat} (na : nm z sz a n) (nb : nm z sz b m) (hm : 0 < m) (hat : a < t) (hbt : b < t) (hto : to < t) (ht : t + 4 < 499) :
    jN vwCl yX7_common (wc yX7_common cX7_common 9 none) 2 120 [.ref 20, .int (nI a), .int (nI b), .int (nI to)] (mW c0 c1 c2 c3 c4 c5 c6 c7 c8 c9 c10 c11 c12 c13 c14 c15 c16 c17 c18 c19 th z sz sg (nI t) st ss sn el ro kt ks kn le lr pl rest) 0 0 (fun pw => ∃ (z' s' g' : Nat → Int32) (k : Nat), pw = (mW c0 c1 c2 c3 c4 c5 c6 c7 c8 c9 c10 c11 c12 c13 c14 c15 c16 c17 c18 c19 th z' s' g' (nI t) st ss sn el ro kt ks kn le lr pl rest) ∧ nm z' s' to k ∧ 0 < k ∧ fR z sz z' s' (fun c => c = to ∨ (t ≤ c ∧ c ≤ t + 4))) := by
  refine jN_of (cc := cX7_common) (nL := 9) (by decide) rfl (Nat.le_of_ble_eq_true rfl) ?_
  intro X C hX hR
  -- the end
  have hE : ∀ (x y r nx : Nat) (zz ss' gg : Nat → Int32) (lv : Nat → Option Value), nm zz ss' x nx → 0 < nx → fR z sz zz ss' (fun c => c = to ∨ (t ≤ c ∧ c ≤ t + 4)) → t ≤ x → x ≤ t + 3 → min (min x y) (min (t + 2) r) = t → y < 2 ^ 30 → r < 2 ^ 30 → lv 0 = some (.ref 20) → lv 3 = some (.int (nI to)) → lv 4 = some (.int (nI x)) → lv 5 = some (.int (nI y)) → lv 6 = some (.int (nI (t + 2))) → lv 7 = some (.int (nI r)) → J X 80 lv [] (mW c0 c1 c2 c3 c4 c5 c6 c7 c8 c9 c10 c11 c12 c13 c14 c15 c16 c17 c18 c19 th zz ss' gg (nI (t + 4)) st ss sn el ro kt ks kn le lr pl rest) 0 0 := by
    intro x y r nx zz ss' gg lv hn hn0 hf hx1 hx2 hmin hy hr h0 h3 h4 h5 h6 h7
    obtain ⟨n1, n2, n3, n4⟩ := hn
    have hn : nm zz ss' x nx := ⟨n1, n2, n3, n4⟩
    refine J_aload_n (i := 0) C dX7_common_80 rfl h0 ?_
    refine J_iload C dX7_common_81 h4 ?_
    refine J_iload_n (i := 3) C dX7_common_83 rfl h3 ?_
    refine J_callVn C [.int (nI x), .int (nI to)] rfl rfl 31 (m_copy (by omega) (by omega) (by omega) n1 (by omega)) (gV mlX7_X7_copy imX7_copy slX7_copy iniX7 cdX7_copy) rfl dsX7_copy ⟨by decide, by decide⟩ dX7_common_84 rfl (Nat.le_of_ble_eq_true rfl) rfl (Nat.le_of_ble_eq_true rfl) (Nat.le_of_eq hX) (Nat.le_of_ble_eq_true rfl) (Nat.le_of_ble_eq_true rfl) (fun pw h hl => ?_)
    obtain ⟨z1, g1, rfl, d1, d2⟩ := h
    obtain ⟨d3, d4⟩ := nm_copy hn d1
    have k1 : upd ss' to (nI nx) to = nI nx := pk_us
    have hF : ∀ (yy : Int32) (lv : Nat → Option Value), lv 0 = some (.ref 20) → lv 4 = some (.int (nI x)) → lv 5 = some (.int (nI y)) → lv 6 = some (.int (nI (t + 2))) → lv 7 = some (.int (nI r)) → J X 106 lv [.int yy, .int (nI to), .ref 23] (mW c0 c1 c2 c3 c4 c5 c6 c7 c8 c9 c10 c11 c12 c13 c14 c15 c16 c17 c18 c19 th z1 (upd ss' to (nI nx)) g1 (nI (t + 4)) st ss sn el ro kt ks kn le lr pl rest) 0 0 := by
      intro yy lv h0 h4 h5 h6 h7
      refine J_st23 C dX7_common_106 (by omega) ?_
      refine J_aload_n (i := 0) C dX7_common_107 rfl h0 ?_
      refine J_iload C dX7_common_108 h4 ?_
      refine J_iload C dX7_common_110 h5 ?_
      refine J_callSi C [.int (nI x), .int (nI y)] 31 (m_least (by omega) (by omega)) (gSt mlX7_X7_least stX7_least iniX7 cdX7_least) rfl dsX7_least ⟨by decide, by decide⟩ dX7_common_112 rfl (Nat.le_of_ble_eq_true rfl) rfl (Nat.le_of_ble_eq_true rfl) (Nat.le_of_eq hX) (Nat.le_of_ble_eq_true rfl) (Nat.le_of_ble_eq_true rfl) (fun r pw h hl => ?_)
      obtain ⟨rfl, rfl⟩ := h
      refine J_iload C dX7_common_115 (jdrop_of h6 rfl) ?_
      refine J_iload C dX7_common_117 (jdrop_of h7 rfl) ?_
      refine J_callSi C [.int (nI (t + 2)), .int (nI r)] 31 (m_least (by omega) (by omega)) (gSt mlX7_X7_least stX7_least iniX7 cdX7_least) rfl dsX7_least ⟨by decide, by decide⟩ dX7_common_119 rfl (Nat.le_of_ble_eq_true rfl) rfl (Nat.le_of_ble_eq_true rfl) (Nat.le_of_eq hX) (Nat.le_of_ble_eq_true rfl) (Nat.le_of_ble_eq_true rfl) (fun r pw h hl => ?_)
      obtain ⟨rfl, rfl⟩ := h
      refine J_callSi C [.int (nI (min x y)), .int (nI (min (t + 2) r))] 31 (m_least (by omega) (by omega)) (gSt mlX7_X7_least stX7_least iniX7 cdX7_least) rfl dsX7_least ⟨by decide, by decide⟩ dX7_common_122 rfl (Nat.le_of_ble_eq_true rfl) rfl (Nat.le_of_ble_eq_true rfl) (Nat.le_of_eq hX) (Nat.le_of_ble_eq_true rfl) (Nat.le_of_ble_eq_true rfl) (fun r pw h hl => ?_)
      obtain ⟨rfl, rfl⟩ := h
      rw [hmin]
      refine J_put (ci := 10) C 4 tyX7 tyX7_ok nmX7 dX7_common_125 (inT inX7) rfl (gc flX7_X7_taken) (by decide) rfl (tyX7_ok 4 (by decide)) (fun _ => rfl) (fun _ => rfl) rfl (Nat.le_of_ble_eq_true rfl) ?_
      refine hR _ _ _ _ _ dX7_common_128 ⟨z1,_,_,nx,rfl,d3,hn0,?_⟩ (Nat.le_of_eq hX) (Nat.le_refl _) (Nat.le_refl _)
      exact fR_trans hf (fR_copy d2) (fun c w => w) (fun c w => Or.inl w)
    refine J_aload_n (i := 0) C dX7_common_87 rfl (jdrop_of h0 rfl) ?_
    refine J_get (ci := 10) (k := 3) C dX7_common_88 (inT inX7) rfl (gc flX7_X7_sign) (by decide) rfl rfl ?_
    refine J_iload_n (i := 3) C dX7_common_91 rfl (jdrop_of h3 rfl) ?_
    refine J_aload_n (i := 0) C dX7_common_92 rfl (jdrop_of h0 rfl) ?_
    refine J_get (ci := 10) (k := 2) C dX7_common_93 (inT inX7) rfl (gc flX7_X7_size) (by decide) rfl rfl ?_
    refine J_iload_n (i := 3) C dX7_common_96 rfl (jdrop_of h3 rfl) ?_
    refine J_ialdN C dX7_common_97 rfl (by omega) (by omega) k1 ?_
    refine J_if_ne (tgt := 105) C dX7_common_98 (by decide) (fun h98q => have h98 := (not_congr (nI_z (by omega))).mp h98q; ?_) (fun h98q => have h98 := (nI_z (by omega)).mp h98q; ?_)
    · refine J_iconst (v := nI 1) C dX7_common_105 (by decide) ?_
      exact hF (nI 1) _ (jdrop_of h0 rfl) (jdrop_of h4 rfl) (jdrop_of h5 rfl) (jdrop_of h6 rfl) (jdrop_of h7 rfl)
    · refine J_iconst (v := nI 0) C dX7_common_101 (by decide) ?_
      refine J_goto (tgt := 106) C dX7_common_102 (by decide) ?_
      exact hF (nI 0) _ (jdrop_of h0 rfl) (jdrop_of h4 rfl) (jdrop_of h5 rfl) (jdrop_of h6 rfl) (jdrop_of h7 rfl)
  -- the loop
  have hL : ∀ (V x y r nx ny : Nat) (zz ss' gg : Nat → Int32) (lv : Nat → Option Value), vN zz (2500 * y) ny ≤ V → nm zz ss' x nx → nm zz ss' y ny → 0 < nx ∨ 0 < ny → fR z sz zz ss' (fun c => c = to ∨ (t ≤ c ∧ c ≤ t + 4)) → t ≤ x → t ≤ y → t ≤ r → x ≤ t + 3 → y ≤ t + 3 → r ≤ t + 3 → x ≠ y → x ≠ r → y ≠ r → x ≠ t + 2 → y ≠ t + 2 → r ≠ t + 2 → lv 0 = some (.ref 20) → lv 3 = some (.int (nI to)) → lv 4 = some (.int (nI x)) → lv 5 = some (.int (nI y)) → lv 6 = some (.int (nI (t + 2))) → lv 7 = some (.int (nI r)) → J X 39 lv [] (mW c0 c1 c2 c3 c4 c5 c6 c7 c8 c9 c10 c11 c12 c13 c14 c15 c16 c17 c18 c19 th zz ss' gg (nI (t + 4)) st ss sn el ro kt ks kn le lr pl rest) 0 0 := by
    intro V
    induction V with
    | zero =>
      intro x y r nx ny zz ss' gg lv hV hnx hny hpos hf hx hy hr hx3 hy3 hr3 e1 e2 e3 e4 e5 e6 h0 h3 h4 h5 h6 h7
      have n1 := hny.1
      have n2 := hny.2.1
      have hny0 : ny = 0 := by
        rcases Nat.eq_zero_or_pos ny with w | w
        · exact w
        · have w1 := nm_pos hny w
          have w2 : 0 < 1000000000 ^ (ny - 1) := Nat.pow_pos (by decide)
          omega
      refine J_aload_n (i := 0) C dX7_common_39 rfl h0 ?_
      refine J_get (ci := 10) (k := 2) C dX7_common_40 (inT inX7) rfl (gc flX7_X7_size) (by decide) rfl rfl ?_
      refine J_iload C dX7_common_43 h5 ?_
      refine J_ialdN C dX7_common_45 rfl (by omega) (by omega) n1 ?_
      refine J_if_le (tgt := 80) C dX7_common_46 (by decide) (fun h46q => have h46 := (nI_le0 (by omega)).mp h46q; ?_) (fun h46q => have h46 := (not_congr (nI_le0 (by omega))).mp h46q; ?_)
      · exact hE x y r nx zz ss' gg lv hnx (by omega) hf hx hx3 (by omega) (by omega) (by omega) h0 h3 h4 h5 h6 h7
      · exact absurd hny0 h46
    | succ V ih =>
      intro x y r nx ny zz ss' gg lv hV hnx hny hpos hf hx hy hr hx3 hy3 hr3 e1 e2 e3 e4 e5 e6 h0 h3 h4 h5 h6 h7
      have n1 := hny.1
      have n2 := hny.2.1
      refine J_aload_n (i := 0) C dX7_common_39 rfl h0 ?_
      refine J_get (ci := 10) (k := 2) C dX7_common_40 (inT inX7) rfl (gc flX7_X7_size) (by decide) rfl rfl ?_
      refine J_iload C dX7_common_43 h5 ?_
      refine J_ialdN C dX7_common_45 rfl (by omega) (by omega) n1 ?_
      refine J_if_le (tgt := 80) C dX7_common_46 (by decide) (fun h46q => have h46 := (nI_le0 (by omega)).mp h46q; ?_) (fun h46q => have h46 := (not_congr (nI_le0 (by omega))).mp h46q; ?_)
      · exact hE x y r nx zz ss' gg lv hnx (by omega) hf hx hx3 (by omega) (by omega) (by omega) h0 h3 h4 h5 h6 h7
      · refine J_aload_n (i := 0) C dX7_common_49 rfl h0 ?_
        refine J_iload C dX7_common_50 h4 ?_
        refine J_iload C dX7_common_52 h5 ?_
        refine J_iload C dX7_common_54 h6 ?_
        refine J_iload C dX7_common_56 h7 ?_
        refine J_callVn C [.int (nI x), .int (nI y), .int (nI (t + 2)), .int (nI r)] rfl rfl 31 (m_divideSizes (t := t + 4) hnx hny (by omega) e4 e2 e5 e3 (by omega) (by omega) (by omega) (by omega) (by omega) (by omega)) (gV mlX7_X7_divideSizes imX7_divideSizes slX7_divideSizes iniX7 cdX7_divideSizes) rfl dsX7_divideSizes ⟨by decide, by decide⟩ dX7_common_58 rfl (Nat.le_of_ble_eq_true rfl) rfl (Nat.le_of_ble_eq_true rfl) (Nat.le_of_eq hX) (Nat.le_of_ble_eq_true rfl) (Nat.le_of_ble_eq_true rfl) (fun pw h hl => ?_)
        obtain ⟨z1, s1, g1, n', nq, rfl, d1, d2, d3, d4, d5⟩ := h
        refine J_iload C dX7_common_61 (jdrop_of h4 rfl) ?_
        refine J_istore C dX7_common_63 (by decide) ?_
        refine J_iload C dX7_common_65 (js1_int (jdrop_of h5 rfl) (by decide)) ?_
        refine J_istore C dX7_common_67 (by decide) ?_
        refine J_iload C dX7_common_69 (js1_int (js1_int (jdrop_of h7 rfl) (by decide)) (by decide)) ?_
        refine J_istore C dX7_common_71 (by decide) ?_
        refine J_iload C dX7_common_73 (js1_int (js1_int js1_at (by decide)) (by decide)) ?_
        refine J_istore C dX7_common_75 (by decide) ?_
        refine J_goto (tgt := 39) C dX7_common_77 (by decide) ?_
        obtain ⟨d6, d7⟩ := nm_fR hny d5 (by omega)
        exact ih y r x ny n' _ _ _ _ (by omega) d6 d1 (Or.inl (by omega)) (fR_trans hf d5 (fun c w => w) (fun c w => Or.inr (by omega))) hy hr hx hy3 hr3 hx3 e3 (fun w => e1 w.symm) (fun w => e2 w.symm) e5 e6 e4 (js1_ref (js1_ref (js1_ref (js1_ref (jdrop_of h0 rfl) (by decide)) (by decide)) (by decide)) (by decide)) (js1_int (js1_int (js1_int (js1_int (jdrop_of h3 rfl) (by decide)) (by decide)) (by decide)) (by decide)) (js1_int (js1_int js1_at (by decide)) (by decide)) (js1_int js1_at (by decide)) (js1_int (js1_int (js1_int (js1_int (jdrop_of h6 rfl) (by decide)) (by decide)) (by decide)) (by decide)) js1_at
  have na' := na
  have nb' := nb
  obtain ⟨a1, a2, a3, a4⟩ := na
  obtain ⟨b1, b2, b3, b4⟩ := nb
  have hM : ∀ (lv : Nat → Option Value), lv 0 = some (.ref 20) → lv 1 = some (.int (nI a)) → lv 2 = some (.int (nI b)) → lv 3 = some (.int (nI to)) → J X 0 lv [] (mW c0 c1 c2 c3 c4 c5 c6 c7 c8 c9 c10 c11 c12 c13 c14 c15 c16 c17 c18 c19 th z sz sg (nI t) st ss sn el ro kt ks kn le lr pl rest) 0 0 := by
    intro lv h0 h1 h2 h3
    refine J_aload_n (i := 0) C dX7_common_0 rfl h0 ?_
    refine J_iconst (v := nI 4) C dX7_common_1 (by decide) ?_
    refine J_callVi C [.int (nI 4)] rfl rfl 31 (m_take (n := 4)) (gV mlX7_X7_take imX7_take slX7_take iniX7 cdX7_take) rfl dsX7_take ⟨by decide, by decide⟩ dX7_common_2 rfl (Nat.le_of_ble_eq_true rfl) rfl (Nat.le_of_ble_eq_true rfl) (Nat.le_of_eq hX) (Nat.le_of_ble_eq_true rfl) (Nat.le_of_ble_eq_true rfl) (fun r pw h hl => ?_)
    obtain ⟨rfl, rfl⟩ := h
    refine J_istore C dX7_common_5 (by decide) ?_
    refine J_iload C dX7_common_7 js1_at ?_
    refine J_iconst (v := nI 1) C dX7_common_9 (by decide) ?_
    refine J_iadd C dX7_common_10 ?_
    refine J_eqi (nI_add _ _) ?_
    refine J_istore C dX7_common_11 (by decide) ?_
    refine J_iload C dX7_common_13 (js1_int js1_at (by decide)) ?_
    refine J_iconst (v := nI 2) C dX7_common_15 (by decide) ?_
    refine J_iadd C dX7_common_16 ?_
    refine J_eqi (nI_add _ _) ?_
    refine J_istore C dX7_common_17 (by decide) ?_
    refine J_iload C dX7_common_19 (js1_int (js1_int js1_at (by decide)) (by decide)) ?_
    refine J_iconst (v := nI 3) C dX7_common_21 (by decide) ?_
    refine J_iadd C dX7_common_22 ?_
    refine J_eqi (nI_add _ _) ?_
    refine J_istore C dX7_common_23 (by decide) ?_
    refine J_aload_n (i := 0) C dX7_common_25 rfl (js1_ref (js1_ref (js1_ref (js1_ref (jdrop_of h0 rfl) (by decide)) (by decide)) (by decide)) (by decide)) ?_
    refine J_iload_n (i := 1) C dX7_common_26 rfl (js1_int (js1_int (js1_int (js1_int (jdrop_of h1 rfl) (by decide)) (by decide)) (by decide)) (by decide)) ?_
    refine J_iload C dX7_common_27 (js1_int (js1_int (js1_int js1_at (by decide)) (by decide)) (by decide)) ?_
    refine J_callVn C [.int (nI a), .int (nI t)] rfl rfl 31 (m_copy (by omega) (by omega) (by omega) a1 (by omega)) (gV mlX7_X7_copy imX7_copy slX7_copy iniX7 cdX7_copy) rfl dsX7_copy ⟨by decide, by decide⟩ dX7_common_29 rfl (Nat.le_of_ble_eq_true rfl) rfl (Nat.le_of_ble_eq_true rfl) (Nat.le_of_eq hX) (Nat.le_of_ble_eq_true rfl) (Nat.le_of_ble_eq_true rfl) (fun pw h hl => ?_)
    obtain ⟨z1, g1, rfl, d1, d2⟩ := h
    obtain ⟨d3, d4⟩ := nm_copy na' d1
    have f1 : fR z sz z1 (upd sz t (nI n)) (fun c => c = t) := fR_copy d2
    obtain ⟨d5, d6⟩ := nm_fR nb' f1 (by omega)
    have k1 := d5.1
    refine J_aload_n (i := 0) C dX7_common_32 rfl (jdrop_of (js1_ref (js1_ref (js1_ref (js1_ref (jdrop_of h0 rfl) (by decide)) (by decide)) (by decide)) (by decide)) rfl) ?_
    refine J_iload_n (i := 2) C dX7_common_33 rfl (jdrop_of (js1_int (js1_int (js1_int (js1_int (jdrop_of h2 rfl) (by decide)) (by decide)) (by decide)) (by decide)) rfl) ?_
    refine J_iload C dX7_common_34 (jdrop_of (js1_int (js1_int js1_at (by decide)) (by decide)) rfl) ?_
    refine J_callVn C [.int (nI b), .int (nI (t + 1))] rfl rfl 31 (m_copy (by omega) (by omega) (by omega) k1 (by omega)) (gV mlX7_X7_copy imX7_copy slX7_copy iniX7 cdX7_copy) rfl dsX7_copy ⟨by decide, by decide⟩ dX7_common_36 rfl (Nat.le_of_ble_eq_true rfl) rfl (Nat.le_of_ble_eq_true rfl) (Nat.le_of_eq hX) (Nat.le_of_ble_eq_true rfl) (Nat.le_of_ble_eq_true rfl) (fun pw h hl => ?_)
    obtain ⟨z2, g2, rfl, d7, d8⟩ := h
    obtain ⟨d9, d10⟩ := nm_copy d5 d7
    have f2 : fR z1 (upd sz t (nI n)) z2 (upd (upd sz t (nI n)) (t + 1) (nI m)) (fun c => c = t + 1) := fR_copy d8
    obtain ⟨d11, d12⟩ := nm_fR d3 f2 (by omega)
    exact hL _ t (t + 1) (t + 3) n m z2 _ g2 _ (Nat.le_refl _) d11 d9 (Or.inr hm) (fR_trans f1 f2 (fun c w => Or.inr (by omega)) (fun c w => Or.inr (by omega))) (by omega) (by omega) (by omega) (by omega) (by omega) (by omega) (by omega) (by omega) (by omega) (by omega) (by omega) (by omega) (jdrop_of (jdrop_of (js1_ref (js1_ref (js1_ref (js1_ref (jdrop_of h0 rfl) (by decide)) (by decide)) (by decide)) (by decide)) rfl) rfl) (jdrop_of (jdrop_of (js1_int (js1_int (js1_int (js1_int (jdrop_of h3 rfl) (by decide)) (by decide)) (by decide)) (by decide)) rfl) rfl) (jdrop_of (jdrop_of (js1_int (js1_int (js1_int js1_at (by decide)) (by decide)) (by decide)) rfl) rfl) (jdrop_of (jdrop_of (js1_int (js1_int js1_at (by decide)) (by decide)) rfl) rfl) (jdrop_of (jdrop_of (js1_int js1_at (by decide)) rfl) rfl) (jdrop_of (jdrop_of js1_at rfl) rfl)
  exact hM _ rfl rfl rfl rfl
set_option maxHeartbeats 8000000 in
/-- reduce(f), its bottom not 0 -/
theorem m_reduce {f t n m : Nat} (na : nm z sz f n) (nb : nm z sz (f + 1) m) (hm : 0 < m) (hft : f + 1 < t) (ht : t + 7 < 499) :
    jN vwCl yX7_reduce (wc yX7_reduce cX7_reduce 4 none) 3 180 [.ref 20, .int (nI f)] (mW c0 c1 c2 c3 c4 c5 c6 c7 c8 c9 c10 c11 c12 c13 c14 c15 c16 c17 c18 c19 th z sz sg (nI t) st ss sn el ro kt ks kn le lr pl rest) 0 0 (fun pw => ∃ (z' s' g' : Nat → Int32) (k1 k2 : Nat), pw = (mW c0 c1 c2 c3 c4 c5 c6 c7 c8 c9 c10 c11 c12 c13 c14 c15 c16 c17 c18 c19 th z' s' g' (nI t) st ss sn el ro kt ks kn le lr pl rest) ∧ s' f = nI k1 ∧ k1 < 4 ∧ s' (f + 1) = nI k2 ∧ k2 < 4) := by
  refine jN_of (cc := cX7_reduce) (nL := 4) (by decide) rfl (Nat.le_of_ble_eq_true rfl) ?_
  intro X C hX hR
  have hE : ∀ (zz ss' gg : Nat → Int32) (k1 k2 : Nat) (lv : Nat → Option Value), ss' f = nI k1 → k1 < 4 → ss' (f + 1) = nI k2 → k2 < 4 → lv 0 = some (.ref 20) → lv 1 = some (.int (nI f)) → lv 2 = some (.int (nI t)) → J X 153 lv [] (mW c0 c1 c2 c3 c4 c5 c6 c7 c8 c9 c10 c11 c12 c13 c14 c15 c16 c17 c18 c19 th zz ss' gg (nI (t + 3)) st ss sn el ro kt ks kn le lr pl rest) 0 0 := by
    intro zz ss' gg k1 k2 lv e1 e2 e3 e4 h0 h1 h2
    refine J_aload_n (i := 0) C dX7_reduce_153 rfl h0 ?_
    refine J_get (ci := 10) (k := 3) C dX7_reduce_154 (inT inX7) rfl (gc flX7_X7_sign) (by decide) rfl rfl ?_
    refine J_iload_n (i := 1) C dX7_reduce_157 rfl h1 ?_
    refine J_iconst (v := nI 1) C dX7_reduce_158 (by decide) ?_
    refine J_iadd C dX7_reduce_159 ?_
    refine J_eqi (nI_add _ _) ?_
    refine J_iconst (v := nI 1) C dX7_reduce_160 (by decide) ?_
    refine J_st23 C dX7_reduce_161 (by omega) ?_
    refine J_aload_n (i := 0) C dX7_reduce_162 rfl h0 ?_
    refine J_iload_n (i := 2) C dX7_reduce_163 rfl h2 ?_
    refine J_put (ci := 10) C 4 tyX7 tyX7_ok nmX7 dX7_reduce_164 (inT inX7) rfl (gc flX7_X7_taken) (by decide) rfl (tyX7_ok 4 (by decide)) (fun _ => rfl) (fun _ => rfl) rfl (Nat.le_of_ble_eq_true rfl) ?_
    refine hR _ _ _ _ _ dX7_reduce_167 ⟨zz,ss',_,k1,k2,rfl,e1,e2,e3,e4⟩ (Nat.le_of_eq hX) (Nat.le_refl _) (Nat.le_refl _)
  have hM : ∀ (gg : Nat → Int32) (lv : Nat → Option Value), lv 0 = some (.ref 20) → lv 1 = some (.int (nI f)) → lv 2 = some (.int (nI t)) → J X 39 lv [] (mW c0 c1 c2 c3 c4 c5 c6 c7 c8 c9 c10 c11 c12 c13 c14 c15 c16 c17 c18 c19 th z sz gg (nI (t + 3)) st ss sn el ro kt ks kn le lr pl rest) 0 0 := by
    intro gg lv h0 h1 h2
    have a1 := na.1
    have a2 := na.2.1
    refine J_aload_n (i := 0) C dX7_reduce_39 rfl h0 ?_
    refine J_get (ci := 10) (k := 2) C dX7_reduce_40 (inT inX7) rfl (gc flX7_X7_size) (by decide) rfl rfl ?_
    refine J_iload_n (i := 1) C dX7_reduce_43 rfl h1 ?_
    refine J_ialdN C dX7_reduce_44 rfl (by omega) (by omega) a1 ?_
    refine J_if_ne (tgt := 62) C dX7_reduce_45 (by decide) (fun h45q => have h45 := (not_congr (nI_z (by omega))).mp h45q; ?_) (fun h45q => have h45 := (nI_z (by omega)).mp h45q; ?_)
    · refine J_aload_n (i := 0) C dX7_reduce_62 rfl h0 ?_
      refine J_iload_n (i := 1) C dX7_reduce_63 rfl h1 ?_
      refine J_iload_n (i := 1) C dX7_reduce_64 rfl h1 ?_
      refine J_iconst (v := nI 1) C dX7_reduce_65 (by decide) ?_
      refine J_iadd C dX7_reduce_66 ?_
      refine J_eqi (nI_add _ _) ?_
      refine J_iload_n (i := 2) C dX7_reduce_67 rfl h2 ?_
      refine J_callVn C [.int (nI f), .int (nI (f + 1)), .int (nI t)] rfl rfl 31 (m_common (t := t + 3) na nb hm (by omega) (by omega) (by omega) (by omega)) (gV mlX7_X7_common imX7_common slX7_common iniX7 cdX7_common) rfl dsX7_common ⟨by decide, by decide⟩ dX7_reduce_68 rfl (Nat.le_of_ble_eq_true rfl) rfl (Nat.le_of_ble_eq_true rfl) (Nat.le_of_eq hX) (Nat.le_of_ble_eq_true rfl) (Nat.le_of_ble_eq_true rfl) (fun pw h hl => ?_)
      obtain ⟨z1, s1, g1, k, rfl, d1, d2, d3⟩ := h
      obtain ⟨d4, d5⟩ := nm_fR na d3 (by omega)
      obtain ⟨d6, d7⟩ := nm_fR nb d3 (by omega)
      have n1 := d1.1
      have n2 := d1.2.1
      have n3 := d4.2.1
      have n4 := d6.2.1
      have hD : ∀ lv : Nat → Option Value, lv 0 = some (.ref 20) → lv 1 = some (.int (nI f)) → lv 2 = some (.int (nI t)) → J X 95 lv [] (mW c0 c1 c2 c3 c4 c5 c6 c7 c8 c9 c10 c11 c12 c13 c14 c15 c16 c17 c18 c19 th z1 s1 g1 (nI (t + 3)) st ss sn el ro kt ks kn le lr pl rest) 0 0 := by
        intro lv h0 h1 h2
        refine J_aload_n (i := 0) C dX7_reduce_95 rfl h0 ?_
        refine J_get (ci := 10) (k := 3) C dX7_reduce_96 (inT inX7) rfl (gc flX7_X7_sign) (by decide) rfl rfl ?_
        refine J_iload_n (i := 1) C dX7_reduce_99 rfl h1 ?_
        refine J_ialdN C dX7_reduce_100 rfl (by omega) (by omega) rfl ?_
        refine J_istore_n (i := 3) C dX7_reduce_101 rfl (by decide) ?_
        refine J_aload_n (i := 0) C dX7_reduce_102 rfl (js1_ref h0 (by decide)) ?_
        refine J_iload_n (i := 1) C dX7_reduce_103 rfl (js1_int h1 (by decide)) ?_
        refine J_iload_n (i := 2) C dX7_reduce_104 rfl (js1_int h2 (by decide)) ?_
        refine J_iload_n (i := 2) C dX7_reduce_105 rfl (js1_int h2 (by decide)) ?_
        refine J_iconst (v := nI 1) C dX7_reduce_106 (by decide) ?_
        refine J_iadd C dX7_reduce_107 ?_
        refine J_eqi (nI_add _ _) ?_
        refine J_iload_n (i := 2) C dX7_reduce_108 rfl (js1_int h2 (by decide)) ?_
        refine J_iconst (v := nI 2) C dX7_reduce_109 (by decide) ?_
        refine J_iadd C dX7_reduce_110 ?_
        refine J_eqi (nI_add _ _) ?_
        refine J_callVn C [.int (nI f), .int (nI t), .int (nI (t + 1)), .int (nI (t + 2))] rfl rfl 31 (m_divideSizes (t := t + 3) d4 d1 d2 (by omega) (by omega) (by omega) (by omega) (by omega) (by omega) (by omega) (by omega) (by omega) (by omega)) (gV mlX7_X7_divideSizes imX7_divideSizes slX7_divideSizes iniX7 cdX7_divideSizes) rfl dsX7_divideSizes ⟨by decide, by decide⟩ dX7_reduce_111 rfl (Nat.le_of_ble_eq_true rfl) rfl (Nat.le_of_ble_eq_true rfl) (Nat.le_of_eq hX) (Nat.le_of_ble_eq_true rfl) (Nat.le_of_ble_eq_true rfl) (fun pw h hl => ?_)
        obtain ⟨z2, s2, g2, n', nq, rfl, p1, p2, p3, p4, p5⟩ := h
        refine J_aload_n (i := 0) C dX7_reduce_114 rfl (jdrop_of (js1_ref h0 (by decide)) rfl) ?_
        refine J_iload_n (i := 2) C dX7_reduce_115 rfl (jdrop_of (js1_int h2 (by decide)) rfl) ?_
        refine J_iconst (v := nI 1) C dX7_reduce_116 (by decide) ?_
        refine J_iadd C dX7_reduce_117 ?_
        refine J_eqi (nI_add _ _) ?_
        refine J_iload_n (i := 1) C dX7_reduce_118 rfl (jdrop_of (js1_int h1 (by decide)) rfl) ?_
        refine J_callVn C [.int (nI (t + 1)), .int (nI f)] rfl rfl 31 (m_copy (by omega) (by omega) (by omega) p3 (by omega)) (gV mlX7_X7_copy imX7_copy slX7_copy iniX7 cdX7_copy) rfl dsX7_copy ⟨by decide, by decide⟩ dX7_reduce_119 rfl (Nat.le_of_ble_eq_true rfl) rfl (Nat.le_of_ble_eq_true rfl) (Nat.le_of_eq hX) (Nat.le_of_ble_eq_true rfl) (Nat.le_of_ble_eq_true rfl) (fun pw h hl => ?_)
        obtain ⟨z3, g3, rfl, p6, p7⟩ := h
        have f1 : fR z2 s2 z3 (upd s2 f (nI nq)) (fun c => c = f) := fR_copy p7
        obtain ⟨v1, v2⟩ := nm_fR (nm_fR d6 p5 (by omega)).1 f1 (by omega)
        obtain ⟨v3, v4⟩ := nm_fR (nm_fR d1 p5 (by omega)).1 f1 (by omega)
        refine J_aload_n (i := 0) C dX7_reduce_122 rfl (jdrop_of (jdrop_of (js1_ref h0 (by decide)) rfl) rfl) ?_
        refine J_get (ci := 10) (k := 3) C dX7_reduce_123 (inT inX7) rfl (gc flX7_X7_sign) (by decide) rfl rfl ?_
        refine J_iload_n (i := 1) C dX7_reduce_126 rfl (jdrop_of (jdrop_of (js1_int h1 (by decide)) rfl) rfl) ?_
        refine J_iload_n (i := 3) C dX7_reduce_127 rfl (jdrop_of (jdrop_of js1_at rfl) rfl) ?_
        refine J_st23 C dX7_reduce_128 (by omega) ?_
        refine J_aload_n (i := 0) C dX7_reduce_129 rfl (jdrop_of (jdrop_of (js1_ref h0 (by decide)) rfl) rfl) ?_
        refine J_iload_n (i := 1) C dX7_reduce_130 rfl (jdrop_of (jdrop_of (js1_int h1 (by decide)) rfl) rfl) ?_
        refine J_iconst (v := nI 1) C dX7_reduce_131 (by decide) ?_
        refine J_iadd C dX7_reduce_132 ?_
        refine J_eqi (nI_add _ _) ?_
        refine J_iload_n (i := 2) C dX7_reduce_133 rfl (jdrop_of (jdrop_of (js1_int h2 (by decide)) rfl) rfl) ?_
        refine J_iload_n (i := 2) C dX7_reduce_134 rfl (jdrop_of (jdrop_of (js1_int h2 (by decide)) rfl) rfl) ?_
        refine J_iconst (v := nI 1) C dX7_reduce_135 (by decide) ?_
        refine J_iadd C dX7_reduce_136 ?_
        refine J_eqi (nI_add _ _) ?_
        refine J_iload_n (i := 2) C dX7_reduce_137 rfl (jdrop_of (jdrop_of (js1_int h2 (by decide)) rfl) rfl) ?_
        refine J_iconst (v := nI 2) C dX7_reduce_138 (by decide) ?_
        refine J_iadd C dX7_reduce_139 ?_
        refine J_eqi (nI_add _ _) ?_
        refine J_callVn C [.int (nI (f + 1)), .int (nI t), .int (nI (t + 1)), .int (nI (t + 2))] rfl rfl 31 (m_divideSizes (t := t + 3) v1 v3 d2 (by omega) (by omega) (by omega) (by omega) (by omega) (by omega) (by omega) (by omega) (by omega) (by omega)) (gV mlX7_X7_divideSizes imX7_divideSizes slX7_divideSizes iniX7 cdX7_divideSizes) rfl dsX7_divideSizes ⟨by decide, by decide⟩ dX7_reduce_140 rfl (Nat.le_of_ble_eq_true rfl) rfl (Nat.le_of_ble_eq_true rfl) (Nat.le_of_eq hX) (Nat.le_of_ble_eq_true rfl) (Nat.le_of_ble_eq_true rfl) (fun pw h hl => ?_)
        obtain ⟨z4, s4, g4, n'', nq2, rfl, w1, w2, w3, w4, w5⟩ := h
        refine J_aload_n (i := 0) C dX7_reduce_143 rfl (jdrop_of (jdrop_of (jdrop_of (js1_ref h0 (by decide)) rfl) rfl) rfl) ?_
        refine J_iload_n (i := 2) C dX7_reduce_144 rfl (jdrop_of (jdrop_of (jdrop_of (js1_int h2 (by decide)) rfl) rfl) rfl) ?_
        refine J_iconst (v := nI 1) C dX7_reduce_145 (by decide) ?_
        refine J_iadd C dX7_reduce_146 ?_
        refine J_eqi (nI_add _ _) ?_
        refine J_iload_n (i := 1) C dX7_reduce_147 rfl (jdrop_of (jdrop_of (jdrop_of (js1_int h1 (by decide)) rfl) rfl) rfl) ?_
        refine J_iconst (v := nI 1) C dX7_reduce_148 (by decide) ?_
        refine J_iadd C dX7_reduce_149 ?_
        refine J_eqi (nI_add _ _) ?_
        refine J_callVn C [.int (nI (t + 1)), .int (nI (f + 1))] rfl rfl 31 (m_copy (by omega) (by omega) (by omega) w3 (by omega)) (gV mlX7_X7_copy imX7_copy slX7_copy iniX7 cdX7_copy) rfl dsX7_copy ⟨by decide, by decide⟩ dX7_reduce_150 rfl (Nat.le_of_ble_eq_true rfl) rfl (Nat.le_of_ble_eq_true rfl) (Nat.le_of_eq hX) (Nat.le_of_ble_eq_true rfl) (Nat.le_of_ble_eq_true rfl) (fun pw h hl => ?_)
        obtain ⟨z5, g5, rfl, w6, w7⟩ := h
        refine hE _ _ _ nq nq2 _ ?_ p4 pk_us w4 (jdrop_of (jdrop_of (jdrop_of (jdrop_of (js1_ref h0 (by decide)) rfl) rfl) rfl) rfl) (jdrop_of (jdrop_of (jdrop_of (jdrop_of (js1_int h1 (by decide)) rfl) rfl) rfl) rfl) (jdrop_of (jdrop_of (jdrop_of (jdrop_of (js1_int h2 (by decide)) rfl) rfl) rfl) rfl)
        rw [pk_un (by omega), (w5 f (by omega)).1]
        exact pk_us
      refine J_aload_n (i := 0) C dX7_reduce_71 rfl (jdrop_of h0 rfl) ?_
      refine J_get (ci := 10) (k := 2) C dX7_reduce_72 (inT inX7) rfl (gc flX7_X7_size) (by decide) rfl rfl ?_
      refine J_iload_n (i := 2) C dX7_reduce_75 rfl (jdrop_of h2 rfl) ?_
      refine J_ialdN C dX7_reduce_76 rfl (by omega) (by omega) n1 ?_
      refine J_iconst (v := nI 1) C dX7_reduce_77 (by decide) ?_
      refine J_icmp_ne (tgt := 95) C dX7_reduce_78 (by decide) (fun h78q => have h78 := (not_congr (nI_eq (by omega) (by omega))).mp h78q; ?_) (fun h78q => have h78 := (nI_eq (by omega) (by omega)).mp h78q; ?_)
      · exact hD _ (jdrop_of h0 rfl) (jdrop_of h1 rfl) (jdrop_of h2 rfl)
      · refine J_aload_n (i := 0) C dX7_reduce_81 rfl (jdrop_of h0 rfl) ?_
        refine J_get (ci := 10) (k := 1) C dX7_reduce_82 (inT inX7) rfl (gc flX7_X7_z) (by decide) rfl rfl ?_
        refine J_sipush (v := nI 2500) C dX7_reduce_85 (by decide) ?_
        refine J_iload_n (i := 2) C dX7_reduce_88 rfl (jdrop_of h2 rfl) ?_
        refine J_imul C dX7_reduce_89 ?_
        refine J_eqi (pk_mul _ _) ?_
        refine J_ialdN C dX7_reduce_90 rfl (by omega) (by omega) rfl ?_
        refine J_iconst (v := nI 1) C dX7_reduce_91 (by decide) ?_
        refine J_icmp_eq (tgt := 153) C dX7_reduce_92 (by decide) (fun h92q => ?_) (fun h92q => ?_)
        · exact hE _ _ _ n m _ d4.1 n3 d6.1 n4 (jdrop_of h0 rfl) (jdrop_of h1 rfl) (jdrop_of h2 rfl)
        · exact hD _ (jdrop_of h0 rfl) (jdrop_of h1 rfl) (jdrop_of h2 rfl)
    · refine J_aload_n (i := 0) C dX7_reduce_48 rfl h0 ?_
      refine J_iload_n (i := 1) C dX7_reduce_49 rfl h1 ?_
      refine J_iconst (v := nI 1) C dX7_reduce_50 (by decide) ?_
      refine J_iadd C dX7_reduce_51 ?_
      refine J_eqi (nI_add _ _) ?_
      refine J_lconst (v := lN 1) C dX7_reduce_52 (by decide) ?_
      refine J_callVn C [.int (nI (f + 1)), .long (lN 1)] rfl rfl 31 (m_put (by omega)) (gV mlX7_X7_put imX7_put slX7_put iniX7 cdX7_put) rfl dsX7_put ⟨by decide, by decide⟩ dX7_reduce_53 rfl (Nat.le_of_ble_eq_true rfl) rfl (Nat.le_of_ble_eq_true rfl) (Nat.le_of_eq hX) (Nat.le_of_ble_eq_true rfl) (Nat.le_of_ble_eq_true rfl) (fun pw h hl => ?_)
      obtain ⟨z1, s1, g1, k, rfl, d1, d2, d3⟩ := h
      refine J_aload_n (i := 0) C dX7_reduce_56 rfl (jdrop_of h0 rfl) ?_
      refine J_iload_n (i := 2) C dX7_reduce_57 rfl (jdrop_of h2 rfl) ?_
      refine J_put (ci := 10) C 4 tyX7 tyX7_ok nmX7 dX7_reduce_58 (inT inX7) rfl (gc flX7_X7_taken) (by decide) rfl (tyX7_ok 4 (by decide)) (fun _ => rfl) (fun _ => rfl) rfl (Nat.le_of_ble_eq_true rfl) ?_
      refine hR _ _ _ _ _ dX7_reduce_61 ⟨z1,s1,g1,n,k,rfl,(d3 f (by omega)).1.trans a1,a2,d1.1,d1.2.1⟩ (Nat.le_of_eq hX) (Nat.le_refl _) (Nat.le_refl _)
  have hN : ∀ (lv : Nat → Option Value), lv 0 = some (.ref 20) → lv 1 = some (.int (nI f)) → J X 0 lv [] (mW c0 c1 c2 c3 c4 c5 c6 c7 c8 c9 c10 c11 c12 c13 c14 c15 c16 c17 c18 c19 th z sz sg (nI t) st ss sn el ro kt ks kn le lr pl rest) 0 0 := by
    intro lv h0 h1
    refine J_aload_n (i := 0) C dX7_reduce_0 rfl h0 ?_
    refine J_iconst (v := nI 3) C dX7_reduce_1 (by decide) ?_
    refine J_callVi C [.int (nI 3)] rfl rfl 31 (m_take (n := 3)) (gV mlX7_X7_take imX7_take slX7_take iniX7 cdX7_take) rfl dsX7_take ⟨by decide, by decide⟩ dX7_reduce_2 rfl (Nat.le_of_ble_eq_true rfl) rfl (Nat.le_of_ble_eq_true rfl) (Nat.le_of_eq hX) (Nat.le_of_ble_eq_true rfl) (Nat.le_of_ble_eq_true rfl) (fun r pw h hl => ?_)
    obtain ⟨rfl, rfl⟩ := h
    refine J_istore_n (i := 2) C dX7_reduce_5 rfl (by decide) ?_
    refine J_aload_n (i := 0) C dX7_reduce_6 rfl (js1_ref (jdrop_of h0 rfl) (by decide)) ?_
    refine J_get (ci := 10) (k := 3) C dX7_reduce_7 (inT inX7) rfl (gc flX7_X7_sign) (by decide) rfl rfl ?_
    refine J_iload_n (i := 1) C dX7_reduce_10 rfl (js1_int (jdrop_of h1 rfl) (by decide)) ?_
    refine J_iconst (v := nI 1) C dX7_reduce_11 (by decide) ?_
    refine J_iadd C dX7_reduce_12 ?_
    refine J_eqi (nI_add _ _) ?_
    refine J_ialdN C dX7_reduce_13 rfl (by omega) (by omega) rfl ?_
    refine J_if_ge (tgt := 39) C dX7_reduce_14 (by decide) (fun h14q => ?_) (fun h14q => ?_)
    · exact hM _ _ (js1_ref (jdrop_of h0 rfl) (by decide)) (js1_int (jdrop_of h1 rfl) (by decide)) js1_at
    · refine J_aload_n (i := 0) C dX7_reduce_17 rfl (js1_ref (jdrop_of h0 rfl) (by decide)) ?_
      refine J_get (ci := 10) (k := 3) C dX7_reduce_18 (inT inX7) rfl (gc flX7_X7_sign) (by decide) rfl rfl ?_
      refine J_iload_n (i := 1) C dX7_reduce_21 rfl (js1_int (jdrop_of h1 rfl) (by decide)) ?_
      refine J_iconst (v := nI 1) C dX7_reduce_22 (by decide) ?_
      refine J_iadd C dX7_reduce_23 ?_
      refine J_eqi (nI_add _ _) ?_
      refine J_iconst (v := nI 1) C dX7_reduce_24 (by decide) ?_
      refine J_st23 C dX7_reduce_25 (by omega) ?_
      refine J_aload_n (i := 0) C dX7_reduce_26 rfl (js1_ref (jdrop_of h0 rfl) (by decide)) ?_
      refine J_get (ci := 10) (k := 3) C dX7_reduce_27 (inT inX7) rfl (gc flX7_X7_sign) (by decide) rfl rfl ?_
      refine J_iload_n (i := 1) C dX7_reduce_30 rfl (js1_int (jdrop_of h1 rfl) (by decide)) ?_
      refine J_aload_n (i := 0) C dX7_reduce_31 rfl (js1_ref (jdrop_of h0 rfl) (by decide)) ?_
      refine J_get (ci := 10) (k := 3) C dX7_reduce_32 (inT inX7) rfl (gc flX7_X7_sign) (by decide) rfl rfl ?_
      refine J_iload_n (i := 1) C dX7_reduce_35 rfl (js1_int (jdrop_of h1 rfl) (by decide)) ?_
      refine J_ialdN C dX7_reduce_36 rfl (by omega) (by omega) rfl ?_
      refine J_ineg C dX7_reduce_37 ?_
      refine J_st23 C dX7_reduce_38 (by omega) ?_
      exact hM _ _ (js1_ref (jdrop_of h0 rfl) (by decide)) (js1_int (jdrop_of h1 rfl) (by decide)) js1_at
  exact hN _ rfl rfl
end ML

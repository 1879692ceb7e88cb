theorem cmp_top {x y P A C a c : Nat} (hxy : x < y) (ha : A < P) (e1 : a = A + x * P) (e2 : c = C + y * P) : a < c := by
  have h : (x + 1) * P ≤ y * P := Nat.mul_le_mul_right _ hxy
  rw [Nat.add_mul, Nat.one_mul] at h
  omega
theorem vN_len {z s z2 s2 : Nat → Int32} {a b n m : Nat} (h : nm z s a n) (h2 : nm z2 s2 b m) (hnm : n < m) : vN z (2500 * a) n < vN z2 (2500 * b) m := by
  have h3 := vN_lt h.2.2.1
  have h4 := nm_pos h2 (by omega)
  have h5 : 1000000000 ^ n ≤ 1000000000 ^ (m - 1) := Nat.pow_le_pow_right (by decide) (by omega)
  omega
section MC
variable {c0 c1 c2 c3 c4 c5 c6 c7 c8 c9 c10 c11 c12 c13 c14 c15 c16 c17 c18 c19 : jE} {th : Int32} {z sz sg : Nat → Int32} {tk : Int32} {st ss sn : Nat → Int32} {el ro : Int32} {kt ks kn : Nat → Int32} {le : Int32} {lr : Nat → Int32} {pl : Int32} {rest : jW}
set_option maxHeartbeats 4000000 in
/-- compareSizes(a, b) -/
theorem m_compareSizes {a b n m : Nat} (ha : a < 500) (hb : b < 500) (na : nm z sz a n) (nb : nm z sz b m) : jI vwCl yX7_compareSizes (wc yX7_compareSizes cX7_compareSizes 6 (some .int)) 0 0 [.ref 20, .int (nI a), .int (nI b)] (mW c0 c1 c2 c3 c4 c5 c6 c7 c8 c9 c10 c11 c12 c13 c14 c15 c16 c17 c18 c19 th z sz sg tk st ss sn el ro kt ks kn le lr pl rest) 0 0 (fun r pw => ((r = -1 ∧ vN z (2500 * a) n < vN z (2500 * b) m) ∨ ((r = nI 0 ∨ r = nI 1) ∧ m ≤ n ∧ vN z (2500 * b) m ≤ vN z (2500 * a) n)) ∧ pw = (mW c0 c1 c2 c3 c4 c5 c6 c7 c8 c9 c10 c11 c12 c13 c14 c15 c16 c17 c18 c19 th z sz sg tk st ss sn el ro kt ks kn le lr pl rest)) := by
  refine jI_of (cc := cX7_compareSizes) (nL := 6) .int (by decide) rfl (Nat.le_of_ble_eq_true rfl) (fun _ _ _ => rfl) ?_
  intro X C hX hR
  have na' := na
  have nb' := nb
  obtain ⟨a1, a2, a3, a4⟩ := na
  obtain ⟨b1, b2, b3, b4⟩ := nb
  have hL : n = m → ∀ (s : Nat) (lv : Nat → Option Value), s ≤ n → vN z (2500 * a) n + vN z (2500 * b) s = vN z (2500 * b) n + vN z (2500 * a) s → lv 0 = some (.ref 20) → lv 1 = some (.int (nI a)) → lv 2 = some (.int (nI b)) → lv 3 = some (.int (jm s)) → J X 45 lv [] (mW c0 c1 c2 c3 c4 c5 c6 c7 c8 c9 c10 c11 c12 c13 c14 c15 c16 c17 c18 c19 th z sz sg tk st ss sn el ro kt ks kn le lr pl rest) 0 0 := by
    intro hnm s
    subst hnm
    induction s with
    | zero =>
      intro lv hs hv h0 h1 h2 h3
      have hv : vN z (2500 * a) n + 0 = vN z (2500 * b) n + 0 := hv
      refine J_iload_n (i := 3) C dX7_compareSizes_45 rfl h3 ?_
      refine J_if_lt (tgt := 103) C dX7_compareSizes_46 (by decide) (fun h46q => ?_) (fun h46q => ?_)
      · refine J_iconst (v := nI 0) C dX7_compareSizes_103 (by decide) ?_
        refine hR _ _ _ _ _ _ dX7_compareSizes_104 ⟨Or.inr ⟨Or.inl rfl,Nat.le_refl _,by omega⟩,rfl⟩ (Nat.le_of_eq hX) (Nat.le_refl _) (Nat.le_refl _)
      · exact absurd (by decide) h46q
    | succ s ih =>
      intro lv hs hv h0 h1 h2 h3
      have h3 : lv 3 = some (.int (nI s)) := h3
      obtain ⟨c1, c2⟩ := a3 s (by omega)
      obtain ⟨d1, d2⟩ := b3 s (by omega)
      have e1 : vN z (2500 * a) (s + 1) = vN z (2500 * a) s + dg z (2500 * a + s) * 1000000000 ^ s := rfl
      have e2 : vN z (2500 * b) (s + 1) = vN z (2500 * b) s + dg z (2500 * b + s) * 1000000000 ^ s := rfl
      have l1 := vN_lt (lm_le a3 (show s ≤ n by omega))
      have l2 := vN_lt (lm_le b3 (show s ≤ n by omega))
      generalize dg z (2500 * a + s) = x at *
      generalize dg z (2500 * b + s) = y at *
      refine J_iload_n (i := 3) C dX7_compareSizes_45 rfl h3 ?_
      refine J_if_lt (tgt := 103) C dX7_compareSizes_46 (by decide) (fun h46q => have h46 := (nI_lt0 (by omega)).mp h46q; ?_) (fun h46q => have h46 := (not_congr (nI_lt0 (by omega))).mp h46q; ?_)
      · exact h46.elim
      · refine J_aload_n (i := 0) C dX7_compareSizes_49 rfl h0 ?_
        refine J_get (ci := 10) (k := 1) C dX7_compareSizes_50 (inT inX7) rfl (gc flX7_X7_z) (by decide) rfl rfl ?_
        refine J_sipush (v := nI 2500) C dX7_compareSizes_53 (by decide) ?_
        refine J_iload_n (i := 1) C dX7_compareSizes_56 rfl h1 ?_
        refine J_imul C dX7_compareSizes_57 ?_
        refine J_eqi (pk_mul _ _) ?_
        refine J_iload_n (i := 3) C dX7_compareSizes_58 rfl h3 ?_
        refine J_iadd C dX7_compareSizes_59 ?_
        refine J_eqi (nI_add _ _) ?_
        refine J_ialdN C dX7_compareSizes_60 rfl (by omega) (by omega) c1 ?_
        refine J_istore C dX7_compareSizes_61 (by decide) ?_
        refine J_aload_n (i := 0) C dX7_compareSizes_63 rfl (js1_ref h0 (by decide)) ?_
        refine J_get (ci := 10) (k := 1) C dX7_compareSizes_64 (inT inX7) rfl (gc flX7_X7_z) (by decide) rfl rfl ?_
        refine J_sipush (v := nI 2500) C dX7_compareSizes_67 (by decide) ?_
        refine J_iload_n (i := 2) C dX7_compareSizes_70 rfl (js1_int h2 (by decide)) ?_
        refine J_imul C dX7_compareSizes_71 ?_
        refine J_eqi (pk_mul _ _) ?_
        refine J_iload_n (i := 3) C dX7_compareSizes_72 rfl (js1_int h3 (by decide)) ?_
        refine J_iadd C dX7_compareSizes_73 ?_
        refine J_eqi (nI_add _ _) ?_
        refine J_ialdN C dX7_compareSizes_74 rfl (by omega) (by omega) d1 ?_
        refine J_istore C dX7_compareSizes_75 (by decide) ?_
        refine J_iload C dX7_compareSizes_77 (js1_int js1_at (by decide)) ?_
        refine J_iload C dX7_compareSizes_79 js1_at ?_
        refine J_icmp_eq (tgt := 97) C dX7_compareSizes_81 (by decide) (fun h81q => have h81 := (nI_eq (by omega) (by omega)).mp h81q; ?_) (fun h81q => have h81 := (not_congr (nI_eq (by omega) (by omega))).mp h81q; ?_)
        · refine J_iinc C dX7_compareSizes_97 (js1_int (js1_int h3 (by decide)) (by decide)) (jm_dec _) ?_
          refine J_goto (tgt := 45) C dX7_compareSizes_100 (by decide) ?_
          refine ih _ (by omega) ?_ (js1_ref (js1_ref (js1_ref h0 (by decide)) (by decide)) (by decide)) (js1_int (js1_int (js1_int h1 (by decide)) (by decide)) (by decide)) (js1_int (js1_int (js1_int h2 (by decide)) (by decide)) (by decide)) js1_at
          rw [e1, e2, h81] at hv
          omega
        · refine J_iload C dX7_compareSizes_84 (js1_int js1_at (by decide)) ?_
          refine J_iload C dX7_compareSizes_86 js1_at ?_
          refine J_icmp_ge (tgt := 95) C dX7_compareSizes_88 (by decide) (fun h88q => have h88 := (nI_leI (by omega) (by omega)).mp h88q; ?_) (fun h88q => have h88 := (not_congr (nI_leI (by omega) (by omega))).mp h88q; ?_)
          · have w := cmp_top (x := y) (y := x) (by omega) l2 e2 e1
            refine J_iconst (v := nI 1) C dX7_compareSizes_95 (by decide) ?_
            refine hR _ _ _ _ _ _ dX7_compareSizes_96 ⟨Or.inr ⟨Or.inr rfl,Nat.le_refl _,by omega⟩,rfl⟩ (Nat.le_of_eq hX) (Nat.le_refl _) (Nat.le_refl _)
          · have w := cmp_top (x := x) (y := y) (by omega) l1 e1 e2
            refine J_iconst (v := -1) C dX7_compareSizes_91 (by decide) ?_
            refine J_goto (tgt := 96) C dX7_compareSizes_92 (by decide) ?_
            refine hR _ _ _ _ _ _ dX7_compareSizes_96 ⟨Or.inl ⟨rfl,by omega⟩,rfl⟩ (Nat.le_of_eq hX) (Nat.le_refl _) (Nat.le_refl _)
  refine J_aload_n (i := 0) C dX7_compareSizes_0 rfl rfl ?_
  refine J_get (ci := 10) (k := 2) C dX7_compareSizes_1 (inT inX7) rfl (gc flX7_X7_size) (by decide) rfl rfl ?_
  refine J_iload_n (i := 1) C dX7_compareSizes_4 rfl rfl ?_
  refine J_ialdN C dX7_compareSizes_5 rfl (by omega) (by omega) a1 ?_
  refine J_aload_n (i := 0) C dX7_compareSizes_6 rfl rfl ?_
  refine J_get (ci := 10) (k := 2) C dX7_compareSizes_7 (inT inX7) rfl (gc flX7_X7_size) (by decide) rfl rfl ?_
  refine J_iload_n (i := 2) C dX7_compareSizes_10 rfl rfl ?_
  refine J_ialdN C dX7_compareSizes_11 rfl (by omega) (by omega) b1 ?_
  refine J_icmp_eq (tgt := 36) C dX7_compareSizes_12 (by decide) (fun h12q => have h12 := (nI_eq (by omega) (by omega)).mp h12q; ?_) (fun h12q => have h12 := (not_congr (nI_eq (by omega) (by omega))).mp h12q; ?_)
  · refine J_aload_n (i := 0) C dX7_compareSizes_36 rfl rfl ?_
    refine J_get (ci := 10) (k := 2) C dX7_compareSizes_37 (inT inX7) rfl (gc flX7_X7_size) (by decide) rfl rfl ?_
    refine J_iload_n (i := 1) C dX7_compareSizes_40 rfl rfl ?_
    refine J_ialdN C dX7_compareSizes_41 rfl (by omega) (by omega) a1 ?_
    rcases Nat.eq_zero_or_pos n with w | w
    · subst w
      have hm : m = 0 := by omega
      subst hm
      refine J_iconst (v := nI 1) C dX7_compareSizes_42 (by decide) ?_
      refine J_isub C dX7_compareSizes_43 ?_
      refine J_eqi (y := jm 0) (by decide) ?_
      refine J_istore_n (i := 3) C dX7_compareSizes_44 rfl (by decide) ?_
      exact hL rfl 0 _ (Nat.le_refl _) rfl rfl rfl rfl rfl
    · refine J_iconst (v := nI 1) C dX7_compareSizes_42 (by decide) ?_
      refine J_isub C dX7_compareSizes_43 ?_
      refine J_eqi (y := jm n) ((pk_sub (by omega)).trans (by obtain ⟨w2, rfl⟩ : ∃ w2, n = w2 + 1 := ⟨n - 1, by omega⟩; rfl)) ?_
      refine J_istore_n (i := 3) C dX7_compareSizes_44 rfl (by decide) ?_
      exact hL h12 n _ (Nat.le_refl _) (Nat.add_comm _ _) rfl rfl rfl rfl
  · refine J_aload_n (i := 0) C dX7_compareSizes_15 rfl rfl ?_
    refine J_get (ci := 10) (k := 2) C dX7_compareSizes_16 (inT inX7) rfl (gc flX7_X7_size) (by decide) rfl rfl ?_
    refine J_iload_n (i := 1) C dX7_compareSizes_19 rfl rfl ?_
    refine J_ialdN C dX7_compareSizes_20 rfl (by omega) (by omega) a1 ?_
    refine J_aload_n (i := 0) C dX7_compareSizes_21 rfl rfl ?_
    refine J_get (ci := 10) (k := 2) C dX7_compareSizes_22 (inT inX7) rfl (gc flX7_X7_size) (by decide) rfl rfl ?_
    refine J_iload_n (i := 2) C dX7_compareSizes_25 rfl rfl ?_
    refine J_ialdN C dX7_compareSizes_26 rfl (by omega) (by omega) b1 ?_
    refine J_icmp_ge (tgt := 34) C dX7_compareSizes_27 (by decide) (fun h27q => have h27 := (nI_leI (by omega) (by omega)).mp h27q; ?_) (fun h27q => have h27 := (not_congr (nI_leI (by omega) (by omega))).mp h27q; ?_)
    · refine J_iconst (v := nI 1) C dX7_compareSizes_34 (by decide) ?_
      refine hR _ _ _ _ _ _ dX7_compareSizes_35 ⟨Or.inr ⟨Or.inr rfl,h27,Nat.le_of_lt (vN_len nb' na' (by omega))⟩,rfl⟩ (Nat.le_of_eq hX) (Nat.le_refl _) (Nat.le_refl _)
    · refine J_iconst (v := -1) C dX7_compareSizes_30 (by decide) ?_
      refine J_goto (tgt := 35) C dX7_compareSizes_31 (by decide) ?_
      refine hR _ _ _ _ _ _ dX7_compareSizes_35 ⟨Or.inl ⟨rfl,vN_len na' nb' (by omega)⟩,rfl⟩ (Nat.le_of_eq hX) (Nat.le_refl _) (Nat.le_refl _)
set_option maxHeartbeats 4000000 in
/-- scaled(a, by, to) -/
theorem m_scaled {a to n fa : Nat} (ha : a < 500) (hto : to < 500) (hne : a ≠ to) (hs : sz a = nI n) (hn : n < 4) (hl : lm z (2500 * a) n) (hf0 : 0 < fa) (hf : fa ≤ 1000000000) : jN vwCl yX7_scaled (wc yX7_scaled cX7_scaled 11 none) 0 0 [.ref 20, .int (nI a), .long (lN fa), .int (nI to)] (mW c0 c1 c2 c3 c4 c5 c6 c7 c8 c9 c10 c11 c12 c13 c14 c15 c16 c17 c18 c19 th z sz sg tk st ss sn el ro kt ks kn le lr pl rest) 0 0 (fun pw => ∃ (z' g' : Nat → Int32), pw = (mW c0 c1 c2 c3 c4 c5 c6 c7 c8 c9 c10 c11 c12 c13 c14 c15 c16 c17 c18 c19 th z' (upd sz to (nI (n + 1))) g' tk st ss sn el ro kt ks kn le lr pl rest) ∧ lm z' (2500 * to) (n + 1) ∧ vN z' (2500 * to) (n + 1) = fa * vN z (2500 * a) n ∧ ∀ c i, c ≠ to → i < 8 → z' (2500 * c + i) = z (2500 * c + i)) := by
  refine jN_of (cc := cX7_scaled) (nL := 11) (by decide) rfl (Nat.le_of_ble_eq_true rfl) ?_
  intro X C hX hR
  have hL : ∀ (d i : Nat) (g : Nat → Int32) (cr : Nat) (lv : Nat → Option Value), i + d = n → lm g (2500 * to) i → cr < fa → vN g (2500 * to) i + cr * 1000000000 ^ i = fa * vN z (2500 * a) i → (∀ c j, c ≠ to → j < 8 → g (2500 * c + j) = z (2500 * c + j)) → lv 0 = some (.ref 20) → lv 1 = some (.int (nI a)) → lv 2 = some (.long (lN fa)) → lv 4 = some (.int (nI to)) → lv 5 = some (.long (lN cr)) → lv 7 = some (.int (nI n)) → lv 8 = some (.int (nI i)) → J X 14 lv [] (mW c0 c1 c2 c3 c4 c5 c6 c7 c8 c9 c10 c11 c12 c13 c14 c15 c16 c17 c18 c19 th g sz sg tk st ss sn el ro kt ks kn le lr pl rest) 0 0 := by
    intro d
    induction d with
    | zero =>
      intro i g cr lv hd hg hc hv he h0 h1 h2 h4 h5 h7 h8
      have hi : i = n := by omega
      subst hi
      refine J_iload C dX7_scaled_14 h8 ?_
      refine J_iload C dX7_scaled_16 h7 ?_
      refine J_icmp_ge (tgt := 77) C dX7_scaled_18 (by decide) (fun h18q => have h18 := (nI_leI (by omega) (by omega)).mp h18q; ?_) (fun h18q => have h18 := (not_congr (nI_leI (by omega) (by omega))).mp h18q; ?_)
      · refine J_aload_n (i := 0) C dX7_scaled_77 rfl h0 ?_
        refine J_get (ci := 10) (k := 1) C dX7_scaled_78 (inT inX7) rfl (gc flX7_X7_z) (by decide) rfl rfl ?_
        refine J_sipush (v := nI 2500) C dX7_scaled_81 (by decide) ?_
        refine J_iload C dX7_scaled_84 h4 ?_
        refine J_imul C dX7_scaled_86 ?_
        refine J_eqi (pk_mul _ _) ?_
        refine J_iload C dX7_scaled_87 h7 ?_
        refine J_iadd C dX7_scaled_89 ?_
        refine J_eqi (nI_add _ _) ?_
        refine J_lload C dX7_scaled_90 h5 ?_
        refine J_l2i C dX7_scaled_92 (lN_i _) ?_
        refine J_st21 C dX7_scaled_93 (by omega) ?_
        refine J_aload_n (i := 0) C dX7_scaled_94 rfl h0 ?_
        refine J_get (ci := 10) (k := 2) C dX7_scaled_95 (inT inX7) rfl (gc flX7_X7_size) (by decide) rfl rfl ?_
        refine J_iload C dX7_scaled_98 h4 ?_
        refine J_iload C dX7_scaled_100 h7 ?_
        refine J_iconst (v := nI 1) C dX7_scaled_102 (by decide) ?_
        refine J_iadd C dX7_scaled_103 ?_
        refine J_eqi (nI_add _ _) ?_
        refine J_st22 C dX7_scaled_104 (by omega) ?_
        refine J_aload_n (i := 0) C dX7_scaled_105 rfl h0 ?_
        refine J_get (ci := 10) (k := 3) C dX7_scaled_106 (inT inX7) rfl (gc flX7_X7_sign) (by decide) rfl rfl ?_
        refine J_iload C dX7_scaled_109 h4 ?_
        refine J_iconst (v := nI 1) C dX7_scaled_111 (by decide) ?_
        refine J_st23 C dX7_scaled_112 (by omega) ?_
        refine hR _ _ _ _ _ dX7_scaled_113 ⟨_,_,rfl,lm_up hg (by omega),(vN_up (by omega)).trans hv,fun c j hc hj => by rw [pk_un (by omega)]; exact he c j hc hj⟩ (Nat.le_of_eq hX) (Nat.le_refl _) (Nat.le_refl _)
      · exact absurd (Nat.le_refl _) h18
    | succ d ih =>
      intro i g cr lv hd hg hc hv he h0 h1 h2 h4 h5 h7 h8
      obtain ⟨a1, a2⟩ := hl i (by omega)
      have c1 : g (2500 * a + i) = nI (dg z (2500 * a + i)) := by rw [he a i hne (by omega)]; exact a1
      have hV : vN z (2500 * a) (i + 1) = vN z (2500 * a) i + dg z (2500 * a + i) * 1000000000 ^ i := rfl
      generalize dg z (2500 * a + i) = x at a1 a2 c1 hV
      have b1 : x * fa ≤ 999999999 * fa := Nat.mul_le_mul_right _ (by omega)
      refine J_iload C dX7_scaled_14 h8 ?_
      refine J_iload C dX7_scaled_16 h7 ?_
      refine J_icmp_ge (tgt := 77) C dX7_scaled_18 (by decide) (fun h18q => have h18 := (nI_leI (by omega) (by omega)).mp h18q; ?_) (fun h18q => have h18 := (not_congr (nI_leI (by omega) (by omega))).mp h18q; ?_)
      · exact absurd h18 (by omega)
      · refine J_aload_n (i := 0) C dX7_scaled_21 rfl h0 ?_
        refine J_get (ci := 10) (k := 1) C dX7_scaled_22 (inT inX7) rfl (gc flX7_X7_z) (by decide) rfl rfl ?_
        refine J_sipush (v := nI 2500) C dX7_scaled_25 (by decide) ?_
        refine J_iload_n (i := 1) C dX7_scaled_28 rfl h1 ?_
        refine J_imul C dX7_scaled_29 ?_
        refine J_eqi (pk_mul _ _) ?_
        refine J_iload C dX7_scaled_30 h8 ?_
        refine J_iadd C dX7_scaled_32 ?_
        refine J_eqi (nI_add _ _) ?_
        refine J_ialdN C dX7_scaled_33 rfl (by omega) (by omega) c1 ?_
        refine J_i2l C dX7_scaled_34 (nI_l (by omega)) ?_
        refine J_lload_n (i := 2) C dX7_scaled_35 rfl h2 ?_
        refine J_lmul C dX7_scaled_36 ?_
        refine J_eql (lN_mul _ _) ?_
        refine J_lload C dX7_scaled_37 h5 ?_
        refine J_ladd C dX7_scaled_39 ?_
        refine J_eql (lN_add _ _) ?_
        refine J_lstore C dX7_scaled_40 (by decide) ?_
        refine J_aload_n (i := 0) C dX7_scaled_42 rfl (js2_ref h0 (by decide) (by decide)) ?_
        refine J_get (ci := 10) (k := 1) C dX7_scaled_43 (inT inX7) rfl (gc flX7_X7_z) (by decide) rfl rfl ?_
        refine J_sipush (v := nI 2500) C dX7_scaled_46 (by decide) ?_
        refine J_iload C dX7_scaled_49 (js2_int h4 (by decide) (by decide)) ?_
        refine J_imul C dX7_scaled_51 ?_
        refine J_eqi (pk_mul _ _) ?_
        refine J_iload C dX7_scaled_52 (js2_int h8 (by decide) (by decide)) ?_
        refine J_iadd C dX7_scaled_54 ?_
        refine J_eqi (nI_add _ _) ?_
        refine J_lload C dX7_scaled_55 js2_at ?_
        refine J_ldc2 C (gc clX7_1000000000) dX7_scaled_57 ?_
        refine J_eql (y := lN 1000000000) (by decide) ?_
        refine J_lrem C dX7_scaled_60 (lN_ne0 (by omega) (by omega)) ?_
        refine J_eql (pk_lRem (by omega) (by omega) (by omega)) ?_
        refine J_l2i C dX7_scaled_61 (lN_i _) ?_
        refine J_st21 C dX7_scaled_62 (by omega) ?_
        refine J_lload C dX7_scaled_63 js2_at ?_
        refine J_ldc2 C (gc clX7_1000000000) dX7_scaled_65 ?_
        refine J_eql (y := lN 1000000000) (by decide) ?_
        refine J_ldiv C dX7_scaled_68 (lN_ne0 (by omega) (by omega)) ?_
        refine J_eql (pk_lDiv (by omega) (by omega) (by omega)) ?_
        refine J_lstore C dX7_scaled_69 (by decide) ?_
        refine J_iinc C dX7_scaled_71 (js2_int (js2_int h8 (by decide) (by decide)) (by decide) (by decide)) (nI_1 _) ?_
        refine J_goto (tgt := 14) C dX7_scaled_74 (by decide) ?_
        refine ih (i + 1) _ _ _ (by omega) (lm_up hg (by omega)) (by omega) ?_ (fun c j hc hj => by rw [pk_un (by omega)]; exact he c j hc hj) (js1_ref (js2_ref (js2_ref h0 (by decide) (by decide)) (by decide) (by decide)) (by decide)) (js1_int (js2_int (js2_int h1 (by decide) (by decide)) (by decide) (by decide)) (by decide)) (js1_long (js2_long (js2_long h2 (by decide) (by decide) (by decide)) (by decide) (by decide) (by decide)) (by decide) (by decide)) (js1_int (js2_int (js2_int h4 (by decide) (by decide)) (by decide) (by decide)) (by decide)) (js1_long js2_at (by decide) (by decide)) (js1_int (js2_int (js2_int h7 (by decide) (by decide)) (by decide) (by decide)) (by decide)) js1_at
        rw [vN_up (by omega), hV, Nat.pow_succ]
        exact mul_step hv (by omega)
  refine J_lconst (v := lN 0) C dX7_scaled_0 (by decide) ?_
  refine J_lstore C dX7_scaled_1 (by decide) ?_
  refine J_aload_n (i := 0) C dX7_scaled_3 rfl rfl ?_
  refine J_get (ci := 10) (k := 2) C dX7_scaled_4 (inT inX7) rfl (gc flX7_X7_size) (by decide) rfl rfl ?_
  refine J_iload_n (i := 1) C dX7_scaled_7 rfl rfl ?_
  refine J_ialdN C dX7_scaled_8 rfl (by omega) (by omega) hs ?_
  refine J_istore C dX7_scaled_9 (by decide) ?_
  refine J_iconst (v := nI 0) C dX7_scaled_11 (by decide) ?_
  refine J_istore C dX7_scaled_12 (by decide) ?_
  refine hL n 0 z 0 _ (by omega) (fun k hk => absurd hk (by omega)) hf0 (by simp [vN]) (fun _ _ _ _ => rfl) rfl rfl rfl rfl rfl rfl rfl
end MC

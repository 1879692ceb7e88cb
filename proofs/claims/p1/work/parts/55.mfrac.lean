section MF
variable {c0 c1 c2 c3 c4 c5 c6 c7 c8 c9 c10 c11 c12 c13 c14 c15 c16 c17 c18 c19 : jE} {th : Int32} {z sz sg : Nat → Int32} {tk : Int32} {st ss sn : Nat → Int32} {el ro : Int32} {kt ks kn : Nat → Int32} {le : Int32} {lr : Nat → Int32} {pl : Int32} {rest : jW}
set_option maxHeartbeats 1000000 in
theorem m_many {pw : jW} : jI vwCl yX7_many (wc yX7_many cX7_many 1 (some .int)) 0 0 [.int 0] pw 0 0 (fun r pw' => r = nI 1 ∧ pw' = pw) := by
  refine jI_of (cc := cX7_many) (nL := 1) .int (by decide) rfl (Nat.le_of_ble_eq_true rfl) (fun _ _ _ => rfl) ?_
  intro X C hX hR
  refine J_iconst (v := nI 1) C dX7_many_0 (by decide) ?_
  refine J_iload_n (i := 0) C dX7_many_1 rfl rfl ?_
  refine J_ishl C dX7_many_2 ?_
  refine J_eqi (y := nI 1) (by decide) ?_
  refine hR _ _ _ _ _ _ dX7_many_3 ⟨rfl,rfl⟩ (Nat.le_of_eq hX) (Nat.le_refl _) (Nat.le_refl _)
set_option maxHeartbeats 1000000 in
theorem m_takeNumber0 {t : Nat} : jI vwCl yX7_takeNumber (wc yX7_takeNumber cX7_takeNumber 2 (some .int)) 1 60 [.ref 20, .int 0] (mW c0 c1 c2 c3 c4 c5 c6 c7 c8 c9 c10 c11 c12 c13 c14 c15 c16 c17 c18 c19 th z sz sg (nI t) st ss sn el ro kt ks kn le lr pl rest) 0 0 (fun r pw => r = nI t ∧ pw = (mW c0 c1 c2 c3 c4 c5 c6 c7 c8 c9 c10 c11 c12 c13 c14 c15 c16 c17 c18 c19 th z sz sg (nI (t + 2)) st ss sn el ro kt ks kn le lr pl rest)) := by
  refine jI_of (cc := cX7_takeNumber) (nL := 2) .int (by decide) rfl (Nat.le_of_ble_eq_true rfl) (fun _ _ _ => rfl) ?_
  intro X C hX hR
  refine J_aload_n (i := 0) C dX7_takeNumber_0 rfl rfl ?_
  refine J_iconst (v := nI 2) C dX7_takeNumber_1 (by decide) ?_
  refine J_iload_n (i := 1) C dX7_takeNumber_2 rfl rfl ?_
  refine J_callSi C [.int 0] 31 m_many (gSt mlX7_X7_many stX7_many iniX7 cdX7_many) rfl dsX7_many ⟨by decide, by decide⟩ dX7_takeNumber_3 rfl (Nat.le_of_ble_eq_true rfl) rfl (Nat.le_of_ble_eq_true rfl) (Nat.le_of_eq hX) (Nat.le_of_ble_eq_true rfl) (Nat.le_of_ble_eq_true rfl) (fun r pw h hl => ?_)
  obtain ⟨rfl, rfl⟩ := h
  refine J_imul C dX7_takeNumber_6 ?_
  refine J_eqi (pk_mul _ _) ?_
  refine J_callVi C [.int (nI (2 * 1))] rfl rfl 31 (m_take (n := 2 * 1)) (gV mlX7_X7_take imX7_take slX7_take iniX7 cdX7_take) rfl dsX7_take ⟨by decide, by decide⟩ dX7_takeNumber_7 rfl (Nat.le_of_ble_eq_true rfl) rfl (Nat.le_of_ble_eq_true rfl) (Nat.le_of_eq hX) (Nat.le_of_ble_eq_true rfl) (Nat.le_of_ble_eq_true rfl) (fun r pw h hl => ?_)
  obtain ⟨rfl, rfl⟩ := h
  refine hR _ _ _ _ _ _ dX7_takeNumber_10 ⟨rfl,rfl⟩ (Nat.le_of_eq hX) (Nat.le_refl _) (Nat.le_refl _)
set_option maxHeartbeats 2000000 in
theorem m_vClear0 {a t : Nat} (ha : a + 1 < 500) : jN vwCl yX7_vClear (wc yX7_vClear cX7_vClear 4 none) 3 180 [.ref 20, .int (nI a), .int 0] (mW c0 c1 c2 c3 c4 c5 c6 c7 c8 c9 c10 c11 c12 c13 c14 c15 c16 c17 c18 c19 th z sz sg (nI t) st ss sn el ro kt ks kn le lr pl rest) 0 0 (fun pw => ∃ (z' s' g' : Nat → Int32), pw = (mW c0 c1 c2 c3 c4 c5 c6 c7 c8 c9 c10 c11 c12 c13 c14 c15 c16 c17 c18 c19 th z' s' g' (nI t) st ss sn el ro kt ks kn le lr pl rest)) := by
  refine jN_of (cc := cX7_vClear) (nL := 4) (by decide) rfl (Nat.le_of_ble_eq_true rfl) ?_
  intro X C hX hR
  have hM : ∀ (lv : Nat → Option Value), lv 0 = some (.ref 20) → lv 1 = some (.int (nI a)) → lv 2 = some (.int 0) → J X 0 lv [] (mW c0 c1 c2 c3 c4 c5 c6 c7 c8 c9 c10 c11 c12 c13 c14 c15 c16 c17 c18 c19 th z sz sg (nI t) st ss sn el ro kt ks kn le lr pl rest) 0 0 := by
    intro lv h0 h1 h2
    refine J_iconst (v := nI 0) C dX7_vClear_0 (by decide) ?_
    refine J_istore_n (i := 3) C dX7_vClear_1 rfl (by decide) ?_
    refine J_iload_n (i := 3) C dX7_vClear_2 rfl js1_at ?_
    refine J_iload_n (i := 2) C dX7_vClear_3 rfl (js1_int h2 (by decide)) ?_
    refine J_callSi C [.int 0] 31 m_many (gSt mlX7_X7_many stX7_many iniX7 cdX7_many) rfl dsX7_many ⟨by decide, by decide⟩ dX7_vClear_4 rfl (Nat.le_of_ble_eq_true rfl) rfl (Nat.le_of_ble_eq_true rfl) (Nat.le_of_eq hX) (Nat.le_of_ble_eq_true rfl) (Nat.le_of_ble_eq_true rfl) (fun r pw h hl => ?_)
    obtain ⟨rfl, rfl⟩ := h
    refine J_icmp_ge (tgt := 27) C dX7_vClear_7 (by decide) (fun h7q => have h7 := (nI_leI (by omega) (by omega)).mp h7q; ?_) (fun h7q => have h7 := (not_congr (nI_leI (by omega) (by omega))).mp h7q; ?_)
    · exact absurd h7 (by decide)
    · refine J_aload_n (i := 0) C dX7_vClear_10 rfl (jdrop_of (js1_ref h0 (by decide)) rfl) ?_
      refine J_iload_n (i := 1) C dX7_vClear_11 rfl (jdrop_of (js1_int h1 (by decide)) rfl) ?_
      refine J_iconst (v := nI 2) C dX7_vClear_12 (by decide) ?_
      refine J_iload_n (i := 3) C dX7_vClear_13 rfl (jdrop_of js1_at rfl) ?_
      refine J_imul C dX7_vClear_14 ?_
      refine J_eqi (pk_mul _ _) ?_
      refine J_iadd C dX7_vClear_15 ?_
      refine J_eqi (y := nI a) (nI_add _ _) ?_
      refine J_lconst (v := lN 0) C dX7_vClear_16 (by decide) ?_
      refine J_lconst (v := lN 1) C dX7_vClear_17 (by decide) ?_
      refine J_callVn C [.int (nI a), .long (lN 0), .long (lN 1)] rfl rfl 31 (m_fSet01 ha) (gV mlX7_X7_fSet imX7_fSet slX7_fSet iniX7 cdX7_fSet) rfl dsX7_fSet ⟨by decide, by decide⟩ dX7_vClear_18 rfl (Nat.le_of_ble_eq_true rfl) rfl (Nat.le_of_ble_eq_true rfl) (Nat.le_of_eq hX) (Nat.le_of_ble_eq_true rfl) (Nat.le_of_ble_eq_true rfl) (fun pw h hl => ?_)
      subst h
      refine J_iinc C dX7_vClear_21 (jdrop_of (jdrop_of js1_at rfl) rfl) (nI_1 _) ?_
      refine J_goto (tgt := 2) C dX7_vClear_24 (by decide) ?_
      refine J_iload_n (i := 3) C dX7_vClear_2 rfl js1_at ?_
      refine J_iload_n (i := 2) C dX7_vClear_3 rfl (js1_int (jdrop_of (jdrop_of (js1_int h2 (by decide)) rfl) rfl) (by decide)) ?_
      refine J_callSi C [.int 0] 31 m_many (gSt mlX7_X7_many stX7_many iniX7 cdX7_many) rfl dsX7_many ⟨by decide, by decide⟩ dX7_vClear_4 rfl (Nat.le_of_ble_eq_true rfl) rfl (Nat.le_of_ble_eq_true rfl) (Nat.le_of_eq hX) (Nat.le_of_ble_eq_true rfl) (Nat.le_of_ble_eq_true rfl) (fun r pw h hl => ?_)
      obtain ⟨rfl, rfl⟩ := h
      refine J_icmp_ge (tgt := 27) C dX7_vClear_7 (by decide) (fun h7q => have h7 := (nI_leI (by omega) (by omega)).mp h7q; ?_) (fun h7q => have h7 := (not_congr (nI_leI (by omega) (by omega))).mp h7q; ?_)
      · refine hR _ _ _ _ _ dX7_vClear_27 ⟨_,_,_,rfl⟩ (Nat.le_of_eq hX) (Nat.le_refl _) (Nat.le_refl _)
      · exact absurd (by decide) h7
  exact hM _ rfl rfl rfl
set_option maxHeartbeats 4000000 in
/-- keepPart(f, at) -/
theorem m_keepPart {f at_ k1 k2 : Nat} (h1' : sz f = nI k1) (h2' : sz (f + 1) = nI k2) (b1 : k1 < 8) (b2 : k2 < 8) (hf : f + 1 < 500) (hat : at_ < 1000) : jN vwCl yX7_keepPart (wc yX7_keepPart cX7_keepPart 6 none) 0 0 [.ref 20, .int (nI f), .int (nI at_)] (mW c0 c1 c2 c3 c4 c5 c6 c7 c8 c9 c10 c11 c12 c13 c14 c15 c16 c17 c18 c19 th z sz sg tk st ss sn el ro kt ks kn le lr pl rest) 0 0 (fun pw => ∃ (st' ss' sn' : Nat → Int32), pw = (mW c0 c1 c2 c3 c4 c5 c6 c7 c8 c9 c10 c11 c12 c13 c14 c15 c16 c17 c18 c19 th z sz sg tk st' ss' sn' el ro kt ks kn le lr pl rest)) := by
  refine jN_of (cc := cX7_keepPart) (nL := 6) (by decide) rfl (Nat.le_of_ble_eq_true rfl) ?_
  intro X C hX hR
  have hS : ∀ (i k : Nat) (st' ss' sn' : Nat → Int32) (lv : Nat → Option Value), i < 2 → sz (f + i) = nI k → k < 8 → lv 0 = some (.ref 20) → lv 1 = some (.int (nI f)) → lv 2 = some (.int (nI at_)) → lv 3 = some (.int (nI i)) →
      (∀ (st2 ss2 sn2 : Nat → Int32) (lv2 : Nat → Option Value), lv2 0 = some (.ref 20) → lv2 1 = some (.int (nI f)) → lv2 2 = some (.int (nI at_)) → lv2 3 = some (.int (nI (i + 1))) → J X 2 lv2 [] (mW c0 c1 c2 c3 c4 c5 c6 c7 c8 c9 c10 c11 c12 c13 c14 c15 c16 c17 c18 c19 th z sz sg tk st2 ss2 sn2 el ro kt ks kn le lr pl rest) 0 0) → J X 2 lv [] (mW c0 c1 c2 c3 c4 c5 c6 c7 c8 c9 c10 c11 c12 c13 c14 c15 c16 c17 c18 c19 th z sz sg tk st' ss' sn' el ro kt ks kn le lr pl rest) 0 0 := by
    intro i k st' ss' sn' lv hi hk hk8 h0 h1 h2 h3 hc
    have hL : ∀ (d j : Nat) (st2 ss2 sn2 : Nat → Int32) (lv : Nat → Option Value), j + d = k → lv 0 = some (.ref 20) → lv 1 = some (.int (nI f)) → lv 2 = some (.int (nI at_)) → lv 3 = some (.int (nI i)) → lv 4 = some (.int (nI (2 * at_ + i))) → lv 5 = some (.int (nI j)) → J X 47 lv [] (mW c0 c1 c2 c3 c4 c5 c6 c7 c8 c9 c10 c11 c12 c13 c14 c15 c16 c17 c18 c19 th z sz sg tk st2 ss2 sn2 el ro kt ks kn le lr pl rest) 0 0 := by
      intro d
      induction d with
      | zero =>
        intro j st2 ss2 sn2 lv hd h0 h1 h2 h3 h4 h5
        refine J_iload C dX7_keepPart_47 h5 ?_
        refine J_aload_n (i := 0) C dX7_keepPart_49 rfl h0 ?_
        refine J_get (ci := 10) (k := 2) C dX7_keepPart_50 (inT inX7) rfl (gc flX7_X7_size) (by decide) rfl rfl ?_
        refine J_iload_n (i := 1) C dX7_keepPart_53 rfl h1 ?_
        refine J_iload_n (i := 3) C dX7_keepPart_54 rfl h3 ?_
        refine J_iadd C dX7_keepPart_55 ?_
        refine J_eqi (nI_add _ _) ?_
        refine J_ialdN C dX7_keepPart_56 rfl (by omega) (by omega) hk ?_
        refine J_icmp_ge (tgt := 94) C dX7_keepPart_57 (by decide) (fun h57q => have h57 := (nI_leI (by omega) (by omega)).mp h57q; ?_) (fun h57q => have h57 := (not_congr (nI_leI (by omega) (by omega))).mp h57q; ?_)
        · refine J_iinc C dX7_keepPart_94 h3 (nI_1 _) ?_
          refine J_goto (tgt := 2) C dX7_keepPart_97 (by decide) ?_
          exact hc st2 ss2 sn2 _ (js1_ref h0 (by decide)) (js1_int h1 (by decide)) (js1_int h2 (by decide)) js1_at
        · exact absurd (by omega) h57
      | succ d ih =>
        intro j st2 ss2 sn2 lv hd h0 h1 h2 h3 h4 h5
        refine J_iload C dX7_keepPart_47 h5 ?_
        refine J_aload_n (i := 0) C dX7_keepPart_49 rfl h0 ?_
        refine J_get (ci := 10) (k := 2) C dX7_keepPart_50 (inT inX7) rfl (gc flX7_X7_size) (by decide) rfl rfl ?_
        refine J_iload_n (i := 1) C dX7_keepPart_53 rfl h1 ?_
        refine J_iload_n (i := 3) C dX7_keepPart_54 rfl h3 ?_
        refine J_iadd C dX7_keepPart_55 ?_
        refine J_eqi (nI_add _ _) ?_
        refine J_ialdN C dX7_keepPart_56 rfl (by omega) (by omega) hk ?_
        refine J_icmp_ge (tgt := 94) C dX7_keepPart_57 (by decide) (fun h57q => have h57 := (nI_leI (by omega) (by omega)).mp h57q; ?_) (fun h57q => have h57 := (not_congr (nI_leI (by omega) (by omega))).mp h57q; ?_)
        · exact absurd h57 (by omega)
        · refine J_aload_n (i := 0) C dX7_keepPart_60 rfl h0 ?_
          refine J_get (ci := 10) (k := 5) C dX7_keepPart_61 (inT inX7) rfl (gc flX7_X7_store) (by decide) rfl rfl ?_
          refine J_bipush (v := nI 8) C dX7_keepPart_64 (by decide) ?_
          refine J_iload C dX7_keepPart_66 h4 ?_
          refine J_imul C dX7_keepPart_68 ?_
          refine J_eqi (pk_mul _ _) ?_
          refine J_iload C dX7_keepPart_69 h5 ?_
          refine J_iadd C dX7_keepPart_71 ?_
          refine J_eqi (nI_add _ _) ?_
          refine J_aload_n (i := 0) C dX7_keepPart_72 rfl h0 ?_
          refine J_get (ci := 10) (k := 1) C dX7_keepPart_73 (inT inX7) rfl (gc flX7_X7_z) (by decide) rfl rfl ?_
          refine J_sipush (v := nI 2500) C dX7_keepPart_76 (by decide) ?_
          refine J_iload_n (i := 1) C dX7_keepPart_79 rfl h1 ?_
          refine J_iload_n (i := 3) C dX7_keepPart_80 rfl h3 ?_
          refine J_iadd C dX7_keepPart_81 ?_
          refine J_eqi (nI_add _ _) ?_
          refine J_imul C dX7_keepPart_82 ?_
          refine J_eqi (pk_mul _ _) ?_
          refine J_iload C dX7_keepPart_83 h5 ?_
          refine J_iadd C dX7_keepPart_85 ?_
          refine J_eqi (nI_add _ _) ?_
          refine J_ialdN C dX7_keepPart_86 rfl (by omega) (by omega) rfl ?_
          refine J_iastN C dX7_keepPart_87 rfl (by omega) (by omega) ?_
          refine J_iinc C dX7_keepPart_88 h5 (nI_1 _) ?_
          refine J_goto (tgt := 47) C dX7_keepPart_91 (by decide) ?_
          exact ih (j + 1) _ ss2 sn2 _ (by omega) (js1_ref h0 (by decide)) (js1_int h1 (by decide)) (js1_int h2 (by decide)) (js1_int h3 (by decide)) (js1_int h4 (by decide)) js1_at
    refine J_iload_n (i := 3) C dX7_keepPart_2 rfl h3 ?_
    refine J_iconst (v := nI 2) C dX7_keepPart_3 (by decide) ?_
    refine J_icmp_ge (tgt := 100) C dX7_keepPart_4 (by decide) (fun h4q => have h4 := (nI_leI (by omega) (by omega)).mp h4q; ?_) (fun h4q => have h4 := (not_congr (nI_leI (by omega) (by omega))).mp h4q; ?_)
    · exact absurd h4 (by omega)
    · refine J_iconst (v := nI 2) C dX7_keepPart_7 (by decide) ?_
      refine J_iload_n (i := 2) C dX7_keepPart_8 rfl h2 ?_
      refine J_imul C dX7_keepPart_9 ?_
      refine J_eqi (pk_mul _ _) ?_
      refine J_iload_n (i := 3) C dX7_keepPart_10 rfl h3 ?_
      refine J_iadd C dX7_keepPart_11 ?_
      refine J_eqi (nI_add _ _) ?_
      refine J_istore C dX7_keepPart_12 (by decide) ?_
      refine J_aload_n (i := 0) C dX7_keepPart_14 rfl (js1_ref h0 (by decide)) ?_
      refine J_get (ci := 10) (k := 6) C dX7_keepPart_15 (inT inX7) rfl (gc flX7_X7_storeSize) (by decide) rfl rfl ?_
      refine J_iload C dX7_keepPart_18 js1_at ?_
      refine J_aload_n (i := 0) C dX7_keepPart_20 rfl (js1_ref h0 (by decide)) ?_
      refine J_get (ci := 10) (k := 2) C dX7_keepPart_21 (inT inX7) rfl (gc flX7_X7_size) (by decide) rfl rfl ?_
      refine J_iload_n (i := 1) C dX7_keepPart_24 rfl (js1_int h1 (by decide)) ?_
      refine J_iload_n (i := 3) C dX7_keepPart_25 rfl (js1_int h3 (by decide)) ?_
      refine J_iadd C dX7_keepPart_26 ?_
      refine J_eqi (nI_add _ _) ?_
      refine J_ialdN C dX7_keepPart_27 rfl (by omega) (by omega) rfl ?_
      refine J_iastN C dX7_keepPart_28 rfl (by omega) (by omega) ?_
      refine J_aload_n (i := 0) C dX7_keepPart_29 rfl (js1_ref h0 (by decide)) ?_
      refine J_get (ci := 10) (k := 7) C dX7_keepPart_30 (inT inX7) rfl (gc flX7_X7_storeSign) (by decide) rfl rfl ?_
      refine J_iload C dX7_keepPart_33 js1_at ?_
      refine J_aload_n (i := 0) C dX7_keepPart_35 rfl (js1_ref h0 (by decide)) ?_
      refine J_get (ci := 10) (k := 3) C dX7_keepPart_36 (inT inX7) rfl (gc flX7_X7_sign) (by decide) rfl rfl ?_
      refine J_iload_n (i := 1) C dX7_keepPart_39 rfl (js1_int h1 (by decide)) ?_
      refine J_iload_n (i := 3) C dX7_keepPart_40 rfl (js1_int h3 (by decide)) ?_
      refine J_iadd C dX7_keepPart_41 ?_
      refine J_eqi (nI_add _ _) ?_
      refine J_ialdN C dX7_keepPart_42 rfl (by omega) (by omega) rfl ?_
      refine J_iastN C dX7_keepPart_43 rfl (by omega) (by omega) ?_
      refine J_iconst (v := nI 0) C dX7_keepPart_44 (by decide) ?_
      refine J_istore C dX7_keepPart_45 (by decide) ?_
      exact hL k 0 st' _ _ _ (by omega) (js1_ref (js1_ref h0 (by decide)) (by decide)) (js1_int (js1_int h1 (by decide)) (by decide)) (js1_int (js1_int h2 (by decide)) (by decide)) (js1_int (js1_int h3 (by decide)) (by decide)) (js1_int js1_at (by decide)) js1_at
  refine J_iconst (v := nI 0) C dX7_keepPart_0 (by decide) ?_
  refine J_istore_n (i := 3) C dX7_keepPart_1 rfl (by decide) ?_
  refine hS 0 k1 st ss sn _ (by decide) h1' b1 rfl rfl rfl rfl (fun s2 s3 s4 lv2 h0 h1 h2 h3 => ?_)
  refine hS 1 k2 s2 s3 s4 _ (by decide) h2' b2 h0 h1 h2 h3 (fun s5 s6 s7 lv2 h0 h1 h2 h3 => ?_)
  refine J_iload_n (i := 3) C dX7_keepPart_2 rfl h3 ?_
  refine J_iconst (v := nI 2) C dX7_keepPart_3 (by decide) ?_
  refine J_icmp_ge (tgt := 100) C dX7_keepPart_4 (by decide) (fun h4q => have h4 := (nI_leI (by omega) (by omega)).mp h4q; ?_) (fun h4q => have h4 := (not_congr (nI_leI (by omega) (by omega))).mp h4q; ?_)
  · refine hR _ _ _ _ _ dX7_keepPart_100 ⟨s5,s6,s7,rfl⟩ (Nat.le_of_eq hX) (Nat.le_refl _) (Nat.le_refl _)
  · exact absurd (by decide) h4
set_option maxHeartbeats 4000000 in
/-- noPart(at) -/
theorem m_noPart {at_ : Nat} (hat : at_ < 1000) : jN vwCl yX7_noPart (wc yX7_noPart cX7_noPart 2 none) 0 0 [.ref 20, .int (nI at_)] (mW c0 c1 c2 c3 c4 c5 c6 c7 c8 c9 c10 c11 c12 c13 c14 c15 c16 c17 c18 c19 th z sz sg tk st ss sn el ro kt ks kn le lr pl rest) 0 0 (fun pw => ∃ (st' ss' sn' : Nat → Int32), pw = (mW c0 c1 c2 c3 c4 c5 c6 c7 c8 c9 c10 c11 c12 c13 c14 c15 c16 c17 c18 c19 th z sz sg tk st' ss' sn' el ro kt ks kn le lr pl rest)) := by
  refine jN_of (cc := cX7_noPart) (nL := 2) (by decide) rfl (Nat.le_of_ble_eq_true rfl) ?_
  intro X C hX hR
  refine J_aload_n (i := 0) C dX7_noPart_0 rfl rfl ?_
  refine J_get (ci := 10) (k := 6) C dX7_noPart_1 (inT inX7) rfl (gc flX7_X7_storeSize) (by decide) rfl rfl ?_
  refine J_iconst (v := nI 2) C dX7_noPart_4 (by decide) ?_
  refine J_iload_n (i := 1) C dX7_noPart_5 rfl rfl ?_
  refine J_imul C dX7_noPart_6 ?_
  refine J_eqi (pk_mul _ _) ?_
  refine J_iconst (v := nI 0) C dX7_noPart_7 (by decide) ?_
  refine J_iastN C dX7_noPart_8 rfl (by omega) (by omega) ?_
  refine J_eqw (pw' := (mW c0 c1 c2 c3 c4 c5 c6 c7 c8 c9 c10 c11 c12 c13 c14 c15 c16 c17 c18 c19 th z sz sg tk st _ sn el ro kt ks kn le lr pl rest)) rfl ?_
  refine J_aload_n (i := 0) C dX7_noPart_9 rfl rfl ?_
  refine J_get (ci := 10) (k := 7) C dX7_noPart_10 (inT inX7) rfl (gc flX7_X7_storeSign) (by decide) rfl rfl ?_
  refine J_iconst (v := nI 2) C dX7_noPart_13 (by decide) ?_
  refine J_iload_n (i := 1) C dX7_noPart_14 rfl rfl ?_
  refine J_imul C dX7_noPart_15 ?_
  refine J_eqi (pk_mul _ _) ?_
  refine J_iconst (v := nI 0) C dX7_noPart_16 (by decide) ?_
  refine J_iastN C dX7_noPart_17 rfl (by omega) (by omega) ?_
  refine J_eqw (pw' := (mW c0 c1 c2 c3 c4 c5 c6 c7 c8 c9 c10 c11 c12 c13 c14 c15 c16 c17 c18 c19 th z sz sg tk st _ _ el ro kt ks kn le lr pl rest)) rfl ?_
  refine J_aload_n (i := 0) C dX7_noPart_18 rfl rfl ?_
  refine J_get (ci := 10) (k := 6) C dX7_noPart_19 (inT inX7) rfl (gc flX7_X7_storeSize) (by decide) rfl rfl ?_
  refine J_iconst (v := nI 2) C dX7_noPart_22 (by decide) ?_
  refine J_iload_n (i := 1) C dX7_noPart_23 rfl rfl ?_
  refine J_imul C dX7_noPart_24 ?_
  refine J_eqi (pk_mul _ _) ?_
  refine J_iconst (v := nI 1) C dX7_noPart_25 (by decide) ?_
  refine J_iadd C dX7_noPart_26 ?_
  refine J_eqi (nI_add _ _) ?_
  refine J_iconst (v := nI 1) C dX7_noPart_27 (by decide) ?_
  refine J_iastN C dX7_noPart_28 rfl (by omega) (by omega) ?_
  refine J_eqw (pw' := (mW c0 c1 c2 c3 c4 c5 c6 c7 c8 c9 c10 c11 c12 c13 c14 c15 c16 c17 c18 c19 th z sz sg tk st _ _ el ro kt ks kn le lr pl rest)) rfl ?_
  refine J_aload_n (i := 0) C dX7_noPart_29 rfl rfl ?_
  refine J_get (ci := 10) (k := 7) C dX7_noPart_30 (inT inX7) rfl (gc flX7_X7_storeSign) (by decide) rfl rfl ?_
  refine J_iconst (v := nI 2) C dX7_noPart_33 (by decide) ?_
  refine J_iload_n (i := 1) C dX7_noPart_34 rfl rfl ?_
  refine J_imul C dX7_noPart_35 ?_
  refine J_eqi (pk_mul _ _) ?_
  refine J_iconst (v := nI 1) C dX7_noPart_36 (by decide) ?_
  refine J_iadd C dX7_noPart_37 ?_
  refine J_eqi (nI_add _ _) ?_
  refine J_iconst (v := nI 1) C dX7_noPart_38 (by decide) ?_
  refine J_iastN C dX7_noPart_39 rfl (by omega) (by omega) ?_
  refine J_eqw (pw' := (mW c0 c1 c2 c3 c4 c5 c6 c7 c8 c9 c10 c11 c12 c13 c14 c15 c16 c17 c18 c19 th z sz sg tk st _ _ el ro kt ks kn le lr pl rest)) rfl ?_
  refine J_aload_n (i := 0) C dX7_noPart_40 rfl rfl ?_
  refine J_get (ci := 10) (k := 5) C dX7_noPart_41 (inT inX7) rfl (gc flX7_X7_store) (by decide) rfl rfl ?_
  refine J_bipush (v := nI 8) C dX7_noPart_44 (by decide) ?_
  refine J_iconst (v := nI 2) C dX7_noPart_46 (by decide) ?_
  refine J_iload_n (i := 1) C dX7_noPart_47 rfl rfl ?_
  refine J_imul C dX7_noPart_48 ?_
  refine J_eqi (pk_mul _ _) ?_
  refine J_iconst (v := nI 1) C dX7_noPart_49 (by decide) ?_
  refine J_iadd C dX7_noPart_50 ?_
  refine J_eqi (nI_add _ _) ?_
  refine J_imul C dX7_noPart_51 ?_
  refine J_eqi (pk_mul _ _) ?_
  refine J_iconst (v := nI 1) C dX7_noPart_52 (by decide) ?_
  refine J_iastN C dX7_noPart_53 rfl (by omega) (by omega) ?_
  refine hR _ _ _ _ _ dX7_noPart_54 ⟨_,_,_,rfl⟩ (Nat.le_of_eq hX) (Nat.le_refl _) (Nat.le_refl _)
set_option maxHeartbeats 4000000 in
/-- keepElement(v), the first one -/
theorem m_keepElement0 {v k1 k2 : Nat} (h1' : sz v = nI k1) (h2' : sz (v + 1) = nI k2) (b1 : k1 < 8) (b2 : k2 < 8) (hv : v + 1 < 500) : jI vwCl yX7_keepElement (wc yX7_keepElement cX7_keepElement 3 (some .int)) 1 60 [.ref 20, .int (nI v)] (mW c0 c1 c2 c3 c4 c5 c6 c7 c8 c9 c10 c11 c12 c13 c14 c15 c16 c17 c18 c19 th z sz sg tk st ss sn 0 0 kt ks kn le lr pl rest) 0 0 (fun r _ => r = nI 0) := by
  refine jI_of (cc := cX7_keepElement) (nL := 3) .int (by decide) rfl (Nat.le_of_ble_eq_true rfl) (fun _ _ _ => rfl) ?_
  intro X C hX hR
  have hL : ∀ (d i : Nat) (st' ss' sn' : Nat → Int32) (lv : Nat → Option Value), i + d = 16 → lv 0 = some (.ref 20) → lv 1 = some (.int (nI v)) → lv 2 = some (.int (nI i)) → J X 2 lv [] (mW c0 c1 c2 c3 c4 c5 c6 c7 c8 c9 c10 c11 c12 c13 c14 c15 c16 c17 c18 c19 th z sz sg tk st' ss' sn' 0 0 kt ks kn le lr pl rest) 0 0 := by
    intro d
    induction d with
    | zero =>
      intro i st' ss' sn' lv hd h0 h1 h2
      refine J_iload_n (i := 2) C dX7_keepElement_2 rfl h2 ?_
      refine J_bipush (v := nI 16) C dX7_keepElement_3 (by decide) ?_
      refine J_icmp_ge (tgt := 59) C dX7_keepElement_5 (by decide) (fun h5q => have h5 := (nI_leI (by omega) (by omega)).mp h5q; ?_) (fun h5q => have h5 := (not_congr (nI_leI (by omega) (by omega))).mp h5q; ?_)
      · refine J_aload_n (i := 0) C dX7_keepElement_59 rfl h0 ?_
        refine J_dup C dX7_keepElement_60 rfl ?_
        refine J_get (ci := 10) (k := 8) C dX7_keepElement_61 (inT inX7) rfl (gc flX7_X7_elements) (by decide) rfl rfl ?_
        refine J_iconst (v := nI 1) C dX7_keepElement_64 (by decide) ?_
        refine J_iadd C dX7_keepElement_65 ?_
        refine J_eqi (y := nI 1) (by decide) ?_
        refine J_put (ci := 10) C 8 tyX7 tyX7_ok nmX7 dX7_keepElement_66 (inT inX7) rfl (gc flX7_X7_elements) (by decide) rfl (tyX7_ok 8 (by decide)) (fun _ => rfl) (fun _ => rfl) rfl (Nat.le_of_ble_eq_true rfl) ?_
        refine J_aload_n (i := 0) C dX7_keepElement_69 rfl h0 ?_
        refine J_get (ci := 10) (k := 8) C dX7_keepElement_70 (inT inX7) rfl (gc flX7_X7_elements) (by decide) rfl rfl ?_
        refine J_iconst (v := nI 1) C dX7_keepElement_73 (by decide) ?_
        refine J_isub C dX7_keepElement_74 ?_
        refine J_eqi (pk_sub (by omega)) ?_
        refine hR _ _ _ _ _ _ dX7_keepElement_75 rfl (Nat.le_of_eq hX) (Nat.le_refl _) (Nat.le_refl _)
      · exact absurd (by omega) h5
    | succ d ih =>
      intro i st' ss' sn' lv hd h0 h1 h2
      refine J_iload_n (i := 2) C dX7_keepElement_2 rfl h2 ?_
      refine J_bipush (v := nI 16) C dX7_keepElement_3 (by decide) ?_
      refine J_icmp_ge (tgt := 59) C dX7_keepElement_5 (by decide) (fun h5q => have h5 := (nI_leI (by omega) (by omega)).mp h5q; ?_) (fun h5q => have h5 := (not_congr (nI_leI (by omega) (by omega))).mp h5q; ?_)
      · exact absurd h5 (by omega)
      · refine J_iload_n (i := 2) C dX7_keepElement_8 rfl h2 ?_
        refine J_aload_n (i := 0) C dX7_keepElement_9 rfl h0 ?_
        refine J_get (ci := 10) (k := 9) C dX7_keepElement_10 (inT inX7) rfl (gc flX7_X7_roots) (by decide) rfl rfl ?_
        refine J_callSi C [.int 0] 31 m_many (gSt mlX7_X7_many stX7_many iniX7 cdX7_many) rfl dsX7_many ⟨by decide, by decide⟩ dX7_keepElement_13 rfl (Nat.le_of_ble_eq_true rfl) rfl (Nat.le_of_ble_eq_true rfl) (Nat.le_of_eq hX) (Nat.le_of_ble_eq_true rfl) (Nat.le_of_ble_eq_true rfl) (fun r pw h hl => ?_)
        obtain ⟨rfl, rfl⟩ := h
        refine J_icmp_ge (tgt := 40) C dX7_keepElement_16 (by decide) (fun h16q => have h16 := (nI_leI (by omega) (by omega)).mp h16q; ?_) (fun h16q => have h16 := (not_congr (nI_leI (by omega) (by omega))).mp h16q; ?_)
        · refine J_aload_n (i := 0) C dX7_keepElement_40 rfl (jdrop_of h0 rfl) ?_
          refine J_bipush (v := nI 16) C dX7_keepElement_41 (by decide) ?_
          refine J_aload_n (i := 0) C dX7_keepElement_43 rfl (jdrop_of h0 rfl) ?_
          refine J_get (ci := 10) (k := 8) C dX7_keepElement_44 (inT inX7) rfl (gc flX7_X7_elements) (by decide) rfl rfl ?_
          refine J_imul C dX7_keepElement_47 ?_
          refine J_eqi (y := nI 0) (by decide) ?_
          refine J_iload_n (i := 2) C dX7_keepElement_48 rfl (jdrop_of h2 rfl) ?_
          refine J_iadd C dX7_keepElement_49 ?_
          refine J_eqi (nI_add _ _) ?_
          refine J_callVn C [.int (nI (0 + i))] rfl rfl 31 (m_noPart (by omega)) (gV mlX7_X7_noPart imX7_noPart slX7_noPart iniX7 cdX7_noPart) rfl dsX7_noPart ⟨by decide, by decide⟩ dX7_keepElement_50 rfl (Nat.le_of_ble_eq_true rfl) rfl (Nat.le_of_ble_eq_true rfl) (Nat.le_of_eq hX) (Nat.le_of_ble_eq_true rfl) (Nat.le_of_ble_eq_true rfl) (fun pw h hl => ?_)
          obtain ⟨s1, s2, s3, rfl⟩ := h
          refine J_iinc C dX7_keepElement_53 (jdrop_of (jdrop_of h2 rfl) rfl) (nI_1 _) ?_
          refine J_goto (tgt := 2) C dX7_keepElement_56 (by decide) ?_
          exact ih (i + 1) s1 s2 s3 _ (by omega) (js1_ref (jdrop_of (jdrop_of h0 rfl) rfl) (by decide)) (js1_int (jdrop_of (jdrop_of h1 rfl) rfl) (by decide)) js1_at
        · have hi : i = 0 := by omega
          subst hi
          refine J_aload_n (i := 0) C dX7_keepElement_19 rfl (jdrop_of h0 rfl) ?_
          refine J_iload_n (i := 1) C dX7_keepElement_20 rfl (jdrop_of h1 rfl) ?_
          refine J_iconst (v := nI 2) C dX7_keepElement_21 (by decide) ?_
          refine J_iload_n (i := 2) C dX7_keepElement_22 rfl (jdrop_of h2 rfl) ?_
          refine J_imul C dX7_keepElement_23 ?_
          refine J_eqi (pk_mul _ _) ?_
          refine J_iadd C dX7_keepElement_24 ?_
          refine J_eqi (nI_add _ _) ?_
          refine J_bipush (v := nI 16) C dX7_keepElement_25 (by decide) ?_
          refine J_aload_n (i := 0) C dX7_keepElement_27 rfl (jdrop_of h0 rfl) ?_
          refine J_get (ci := 10) (k := 8) C dX7_keepElement_28 (inT inX7) rfl (gc flX7_X7_elements) (by decide) rfl rfl ?_
          refine J_imul C dX7_keepElement_31 ?_
          refine J_eqi (y := nI 0) (by decide) ?_
          refine J_iload_n (i := 2) C dX7_keepElement_32 rfl (jdrop_of h2 rfl) ?_
          refine J_iadd C dX7_keepElement_33 ?_
          refine J_eqi (nI_add _ _) ?_
          refine J_callVn C [.int (nI (v + 2 * 0)), .int (nI (0 + 0))] rfl rfl 31 (m_keepPart h1' h2' b1 b2 hv (by decide)) (gV mlX7_X7_keepPart imX7_keepPart slX7_keepPart iniX7 cdX7_keepPart) rfl dsX7_keepPart ⟨by decide, by decide⟩ dX7_keepElement_34 rfl (Nat.le_of_ble_eq_true rfl) rfl (Nat.le_of_ble_eq_true rfl) (Nat.le_of_eq hX) (Nat.le_of_ble_eq_true rfl) (Nat.le_of_ble_eq_true rfl) (fun pw h hl => ?_)
          obtain ⟨s1, s2, s3, rfl⟩ := h
          refine J_goto (tgt := 53) C dX7_keepElement_37 (by decide) ?_
          refine J_iinc C dX7_keepElement_53 (jdrop_of (jdrop_of h2 rfl) rfl) (nI_1 _) ?_
          refine J_goto (tgt := 2) C dX7_keepElement_56 (by decide) ?_
          exact ih (0 + 1) s1 s2 s3 _ (by omega) (js1_ref (jdrop_of (jdrop_of h0 rfl) rfl) (by decide)) (js1_int (jdrop_of (jdrop_of h1 rfl) rfl) (by decide)) js1_at
  refine J_iconst (v := nI 0) C dX7_keepElement_0 (by decide) ?_
  refine J_istore_n (i := 2) C dX7_keepElement_1 rfl (by decide) ?_
  exact hL 16 0 st ss sn _ rfl rfl rfl rfl
set_option maxHeartbeats 4000000 in
/-- fraction(up, down), of a fresh object -/
theorem m_fraction {up down : Int64} : jI vwCl yX7_fraction (wc yX7_fraction cX7_fraction 6 (some .int)) 4 240 [.ref 20, .long up, .long down] (mW c0 c1 c2 c3 c4 c5 c6 c7 c8 c9 c10 c11 c12 c13 c14 c15 c16 c17 c18 c19 th z sz sg tk st ss sn 0 0 kt ks kn le lr pl rest) 0 0 (fun r _ => r = if down = 0 then -2 else 0) := by
  refine jI_of (cc := cX7_fraction) (nL := 6) .int (by decide) rfl (Nat.le_of_ble_eq_true rfl) (fun _ _ _ => rfl) ?_
  intro X C hX hR
  have hM : ¬ down = 0 → ∀ (lv : Nat → Option Value), lv 0 = some (.ref 20) → lv 1 = some (.long up) → lv 3 = some (.long down) → J X 25 lv [] (mW c0 c1 c2 c3 c4 c5 c6 c7 c8 c9 c10 c11 c12 c13 c14 c15 c16 c17 c18 c19 0 z sz sg tk st ss sn 0 0 kt ks kn le lr pl rest) 0 0 := by
    intro hd lv h0 h1 h3
    refine J_aload_n (i := 0) C dX7_fraction_25 rfl h0 ?_
    refine J_iconst (v := nI 0) C dX7_fraction_26 (by decide) ?_
    refine J_put (ci := 10) C 4 tyX7 tyX7_ok nmX7 dX7_fraction_27 (inT inX7) rfl (gc flX7_X7_taken) (by decide) rfl (tyX7_ok 4 (by decide)) (fun _ => rfl) (fun _ => rfl) rfl (Nat.le_of_ble_eq_true rfl) ?_
    refine J_aload_n (i := 0) C dX7_fraction_30 rfl h0 ?_
    refine J_aload_n (i := 0) C dX7_fraction_31 rfl h0 ?_
    refine J_get (ci := 10) (k := 9) C dX7_fraction_32 (inT inX7) rfl (gc flX7_X7_roots) (by decide) rfl rfl ?_
    refine J_callVi C [.int 0] rfl rfl 31 (m_takeNumber0 (t := 0)) (gV mlX7_X7_takeNumber imX7_takeNumber slX7_takeNumber iniX7 cdX7_takeNumber) rfl dsX7_takeNumber ⟨by decide, by decide⟩ dX7_fraction_35 rfl (Nat.le_of_ble_eq_true rfl) rfl (Nat.le_of_ble_eq_true rfl) (Nat.le_of_eq hX) (Nat.le_of_ble_eq_true rfl) (Nat.le_of_ble_eq_true rfl) (fun r pw h hl => ?_)
    obtain ⟨rfl, rfl⟩ := h
    refine J_istore C dX7_fraction_38 (by decide) ?_
    refine J_aload_n (i := 0) C dX7_fraction_40 rfl (js1_ref (jdrop_of h0 rfl) (by decide)) ?_
    refine J_iload C dX7_fraction_41 js1_at ?_
    refine J_aload_n (i := 0) C dX7_fraction_43 rfl (js1_ref (jdrop_of h0 rfl) (by decide)) ?_
    refine J_get (ci := 10) (k := 9) C dX7_fraction_44 (inT inX7) rfl (gc flX7_X7_roots) (by decide) rfl rfl ?_
    refine J_callVn C [.int (nI 0), .int 0] rfl rfl 31 (m_vClear0 (t := 0 + 2) (by decide)) (gV mlX7_X7_vClear imX7_vClear slX7_vClear iniX7 cdX7_vClear) rfl dsX7_vClear ⟨by decide, by decide⟩ dX7_fraction_47 rfl (Nat.le_of_ble_eq_true rfl) rfl (Nat.le_of_ble_eq_true rfl) (Nat.le_of_eq hX) (Nat.le_of_ble_eq_true rfl) (Nat.le_of_ble_eq_true rfl) (fun pw h hl => ?_)
    obtain ⟨z1, s1, g1, rfl⟩ := h
    refine J_aload_n (i := 0) C dX7_fraction_50 rfl (jdrop_of (js1_ref (jdrop_of h0 rfl) (by decide)) rfl) ?_
    refine J_iload C dX7_fraction_51 (jdrop_of js1_at rfl) ?_
    refine J_lload_n (i := 1) C dX7_fraction_53 rfl (jdrop_of (js1_long (jdrop_of h1 rfl) (by decide) (by decide)) rfl) ?_
    refine J_callVn C [.int (nI 0), .long up] rfl rfl 31 (m_put (by decide)) (gV mlX7_X7_put imX7_put slX7_put iniX7 cdX7_put) rfl dsX7_put ⟨by decide, by decide⟩ dX7_fraction_54 rfl (Nat.le_of_ble_eq_true rfl) rfl (Nat.le_of_ble_eq_true rfl) (Nat.le_of_eq hX) (Nat.le_of_ble_eq_true rfl) (Nat.le_of_ble_eq_true rfl) (fun pw h hl => ?_)
    obtain ⟨z2, s2, g2, n, rfl, d1, d2, d3⟩ := h
    refine J_aload_n (i := 0) C dX7_fraction_57 rfl (jdrop_of (jdrop_of (js1_ref (jdrop_of h0 rfl) (by decide)) rfl) rfl) ?_
    refine J_iload C dX7_fraction_58 (jdrop_of (jdrop_of js1_at rfl) rfl) ?_
    refine J_iconst (v := nI 1) C dX7_fraction_60 (by decide) ?_
    refine J_iadd C dX7_fraction_61 ?_
    refine J_eqi (nI_add _ _) ?_
    refine J_lload_n (i := 3) C dX7_fraction_62 rfl (jdrop_of (jdrop_of (js1_long (jdrop_of h3 rfl) (by decide) (by decide)) rfl) rfl) ?_
    refine J_callVn C [.int (nI (0 + 1)), .long down] rfl rfl 31 (m_put (by decide)) (gV mlX7_X7_put imX7_put slX7_put iniX7 cdX7_put) rfl dsX7_put ⟨by decide, by decide⟩ dX7_fraction_63 rfl (Nat.le_of_ble_eq_true rfl) rfl (Nat.le_of_ble_eq_true rfl) (Nat.le_of_eq hX) (Nat.le_of_ble_eq_true rfl) (Nat.le_of_ble_eq_true rfl) (fun pw h hl => ?_)
    obtain ⟨z3, s3, g3, m, rfl, e1, e2, e3⟩ := h
    have hm : 0 < m := by
      rcases Nat.eq_zero_or_pos m with w | w
      · subst w
        have w2 : (0 : Nat) = down.toInt.natAbs := e2
        exact absurd (abs0.mp w2.symm) hd
      · exact w
    obtain ⟨d4, -⟩ := nm_fR d1 e3 (by decide)
    refine J_aload_n (i := 0) C dX7_fraction_66 rfl (jdrop_of (jdrop_of (jdrop_of (js1_ref (jdrop_of h0 rfl) (by decide)) rfl) rfl) rfl) ?_
    refine J_iload C dX7_fraction_67 (jdrop_of (jdrop_of (jdrop_of js1_at rfl) rfl) rfl) ?_
    refine J_callVn C [.int (nI 0)] rfl rfl 31 (m_reduce (t := 0 + 2) d4 e1 hm (by decide) (by decide)) (gV mlX7_X7_reduce imX7_reduce slX7_reduce iniX7 cdX7_reduce) rfl dsX7_reduce ⟨by decide, by decide⟩ dX7_fraction_69 rfl (Nat.le_of_ble_eq_true rfl) rfl (Nat.le_of_ble_eq_true rfl) (Nat.le_of_eq hX) (Nat.le_of_ble_eq_true rfl) (Nat.le_of_ble_eq_true rfl) (fun pw h hl => ?_)
    obtain ⟨z4, s4, g4, k1, k2, rfl, w1, w2, w3, w4⟩ := h
    refine J_aload_n (i := 0) C dX7_fraction_72 rfl (jdrop_of (jdrop_of (jdrop_of (jdrop_of (js1_ref (jdrop_of h0 rfl) (by decide)) rfl) rfl) rfl) rfl) ?_
    refine J_iload C dX7_fraction_73 (jdrop_of (jdrop_of (jdrop_of (jdrop_of js1_at rfl) rfl) rfl) rfl) ?_
    refine J_callVi C [.int (nI 0)] rfl rfl 31 (m_keepElement0 w1 w3 (by omega) (by omega) (by decide)) (gV mlX7_X7_keepElement imX7_keepElement slX7_keepElement iniX7 cdX7_keepElement) rfl dsX7_keepElement ⟨by decide, by decide⟩ dX7_fraction_75 rfl (Nat.le_of_ble_eq_true rfl) rfl (Nat.le_of_ble_eq_true rfl) (Nat.le_of_eq hX) (Nat.le_of_ble_eq_true rfl) (Nat.le_of_ble_eq_true rfl) (fun r pw h hl => ?_)
    subst h
    refine hR _ _ _ _ _ _ dX7_fraction_78 ?_ (Nat.le_trans (Nat.le_of_eq hX) hl) (Nat.le_refl _) (Nat.le_refl _)
    rw [if_neg hd]; rfl
  refine J_aload_n (i := 0) C dX7_fraction_0 rfl rfl ?_
  refine J_iconst (v := nI 0) C dX7_fraction_1 (by decide) ?_
  refine J_put (ci := 10) C 0 tyX7 tyX7_ok nmX7 dX7_fraction_2 (inT inX7) rfl (gc flX7_X7_thrown) (by decide) rfl (tyX7_ok 0 (by decide)) (fun _ => rfl) (fun _ => rfl) rfl (Nat.le_of_ble_eq_true rfl) ?_
  refine J_aload_n (i := 0) C dX7_fraction_5 rfl rfl ?_
  refine J_get (ci := 10) (k := 8) C dX7_fraction_6 (inT inX7) rfl (gc flX7_X7_elements) (by decide) rfl rfl ?_
  refine J_bipush (v := nI 60) C dX7_fraction_9 (by decide) ?_
  refine J_icmp_ne (tgt := 16) C dX7_fraction_11 (by decide) (fun h11q => ?_) (fun h11q => ?_)
  · refine J_lload_n (i := 3) C dX7_fraction_16 rfl rfl ?_
    refine J_lconst (v := 0) C dX7_fraction_17 (by decide) ?_
    refine J_lcmp C dX7_fraction_18 ?_
    refine J_if_ne (tgt := 25) C dX7_fraction_19 (by decide) (fun h19q => ?_) (fun h19q => ?_)
    · exact hM (fun w => h19q ((lg_cmp_eq _ _).mpr w)) _ rfl rfl rfl
    · refine J_bipush (v := -2) C dX7_fraction_22 (by decide) ?_
      refine hR _ _ _ _ _ _ dX7_fraction_24 ?_ (Nat.le_of_eq hX) (Nat.le_refl _) (Nat.le_refl _)
      rw [if_pos ((lg_cmp_eq _ _).mp h19q)]
  · exact absurd h11q (by decide)
end MF

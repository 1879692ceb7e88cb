section MOD3
variable {c0 c1 c2 c3 c4 c5 c6 c7 c8 c9 c10 c11 c12 c13 c14 c15 c16 c17 c18 c19 : jE} {th : Int32} {z sz sg : Nat → Int32} {tk : Int32} {st ss sn : Nat → Int32} {el ro : Int32} {kt ks kn : Nat → Int32} {le : Int32} {lr : Nat → Int32} {pl : Int32} {rest : jW}
theorem upd_uu (g : Nat → Int32) (k : Nat) (x y : Int32) : upd (upd g k x) k y = upd g k y := by
  funext j
  by_cases h : j = k
  · rw [h, pk_us, pk_us]
  · rw [pk_un h, pk_un h, pk_un h]
set_option maxHeartbeats 2000000 in
/-- reduce(f), of 0 -/
theorem m_reduce0 {t f : Nat} (hf : f + 1 < 500) (h0 : sz f = 0) (h1 : 0 ≤ sg (f + 1)) : jN vwCl yX7_reduce (wc yX7_reduce cX7_reduce 4 none) 1 60 [.ref 20, .int (nI f)] (mW c0 c1 c2 c3 c4 c5 c6 c7 c8 c9 c10 c11 c12 c13 c14 c15 c16 c17 c18 c19 th z sz sg (nI t) st ss sn el ro kt ks kn le lr pl rest) 0 0 (fun pw => pw = (mW c0 c1 c2 c3 c4 c5 c6 c7 c8 c9 c10 c11 c12 c13 c14 c15 c16 c17 c18 c19 th (upd z (2500 * (f + 1)) 1) (upd sz (f + 1) 1) (upd sg (f + 1) 1) (nI t) st ss sn el ro kt ks kn le lr pl rest)) := by
  refine jN_of (cc := cX7_reduce) (nL := 4) (by decide) rfl (Nat.le_of_ble_eq_true rfl) ?_
  intro X C hX hR
  have ec : (nI f).toNatClampNeg = f := nI_clamp (by omega)
  have ec1 : (nI (f + 1)).toNatClampNeg = f + 1 := nI_clamp (by omega)
  refine J_aload_n (i := 0) C dX7_reduce_0 rfl rfl ?_
  refine J_iconst (v := 3) C dX7_reduce_1 (by decide) ?_
  refine J_callVi C [.int 3] rfl rfl 31 (m_take (n := 3)) (gV mlX7_X7_take imX7_take slX7_take iniX7 cdX7_take) rfl dsX7_take ⟨by decide, by decide⟩ dX7_reduce_2 rfl (Nat.le_of_ble_eq_true rfl) rfl (Nat.le_of_ble_eq_true rfl) (Nat.le_of_eq hX) (Nat.le_of_ble_eq_true rfl) (Nat.le_of_ble_eq_true rfl) (fun r pw h hl => ?_)
  obtain ⟨rfl, rfl⟩ := h
  refine J_istore_n (i := 2) C dX7_reduce_5 rfl (by decide) ?_
  refine J_aload_n (i := 0) C dX7_reduce_6 rfl rfl ?_
  refine J_get (ci := 10) (k := 3) C dX7_reduce_7 (inT inX7) rfl (gc flX7_X7_sign) (by decide) rfl rfl ?_
  refine J_iload_n (i := 1) C dX7_reduce_10 rfl rfl ?_
  refine J_iconst (v := 1) C dX7_reduce_11 (by decide) ?_
  refine J_iadd C dX7_reduce_12 ?_
  refine J_eqi (nI_1 f) ?_
  refine J_iald C dX7_reduce_13 rfl (vp_in_nI hf (by decide)) ?_
  refine J_if_ge (tgt := 39) C dX7_reduce_14 (by decide) (fun h14q => ?_) (fun h14q => ?_)
  · refine J_aload_n (i := 0) C dX7_reduce_39 rfl rfl ?_
    refine J_get (ci := 10) (k := 2) C dX7_reduce_40 (inT inX7) rfl (gc flX7_X7_size) (by decide) rfl rfl ?_
    refine J_iload_n (i := 1) C dX7_reduce_43 rfl rfl ?_
    refine J_iald C dX7_reduce_44 rfl (vp_in_nI (show f < 500 by omega) (by decide)) ?_
    refine J_if_ne (tgt := 62) C dX7_reduce_45 (by decide) (fun h45q => ?_) (fun h45q => ?_)
    · rw [ec] at h45q
      exact absurd h0 h45q
    · refine J_aload_n (i := 0) C dX7_reduce_48 rfl rfl ?_
      refine J_iload_n (i := 1) C dX7_reduce_49 rfl rfl ?_
      refine J_iconst (v := 1) C dX7_reduce_50 (by decide) ?_
      refine J_iadd C dX7_reduce_51 ?_
      refine J_eqi (nI_1 f) ?_
      refine J_lconst (v := 1) C dX7_reduce_52 (by decide) ?_
      refine J_callVn C [.int (nI (f + 1)), .long 1] rfl rfl 31 (m_put1 hf) (gV mlX7_X7_put imX7_put slX7_put iniX7 cdX7_put) rfl dsX7_put ⟨by decide, by decide⟩ dX7_reduce_53 rfl (Nat.le_of_ble_eq_true rfl) rfl (Nat.le_of_ble_eq_true rfl) (Nat.le_of_eq hX) (Nat.le_of_ble_eq_true rfl) (Nat.le_of_ble_eq_true rfl) (fun pw h hl => ?_)
      subst h
      refine J_aload_n (i := 0) C dX7_reduce_56 rfl rfl ?_
      refine J_iload_n (i := 2) C dX7_reduce_57 rfl rfl ?_
      refine J_put (ci := 10) C 4 tyX7 tyX7_ok nmX7 dX7_reduce_58 (inT inX7) rfl (gc flX7_X7_taken) (by decide) rfl (tyX7_ok 4 (by decide)) (fun _ => rfl) (fun _ => rfl) rfl (Nat.le_of_ble_eq_true rfl) ?_
      refine hR _ _ _ _ _ dX7_reduce_61 ?_ (Nat.le_of_eq hX) (Nat.le_refl _) (Nat.le_refl _)
      rw [upd_uu]
      rfl
  · rw [ec1] at h14q
    exact absurd h1 h14q
set_option maxHeartbeats 2000000 in
/-- fSet(f, 0, 1) -/
theorem m_fSet01 {t f : Nat} (hf : f + 1 < 500) : jN vwCl yX7_fSet (wc yX7_fSet cX7_fSet 6 none) 2 120 [.ref 20, .int (nI f), .long 0, .long 1] (mW c0 c1 c2 c3 c4 c5 c6 c7 c8 c9 c10 c11 c12 c13 c14 c15 c16 c17 c18 c19 th z sz sg (nI t) st ss sn el ro kt ks kn le lr pl rest) 0 0 (fun pw => pw = (mW c0 c1 c2 c3 c4 c5 c6 c7 c8 c9 c10 c11 c12 c13 c14 c15 c16 c17 c18 c19 th (upd z (2500 * (f + 1)) 1) (upd (upd sz f 0) (f + 1) 1) (upd (upd sg f 0) (f + 1) 1) (nI t) st ss sn el ro kt ks kn le lr pl rest)) := by
  refine jN_of (cc := cX7_fSet) (nL := 6) (by decide) rfl (Nat.le_of_ble_eq_true rfl) ?_
  intro X C hX hR
  refine J_aload_n (i := 0) C dX7_fSet_0 rfl rfl ?_
  refine J_iload_n (i := 1) C dX7_fSet_1 rfl rfl ?_
  refine J_lload_n (i := 2) C dX7_fSet_2 rfl rfl ?_
  refine J_callVn C [.int (nI f), .long 0] rfl rfl 31 (m_put0 (show f < 500 by omega)) (gV mlX7_X7_put imX7_put slX7_put iniX7 cdX7_put) rfl dsX7_put ⟨by decide, by decide⟩ dX7_fSet_3 rfl (Nat.le_of_ble_eq_true rfl) rfl (Nat.le_of_ble_eq_true rfl) (Nat.le_of_eq hX) (Nat.le_of_ble_eq_true rfl) (Nat.le_of_ble_eq_true rfl) (fun pw h hl => ?_)
  subst h
  refine J_aload_n (i := 0) C dX7_fSet_6 rfl rfl ?_
  refine J_iload_n (i := 1) C dX7_fSet_7 rfl rfl ?_
  refine J_iconst (v := 1) C dX7_fSet_8 (by decide) ?_
  refine J_iadd C dX7_fSet_9 ?_
  refine J_eqi (nI_1 f) ?_
  refine J_lload C dX7_fSet_10 rfl ?_
  refine J_callVn C [.int (nI (f + 1)), .long 1] rfl rfl 31 (m_put1 hf) (gV mlX7_X7_put imX7_put slX7_put iniX7 cdX7_put) rfl dsX7_put ⟨by decide, by decide⟩ dX7_fSet_12 rfl (Nat.le_of_ble_eq_true rfl) rfl (Nat.le_of_ble_eq_true rfl) (Nat.le_of_eq hX) (Nat.le_of_ble_eq_true rfl) (Nat.le_of_ble_eq_true rfl) (fun pw h hl => ?_)
  subst h
  refine J_aload_n (i := 0) C dX7_fSet_15 rfl rfl ?_
  refine J_iload_n (i := 1) C dX7_fSet_16 rfl rfl ?_
  refine J_callVn C [.int (nI f)] rfl rfl 31 (m_reduce0 hf (by rw [pk_un (by omega), pk_un (by omega), pk_us]) (by rw [pk_us]; decide)) (gV mlX7_X7_reduce imX7_reduce slX7_reduce iniX7 cdX7_reduce) rfl dsX7_reduce ⟨by decide, by decide⟩ dX7_fSet_17 rfl (Nat.le_of_ble_eq_true rfl) rfl (Nat.le_of_ble_eq_true rfl) (Nat.le_of_eq hX) (Nat.le_of_ble_eq_true rfl) (Nat.le_of_ble_eq_true rfl) (fun pw h hl => ?_)
  subst h
  refine hR _ _ _ _ _ dX7_fSet_20 ?_ (Nat.le_of_eq hX) (Nat.le_refl _) (Nat.le_refl _)
  simp only [upd_uu]
set_option maxHeartbeats 2000000 in
/-- results(0), of 0 -/
theorem m_results0 (h0 : sz 0 = 0) (h1 : sz 1 = 1) : jI vwCl yX7_results (wc yX7_results cX7_results 4 (some .int)) 0 0 [.ref 20, .int 0] (mW c0 c1 c2 c3 c4 c5 c6 c7 c8 c9 c10 c11 c12 c13 c14 c15 c16 c17 c18 c19 th z sz sg tk st ss sn el ro kt ks kn le lr pl rest) 0 0 (fun r pw => r = 1 ∧ pw = (mW c0 c1 c2 c3 c4 c5 c6 c7 c8 c9 c10 c11 c12 c13 c14 c15 c16 c17 c18 c19 th z sz sg tk st ss sn el ro (upd kt 2500 (z 2500)) (upd (upd ks 0 0) 1 1) (upd (upd kn 0 (sg 0)) 1 (sg 1)) le lr pl rest)) := by
  refine jI_of (cc := cX7_results) (nL := 4) .int (by decide) rfl (Nat.le_of_ble_eq_true rfl) (fun _ _ _ => rfl) ?_
  intro X C hX hR
  refine J_iconst (v := 0) C dX7_results_0 (by decide) ?_
  refine J_istore_n (i := 2) C dX7_results_1 rfl (by decide) ?_
  refine J_iload_n (i := 2) C dX7_results_2 rfl rfl ?_
  refine J_iconst (v := 2) C dX7_results_3 (by decide) ?_
  refine J_icmp_ge (tgt := 87) C dX7_results_4 (by decide) (fun h4q => ?_) (fun h4q => ?_)
  · exact absurd h4q (by decide)
  · refine J_aload_n (i := 0) C dX7_results_7 rfl rfl ?_
    refine J_get (ci := 10) (k := 11) C dX7_results_8 (inT inX7) rfl (gc flX7_X7_keptSize) (by decide) rfl rfl ?_
    refine J_iload_n (i := 2) C dX7_results_11 rfl rfl ?_
    refine J_aload_n (i := 0) C dX7_results_12 rfl rfl ?_
    refine J_get (ci := 10) (k := 2) C dX7_results_13 (inT inX7) rfl (gc flX7_X7_size) (by decide) rfl rfl ?_
    refine J_iload_n (i := 1) C dX7_results_16 rfl rfl ?_
    refine J_iload_n (i := 2) C dX7_results_17 rfl rfl ?_
    refine J_iadd C dX7_results_18 ?_
    refine J_iald C dX7_results_19 rfl (vp_in_nI (n := 0) (by decide) (by decide)) ?_
    refine J_eqi (y := 0) h0 ?_
    refine J_iast C dX7_results_20 rfl (vp_in_nI (n := 0) (by decide) (by decide)) ?_
    refine J_aload_n (i := 0) C dX7_results_21 rfl rfl ?_
    refine J_get (ci := 10) (k := 12) C dX7_results_22 (inT inX7) rfl (gc flX7_X7_keptSign) (by decide) rfl rfl ?_
    refine J_iload_n (i := 2) C dX7_results_25 rfl rfl ?_
    refine J_aload_n (i := 0) C dX7_results_26 rfl rfl ?_
    refine J_get (ci := 10) (k := 3) C dX7_results_27 (inT inX7) rfl (gc flX7_X7_sign) (by decide) rfl rfl ?_
    refine J_iload_n (i := 1) C dX7_results_30 rfl rfl ?_
    refine J_iload_n (i := 2) C dX7_results_31 rfl rfl ?_
    refine J_iadd C dX7_results_32 ?_
    refine J_iald C dX7_results_33 rfl (vp_in_nI (n := 0) (by decide) (by decide)) ?_
    refine J_iast C dX7_results_34 rfl (vp_in_nI (n := 0) (by decide) (by decide)) ?_
    refine J_iconst (v := 0) C dX7_results_35 (by decide) ?_
    refine J_istore_n (i := 3) C dX7_results_36 rfl (by decide) ?_
    refine J_iload_n (i := 3) C dX7_results_37 rfl rfl ?_
    refine J_aload_n (i := 0) C dX7_results_38 rfl rfl ?_
    refine J_get (ci := 10) (k := 2) C dX7_results_39 (inT inX7) rfl (gc flX7_X7_size) (by decide) rfl rfl ?_
    refine J_iload_n (i := 1) C dX7_results_42 rfl rfl ?_
    refine J_iload_n (i := 2) C dX7_results_43 rfl rfl ?_
    refine J_iadd C dX7_results_44 ?_
    refine J_iald C dX7_results_45 rfl (vp_in_nI (n := 0) (by decide) (by decide)) ?_
    refine J_eqi (y := 0) h0 ?_
    refine J_icmp_ge (tgt := 81) C dX7_results_46 (by decide) (fun h46q => ?_) (fun h46q => ?_)
    · refine J_iinc C dX7_results_81 rfl rfl ?_
      refine J_goto (tgt := 2) C dX7_results_84 (by decide) ?_
      refine J_iload_n (i := 2) C dX7_results_2 rfl rfl ?_
      refine J_iconst (v := 2) C dX7_results_3 (by decide) ?_
      refine J_icmp_ge (tgt := 87) C dX7_results_4 (by decide) (fun h4q => ?_) (fun h4q => ?_)
      · exact absurd h4q (by decide)
      · refine J_aload_n (i := 0) C dX7_results_7 rfl rfl ?_
        refine J_get (ci := 10) (k := 11) C dX7_results_8 (inT inX7) rfl (gc flX7_X7_keptSize) (by decide) rfl rfl ?_
        refine J_iload_n (i := 2) C dX7_results_11 rfl rfl ?_
        refine J_aload_n (i := 0) C dX7_results_12 rfl rfl ?_
        refine J_get (ci := 10) (k := 2) C dX7_results_13 (inT inX7) rfl (gc flX7_X7_size) (by decide) rfl rfl ?_
        refine J_iload_n (i := 1) C dX7_results_16 rfl rfl ?_
        refine J_iload_n (i := 2) C dX7_results_17 rfl rfl ?_
        refine J_iadd C dX7_results_18 ?_
        refine J_iald C dX7_results_19 rfl (vp_in_nI (n := 1) (by decide) (by decide)) ?_
        refine J_eqi (y := 1) h1 ?_
        refine J_iast C dX7_results_20 rfl (vp_in_nI (n := 1) (by decide) (by decide)) ?_
        refine J_aload_n (i := 0) C dX7_results_21 rfl rfl ?_
        refine J_get (ci := 10) (k := 12) C dX7_results_22 (inT inX7) rfl (gc flX7_X7_keptSign) (by decide) rfl rfl ?_
        refine J_iload_n (i := 2) C dX7_results_25 rfl rfl ?_
        refine J_aload_n (i := 0) C dX7_results_26 rfl rfl ?_
        refine J_get (ci := 10) (k := 3) C dX7_results_27 (inT inX7) rfl (gc flX7_X7_sign) (by decide) rfl rfl ?_
        refine J_iload_n (i := 1) C dX7_results_30 rfl rfl ?_
        refine J_iload_n (i := 2) C dX7_results_31 rfl rfl ?_
        refine J_iadd C dX7_results_32 ?_
        refine J_iald C dX7_results_33 rfl (vp_in_nI (n := 1) (by decide) (by decide)) ?_
        refine J_iast C dX7_results_34 rfl (vp_in_nI (n := 1) (by decide) (by decide)) ?_
        refine J_iconst (v := 0) C dX7_results_35 (by decide) ?_
        refine J_istore_n (i := 3) C dX7_results_36 rfl (by decide) ?_
        refine J_iload_n (i := 3) C dX7_results_37 rfl rfl ?_
        refine J_aload_n (i := 0) C dX7_results_38 rfl rfl ?_
        refine J_get (ci := 10) (k := 2) C dX7_results_39 (inT inX7) rfl (gc flX7_X7_size) (by decide) rfl rfl ?_
        refine J_iload_n (i := 1) C dX7_results_42 rfl rfl ?_
        refine J_iload_n (i := 2) C dX7_results_43 rfl rfl ?_
        refine J_iadd C dX7_results_44 ?_
        refine J_iald C dX7_results_45 rfl (vp_in_nI (n := 1) (by decide) (by decide)) ?_
        refine J_eqi (y := 1) h1 ?_
        refine J_icmp_ge (tgt := 81) C dX7_results_46 (by decide) (fun h46q => ?_) (fun h46q => ?_)
        · exact absurd h46q (by decide)
        · refine J_aload_n (i := 0) C dX7_results_49 rfl rfl ?_
          refine J_get (ci := 10) (k := 10) C dX7_results_50 (inT inX7) rfl (gc flX7_X7_kept) (by decide) rfl rfl ?_
          refine J_sipush (v := 2500) C dX7_results_53 (by decide) ?_
          refine J_iload_n (i := 2) C dX7_results_56 rfl rfl ?_
          refine J_imul C dX7_results_57 ?_
          refine J_iload_n (i := 3) C dX7_results_58 rfl rfl ?_
          refine J_iadd C dX7_results_59 ?_
          refine J_aload_n (i := 0) C dX7_results_60 rfl rfl ?_
          refine J_get (ci := 10) (k := 1) C dX7_results_61 (inT inX7) rfl (gc flX7_X7_z) (by decide) rfl rfl ?_
          refine J_sipush (v := 2500) C dX7_results_64 (by decide) ?_
          refine J_iload_n (i := 1) C dX7_results_67 rfl rfl ?_
          refine J_iload_n (i := 2) C dX7_results_68 rfl rfl ?_
          refine J_iadd C dX7_results_69 ?_
          refine J_imul C dX7_results_70 ?_
          refine J_iload_n (i := 3) C dX7_results_71 rfl rfl ?_
          refine J_iadd C dX7_results_72 ?_
          refine J_iald C dX7_results_73 rfl (vp_in_nI (n := 2500) (by decide) (by decide)) ?_
          refine J_iast C dX7_results_74 rfl (vp_in_nI (n := 2500) (by decide) (by decide)) ?_
          refine J_iinc C dX7_results_75 rfl rfl ?_
          refine J_goto (tgt := 37) C dX7_results_78 (by decide) ?_
          refine J_iload_n (i := 3) C dX7_results_37 rfl rfl ?_
          refine J_aload_n (i := 0) C dX7_results_38 rfl rfl ?_
          refine J_get (ci := 10) (k := 2) C dX7_results_39 (inT inX7) rfl (gc flX7_X7_size) (by decide) rfl rfl ?_
          refine J_iload_n (i := 1) C dX7_results_42 rfl rfl ?_
          refine J_iload_n (i := 2) C dX7_results_43 rfl rfl ?_
          refine J_iadd C dX7_results_44 ?_
          refine J_iald C dX7_results_45 rfl (vp_in_nI (n := 1) (by decide) (by decide)) ?_
          refine J_eqi (y := 1) h1 ?_
          refine J_icmp_ge (tgt := 81) C dX7_results_46 (by decide) (fun h46q => ?_) (fun h46q => ?_)
          · refine J_iinc C dX7_results_81 rfl rfl ?_
            refine J_goto (tgt := 2) C dX7_results_84 (by decide) ?_
            refine J_iload_n (i := 2) C dX7_results_2 rfl rfl ?_
            refine J_iconst (v := 2) C dX7_results_3 (by decide) ?_
            refine J_icmp_ge (tgt := 87) C dX7_results_4 (by decide) (fun h4q => ?_) (fun h4q => ?_)
            · refine J_iconst (v := 1) C dX7_results_87 (by decide) ?_
              refine hR _ _ _ _ _ _ dX7_results_88 ⟨rfl,rfl⟩ (Nat.le_of_eq hX) (Nat.le_refl _) (Nat.le_refl _)
            · exact absurd (by decide) h4q
          · exact absurd (by decide) h46q
    · exact absurd (by decide) h46q
set_option maxHeartbeats 2000000 in
/-- clear() -/
theorem m_clear : jI vwCl yX7_clear (wc yX7_clear cX7_clear 4 (some .int)) 3 180 [.ref 20] (mW c0 c1 c2 c3 c4 c5 c6 c7 c8 c9 c10 c11 c12 c13 c14 c15 c16 c17 c18 c19 th z sz sg tk st ss sn el ro kt ks kn le lr pl rest) 0 0 (fun r pw => r = el ∧ pw = (mW c0 c1 c2 c3 c4 c5 c6 c7 c8 c9 c10 c11 c12 c13 c14 c15 c16 c17 c18 c19 0 (upd z 2500 1) (upd (upd sz 0 0) 1 1) (upd (upd sg 0 0) 1 1) 2 st ss sn 0 0 (upd kt 2500 1) (upd (upd ks 0 0) 1 1) (upd (upd kn 0 0) 1 1) 0 lr pl rest)) := by
  refine jI_of (cc := cX7_clear) (nL := 4) .int (by decide) rfl (Nat.le_of_ble_eq_true rfl) (fun _ _ _ => rfl) ?_
  intro X C hX hR
  refine J_aload_n (i := 0) C dX7_clear_0 rfl rfl ?_
  refine J_iconst (v := 0) C dX7_clear_1 (by decide) ?_
  refine J_put (ci := 10) C 0 tyX7 tyX7_ok nmX7 dX7_clear_2 (inT inX7) rfl (gc flX7_X7_thrown) (by decide) rfl (tyX7_ok 0 (by decide)) (fun _ => rfl) (fun _ => rfl) rfl (Nat.le_of_ble_eq_true rfl) ?_
  refine J_aload_n (i := 0) C dX7_clear_5 rfl rfl ?_
  refine J_get (ci := 10) (k := 8) C dX7_clear_6 (inT inX7) rfl (gc flX7_X7_elements) (by decide) rfl rfl ?_
  refine J_istore_n (i := 1) C dX7_clear_9 rfl (by decide) ?_
  refine J_aload_n (i := 0) C dX7_clear_10 rfl rfl ?_
  refine J_iconst (v := 0) C dX7_clear_11 (by decide) ?_
  refine J_put (ci := 10) C 8 tyX7 tyX7_ok nmX7 dX7_clear_12 (inT inX7) rfl (gc flX7_X7_elements) (by decide) rfl (tyX7_ok 8 (by decide)) (fun _ => rfl) (fun _ => rfl) rfl (Nat.le_of_ble_eq_true rfl) ?_
  refine J_aload_n (i := 0) C dX7_clear_15 rfl rfl ?_
  refine J_iconst (v := 0) C dX7_clear_16 (by decide) ?_
  refine J_put (ci := 10) C 9 tyX7 tyX7_ok nmX7 dX7_clear_17 (inT inX7) rfl (gc flX7_X7_roots) (by decide) rfl (tyX7_ok 9 (by decide)) (fun _ => rfl) (fun _ => rfl) rfl (Nat.le_of_ble_eq_true rfl) ?_
  refine J_aload_n (i := 0) C dX7_clear_20 rfl rfl ?_
  refine J_iconst (v := 0) C dX7_clear_21 (by decide) ?_
  refine J_put (ci := 10) C 13 tyX7 tyX7_ok nmX7 dX7_clear_22 (inT inX7) rfl (gc flX7_X7_letters) (by decide) rfl (tyX7_ok 13 (by decide)) (fun _ => rfl) (fun _ => rfl) rfl (Nat.le_of_ble_eq_true rfl) ?_
  refine J_aload_n (i := 0) C dX7_clear_25 rfl rfl ?_
  refine J_iconst (v := 0) C dX7_clear_26 (by decide) ?_
  refine J_put (ci := 10) C 4 tyX7 tyX7_ok nmX7 dX7_clear_27 (inT inX7) rfl (gc flX7_X7_taken) (by decide) rfl (tyX7_ok 4 (by decide)) (fun _ => rfl) (fun _ => rfl) rfl (Nat.le_of_ble_eq_true rfl) ?_
  refine J_aload_n (i := 0) C dX7_clear_30 rfl rfl ?_
  refine J_iconst (v := 2) C dX7_clear_31 (by decide) ?_
  refine J_callVi C [.int 2] rfl rfl 31 (m_take (t := 0) (n := 2)) (gV mlX7_X7_take imX7_take slX7_take iniX7 cdX7_take) rfl dsX7_take ⟨by decide, by decide⟩ dX7_clear_32 rfl (Nat.le_of_ble_eq_true rfl) rfl (Nat.le_of_ble_eq_true rfl) (Nat.le_of_eq hX) (Nat.le_of_ble_eq_true rfl) (Nat.le_of_ble_eq_true rfl) (fun r pw h hl => ?_)
  obtain ⟨rfl, rfl⟩ := h
  refine J_istore_n (i := 2) C dX7_clear_35 rfl (by decide) ?_
  refine J_aload_n (i := 0) C dX7_clear_36 rfl rfl ?_
  refine J_iload_n (i := 2) C dX7_clear_37 rfl rfl ?_
  refine J_lconst (v := 0) C dX7_clear_38 (by decide) ?_
  refine J_lconst (v := 1) C dX7_clear_39 (by decide) ?_
  refine J_callVn C [.int 0, .long 0, .long 1] rfl rfl 31 (m_fSet01 (t := 2) (f := 0) (by decide)) (gV mlX7_X7_fSet imX7_fSet slX7_fSet iniX7 cdX7_fSet) rfl dsX7_fSet ⟨by decide, by decide⟩ dX7_clear_40 rfl (Nat.le_of_ble_eq_true rfl) rfl (Nat.le_of_ble_eq_true rfl) (Nat.le_of_eq hX) (Nat.le_of_ble_eq_true rfl) (Nat.le_of_ble_eq_true rfl) (fun pw h hl => ?_)
  subst h
  refine J_aload_n (i := 0) C dX7_clear_43 rfl rfl ?_
  refine J_iload_n (i := 2) C dX7_clear_44 rfl rfl ?_
  refine J_callVi C [.int 0] rfl rfl 31 (m_results0 rfl rfl) (gV mlX7_X7_results imX7_results slX7_results iniX7 cdX7_results) rfl dsX7_results ⟨by decide, by decide⟩ dX7_clear_45 rfl (Nat.le_of_ble_eq_true rfl) rfl (Nat.le_of_ble_eq_true rfl) (Nat.le_of_eq hX) (Nat.le_of_ble_eq_true rfl) (Nat.le_of_ble_eq_true rfl) (fun r pw h hl => ?_)
  obtain ⟨rfl, rfl⟩ := h
  refine J_istore_n (i := 3) C dX7_clear_48 rfl (by decide) ?_
  refine J_iload_n (i := 1) C dX7_clear_49 rfl rfl ?_
  refine hR _ _ _ _ _ _ dX7_clear_50 ⟨rfl,rfl⟩ (Nat.le_of_eq hX) (Nat.le_refl _) (Nat.le_refl _)
end MOD3

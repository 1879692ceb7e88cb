section MOD4
variable {c0 c1 c2 c3 c4 c5 c6 c7 c8 c9 c10 c11 c12 c13 c14 c15 c16 c17 c18 c19 : jE} {th : Int32} {z sz sg : Nat → Int32} {tk : Int32} {st ss sn : Nat → Int32} {el ro : Int32} {kt ks kn : Nat → Int32} {le : Int32} {lr : Nat → Int32} {pl : Int32} {rest : jW}
set_option maxHeartbeats 2000000 in
/-- keptTo(0), THE RESULT 0 -/
theorem m_keptTo (h0 : ks 0 = 0) (h1 : ks 1 = 1) (g0 : kn 0 = 0) (g1 : kn 1 = 1) (hk : kt 2500 = 1) : jN vwCl yX7_keptTo (wc yX7_keptTo cX7_keptTo 4 none) 0 0 [.ref 20, .int 0] (mW c0 c1 c2 c3 c4 c5 c6 c7 c8 c9 c10 c11 c12 c13 c14 c15 c16 c17 c18 c19 th z sz sg tk st ss sn el ro kt ks kn le lr pl rest) 0 0 (fun pw => pw = (mW c0 c1 c2 c3 c4 c5 c6 c7 c8 c9 c10 c11 c12 c13 c14 c15 c16 c17 c18 c19 th (upd z 2500 1) (upd (upd sz 0 0) 1 1) (upd (upd sg 0 0) 1 1) tk st ss sn el ro kt ks kn le lr pl rest)) := by
  refine jN_of (cc := cX7_keptTo) (nL := 4) (by decide) rfl (Nat.le_of_ble_eq_true rfl) ?_
  intro X C hX hR
  refine J_iconst (v := 0) C dX7_keptTo_0 (by decide) ?_
  refine J_istore_n (i := 2) C dX7_keptTo_1 rfl (by decide) ?_
  refine J_iload_n (i := 2) C dX7_keptTo_2 rfl rfl ?_
  refine J_iconst (v := 2) C dX7_keptTo_3 (by decide) ?_
  refine J_icmp_ge (tgt := 85) C dX7_keptTo_4 (by decide) (fun h4q => ?_) (fun h4q => ?_)
  · exact absurd h4q (by decide)
  · refine J_aload_n (i := 0) C dX7_keptTo_7 rfl rfl ?_
    refine J_get (ci := 10) (k := 2) C dX7_keptTo_8 (inT inX7) rfl (gc flX7_X7_size) (by decide) rfl rfl ?_
    refine J_iload_n (i := 1) C dX7_keptTo_11 rfl rfl ?_
    refine J_iload_n (i := 2) C dX7_keptTo_12 rfl rfl ?_
    refine J_iadd C dX7_keptTo_13 ?_
    refine J_aload_n (i := 0) C dX7_keptTo_14 rfl rfl ?_
    refine J_get (ci := 10) (k := 11) C dX7_keptTo_15 (inT inX7) rfl (gc flX7_X7_keptSize) (by decide) rfl rfl ?_
    refine J_iload_n (i := 2) C dX7_keptTo_18 rfl rfl ?_
    refine J_iald C dX7_keptTo_19 rfl (vp_in_nI (n := 0) (by decide) (by decide)) ?_
    refine J_eqi (y := 0) h0 ?_
    refine J_iast C dX7_keptTo_20 rfl (vp_in_nI (n := 0) (by decide) (by decide)) ?_
    refine J_aload_n (i := 0) C dX7_keptTo_21 rfl rfl ?_
    refine J_get (ci := 10) (k := 3) C dX7_keptTo_22 (inT inX7) rfl (gc flX7_X7_sign) (by decide) rfl rfl ?_
    refine J_iload_n (i := 1) C dX7_keptTo_25 rfl rfl ?_
    refine J_iload_n (i := 2) C dX7_keptTo_26 rfl rfl ?_
    refine J_iadd C dX7_keptTo_27 ?_
    refine J_aload_n (i := 0) C dX7_keptTo_28 rfl rfl ?_
    refine J_get (ci := 10) (k := 12) C dX7_keptTo_29 (inT inX7) rfl (gc flX7_X7_keptSign) (by decide) rfl rfl ?_
    refine J_iload_n (i := 2) C dX7_keptTo_32 rfl rfl ?_
    refine J_iald C dX7_keptTo_33 rfl (vp_in_nI (n := 0) (by decide) (by decide)) ?_
    refine J_eqi (y := 0) g0 ?_
    refine J_iast C dX7_keptTo_34 rfl (vp_in_nI (n := 0) (by decide) (by decide)) ?_
    refine J_iconst (v := 0) C dX7_keptTo_35 (by decide) ?_
    refine J_istore_n (i := 3) C dX7_keptTo_36 rfl (by decide) ?_
    refine J_iload_n (i := 3) C dX7_keptTo_37 rfl rfl ?_
    refine J_aload_n (i := 0) C dX7_keptTo_38 rfl rfl ?_
    refine J_get (ci := 10) (k := 11) C dX7_keptTo_39 (inT inX7) rfl (gc flX7_X7_keptSize) (by decide) rfl rfl ?_
    refine J_iload_n (i := 2) C dX7_keptTo_42 rfl rfl ?_
    refine J_iald C dX7_keptTo_43 rfl (vp_in_nI (n := 0) (by decide) (by decide)) ?_
    refine J_eqi (y := 0) h0 ?_
    refine J_icmp_ge (tgt := 79) C dX7_keptTo_44 (by decide) (fun h44q => ?_) (fun h44q => ?_)
    · refine J_iinc C dX7_keptTo_79 rfl rfl ?_
      refine J_goto (tgt := 2) C dX7_keptTo_82 (by decide) ?_
      refine J_iload_n (i := 2) C dX7_keptTo_2 rfl rfl ?_
      refine J_iconst (v := 2) C dX7_keptTo_3 (by decide) ?_
      refine J_icmp_ge (tgt := 85) C dX7_keptTo_4 (by decide) (fun h4q => ?_) (fun h4q => ?_)
      · exact absurd h4q (by decide)
      · refine J_aload_n (i := 0) C dX7_keptTo_7 rfl rfl ?_
        refine J_get (ci := 10) (k := 2) C dX7_keptTo_8 (inT inX7) rfl (gc flX7_X7_size) (by decide) rfl rfl ?_
        refine J_iload_n (i := 1) C dX7_keptTo_11 rfl rfl ?_
        refine J_iload_n (i := 2) C dX7_keptTo_12 rfl rfl ?_
        refine J_iadd C dX7_keptTo_13 ?_
        refine J_aload_n (i := 0) C dX7_keptTo_14 rfl rfl ?_
        refine J_get (ci := 10) (k := 11) C dX7_keptTo_15 (inT inX7) rfl (gc flX7_X7_keptSize) (by decide) rfl rfl ?_
        refine J_iload_n (i := 2) C dX7_keptTo_18 rfl rfl ?_
        refine J_iald C dX7_keptTo_19 rfl (vp_in_nI (n := 1) (by decide) (by decide)) ?_
        refine J_eqi (y := 1) h1 ?_
        refine J_iast C dX7_keptTo_20 rfl (vp_in_nI (n := 1) (by decide) (by decide)) ?_
        refine J_aload_n (i := 0) C dX7_keptTo_21 rfl rfl ?_
        refine J_get (ci := 10) (k := 3) C dX7_keptTo_22 (inT inX7) rfl (gc flX7_X7_sign) (by decide) rfl rfl ?_
        refine J_iload_n (i := 1) C dX7_keptTo_25 rfl rfl ?_
        refine J_iload_n (i := 2) C dX7_keptTo_26 rfl rfl ?_
        refine J_iadd C dX7_keptTo_27 ?_
        refine J_aload_n (i := 0) C dX7_keptTo_28 rfl rfl ?_
        refine J_get (ci := 10) (k := 12) C dX7_keptTo_29 (inT inX7) rfl (gc flX7_X7_keptSign) (by decide) rfl rfl ?_
        refine J_iload_n (i := 2) C dX7_keptTo_32 rfl rfl ?_
        refine J_iald C dX7_keptTo_33 rfl (vp_in_nI (n := 1) (by decide) (by decide)) ?_
        refine J_eqi (y := 1) g1 ?_
        refine J_iast C dX7_keptTo_34 rfl (vp_in_nI (n := 1) (by decide) (by decide)) ?_
        refine J_iconst (v := 0) C dX7_keptTo_35 (by decide) ?_
        refine J_istore_n (i := 3) C dX7_keptTo_36 rfl (by decide) ?_
        refine J_iload_n (i := 3) C dX7_keptTo_37 rfl rfl ?_
        refine J_aload_n (i := 0) C dX7_keptTo_38 rfl rfl ?_
        refine J_get (ci := 10) (k := 11) C dX7_keptTo_39 (inT inX7) rfl (gc flX7_X7_keptSize) (by decide) rfl rfl ?_
        refine J_iload_n (i := 2) C dX7_keptTo_42 rfl rfl ?_
        refine J_iald C dX7_keptTo_43 rfl (vp_in_nI (n := 1) (by decide) (by decide)) ?_
        refine J_eqi (y := 1) h1 ?_
        refine J_icmp_ge (tgt := 79) C dX7_keptTo_44 (by decide) (fun h44q => ?_) (fun h44q => ?_)
        · exact absurd h44q (by decide)
        · refine J_aload_n (i := 0) C dX7_keptTo_47 rfl rfl ?_
          refine J_get (ci := 10) (k := 1) C dX7_keptTo_48 (inT inX7) rfl (gc flX7_X7_z) (by decide) rfl rfl ?_
          refine J_sipush (v := 2500) C dX7_keptTo_51 (by decide) ?_
          refine J_iload_n (i := 1) C dX7_keptTo_54 rfl rfl ?_
          refine J_iload_n (i := 2) C dX7_keptTo_55 rfl rfl ?_
          refine J_iadd C dX7_keptTo_56 ?_
          refine J_imul C dX7_keptTo_57 ?_
          refine J_iload_n (i := 3) C dX7_keptTo_58 rfl rfl ?_
          refine J_iadd C dX7_keptTo_59 ?_
          refine J_aload_n (i := 0) C dX7_keptTo_60 rfl rfl ?_
          refine J_get (ci := 10) (k := 10) C dX7_keptTo_61 (inT inX7) rfl (gc flX7_X7_kept) (by decide) rfl rfl ?_
          refine J_sipush (v := 2500) C dX7_keptTo_64 (by decide) ?_
          refine J_iload_n (i := 2) C dX7_keptTo_67 rfl rfl ?_
          refine J_imul C dX7_keptTo_68 ?_
          refine J_iload_n (i := 3) C dX7_keptTo_69 rfl rfl ?_
          refine J_iadd C dX7_keptTo_70 ?_
          refine J_iald C dX7_keptTo_71 rfl (vp_in_nI (n := 2500) (by decide) (by decide)) ?_
          refine J_eqi (y := 1) hk ?_
          refine J_iast C dX7_keptTo_72 rfl (vp_in_nI (n := 2500) (by decide) (by decide)) ?_
          refine J_iinc C dX7_keptTo_73 rfl rfl ?_
          refine J_goto (tgt := 37) C dX7_keptTo_76 (by decide) ?_
          refine J_iload_n (i := 3) C dX7_keptTo_37 rfl rfl ?_
          refine J_aload_n (i := 0) C dX7_keptTo_38 rfl rfl ?_
          refine J_get (ci := 10) (k := 11) C dX7_keptTo_39 (inT inX7) rfl (gc flX7_X7_keptSize) (by decide) rfl rfl ?_
          refine J_iload_n (i := 2) C dX7_keptTo_42 rfl rfl ?_
          refine J_iald C dX7_keptTo_43 rfl (vp_in_nI (n := 1) (by decide) (by decide)) ?_
          refine J_eqi (y := 1) h1 ?_
          refine J_icmp_ge (tgt := 79) C dX7_keptTo_44 (by decide) (fun h44q => ?_) (fun h44q => ?_)
          · refine J_iinc C dX7_keptTo_79 rfl rfl ?_
            refine J_goto (tgt := 2) C dX7_keptTo_82 (by decide) ?_
            refine J_iload_n (i := 2) C dX7_keptTo_2 rfl rfl ?_
            refine J_iconst (v := 2) C dX7_keptTo_3 (by decide) ?_
            refine J_icmp_ge (tgt := 85) C dX7_keptTo_4 (by decide) (fun h4q => ?_) (fun h4q => ?_)
            · refine hR _ _ _ _ _ dX7_keptTo_85 rfl (Nat.le_of_eq hX) (Nat.le_refl _) (Nat.le_refl _)
            · exact absurd (by decide) h4q
          · exact absurd (by decide) h44q
    · exact absurd (by decide) h44q
set_option maxHeartbeats 2000000 in
/-- figures(a), of 0 and of 1 -/
theorem m_figures0 {a : Nat} (ha : a < 500) (h0 : sz a = 0) : jI vwCl yX7_figures (wc yX7_figures cX7_figures 4 (some .int)) 0 0 [.ref 20, .int (nI a)] (mW c0 c1 c2 c3 c4 c5 c6 c7 c8 c9 c10 c11 c12 c13 c14 c15 c16 c17 c18 c19 th z sz sg tk st ss sn el ro kt ks kn le lr pl rest) 0 0 (fun r pw => r = 1 ∧ pw = (mW c0 c1 c2 c3 c4 c5 c6 c7 c8 c9 c10 c11 c12 c13 c14 c15 c16 c17 c18 c19 th z sz sg tk st ss sn el ro kt ks kn le lr pl rest)) := by
  refine jI_of (cc := cX7_figures) (nL := 4) .int (by decide) rfl (Nat.le_of_ble_eq_true rfl) (fun _ _ _ => rfl) ?_
  intro X C hX hR
  refine J_aload_n (i := 0) C dX7_figures_0 rfl rfl ?_
  refine J_get (ci := 10) (k := 2) C dX7_figures_1 (inT inX7) rfl (gc flX7_X7_size) (by decide) rfl rfl ?_
  refine J_iload_n (i := 1) C dX7_figures_4 rfl rfl ?_
  refine J_iald C dX7_figures_5 rfl (vp_in_nI ha (by decide)) ?_
  refine J_eqi (y := 0) (by rw [nI_clamp (by omega), h0]) ?_
  refine J_if_ne (tgt := 11) C dX7_figures_6 (by decide) (fun h6q => ?_) (fun h6q => ?_)
  · exact absurd rfl h6q
  · refine J_iconst (v := 1) C dX7_figures_9 (by decide) ?_
    refine hR _ _ _ _ _ _ dX7_figures_10 ⟨rfl,rfl⟩ (Nat.le_of_eq hX) (Nat.le_refl _) (Nat.le_refl _)
set_option maxHeartbeats 2000000 in
theorem m_figures1 {a : Nat} (ha : a < 500) (h0 : sz a = 1) (h1 : z (2500 * a) = 1) : jI vwCl yX7_figures (wc yX7_figures cX7_figures 4 (some .int)) 0 0 [.ref 20, .int (nI a)] (mW c0 c1 c2 c3 c4 c5 c6 c7 c8 c9 c10 c11 c12 c13 c14 c15 c16 c17 c18 c19 th z sz sg tk st ss sn el ro kt ks kn le lr pl rest) 0 0 (fun r pw => r = 1 ∧ pw = (mW c0 c1 c2 c3 c4 c5 c6 c7 c8 c9 c10 c11 c12 c13 c14 c15 c16 c17 c18 c19 th z sz sg tk st ss sn el ro kt ks kn le lr pl rest)) := by
  refine jI_of (cc := cX7_figures) (nL := 4) .int (by decide) rfl (Nat.le_of_ble_eq_true rfl) (fun _ _ _ => rfl) ?_
  intro X C hX hR
  have ec : (nI a).toNatClampNeg = a := nI_clamp (by omega)
  refine J_aload_n (i := 0) C dX7_figures_0 rfl rfl ?_
  refine J_get (ci := 10) (k := 2) C dX7_figures_1 (inT inX7) rfl (gc flX7_X7_size) (by decide) rfl rfl ?_
  refine J_iload_n (i := 1) C dX7_figures_4 rfl rfl ?_
  refine J_iald C dX7_figures_5 rfl (vp_in_nI ha (by decide)) ?_
  refine J_eqi (y := 1) (by rw [ec, h0]) ?_
  refine J_if_ne (tgt := 11) C dX7_figures_6 (by decide) (fun h6q => ?_) (fun h6q => ?_)
  · refine J_bipush (v := 9) C dX7_figures_11 (by decide) ?_
    refine J_aload_n (i := 0) C dX7_figures_13 rfl rfl ?_
    refine J_get (ci := 10) (k := 2) C dX7_figures_14 (inT inX7) rfl (gc flX7_X7_size) (by decide) rfl rfl ?_
    refine J_iload_n (i := 1) C dX7_figures_17 rfl rfl ?_
    refine J_iald C dX7_figures_18 rfl (vp_in_nI ha (by decide)) ?_
    refine J_eqi (y := 1) (by rw [ec, h0]) ?_
    refine J_iconst (v := 1) C dX7_figures_19 (by decide) ?_
    refine J_isub C dX7_figures_20 ?_
    refine J_imul C dX7_figures_21 ?_
    refine J_istore_n (i := 2) C dX7_figures_22 rfl (by decide) ?_
    refine J_aload_n (i := 0) C dX7_figures_23 rfl rfl ?_
    refine J_get (ci := 10) (k := 1) C dX7_figures_24 (inT inX7) rfl (gc flX7_X7_z) (by decide) rfl rfl ?_
    refine J_sipush (v := 2500) C dX7_figures_27 (by decide) ?_
    refine J_iload_n (i := 1) C dX7_figures_30 rfl rfl ?_
    refine J_imul C dX7_figures_31 ?_
    refine J_eqi (y := nI (2500 * a)) (show nI 2500 * nI a = _ from pk_mul _ _) ?_
    refine J_aload_n (i := 0) C dX7_figures_32 rfl rfl ?_
    refine J_get (ci := 10) (k := 2) C dX7_figures_33 (inT inX7) rfl (gc flX7_X7_size) (by decide) rfl rfl ?_
    refine J_iload_n (i := 1) C dX7_figures_36 rfl rfl ?_
    refine J_iald C dX7_figures_37 rfl (vp_in_nI ha (by decide)) ?_
    refine J_eqi (y := nI 1) (by rw [ec, h0]; rfl) ?_
    refine J_iadd C dX7_figures_38 ?_
    refine J_eqi (nI_add _ _) ?_
    refine J_iconst (v := 1) C dX7_figures_39 (by decide) ?_
    refine J_isub C dX7_figures_40 ?_
    refine J_eqi (y := nI (2500 * a)) (show _ - nI 1 = _ from pk_sub (by omega)) ?_
    refine J_iald C dX7_figures_41 rfl (vp_in_nI (show 2500 * a < 1250000 by omega) (by decide)) ?_
    refine J_eqi (y := 1) (by rw [nI_clamp (by omega), h1]) ?_
    refine J_istore_n (i := 3) C dX7_figures_42 rfl (by decide) ?_
    refine J_iload_n (i := 3) C dX7_figures_43 rfl rfl ?_
    refine J_if_le (tgt := 58) C dX7_figures_44 (by decide) (fun h44q => ?_) (fun h44q => ?_)
    · exact absurd h44q (by decide)
    · refine J_iinc C dX7_figures_47 rfl rfl ?_
      refine J_iload_n (i := 3) C dX7_figures_50 rfl rfl ?_
      refine J_bipush (v := 10) C dX7_figures_51 (by decide) ?_
      refine J_idiv C dX7_figures_53 (by decide) ?_
      refine J_istore_n (i := 3) C dX7_figures_54 rfl (by decide) ?_
      refine J_goto (tgt := 43) C dX7_figures_55 (by decide) ?_
      refine J_iload_n (i := 3) C dX7_figures_43 rfl rfl ?_
      refine J_if_le (tgt := 58) C dX7_figures_44 (by decide) (fun h44q => ?_) (fun h44q => ?_)
      · refine J_iload_n (i := 2) C dX7_figures_58 rfl rfl ?_
        refine hR _ _ _ _ _ _ dX7_figures_59 ⟨by decide,rfl⟩ (Nat.le_of_eq hX) (Nat.le_refl _) (Nat.le_refl _)
      · exact absurd (by decide) h44q
  · exact absurd h6q (by decide)
set_option maxHeartbeats 2000000 in
/-- figureOf(a, 0), of 0 and of 1 -/
theorem m_figureOf0 {a : Nat} (ha : a < 500) (h0 : sz a = 0) : jI vwCl yX7_figureOf (wc yX7_figureOf cX7_figureOf 6 (some .int)) 1 60 [.ref 20, .int (nI a), .int 0] (mW c0 c1 c2 c3 c4 c5 c6 c7 c8 c9 c10 c11 c12 c13 c14 c15 c16 c17 c18 c19 th z sz sg tk st ss sn el ro kt ks kn le lr pl rest) 0 0 (fun r pw => r = 0 ∧ pw = (mW c0 c1 c2 c3 c4 c5 c6 c7 c8 c9 c10 c11 c12 c13 c14 c15 c16 c17 c18 c19 th z sz sg tk st ss sn el ro kt ks kn le lr pl rest)) := by
  refine jI_of (cc := cX7_figureOf) (nL := 6) .int (by decide) rfl (Nat.le_of_ble_eq_true rfl) (fun _ _ _ => rfl) ?_
  intro X C hX hR
  refine J_aload_n (i := 0) C dX7_figureOf_0 rfl rfl ?_
  refine J_get (ci := 10) (k := 2) C dX7_figureOf_1 (inT inX7) rfl (gc flX7_X7_size) (by decide) rfl rfl ?_
  refine J_iload_n (i := 1) C dX7_figureOf_4 rfl rfl ?_
  refine J_iald C dX7_figureOf_5 rfl (vp_in_nI ha (by decide)) ?_
  refine J_eqi (y := 0) (by rw [nI_clamp (by omega), h0]) ?_
  refine J_if_ne (tgt := 11) C dX7_figureOf_6 (by decide) (fun h6q => ?_) (fun h6q => ?_)
  · exact absurd rfl h6q
  · refine J_iconst (v := 0) C dX7_figureOf_9 (by decide) ?_
    refine hR _ _ _ _ _ _ dX7_figureOf_10 ⟨rfl,rfl⟩ (Nat.le_of_eq hX) (Nat.le_refl _) (Nat.le_refl _)
set_option maxHeartbeats 2000000 in
theorem m_figureOf1 {a : Nat} (ha : a < 500) (h0 : sz a = 1) (h1 : z (2500 * a) = 1) : jI vwCl yX7_figureOf (wc yX7_figureOf cX7_figureOf 6 (some .int)) 1 60 [.ref 20, .int (nI a), .int 0] (mW c0 c1 c2 c3 c4 c5 c6 c7 c8 c9 c10 c11 c12 c13 c14 c15 c16 c17 c18 c19 th z sz sg tk st ss sn el ro kt ks kn le lr pl rest) 0 0 (fun r pw => r = 1 ∧ pw = (mW c0 c1 c2 c3 c4 c5 c6 c7 c8 c9 c10 c11 c12 c13 c14 c15 c16 c17 c18 c19 th z sz sg tk st ss sn el ro kt ks kn le lr pl rest)) := by
  refine jI_of (cc := cX7_figureOf) (nL := 6) .int (by decide) rfl (Nat.le_of_ble_eq_true rfl) (fun _ _ _ => rfl) ?_
  intro X C hX hR
  have ec : (nI a).toNatClampNeg = a := nI_clamp (by omega)
  refine J_aload_n (i := 0) C dX7_figureOf_0 rfl rfl ?_
  refine J_get (ci := 10) (k := 2) C dX7_figureOf_1 (inT inX7) rfl (gc flX7_X7_size) (by decide) rfl rfl ?_
  refine J_iload_n (i := 1) C dX7_figureOf_4 rfl rfl ?_
  refine J_iald C dX7_figureOf_5 rfl (vp_in_nI ha (by decide)) ?_
  refine J_eqi (y := 1) (by rw [ec, h0]) ?_
  refine J_if_ne (tgt := 11) C dX7_figureOf_6 (by decide) (fun h6q => ?_) (fun h6q => ?_)
  · refine J_aload_n (i := 0) C dX7_figureOf_11 rfl rfl ?_
    refine J_iload_n (i := 1) C dX7_figureOf_12 rfl rfl ?_
    refine J_callVi C [.int (nI a)] rfl rfl 31 (m_figures1 ha h0 h1) (gV mlX7_X7_figures imX7_figures slX7_figures iniX7 cdX7_figures) rfl dsX7_figures ⟨by decide, by decide⟩ dX7_figureOf_13 rfl (Nat.le_of_ble_eq_true rfl) rfl (Nat.le_of_ble_eq_true rfl) (Nat.le_of_eq hX) (Nat.le_of_ble_eq_true rfl) (Nat.le_of_ble_eq_true rfl) (fun r pw h hl => ?_)
    obtain ⟨rfl, rfl⟩ := h
    refine J_iconst (v := 1) C dX7_figureOf_16 (by decide) ?_
    refine J_isub C dX7_figureOf_17 ?_
    refine J_iload_n (i := 2) C dX7_figureOf_18 rfl rfl ?_
    refine J_isub C dX7_figureOf_19 ?_
    refine J_istore_n (i := 3) C dX7_figureOf_20 rfl (by decide) ?_
    refine J_aload_n (i := 0) C dX7_figureOf_21 rfl rfl ?_
    refine J_get (ci := 10) (k := 1) C dX7_figureOf_22 (inT inX7) rfl (gc flX7_X7_z) (by decide) rfl rfl ?_
    refine J_sipush (v := 2500) C dX7_figureOf_25 (by decide) ?_
    refine J_iload_n (i := 1) C dX7_figureOf_28 rfl rfl ?_
    refine J_imul C dX7_figureOf_29 ?_
    refine J_eqi (y := nI (2500 * a)) (show nI 2500 * nI a = _ from pk_mul _ _) ?_
    refine J_iload_n (i := 3) C dX7_figureOf_30 rfl rfl ?_
    refine J_bipush (v := 9) C dX7_figureOf_31 (by decide) ?_
    refine J_idiv C dX7_figureOf_33 (by decide) ?_
    refine J_iadd C dX7_figureOf_34 ?_
    refine J_eqi (y := nI (2500 * a)) (show nI (2500 * a) + nI 0 = _ from nI_add _ _) ?_
    refine J_iald C dX7_figureOf_35 rfl (vp_in_nI (show 2500 * a < 1250000 by omega) (by decide)) ?_
    refine J_eqi (y := 1) (by rw [nI_clamp (by omega), h1]) ?_
    refine J_istore C dX7_figureOf_36 (by decide) ?_
    refine J_iconst (v := 0) C dX7_figureOf_38 (by decide) ?_
    refine J_istore C dX7_figureOf_39 (by decide) ?_
    refine J_iload C dX7_figureOf_41 rfl ?_
    refine J_iload_n (i := 3) C dX7_figureOf_43 rfl rfl ?_
    refine J_bipush (v := 9) C dX7_figureOf_44 (by decide) ?_
    refine J_irem C dX7_figureOf_46 (by decide) ?_
    refine J_icmp_ge (tgt := 63) C dX7_figureOf_47 (by decide) (fun h47q => ?_) (fun h47q => ?_)
    · refine J_iload C dX7_figureOf_63 rfl ?_
      refine J_bipush (v := 10) C dX7_figureOf_65 (by decide) ?_
      refine J_irem C dX7_figureOf_67 (by decide) ?_
      refine hR _ _ _ _ _ _ dX7_figureOf_68 ⟨by decide,rfl⟩ (Nat.le_of_eq hX) (Nat.le_refl _) (Nat.le_refl _)
    · exact absurd (by decide) h47q
  · exact absurd h6q (by decide)
end MOD4

section MOD2
variable {c0 c1 c2 c3 c4 c5 c6 c7 c8 c9 c10 c11 c12 c13 c14 c15 c16 c17 c18 c19 : jE} {th : Int32} {z sz sg : Nat → Int32} {tk : Int32} {st ss sn : Nat → Int32} {el ro : Int32} {kt ks kn : Nat → Int32} {le : Int32} {lr : Nat → Int32} {pl : Int32} {rest : jW}
set_option maxHeartbeats 1000000 in
theorem m_take {t n : Nat} : jI vwCl yX7_take (wc yX7_take cX7_take 3 (some .int)) 0 0 [.ref 20, .int (nI n)] (mW c0 c1 c2 c3 c4 c5 c6 c7 c8 c9 c10 c11 c12 c13 c14 c15 c16 c17 c18 c19 th z sz sg (nI t) st ss sn el ro kt ks kn le lr pl rest) 0 0 (fun r pw => r = nI t ∧ pw = (mW c0 c1 c2 c3 c4 c5 c6 c7 c8 c9 c10 c11 c12 c13 c14 c15 c16 c17 c18 c19 th z sz sg (nI (t + n)) st ss sn el ro kt ks kn le lr pl rest)) := by
  refine jI_of (cc := cX7_take) (nL := 3) .int (by decide) rfl (Nat.le_of_ble_eq_true rfl) (fun _ _ _ => rfl) ?_
  intro X C hX hR
  refine J_aload_n (i := 0) C dX7_take_0 rfl rfl ?_
  refine J_get (ci := 10) (k := 4) C dX7_take_1 (inT inX7) rfl (gc flX7_X7_taken) (by decide) rfl rfl ?_
  refine J_istore_n (i := 2) C dX7_take_4 rfl (by decide) ?_
  refine J_aload_n (i := 0) C dX7_take_5 rfl rfl ?_
  refine J_dup C dX7_take_6 rfl ?_
  refine J_get (ci := 10) (k := 4) C dX7_take_7 (inT inX7) rfl (gc flX7_X7_taken) (by decide) rfl rfl ?_
  refine J_iload_n (i := 1) C dX7_take_10 rfl rfl ?_
  refine J_iadd C dX7_take_11 ?_
  refine J_eqi (nI_add _ _) ?_
  refine J_put (ci := 10) C 4 tyX7 tyX7_ok nmX7 dX7_take_12 (inT inX7) rfl (gc flX7_X7_taken) (by decide) rfl (tyX7_ok 4 (by decide)) (fun _ => rfl) (fun _ => rfl) rfl (Nat.le_of_ble_eq_true rfl) ?_
  refine J_iload_n (i := 2) C dX7_take_15 rfl rfl ?_
  refine hR _ _ _ _ _ _ dX7_take_16 ⟨rfl,rfl⟩ (Nat.le_of_eq hX) (Nat.le_refl _) (Nat.le_refl _)
set_option maxHeartbeats 1000000 in
/-- put(a, 0) -/
theorem m_put0 {a : Nat} (ha : a < 500) : jN vwCl yX7_put (wc yX7_put cX7_put 7 none) 0 0 [.ref 20, .int (nI a), .long 0] (mW c0 c1 c2 c3 c4 c5 c6 c7 c8 c9 c10 c11 c12 c13 c14 c15 c16 c17 c18 c19 th z sz sg tk st ss sn el ro kt ks kn le lr pl rest) 0 0 (fun pw => pw = (mW c0 c1 c2 c3 c4 c5 c6 c7 c8 c9 c10 c11 c12 c13 c14 c15 c16 c17 c18 c19 th z (upd sz a 0) (upd sg a 0) tk st ss sn el ro kt ks kn le lr pl rest)) := by
  refine jN_of (cc := cX7_put) (nL := 7) (by decide) rfl (Nat.le_of_ble_eq_true rfl) ?_
  intro X C hX hR
  refine J_lload_n (i := 2) C dX7_put_0 rfl rfl ?_
  refine J_lstore C dX7_put_1 (by decide) ?_
  refine J_aload_n (i := 0) C dX7_put_3 rfl rfl ?_
  refine J_get (ci := 10) (k := 3) C dX7_put_4 (inT inX7) rfl (gc flX7_X7_sign) (by decide) rfl rfl ?_
  refine J_iload_n (i := 1) C dX7_put_7 rfl rfl ?_
  refine J_lload_n (i := 2) C dX7_put_8 rfl rfl ?_
  refine J_lconst (v := 0) C dX7_put_9 (by decide) ?_
  refine J_lcmp C dX7_put_10 ?_
  refine J_if_ge (tgt := 18) C dX7_put_11 (by decide) (fun h11q => ?_) (fun h11q => ?_)
  · refine J_lload_n (i := 2) C dX7_put_18 rfl rfl ?_
    refine J_lconst (v := 0) C dX7_put_19 (by decide) ?_
    refine J_lcmp C dX7_put_20 ?_
    refine J_if_le (tgt := 28) C dX7_put_21 (by decide) (fun h21q => ?_) (fun h21q => ?_)
    · refine J_iconst (v := 0) C dX7_put_28 (by decide) ?_
      refine J_iast C dX7_put_29 rfl (vp_in_nI ha (by decide)) ?_
      refine J_aload_n (i := 0) C dX7_put_30 rfl rfl ?_
      refine J_get (ci := 10) (k := 2) C dX7_put_31 (inT inX7) rfl (gc flX7_X7_size) (by decide) rfl rfl ?_
      refine J_iload_n (i := 1) C dX7_put_34 rfl rfl ?_
      refine J_iconst (v := 0) C dX7_put_35 (by decide) ?_
      refine J_iast C dX7_put_36 rfl (vp_in_nI ha (by decide)) ?_
      refine J_lload C dX7_put_37 rfl ?_
      refine J_lconst (v := 0) C dX7_put_39 (by decide) ?_
      refine J_lcmp C dX7_put_40 ?_
      refine J_if_eq (tgt := 104) C dX7_put_41 (by decide) (fun h41q => ?_) (fun h41q => ?_)
      · refine hR _ _ _ _ _ dX7_put_104 ?_ (Nat.le_of_eq hX) (Nat.le_refl _) (Nat.le_refl _)
        rw [nI_clamp (by omega)]
        rfl
      · exact absurd (by decide) h41q
    · exact absurd (by decide) h21q
  · exact absurd (by decide) h11q
set_option maxHeartbeats 2000000 in
/-- put(a, 1) -/
theorem m_put1 {a : Nat} (ha : a < 500) : jN vwCl yX7_put (wc yX7_put cX7_put 7 none) 0 0 [.ref 20, .int (nI a), .long 1] (mW c0 c1 c2 c3 c4 c5 c6 c7 c8 c9 c10 c11 c12 c13 c14 c15 c16 c17 c18 c19 th z sz sg tk st ss sn el ro kt ks kn le lr pl rest) 0 0 (fun pw => pw = (mW c0 c1 c2 c3 c4 c5 c6 c7 c8 c9 c10 c11 c12 c13 c14 c15 c16 c17 c18 c19 th (upd z (2500 * a) 1) (upd (upd sz a 0) a 1) (upd sg a 1) tk st ss sn el ro kt ks kn le lr pl rest)) := by
  refine jN_of (cc := cX7_put) (nL := 7) (by decide) rfl (Nat.le_of_ble_eq_true rfl) ?_
  intro X C hX hR
  have ec : (nI a).toNatClampNeg = a := nI_clamp (by omega)
  refine J_lload_n (i := 2) C dX7_put_0 rfl rfl ?_
  refine J_lstore C dX7_put_1 (by decide) ?_
  refine J_aload_n (i := 0) C dX7_put_3 rfl rfl ?_
  refine J_get (ci := 10) (k := 3) C dX7_put_4 (inT inX7) rfl (gc flX7_X7_sign) (by decide) rfl rfl ?_
  refine J_iload_n (i := 1) C dX7_put_7 rfl rfl ?_
  refine J_lload_n (i := 2) C dX7_put_8 rfl rfl ?_
  refine J_lconst (v := 0) C dX7_put_9 (by decide) ?_
  refine J_lcmp C dX7_put_10 ?_
  refine J_if_ge (tgt := 18) C dX7_put_11 (by decide) (fun h11q => ?_) (fun h11q => ?_)
  · refine J_lload_n (i := 2) C dX7_put_18 rfl rfl ?_
    refine J_lconst (v := 0) C dX7_put_19 (by decide) ?_
    refine J_lcmp C dX7_put_20 ?_
    refine J_if_le (tgt := 28) C dX7_put_21 (by decide) (fun h21q => ?_) (fun h21q => ?_)
    · exact absurd h21q (by decide)
    · refine J_iconst (v := 1) C dX7_put_24 (by decide) ?_
      refine J_goto (tgt := 29) C dX7_put_25 (by decide) ?_
      refine J_iast C dX7_put_29 rfl (vp_in_nI ha (by decide)) ?_
      refine J_aload_n (i := 0) C dX7_put_30 rfl rfl ?_
      refine J_get (ci := 10) (k := 2) C dX7_put_31 (inT inX7) rfl (gc flX7_X7_size) (by decide) rfl rfl ?_
      refine J_iload_n (i := 1) C dX7_put_34 rfl rfl ?_
      refine J_iconst (v := 0) C dX7_put_35 (by decide) ?_
      refine J_iast C dX7_put_36 rfl (vp_in_nI ha (by decide)) ?_
      refine J_lload C dX7_put_37 rfl ?_
      refine J_lconst (v := 0) C dX7_put_39 (by decide) ?_
      refine J_lcmp C dX7_put_40 ?_
      refine J_if_eq (tgt := 104) C dX7_put_41 (by decide) (fun h41q => ?_) (fun h41q => ?_)
      · exact absurd h41q (by decide)
      · refine J_lload C dX7_put_44 rfl ?_
        refine J_ldc2 C (gc clX7_1000000000) dX7_put_46 ?_
        refine J_lrem C dX7_put_49 (by decide) ?_
        refine J_l2i C dX7_put_50 rfl ?_
        refine J_istore C dX7_put_51 (by decide) ?_
        refine J_aload_n (i := 0) C dX7_put_53 rfl rfl ?_
        refine J_get (ci := 10) (k := 1) C dX7_put_54 (inT inX7) rfl (gc flX7_X7_z) (by decide) rfl rfl ?_
        refine J_sipush (v := 2500) C dX7_put_57 (by decide) ?_
        refine J_iload_n (i := 1) C dX7_put_60 rfl rfl ?_
        refine J_imul C dX7_put_61 ?_
        refine J_eqi (y := nI (2500 * a)) (show nI 2500 * nI a = _ from pk_mul _ _) ?_
        refine J_aload_n (i := 0) C dX7_put_62 rfl rfl ?_
        refine J_get (ci := 10) (k := 2) C dX7_put_63 (inT inX7) rfl (gc flX7_X7_size) (by decide) rfl rfl ?_
        refine J_iload_n (i := 1) C dX7_put_66 rfl rfl ?_
        refine J_iald C dX7_put_67 rfl (vp_in_nI ha (by decide)) ?_
        refine J_eqi (y := nI 0) (by rw [ec]; exact pk_us) ?_
        refine J_iadd C dX7_put_68 ?_
        refine J_eqi (nI_add _ _) ?_
        refine J_iload C dX7_put_69 rfl ?_
        refine J_if_ge (tgt := 80) C dX7_put_71 (by decide) (fun h71q => ?_) (fun h71q => ?_)
        · refine J_iload C dX7_put_80 rfl ?_
          refine J_iast C dX7_put_82 rfl (vp_in_nI (show 2500 * a + 0 < 1250000 by omega) (by decide)) ?_
          refine J_lload C dX7_put_83 rfl ?_
          refine J_ldc2 C (gc clX7_1000000000) dX7_put_85 ?_
          refine J_ldiv C dX7_put_88 (by decide) ?_
          refine J_lstore C dX7_put_89 (by decide) ?_
          refine J_aload_n (i := 0) C dX7_put_91 rfl rfl ?_
          refine J_get (ci := 10) (k := 2) C dX7_put_92 (inT inX7) rfl (gc flX7_X7_size) (by decide) rfl rfl ?_
          refine J_iload_n (i := 1) C dX7_put_95 rfl rfl ?_
          refine J_dup2 C dX7_put_96 rfl rfl ?_
          refine J_iald C dX7_put_97 rfl (vp_in_nI ha (by decide)) ?_
          refine J_iconst (v := 1) C dX7_put_98 (by decide) ?_
          refine J_iadd C dX7_put_99 ?_
          refine J_iast C dX7_put_100 rfl (vp_in_nI ha (by decide)) ?_
          refine J_goto (tgt := 37) C dX7_put_101 (by decide) ?_
          refine J_lload C dX7_put_37 rfl ?_
          refine J_lconst (v := 0) C dX7_put_39 (by decide) ?_
          refine J_lcmp C dX7_put_40 ?_
          refine J_if_eq (tgt := 104) C dX7_put_41 (by decide) (fun h41q => ?_) (fun h41q => ?_)
          · refine hR _ _ _ _ _ dX7_put_104 ?_ (Nat.le_of_eq hX) (Nat.le_refl _) (Nat.le_refl _)
            rw [ec, nI_clamp (by omega), pk_us]
            rfl
          · exact absurd (by decide) h41q
        · exact absurd (by decide) h71q
  · exact absurd (by decide) h11q
end MOD2

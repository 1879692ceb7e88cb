section MOD5
variable {c0 c1 c2 c3 c4 c5 c6 c7 c8 c9 c10 c11 c12 c13 c14 c15 c16 c17 c18 c19 : jE} {th : Int32} {z sz sg : Nat → Int32} {tk : Int32} {st ss sn : Nat → Int32} {el ro : Int32} {kt ks kn : Nat → Int32} {le : Int32} {lr : Nat → Int32} {pl : Int32} {rest : jW}
set_option maxHeartbeats 2000000 in
/-- result(what), THE RESULT 0 -/
theorem m_result {w : Int32} (h0 : ks 0 = 0) (h1 : ks 1 = 1) (g0 : kn 0 = 0) (g1 : kn 1 = 1) (hk : kt 2500 = 1) : jI vwCl yX7_result (wc yX7_result cX7_result 3 (some .int)) 1 60 [.ref 20, .int w] (mW c0 c1 c2 c3 c4 c5 c6 c7 c8 c9 c10 c11 c12 c13 c14 c15 c16 c17 c18 c19 th z sz sg tk st ss sn el ro kt ks kn le lr pl rest) 0 0 (fun r pw => r = (if w = 0 then 0 else if w = 1 then 1 else if w = 2 then 1 else -2) ∧ (pw = (mW c0 c1 c2 c3 c4 c5 c6 c7 c8 c9 c10 c11 c12 c13 c14 c15 c16 c17 c18 c19 0 z sz sg tk st ss sn el ro kt ks kn le lr pl rest) ∨ pw = (mW c0 c1 c2 c3 c4 c5 c6 c7 c8 c9 c10 c11 c12 c13 c14 c15 c16 c17 c18 c19 0 (upd z 2500 1) (upd (upd sz 0 0) 1 1) (upd (upd sg 0 0) 1 1) 2 st ss sn el ro kt ks kn le lr pl rest))) := by
  refine jI_of (cc := cX7_result) (nL := 3) .int (by decide) rfl (Nat.le_of_ble_eq_true rfl) (fun _ _ _ => rfl) ?_
  intro X C hX hR
  refine J_aload_n (i := 0) C dX7_result_0 rfl rfl ?_
  refine J_iconst (v := 0) C dX7_result_1 (by decide) ?_
  refine J_put (ci := 10) C 0 tyX7 tyX7_ok nmX7 dX7_result_2 (inT inX7) rfl (gc flX7_X7_thrown) (by decide) rfl (tyX7_ok 0 (by decide)) (fun _ => rfl) (fun _ => rfl) rfl (Nat.le_of_ble_eq_true rfl) ?_
  refine J_iload_n (i := 1) C dX7_result_5 rfl rfl ?_
  refine J_if_lt (tgt := 14) C dX7_result_6 (by decide) (fun h6q => ?_) (fun h6q => ?_)
  · refine J_bipush (v := -2) C dX7_result_14 (by decide) ?_
    refine hR _ _ _ _ _ _ dX7_result_16 ⟨?_,Or.inl rfl⟩ (Nat.le_of_eq hX) (Nat.le_refl _) (Nat.le_refl _)
    rw [if_neg (fun e => absurd h6q (by rw [e]; decide)), if_neg (fun e => absurd h6q (by rw [e]; decide)), if_neg (fun e => absurd h6q (by rw [e]; decide))]
  · refine J_iload_n (i := 1) C dX7_result_9 rfl rfl ?_
    refine J_iconst (v := 2) C dX7_result_10 (by decide) ?_
    refine J_icmp_le (tgt := 17) C dX7_result_11 (by decide) (fun h11q => ?_) (fun h11q => ?_)
    · refine J_aload_n (i := 0) C dX7_result_17 rfl rfl ?_
      refine J_iconst (v := 0) C dX7_result_18 (by decide) ?_
      refine J_put (ci := 10) C 4 tyX7 tyX7_ok nmX7 dX7_result_19 (inT inX7) rfl (gc flX7_X7_taken) (by decide) rfl (tyX7_ok 4 (by decide)) (fun _ => rfl) (fun _ => rfl) rfl (Nat.le_of_ble_eq_true rfl) ?_
      refine J_aload_n (i := 0) C dX7_result_22 rfl rfl ?_
      refine J_iconst (v := 2) C dX7_result_23 (by decide) ?_
      refine J_callVi C [.int 2] rfl rfl 31 (m_take (t := 0) (n := 2)) (gV mlX7_X7_take imX7_take slX7_take iniX7 cdX7_take) rfl dsX7_take ⟨by decide, by decide⟩ dX7_result_24 rfl (Nat.le_of_ble_eq_true rfl) rfl (Nat.le_of_ble_eq_true rfl) (Nat.le_of_eq hX) (Nat.le_of_ble_eq_true rfl) (Nat.le_of_ble_eq_true rfl) (fun r pw h hl => ?_)
      obtain ⟨rfl, rfl⟩ := h
      refine J_istore_n (i := 2) C dX7_result_27 rfl (by decide) ?_
      refine J_aload_n (i := 0) C dX7_result_28 rfl rfl ?_
      refine J_iload_n (i := 2) C dX7_result_29 rfl rfl ?_
      refine J_callVn C [.int 0] rfl rfl 31 (m_keptTo h0 h1 g0 g1 hk) (gV mlX7_X7_keptTo imX7_keptTo slX7_keptTo iniX7 cdX7_keptTo) rfl dsX7_keptTo ⟨by decide, by decide⟩ dX7_result_30 rfl (Nat.le_of_ble_eq_true rfl) rfl (Nat.le_of_ble_eq_true rfl) (Nat.le_of_eq hX) (Nat.le_of_ble_eq_true rfl) (Nat.le_of_ble_eq_true rfl) (fun pw h hl => ?_)
      subst h
      refine J_iload_n (i := 1) C dX7_result_33 rfl rfl ?_
      refine J_if_ne (tgt := 46) C dX7_result_34 (by decide) (fun h34q => ?_) (fun h34q => ?_)
      · have hw : w = 1 ∨ w = 2 := by
          have b1 := Int32.le_iff_toInt_le.mp (Int32.not_lt.mp h6q)
          have b2 := Int32.le_iff_toInt_le.mp h11q
          have e2 : (2 : Int32).toInt = 2 := by decide
          have e3 : (1 : Int32).toInt = 1 := by decide
          have e4 : (0 : Int32).toInt = 0 := by decide
          have b3 : ¬ w.toInt = 0 := fun q => h34q (Int32.toInt_inj.mp (by omega))
          rcases (show w.toInt = 1 ∨ w.toInt = 2 by omega) with q | q
          · exact Or.inl (Int32.toInt_inj.mp (by omega))
          · exact Or.inr (Int32.toInt_inj.mp (by omega))
        rcases hw with rfl | rfl
        · refine J_aload_n (i := 0) C dX7_result_46 rfl rfl ?_
          refine J_iload_n (i := 2) C dX7_result_47 rfl rfl ?_
          refine J_iload_n (i := 1) C dX7_result_48 rfl rfl ?_
          refine J_iadd C dX7_result_49 ?_
          refine J_iconst (v := 1) C dX7_result_50 (by decide) ?_
          refine J_isub C dX7_result_51 ?_
          refine J_callVi C [.int (nI 0)] rfl rfl 31 (m_figures0 (a := 0) (by decide) rfl) (gV mlX7_X7_figures imX7_figures slX7_figures iniX7 cdX7_figures) rfl dsX7_figures ⟨by decide, by decide⟩ dX7_result_52 rfl (Nat.le_of_ble_eq_true rfl) rfl (Nat.le_of_ble_eq_true rfl) (Nat.le_of_eq hX) (Nat.le_of_ble_eq_true rfl) (Nat.le_of_ble_eq_true rfl) (fun r pw h hl => ?_)
          obtain ⟨rfl, rfl⟩ := h
          refine hR _ _ _ _ _ _ dX7_result_55 ⟨by decide,Or.inr rfl⟩ (Nat.le_of_eq hX) (Nat.le_refl _) (Nat.le_refl _)
        · refine J_aload_n (i := 0) C dX7_result_46 rfl rfl ?_
          refine J_iload_n (i := 2) C dX7_result_47 rfl rfl ?_
          refine J_iload_n (i := 1) C dX7_result_48 rfl rfl ?_
          refine J_iadd C dX7_result_49 ?_
          refine J_iconst (v := 1) C dX7_result_50 (by decide) ?_
          refine J_isub C dX7_result_51 ?_
          refine J_callVi C [.int (nI 1)] rfl rfl 31 (m_figures1 (a := 1) (by decide) rfl rfl) (gV mlX7_X7_figures imX7_figures slX7_figures iniX7 cdX7_figures) rfl dsX7_figures ⟨by decide, by decide⟩ dX7_result_52 rfl (Nat.le_of_ble_eq_true rfl) rfl (Nat.le_of_ble_eq_true rfl) (Nat.le_of_eq hX) (Nat.le_of_ble_eq_true rfl) (Nat.le_of_ble_eq_true rfl) (fun r pw h hl => ?_)
          obtain ⟨rfl, rfl⟩ := h
          refine hR _ _ _ _ _ _ dX7_result_55 ⟨by decide,Or.inr rfl⟩ (Nat.le_of_eq hX) (Nat.le_refl _) (Nat.le_refl _)
      · refine J_aload_n (i := 0) C dX7_result_37 rfl rfl ?_
        refine J_get (ci := 10) (k := 3) C dX7_result_38 (inT inX7) rfl (gc flX7_X7_sign) (by decide) rfl rfl ?_
        refine J_iload_n (i := 2) C dX7_result_41 rfl rfl ?_
        refine J_iald C dX7_result_42 rfl (vp_in_nI (n := 0) (by decide) (by decide)) ?_
        refine J_goto (tgt := 55) C dX7_result_43 (by decide) ?_
        refine hR _ _ _ _ _ _ dX7_result_55 ⟨?_,Or.inr rfl⟩ (Nat.le_of_eq hX) (Nat.le_refl _) (Nat.le_refl _)
        rw [if_pos h34q]
        rfl
    · refine J_bipush (v := -2) C dX7_result_14 (by decide) ?_
      refine hR _ _ _ _ _ _ dX7_result_16 ⟨?_,Or.inl rfl⟩ (Nat.le_of_eq hX) (Nat.le_refl _) (Nat.le_refl _)
      rw [if_neg (fun e => absurd (by rw [e]; decide) h11q), if_neg (fun e => absurd (by rw [e]; decide) h11q), if_neg (fun e => absurd (by rw [e]; decide) h11q)]
set_option maxHeartbeats 4000000 in
/-- figure(side, i), THE RESULT 0 -/
theorem m_figure {w i : Int32} (h0 : ks 0 = 0) (h1 : ks 1 = 1) (g0 : kn 0 = 0) (g1 : kn 1 = 1) (hk : kt 2500 = 1) : jI vwCl yX7_figure (wc yX7_figure cX7_figure 4 (some .int)) 2 120 [.ref 20, .int w, .int i] (mW c0 c1 c2 c3 c4 c5 c6 c7 c8 c9 c10 c11 c12 c13 c14 c15 c16 c17 c18 c19 th z sz sg tk st ss sn el ro kt ks kn le lr pl rest) 0 0 (fun r pw => r = (if i = 0 then (if w = 0 then 0 else if w = 1 then 1 else -1) else -1) ∧ pw = (mW c0 c1 c2 c3 c4 c5 c6 c7 c8 c9 c10 c11 c12 c13 c14 c15 c16 c17 c18 c19 0 (upd z 2500 1) (upd (upd sz 0 0) 1 1) (upd (upd sg 0 0) 1 1) 2 st ss sn el ro kt ks kn le lr pl rest)) := by
  refine jI_of (cc := cX7_figure) (nL := 4) .int (by decide) rfl (Nat.le_of_ble_eq_true rfl) (fun _ _ _ => rfl) ?_
  intro X C hX hR
  have hE : ∀ lv : Nat → Option Value, (¬ w = 0 ∧ ¬ w = 1) ∨ ¬ i = 0 → J X 45 lv [] (mW c0 c1 c2 c3 c4 c5 c6 c7 c8 c9 c10 c11 c12 c13 c14 c15 c16 c17 c18 c19 0 (upd z 2500 1) (upd (upd sz 0 0) 1 1) (upd (upd sg 0 0) 1 1) 2 st ss sn el ro kt ks kn le lr pl rest) 0 0 := by
    intro lv hq
    refine J_iconst (v := -1) C dX7_figure_45 (by decide) ?_
    refine J_goto (tgt := 57) C dX7_figure_46 (by decide) ?_
    refine hR _ _ _ _ _ _ dX7_figure_57 ⟨?_,rfl⟩ (Nat.le_of_eq hX) (Nat.le_refl _) (Nat.le_refl _)
    rcases hq with q | q
    · rw [if_neg q.1, if_neg q.2]
      by_cases e : i = 0
      · rw [if_pos e]
      · rw [if_neg e]
    · rw [if_neg q]
  have iz : ¬ i < 0 → i < 1 → i = 0 := by
    intro a1 a2
    have b1 := Int32.le_iff_toInt_le.mp (Int32.not_lt.mp a1)
    have b2 := Int32.lt_iff_toInt_lt.mp a2
    have e3 : (1 : Int32).toInt = 1 := by decide
    have e4 : (0 : Int32).toInt = 0 := by decide
    exact Int32.toInt_inj.mp (by omega)
  refine J_aload_n (i := 0) C dX7_figure_0 rfl rfl ?_
  refine J_iconst (v := 0) C dX7_figure_1 (by decide) ?_
  refine J_put (ci := 10) C 0 tyX7 tyX7_ok nmX7 dX7_figure_2 (inT inX7) rfl (gc flX7_X7_thrown) (by decide) rfl (tyX7_ok 0 (by decide)) (fun _ => rfl) (fun _ => rfl) rfl (Nat.le_of_ble_eq_true rfl) ?_
  refine J_aload_n (i := 0) C dX7_figure_5 rfl rfl ?_
  refine J_iconst (v := 0) C dX7_figure_6 (by decide) ?_
  refine J_put (ci := 10) C 4 tyX7 tyX7_ok nmX7 dX7_figure_7 (inT inX7) rfl (gc flX7_X7_taken) (by decide) rfl (tyX7_ok 4 (by decide)) (fun _ => rfl) (fun _ => rfl) rfl (Nat.le_of_ble_eq_true rfl) ?_
  refine J_aload_n (i := 0) C dX7_figure_10 rfl rfl ?_
  refine J_iconst (v := 2) C dX7_figure_11 (by decide) ?_
  refine J_callVi C [.int 2] rfl rfl 31 (m_take (t := 0) (n := 2)) (gV mlX7_X7_take imX7_take slX7_take iniX7 cdX7_take) rfl dsX7_take ⟨by decide, by decide⟩ dX7_figure_12 rfl (Nat.le_of_ble_eq_true rfl) rfl (Nat.le_of_ble_eq_true rfl) (Nat.le_of_eq hX) (Nat.le_of_ble_eq_true rfl) (Nat.le_of_ble_eq_true rfl) (fun r pw h hl => ?_)
  obtain ⟨rfl, rfl⟩ := h
  refine J_istore_n (i := 3) C dX7_figure_15 rfl (by decide) ?_
  refine J_aload_n (i := 0) C dX7_figure_16 rfl rfl ?_
  refine J_iload_n (i := 3) C dX7_figure_17 rfl rfl ?_
  refine J_callVn C [.int 0] rfl rfl 31 (m_keptTo h0 h1 g0 g1 hk) (gV mlX7_X7_keptTo imX7_keptTo slX7_keptTo iniX7 cdX7_keptTo) rfl dsX7_keptTo ⟨by decide, by decide⟩ dX7_figure_18 rfl (Nat.le_of_ble_eq_true rfl) rfl (Nat.le_of_ble_eq_true rfl) (Nat.le_of_eq hX) (Nat.le_of_ble_eq_true rfl) (Nat.le_of_ble_eq_true rfl) (fun pw h hl => ?_)
  subst h
  refine J_iload_n (i := 1) C dX7_figure_21 rfl rfl ?_
  refine J_if_lt (tgt := 45) C dX7_figure_22 (by decide) (fun h22q => ?_) (fun h22q => ?_)
  · exact hE _ (Or.inl ⟨fun e => absurd h22q (by rw [e]; decide), fun e => absurd h22q (by rw [e]; decide)⟩)
  · refine J_iload_n (i := 1) C dX7_figure_25 rfl rfl ?_
    refine J_iconst (v := 1) C dX7_figure_26 (by decide) ?_
    refine J_icmp_gt (tgt := 45) C dX7_figure_27 (by decide) (fun h27q => ?_) (fun h27q => ?_)
    · exact hE _ (Or.inl ⟨fun e => absurd h27q (by rw [e]; decide), fun e => absurd h27q (by rw [e]; decide)⟩)
    · have hw : w = 0 ∨ w = 1 := by
        have b1 := Int32.le_iff_toInt_le.mp (Int32.not_lt.mp h22q)
        have b2 := Int32.le_iff_toInt_le.mp (Int32.not_lt.mp h27q)
        have e3 : (1 : Int32).toInt = 1 := by decide
        have e4 : (0 : Int32).toInt = 0 := by decide
        rcases (show w.toInt = 0 ∨ w.toInt = 1 by omega) with q | q
        · exact Or.inl (Int32.toInt_inj.mp (by omega))
        · exact Or.inr (Int32.toInt_inj.mp (by omega))
      refine J_iload_n (i := 2) C dX7_figure_30 rfl rfl ?_
      refine J_if_lt (tgt := 45) C dX7_figure_31 (by decide) (fun h31q => ?_) (fun h31q => ?_)
      · exact hE _ (Or.inr (fun e => absurd h31q (by rw [e]; decide)))
      · rcases hw with rfl | rfl
        · refine J_iload_n (i := 2) C dX7_figure_34 rfl rfl ?_
          refine J_aload_n (i := 0) C dX7_figure_35 rfl rfl ?_
          refine J_iload_n (i := 3) C dX7_figure_36 rfl rfl ?_
          refine J_iload_n (i := 1) C dX7_figure_37 rfl rfl ?_
          refine J_iadd C dX7_figure_38 ?_
          refine J_callVi C [.int (nI 0)] rfl rfl 31 (m_figures0 (a := 0) (by decide) rfl) (gV mlX7_X7_figures imX7_figures slX7_figures iniX7 cdX7_figures) rfl dsX7_figures ⟨by decide, by decide⟩ dX7_figure_39 rfl (Nat.le_of_ble_eq_true rfl) rfl (Nat.le_of_ble_eq_true rfl) (Nat.le_of_eq hX) (Nat.le_of_ble_eq_true rfl) (Nat.le_of_ble_eq_true rfl) (fun r pw h hl => ?_)
          obtain ⟨rfl, rfl⟩ := h
          refine J_icmp_lt (tgt := 49) C dX7_figure_42 (by decide) (fun h42q => ?_) (fun h42q => ?_)
          · have e := iz h31q h42q
            refine J_aload_n (i := 0) C dX7_figure_49 rfl rfl ?_
            refine J_iload_n (i := 3) C dX7_figure_50 rfl rfl ?_
            refine J_iload_n (i := 1) C dX7_figure_51 rfl rfl ?_
            refine J_iadd C dX7_figure_52 ?_
            refine J_iload_n (i := 2) C dX7_figure_53 rfl rfl ?_
            refine J_eqi e ?_
            refine J_callVi C [.int (nI 0), .int 0] rfl rfl 31 (m_figureOf0 (a := 0) (by decide) rfl) (gV mlX7_X7_figureOf imX7_figureOf slX7_figureOf iniX7 cdX7_figureOf) rfl dsX7_figureOf ⟨by decide, by decide⟩ dX7_figure_54 rfl (Nat.le_of_ble_eq_true rfl) rfl (Nat.le_of_ble_eq_true rfl) (Nat.le_of_eq hX) (Nat.le_of_ble_eq_true rfl) (Nat.le_of_ble_eq_true rfl) (fun r pw h hl => ?_)
            obtain ⟨rfl, rfl⟩ := h
            refine hR _ _ _ _ _ _ dX7_figure_57 ⟨?_,rfl⟩ (Nat.le_of_eq hX) (Nat.le_refl _) (Nat.le_refl _)
            rw [if_pos e]
            rfl
          · exact hE _ (Or.inr (fun e => absurd (by rw [e]; decide) h42q))
        · refine J_iload_n (i := 2) C dX7_figure_34 rfl rfl ?_
          refine J_aload_n (i := 0) C dX7_figure_35 rfl rfl ?_
          refine J_iload_n (i := 3) C dX7_figure_36 rfl rfl ?_
          refine J_iload_n (i := 1) C dX7_figure_37 rfl rfl ?_
          refine J_iadd C dX7_figure_38 ?_
          refine J_callVi C [.int (nI 1)] rfl rfl 31 (m_figures1 (a := 1) (by decide) rfl rfl) (gV mlX7_X7_figures imX7_figures slX7_figures iniX7 cdX7_figures) rfl dsX7_figures ⟨by decide, by decide⟩ dX7_figure_39 rfl (Nat.le_of_ble_eq_true rfl) rfl (Nat.le_of_ble_eq_true rfl) (Nat.le_of_eq hX) (Nat.le_of_ble_eq_true rfl) (Nat.le_of_ble_eq_true rfl) (fun r pw h hl => ?_)
          obtain ⟨rfl, rfl⟩ := h
          refine J_icmp_lt (tgt := 49) C dX7_figure_42 (by decide) (fun h42q => ?_) (fun h42q => ?_)
          · have e := iz h31q h42q
            refine J_aload_n (i := 0) C dX7_figure_49 rfl rfl ?_
            refine J_iload_n (i := 3) C dX7_figure_50 rfl rfl ?_
            refine J_iload_n (i := 1) C dX7_figure_51 rfl rfl ?_
            refine J_iadd C dX7_figure_52 ?_
            refine J_iload_n (i := 2) C dX7_figure_53 rfl rfl ?_
            refine J_eqi e ?_
            refine J_callVi C [.int (nI 1), .int 0] rfl rfl 31 (m_figureOf1 (a := 1) (by decide) rfl rfl) (gV mlX7_X7_figureOf imX7_figureOf slX7_figureOf iniX7 cdX7_figureOf) rfl dsX7_figureOf ⟨by decide, by decide⟩ dX7_figure_54 rfl (Nat.le_of_ble_eq_true rfl) rfl (Nat.le_of_ble_eq_true rfl) (Nat.le_of_eq hX) (Nat.le_of_ble_eq_true rfl) (Nat.le_of_ble_eq_true rfl) (fun r pw h hl => ?_)
            obtain ⟨rfl, rfl⟩ := h
            refine hR _ _ _ _ _ _ dX7_figure_57 ⟨?_,rfl⟩ (Nat.le_of_eq hX) (Nat.le_refl _) (Nat.le_refl _)
            rw [if_pos e]
            rfl
          · exact hE _ (Or.inr (fun e => absurd (by rw [e]; decide) h42q))
end MOD5

/-! THE REFERENCE. Places: 20 the object, 21 z, 22 size, 23 sign, 24 store, 25 storeSize, 26 storeSign, 27 kept, 28 keptSize, 29 keptSign, 30 letterRow; the class before it. -/
abbrev mW (c0 c1 c2 c3 c4 c5 c6 c7 c8 c9 c10 c11 c12 c13 c14 c15 c16 c17 c18 c19 : jE) (th : Int32) (z sz sg : Nat → Int32) (tk : Int32) (st ss sn : Nat → Int32) (el ro : Int32) (kt ks kn : Nat → Int32) (le : Int32) (lr : Nat → Int32) (pl : Int32) (rest : jW) : jW :=
  c0 :: c1 :: c2 :: c3 :: c4 :: c5 :: c6 :: c7 :: c8 :: c9 :: c10 :: c11 :: c12 :: c13 :: c14 :: c15 :: c16 :: c17 :: c18 :: c19 :: .inr (10, [.int th, .ref 21, .ref 22, .ref 23, .int tk, .ref 24, .ref 25, .ref 26, .int el, .int ro, .ref 27, .ref 28, .ref 29, .int le, .ref 30, .int pl]) :: .inl (.int, 1250000, .inl z) :: .inl (.int, 500, .inl sz) :: .inl (.int, 500, .inl sg) :: .inl (.int, 16384, .inl st) :: .inl (.int, 2048, .inl ss) :: .inl (.int, 2048, .inl sn) :: .inl (.int, 5000, .inl kt) :: .inl (.int, 2, .inl ks) :: .inl (.int, 2, .inl kn) :: .inl (.int, 4000, .inl lr) :: rest
section MOD
variable {c0 c1 c2 c3 c4 c5 c6 c7 c8 c9 c10 c11 c12 c13 c14 c15 c16 c17 c18 c19 : jE} {th : Int32} {z sz sg : Nat → Int32} {tk : Int32} {st ss sn : Nat → Int32} {el ro : Int32} {kt ks kn : Nat → Int32} {le : Int32} {lr : Nat → Int32} {pl : Int32} {rest : jW}
set_option maxHeartbeats 1000000 in
theorem m_isElement {a : Int32} : jI vwCl yX7_isElement (wc yX7_isElement cX7_isElement 2 (some .boolean)) 0 0 [.ref 20, .int a] (mW c0 c1 c2 c3 c4 c5 c6 c7 c8 c9 c10 c11 c12 c13 c14 c15 c16 c17 c18 c19 th z sz sg tk st ss sn 0 0 kt ks kn le lr pl rest) 0 0 (fun r pw => r = 0 ∧ pw = (mW c0 c1 c2 c3 c4 c5 c6 c7 c8 c9 c10 c11 c12 c13 c14 c15 c16 c17 c18 c19 th z sz sg tk st ss sn 0 0 kt ks kn le lr pl rest)) := by
  refine jI_of (cc := cX7_isElement) (nL := 2) .boolean (by decide) rfl (Nat.le_of_ble_eq_true rfl) (fun _ _ hq => by rw [hq.1]; rfl) ?_
  intro X C hX hR
  refine J_iload_n (i := 1) C dX7_isElement_0 rfl rfl ?_
  refine J_if_lt (tgt := 16) C dX7_isElement_1 (by decide) (fun h1q => ?_) (fun h1q => ?_)
  · refine J_iconst (v := 0) C dX7_isElement_16 (by decide) ?_
    refine hR _ _ _ _ _ _ dX7_isElement_17 ⟨rfl,rfl⟩ (Nat.le_of_eq hX) (Nat.le_refl _) (Nat.le_refl _)
  · refine J_iload_n (i := 1) C dX7_isElement_4 rfl rfl ?_
    refine J_aload_n (i := 0) C dX7_isElement_5 rfl rfl ?_
    refine J_get (ci := 10) (k := 8) C dX7_isElement_6 (inT inX7) rfl (gc flX7_X7_elements) (by decide) rfl rfl ?_
    refine J_icmp_ge (tgt := 16) C dX7_isElement_9 (by decide) (fun h9q => ?_) (fun h9q => ?_)
    · refine J_iconst (v := 0) C dX7_isElement_16 (by decide) ?_
      refine hR _ _ _ _ _ _ dX7_isElement_17 ⟨rfl,rfl⟩ (Nat.le_of_eq hX) (Nat.le_refl _) (Nat.le_refl _)
    · exact absurd (Int32.not_lt.mp h1q) h9q
set_option maxHeartbeats 1000000 in
theorem m_thrown : jI vwCl yX7_thrown (wc yX7_thrown cX7_thrown 1 (some .int)) 0 0 [.ref 20] (mW c0 c1 c2 c3 c4 c5 c6 c7 c8 c9 c10 c11 c12 c13 c14 c15 c16 c17 c18 c19 th z sz sg tk st ss sn 0 0 kt ks kn le lr pl rest) 0 0 (fun r pw => r = th ∧ pw = (mW c0 c1 c2 c3 c4 c5 c6 c7 c8 c9 c10 c11 c12 c13 c14 c15 c16 c17 c18 c19 th z sz sg tk st ss sn 0 0 kt ks kn le lr pl rest)) := by
  refine jI_of (cc := cX7_thrown) (nL := 1) .int (by decide) rfl (Nat.le_of_ble_eq_true rfl) (fun _ _ _ => rfl) ?_
  intro X C hX hR
  refine J_aload_n (i := 0) C dX7_thrown_0 rfl rfl ?_
  refine J_get (ci := 10) (k := 0) C dX7_thrown_1 (inT inX7) rfl (gc flX7_X7_thrown) (by decide) rfl rfl ?_
  refine hR _ _ _ _ _ _ dX7_thrown_4 ⟨rfl,rfl⟩ (Nat.le_of_eq hX) (Nat.le_refl _) (Nat.le_refl _)
set_option maxHeartbeats 2000000 in
theorem m_apply {op a b : Int32} : jI vwCl yX7_apply (wc yX7_apply cX7_apply 7 (some .int)) 1 60 [.ref 20, .int op, .int a, .int b] (mW c0 c1 c2 c3 c4 c5 c6 c7 c8 c9 c10 c11 c12 c13 c14 c15 c16 c17 c18 c19 th z sz sg tk st ss sn 0 0 kt ks kn le lr pl rest) 0 0 (fun r pw => r = -1 ∧ pw = (mW c0 c1 c2 c3 c4 c5 c6 c7 c8 c9 c10 c11 c12 c13 c14 c15 c16 c17 c18 c19 0 z sz sg tk st ss sn 0 0 kt ks kn le lr pl rest)) := by
  refine jI_of (cc := cX7_apply) (nL := 7) .int (by decide) rfl (Nat.le_of_ble_eq_true rfl) (fun _ _ _ => rfl) ?_
  intro X C hX hR
  have hE : ∀ lv : Nat → Option Value, J X 39 lv [] (mW c0 c1 c2 c3 c4 c5 c6 c7 c8 c9 c10 c11 c12 c13 c14 c15 c16 c17 c18 c19 0 z sz sg tk st ss sn 0 0 kt ks kn le lr pl rest) 0 0 := by
    intro lv
    refine J_iconst (v := -1) C dX7_apply_39 (by decide) ?_
    refine hR _ _ _ _ _ _ dX7_apply_40 ⟨rfl,rfl⟩ (Nat.le_of_eq hX) (Nat.le_refl _) (Nat.le_refl _)
  refine J_aload_n (i := 0) C dX7_apply_0 rfl rfl ?_
  refine J_iconst (v := 0) C dX7_apply_1 (by decide) ?_
  refine J_put (ci := 10) C 0 tyX7 tyX7_ok nmX7 dX7_apply_2 (inT inX7) rfl (gc flX7_X7_thrown) (by decide) rfl (tyX7_ok 0 (by decide)) (fun _ => rfl) (fun _ => rfl) rfl (Nat.le_of_ble_eq_true rfl) ?_
  refine J_iload_n (i := 1) C dX7_apply_5 rfl rfl ?_
  refine J_if_lt (tgt := 39) C dX7_apply_6 (by decide) (fun h6q => ?_) (fun h6q => ?_)
  · exact hE _
  · refine J_iload_n (i := 1) C dX7_apply_9 rfl rfl ?_
    refine J_iconst (v := 3) C dX7_apply_10 (by decide) ?_
    refine J_icmp_gt (tgt := 39) C dX7_apply_11 (by decide) (fun h11q => ?_) (fun h11q => ?_)
    · exact hE _
    · refine J_aload_n (i := 0) C dX7_apply_14 rfl rfl ?_
      refine J_iload_n (i := 2) C dX7_apply_15 rfl rfl ?_
      refine J_callVi C [.int a] rfl rfl 31 (m_isElement (th := 0)) (gV mlX7_X7_isElement imX7_isElement slX7_isElement iniX7 cdX7_isElement) rfl dsX7_isElement ⟨by decide, by decide⟩ dX7_apply_16 rfl (Nat.le_of_ble_eq_true rfl) rfl (Nat.le_of_ble_eq_true rfl) (Nat.le_of_eq hX) (Nat.le_of_ble_eq_true rfl) (Nat.le_of_ble_eq_true rfl) (fun r pw h hl => ?_)
      obtain ⟨rfl, rfl⟩ := h
      refine J_if_eq (tgt := 39) C dX7_apply_19 (by decide) (fun h19q => ?_) (fun h19q => ?_)
      · exact hE _
      · exact absurd rfl h19q
set_option maxHeartbeats 2000000 in
theorem m_root {a : Int32} : jI vwCl yX7_root (wc yX7_root cX7_root 5 (some .int)) 1 60 [.ref 20, .int a] (mW c0 c1 c2 c3 c4 c5 c6 c7 c8 c9 c10 c11 c12 c13 c14 c15 c16 c17 c18 c19 th z sz sg tk st ss sn 0 0 kt ks kn le lr pl rest) 0 0 (fun r pw => r = -1 ∧ pw = (mW c0 c1 c2 c3 c4 c5 c6 c7 c8 c9 c10 c11 c12 c13 c14 c15 c16 c17 c18 c19 0 z sz sg tk st ss sn 0 0 kt ks kn le lr pl rest)) := by
  refine jI_of (cc := cX7_root) (nL := 5) .int (by decide) rfl (Nat.le_of_ble_eq_true rfl) (fun _ _ _ => rfl) ?_
  intro X C hX hR
  refine J_aload_n (i := 0) C dX7_root_0 rfl rfl ?_
  refine J_iconst (v := 0) C dX7_root_1 (by decide) ?_
  refine J_put (ci := 10) C 0 tyX7 tyX7_ok nmX7 dX7_root_2 (inT inX7) rfl (gc flX7_X7_thrown) (by decide) rfl (tyX7_ok 0 (by decide)) (fun _ => rfl) (fun _ => rfl) rfl (Nat.le_of_ble_eq_true rfl) ?_
  refine J_aload_n (i := 0) C dX7_root_5 rfl rfl ?_
  refine J_iload_n (i := 1) C dX7_root_6 rfl rfl ?_
  refine J_callVi C [.int a] rfl rfl 31 (m_isElement (th := 0)) (gV mlX7_X7_isElement imX7_isElement slX7_isElement iniX7 cdX7_isElement) rfl dsX7_isElement ⟨by decide, by decide⟩ dX7_root_7 rfl (Nat.le_of_ble_eq_true rfl) rfl (Nat.le_of_ble_eq_true rfl) (Nat.le_of_eq hX) (Nat.le_of_ble_eq_true rfl) (Nat.le_of_ble_eq_true rfl) (fun r pw h hl => ?_)
  obtain ⟨rfl, rfl⟩ := h
  refine J_if_eq (tgt := 22) C dX7_root_10 (by decide) (fun h10q => ?_) (fun h10q => ?_)
  · refine J_iconst (v := -1) C dX7_root_22 (by decide) ?_
    refine hR _ _ _ _ _ _ dX7_root_23 ⟨rfl,rfl⟩ (Nat.le_of_eq hX) (Nat.le_refl _) (Nat.le_refl _)
  · exact absurd rfl h10q
set_option maxHeartbeats 2000000 in
theorem m_plain {a : Int32} : jI vwCl yX7_plain (wc yX7_plain cX7_plain 3 (some .int)) 1 60 [.ref 20, .int a] (mW c0 c1 c2 c3 c4 c5 c6 c7 c8 c9 c10 c11 c12 c13 c14 c15 c16 c17 c18 c19 th z sz sg tk st ss sn 0 0 kt ks kn le lr pl rest) 0 0 (fun r pw => r = -1 ∧ pw = (mW c0 c1 c2 c3 c4 c5 c6 c7 c8 c9 c10 c11 c12 c13 c14 c15 c16 c17 c18 c19 0 z sz sg tk st ss sn 0 0 kt ks kn le lr pl rest)) := by
  refine jI_of (cc := cX7_plain) (nL := 3) .int (by decide) rfl (Nat.le_of_ble_eq_true rfl) (fun _ _ _ => rfl) ?_
  intro X C hX hR
  refine J_aload_n (i := 0) C dX7_plain_0 rfl rfl ?_
  refine J_iconst (v := 0) C dX7_plain_1 (by decide) ?_
  refine J_put (ci := 10) C 0 tyX7 tyX7_ok nmX7 dX7_plain_2 (inT inX7) rfl (gc flX7_X7_thrown) (by decide) rfl (tyX7_ok 0 (by decide)) (fun _ => rfl) (fun _ => rfl) rfl (Nat.le_of_ble_eq_true rfl) ?_
  refine J_aload_n (i := 0) C dX7_plain_5 rfl rfl ?_
  refine J_iload_n (i := 1) C dX7_plain_6 rfl rfl ?_
  refine J_callVi C [.int a] rfl rfl 31 (m_isElement (th := 0)) (gV mlX7_X7_isElement imX7_isElement slX7_isElement iniX7 cdX7_isElement) rfl dsX7_isElement ⟨by decide, by decide⟩ dX7_plain_7 rfl (Nat.le_of_ble_eq_true rfl) rfl (Nat.le_of_ble_eq_true rfl) (Nat.le_of_eq hX) (Nat.le_of_ble_eq_true rfl) (Nat.le_of_ble_eq_true rfl) (fun r pw h hl => ?_)
  obtain ⟨rfl, rfl⟩ := h
  refine J_if_eq (tgt := 22) C dX7_plain_10 (by decide) (fun h10q => ?_) (fun h10q => ?_)
  · refine J_iconst (v := -1) C dX7_plain_22 (by decide) ?_
    refine hR _ _ _ _ _ _ dX7_plain_23 ⟨rfl,rfl⟩ (Nat.le_of_eq hX) (Nat.le_refl _) (Nat.le_refl _)
  · exact absurd rfl h10q
set_option maxHeartbeats 2000000 in
theorem m_level {a : Int32} : jI vwCl yX7_level (wc yX7_level cX7_level 2 (some .int)) 1 60 [.ref 20, .int a] (mW c0 c1 c2 c3 c4 c5 c6 c7 c8 c9 c10 c11 c12 c13 c14 c15 c16 c17 c18 c19 th z sz sg tk st ss sn 0 0 kt ks kn le lr pl rest) 0 0 (fun r pw => r = -1 ∧ pw = (mW c0 c1 c2 c3 c4 c5 c6 c7 c8 c9 c10 c11 c12 c13 c14 c15 c16 c17 c18 c19 0 z sz sg tk st ss sn 0 0 kt ks kn le lr pl rest)) := by
  refine jI_of (cc := cX7_level) (nL := 2) .int (by decide) rfl (Nat.le_of_ble_eq_true rfl) (fun _ _ _ => rfl) ?_
  intro X C hX hR
  refine J_aload_n (i := 0) C dX7_level_0 rfl rfl ?_
  refine J_iconst (v := 0) C dX7_level_1 (by decide) ?_
  refine J_put (ci := 10) C 0 tyX7 tyX7_ok nmX7 dX7_level_2 (inT inX7) rfl (gc flX7_X7_thrown) (by decide) rfl (tyX7_ok 0 (by decide)) (fun _ => rfl) (fun _ => rfl) rfl (Nat.le_of_ble_eq_true rfl) ?_
  refine J_aload_n (i := 0) C dX7_level_5 rfl rfl ?_
  refine J_iload_n (i := 1) C dX7_level_6 rfl rfl ?_
  refine J_callVi C [.int a] rfl rfl 31 (m_isElement (th := 0)) (gV mlX7_X7_isElement imX7_isElement slX7_isElement iniX7 cdX7_isElement) rfl dsX7_isElement ⟨by decide, by decide⟩ dX7_level_7 rfl (Nat.le_of_ble_eq_true rfl) rfl (Nat.le_of_ble_eq_true rfl) (Nat.le_of_eq hX) (Nat.le_of_ble_eq_true rfl) (Nat.le_of_ble_eq_true rfl) (fun r pw h hl => ?_)
  obtain ⟨rfl, rfl⟩ := h
  refine J_if_eq (tgt := 21) C dX7_level_10 (by decide) (fun h10q => ?_) (fun h10q => ?_)
  · refine J_iconst (v := -1) C dX7_level_21 (by decide) ?_
    refine hR _ _ _ _ _ _ dX7_level_22 ⟨rfl,rfl⟩ (Nat.le_of_eq hX) (Nat.le_refl _) (Nat.le_refl _)
  · exact absurd rfl h10q
set_option maxHeartbeats 2000000 in
theorem m_coordinate {a i : Int32} : jI vwCl yX7_coordinate (wc yX7_coordinate cX7_coordinate 4 (some .int)) 1 60 [.ref 20, .int a, .int i] (mW c0 c1 c2 c3 c4 c5 c6 c7 c8 c9 c10 c11 c12 c13 c14 c15 c16 c17 c18 c19 th z sz sg tk st ss sn 0 0 kt ks kn le lr pl rest) 0 0 (fun r pw => r = -1 ∧ pw = (mW c0 c1 c2 c3 c4 c5 c6 c7 c8 c9 c10 c11 c12 c13 c14 c15 c16 c17 c18 c19 0 z sz sg tk st ss sn 0 0 kt ks kn le lr pl rest)) := by
  refine jI_of (cc := cX7_coordinate) (nL := 4) .int (by decide) rfl (Nat.le_of_ble_eq_true rfl) (fun _ _ _ => rfl) ?_
  intro X C hX hR
  refine J_aload_n (i := 0) C dX7_coordinate_0 rfl rfl ?_
  refine J_iconst (v := 0) C dX7_coordinate_1 (by decide) ?_
  refine J_put (ci := 10) C 0 tyX7 tyX7_ok nmX7 dX7_coordinate_2 (inT inX7) rfl (gc flX7_X7_thrown) (by decide) rfl (tyX7_ok 0 (by decide)) (fun _ => rfl) (fun _ => rfl) rfl (Nat.le_of_ble_eq_true rfl) ?_
  refine J_aload_n (i := 0) C dX7_coordinate_5 rfl rfl ?_
  refine J_iload_n (i := 1) C dX7_coordinate_6 rfl rfl ?_
  refine J_callVi C [.int a] rfl rfl 31 (m_isElement (th := 0)) (gV mlX7_X7_isElement imX7_isElement slX7_isElement iniX7 cdX7_isElement) rfl dsX7_isElement ⟨by decide, by decide⟩ dX7_coordinate_7 rfl (Nat.le_of_ble_eq_true rfl) rfl (Nat.le_of_ble_eq_true rfl) (Nat.le_of_eq hX) (Nat.le_of_ble_eq_true rfl) (Nat.le_of_ble_eq_true rfl) (fun r pw h hl => ?_)
  obtain ⟨rfl, rfl⟩ := h
  refine J_if_eq (tgt := 28) C dX7_coordinate_10 (by decide) (fun h10q => ?_) (fun h10q => ?_)
  · refine J_iconst (v := -1) C dX7_coordinate_28 (by decide) ?_
    refine hR _ _ _ _ _ _ dX7_coordinate_29 ⟨rfl,rfl⟩ (Nat.le_of_eq hX) (Nat.le_refl _) (Nat.le_refl _)
  · exact absurd rfl h10q
set_option maxHeartbeats 2000000 in
theorem m_equation {a i : Int32} : jI vwCl yX7_equation (wc yX7_equation cX7_equation 5 (some .int)) 1 60 [.ref 20, .int a, .int i] (mW c0 c1 c2 c3 c4 c5 c6 c7 c8 c9 c10 c11 c12 c13 c14 c15 c16 c17 c18 c19 th z sz sg tk st ss sn 0 0 kt ks kn le lr pl rest) 0 0 (fun r pw => r = -1 ∧ pw = (mW c0 c1 c2 c3 c4 c5 c6 c7 c8 c9 c10 c11 c12 c13 c14 c15 c16 c17 c18 c19 0 z sz sg tk st ss sn 0 0 kt ks kn le lr pl rest)) := by
  refine jI_of (cc := cX7_equation) (nL := 5) .int (by decide) rfl (Nat.le_of_ble_eq_true rfl) (fun _ _ _ => rfl) ?_
  intro X C hX hR
  refine J_aload_n (i := 0) C dX7_equation_0 rfl rfl ?_
  refine J_iconst (v := 0) C dX7_equation_1 (by decide) ?_
  refine J_put (ci := 10) C 0 tyX7 tyX7_ok nmX7 dX7_equation_2 (inT inX7) rfl (gc flX7_X7_thrown) (by decide) rfl (tyX7_ok 0 (by decide)) (fun _ => rfl) (fun _ => rfl) rfl (Nat.le_of_ble_eq_true rfl) ?_
  refine J_aload_n (i := 0) C dX7_equation_5 rfl rfl ?_
  refine J_iload_n (i := 1) C dX7_equation_6 rfl rfl ?_
  refine J_callVi C [.int a] rfl rfl 31 (m_isElement (th := 0)) (gV mlX7_X7_isElement imX7_isElement slX7_isElement iniX7 cdX7_isElement) rfl dsX7_isElement ⟨by decide, by decide⟩ dX7_equation_7 rfl (Nat.le_of_ble_eq_true rfl) rfl (Nat.le_of_ble_eq_true rfl) (Nat.le_of_eq hX) (Nat.le_of_ble_eq_true rfl) (Nat.le_of_ble_eq_true rfl) (fun r pw h hl => ?_)
  obtain ⟨rfl, rfl⟩ := h
  refine J_if_eq (tgt := 17) C dX7_equation_10 (by decide) (fun h10q => ?_) (fun h10q => ?_)
  · refine J_iconst (v := -1) C dX7_equation_17 (by decide) ?_
    refine hR _ _ _ _ _ _ dX7_equation_18 ⟨rfl,rfl⟩ (Nat.le_of_eq hX) (Nat.le_refl _) (Nat.le_refl _)
  · exact absurd rfl h10q
set_option maxHeartbeats 2000000 in
theorem m_cut {a i : Int32} : jI vwCl yX7_cut (wc yX7_cut cX7_cut 12 (some .int)) 1 60 [.ref 20, .int a, .int i] (mW c0 c1 c2 c3 c4 c5 c6 c7 c8 c9 c10 c11 c12 c13 c14 c15 c16 c17 c18 c19 th z sz sg tk st ss sn 0 0 kt ks kn le lr pl rest) 0 0 (fun r pw => r = -1 ∧ pw = (mW c0 c1 c2 c3 c4 c5 c6 c7 c8 c9 c10 c11 c12 c13 c14 c15 c16 c17 c18 c19 0 z sz sg tk st ss sn 0 0 kt ks kn le lr pl rest)) := by
  refine jI_of (cc := cX7_cut) (nL := 12) .int (by decide) rfl (Nat.le_of_ble_eq_true rfl) (fun _ _ _ => rfl) ?_
  intro X C hX hR
  refine J_aload_n (i := 0) C dX7_cut_0 rfl rfl ?_
  refine J_iconst (v := 0) C dX7_cut_1 (by decide) ?_
  refine J_put (ci := 10) C 0 tyX7 tyX7_ok nmX7 dX7_cut_2 (inT inX7) rfl (gc flX7_X7_thrown) (by decide) rfl (tyX7_ok 0 (by decide)) (fun _ => rfl) (fun _ => rfl) rfl (Nat.le_of_ble_eq_true rfl) ?_
  refine J_aload_n (i := 0) C dX7_cut_5 rfl rfl ?_
  refine J_iload_n (i := 1) C dX7_cut_6 rfl rfl ?_
  refine J_callVi C [.int a] rfl rfl 31 (m_isElement (th := 0)) (gV mlX7_X7_isElement imX7_isElement slX7_isElement iniX7 cdX7_isElement) rfl dsX7_isElement ⟨by decide, by decide⟩ dX7_cut_7 rfl (Nat.le_of_ble_eq_true rfl) rfl (Nat.le_of_ble_eq_true rfl) (Nat.le_of_eq hX) (Nat.le_of_ble_eq_true rfl) (Nat.le_of_ble_eq_true rfl) (fun r pw h hl => ?_)
  obtain ⟨rfl, rfl⟩ := h
  refine J_if_eq (tgt := 23) C dX7_cut_10 (by decide) (fun h10q => ?_) (fun h10q => ?_)
  · refine J_iconst (v := -1) C dX7_cut_23 (by decide) ?_
    refine hR _ _ _ _ _ _ dX7_cut_24 ⟨rfl,rfl⟩ (Nat.le_of_eq hX) (Nat.le_refl _) (Nat.le_refl _)
  · exact absurd rfl h10q
set_option maxHeartbeats 2000000 in
theorem m_denest {a i : Int32} : jI vwCl yX7_denest (wc yX7_denest cX7_denest 7 (some .int)) 1 60 [.ref 20, .int a, .int i] (mW c0 c1 c2 c3 c4 c5 c6 c7 c8 c9 c10 c11 c12 c13 c14 c15 c16 c17 c18 c19 th z sz sg tk st ss sn 0 0 kt ks kn le lr pl rest) 0 0 (fun r pw => r = -1 ∧ pw = (mW c0 c1 c2 c3 c4 c5 c6 c7 c8 c9 c10 c11 c12 c13 c14 c15 c16 c17 c18 c19 0 z sz sg tk st ss sn 0 0 kt ks kn le lr pl rest)) := by
  refine jI_of (cc := cX7_denest) (nL := 7) .int (by decide) rfl (Nat.le_of_ble_eq_true rfl) (fun _ _ _ => rfl) ?_
  intro X C hX hR
  refine J_aload_n (i := 0) C dX7_denest_0 rfl rfl ?_
  refine J_iconst (v := 0) C dX7_denest_1 (by decide) ?_
  refine J_put (ci := 10) C 0 tyX7 tyX7_ok nmX7 dX7_denest_2 (inT inX7) rfl (gc flX7_X7_thrown) (by decide) rfl (tyX7_ok 0 (by decide)) (fun _ => rfl) (fun _ => rfl) rfl (Nat.le_of_ble_eq_true rfl) ?_
  refine J_aload_n (i := 0) C dX7_denest_5 rfl rfl ?_
  refine J_iload_n (i := 1) C dX7_denest_6 rfl rfl ?_
  refine J_callVi C [.int a] rfl rfl 31 (m_isElement (th := 0)) (gV mlX7_X7_isElement imX7_isElement slX7_isElement iniX7 cdX7_isElement) rfl dsX7_isElement ⟨by decide, by decide⟩ dX7_denest_7 rfl (Nat.le_of_ble_eq_true rfl) rfl (Nat.le_of_ble_eq_true rfl) (Nat.le_of_eq hX) (Nat.le_of_ble_eq_true rfl) (Nat.le_of_ble_eq_true rfl) (fun r pw h hl => ?_)
  obtain ⟨rfl, rfl⟩ := h
  refine J_if_eq (tgt := 31) C dX7_denest_10 (by decide) (fun h10q => ?_) (fun h10q => ?_)
  · refine J_iconst (v := -1) C dX7_denest_31 (by decide) ?_
    refine hR _ _ _ _ _ _ dX7_denest_32 ⟨rfl,rfl⟩ (Nat.le_of_eq hX) (Nat.le_refl _) (Nat.le_refl _)
  · exact absurd rfl h10q
set_option maxHeartbeats 2000000 in
theorem m_compare {a b : Int32} : jI vwCl yX7_compare (wc yX7_compare cX7_compare 5 (some .int)) 1 60 [.ref 20, .int a, .int b] (mW c0 c1 c2 c3 c4 c5 c6 c7 c8 c9 c10 c11 c12 c13 c14 c15 c16 c17 c18 c19 th z sz sg tk st ss sn 0 0 kt ks kn le lr pl rest) 0 0 (fun r pw => r = -2 ∧ pw = (mW c0 c1 c2 c3 c4 c5 c6 c7 c8 c9 c10 c11 c12 c13 c14 c15 c16 c17 c18 c19 0 z sz sg tk st ss sn 0 0 kt ks kn le lr pl rest)) := by
  refine jI_of (cc := cX7_compare) (nL := 5) .int (by decide) rfl (Nat.le_of_ble_eq_true rfl) (fun _ _ _ => rfl) ?_
  intro X C hX hR
  refine J_aload_n (i := 0) C dX7_compare_0 rfl rfl ?_
  refine J_iconst (v := 0) C dX7_compare_1 (by decide) ?_
  refine J_put (ci := 10) C 0 tyX7 tyX7_ok nmX7 dX7_compare_2 (inT inX7) rfl (gc flX7_X7_thrown) (by decide) rfl (tyX7_ok 0 (by decide)) (fun _ => rfl) (fun _ => rfl) rfl (Nat.le_of_ble_eq_true rfl) ?_
  refine J_aload_n (i := 0) C dX7_compare_5 rfl rfl ?_
  refine J_iload_n (i := 1) C dX7_compare_6 rfl rfl ?_
  refine J_callVi C [.int a] rfl rfl 31 (m_isElement (th := 0)) (gV mlX7_X7_isElement imX7_isElement slX7_isElement iniX7 cdX7_isElement) rfl dsX7_isElement ⟨by decide, by decide⟩ dX7_compare_7 rfl (Nat.le_of_ble_eq_true rfl) rfl (Nat.le_of_ble_eq_true rfl) (Nat.le_of_eq hX) (Nat.le_of_ble_eq_true rfl) (Nat.le_of_ble_eq_true rfl) (fun r pw h hl => ?_)
  obtain ⟨rfl, rfl⟩ := h
  refine J_if_eq (tgt := 21) C dX7_compare_10 (by decide) (fun h10q => ?_) (fun h10q => ?_)
  · refine J_bipush (v := -2) C dX7_compare_21 (by decide) ?_
    refine hR _ _ _ _ _ _ dX7_compare_23 ⟨rfl,rfl⟩ (Nat.le_of_eq hX) (Nat.le_refl _) (Nat.le_refl _)
  · exact absurd rfl h10q
set_option maxHeartbeats 2000000 in
theorem m_isSquare {a : Int32} : jI vwCl yX7_isSquare (wc yX7_isSquare cX7_isSquare 4 (some .int)) 1 60 [.ref 20, .int a] (mW c0 c1 c2 c3 c4 c5 c6 c7 c8 c9 c10 c11 c12 c13 c14 c15 c16 c17 c18 c19 th z sz sg tk st ss sn 0 0 kt ks kn le lr pl rest) 0 0 (fun r pw => r = -1 ∧ pw = (mW c0 c1 c2 c3 c4 c5 c6 c7 c8 c9 c10 c11 c12 c13 c14 c15 c16 c17 c18 c19 0 z sz sg tk st ss sn 0 0 kt ks kn le lr pl rest)) := by
  refine jI_of (cc := cX7_isSquare) (nL := 4) .int (by decide) rfl (Nat.le_of_ble_eq_true rfl) (fun _ _ _ => rfl) ?_
  intro X C hX hR
  refine J_aload_n (i := 0) C dX7_isSquare_0 rfl rfl ?_
  refine J_iconst (v := 0) C dX7_isSquare_1 (by decide) ?_
  refine J_put (ci := 10) C 0 tyX7 tyX7_ok nmX7 dX7_isSquare_2 (inT inX7) rfl (gc flX7_X7_thrown) (by decide) rfl (tyX7_ok 0 (by decide)) (fun _ => rfl) (fun _ => rfl) rfl (Nat.le_of_ble_eq_true rfl) ?_
  refine J_aload_n (i := 0) C dX7_isSquare_5 rfl rfl ?_
  refine J_iload_n (i := 1) C dX7_isSquare_6 rfl rfl ?_
  refine J_callVi C [.int a] rfl rfl 31 (m_isElement (th := 0)) (gV mlX7_X7_isElement imX7_isElement slX7_isElement iniX7 cdX7_isElement) rfl dsX7_isElement ⟨by decide, by decide⟩ dX7_isSquare_7 rfl (Nat.le_of_ble_eq_true rfl) rfl (Nat.le_of_ble_eq_true rfl) (Nat.le_of_eq hX) (Nat.le_of_ble_eq_true rfl) (Nat.le_of_ble_eq_true rfl) (fun r pw h hl => ?_)
  obtain ⟨rfl, rfl⟩ := h
  refine J_if_ne (tgt := 15) C dX7_isSquare_10 (by decide) (fun h10q => ?_) (fun h10q => ?_)
  · exact absurd rfl h10q
  · refine J_iconst (v := -1) C dX7_isSquare_13 (by decide) ?_
    refine hR _ _ _ _ _ _ dX7_isSquare_14 ⟨rfl,rfl⟩ (Nat.le_of_eq hX) (Nat.le_refl _) (Nat.le_refl _)
set_option maxHeartbeats 2000000 in
theorem m_sign {a : Int32} : jI vwCl yX7_sign (wc yX7_sign cX7_sign 3 (some .int)) 1 60 [.ref 20, .int a] (mW c0 c1 c2 c3 c4 c5 c6 c7 c8 c9 c10 c11 c12 c13 c14 c15 c16 c17 c18 c19 th z sz sg tk st ss sn 0 0 kt ks kn le lr pl rest) 0 0 (fun r pw => r = -2 ∧ pw = (mW c0 c1 c2 c3 c4 c5 c6 c7 c8 c9 c10 c11 c12 c13 c14 c15 c16 c17 c18 c19 0 z sz sg tk st ss sn 0 0 kt ks kn le lr pl rest)) := by
  refine jI_of (cc := cX7_sign) (nL := 3) .int (by decide) rfl (Nat.le_of_ble_eq_true rfl) (fun _ _ _ => rfl) ?_
  intro X C hX hR
  refine J_aload_n (i := 0) C dX7_sign_0 rfl rfl ?_
  refine J_iconst (v := 0) C dX7_sign_1 (by decide) ?_
  refine J_put (ci := 10) C 0 tyX7 tyX7_ok nmX7 dX7_sign_2 (inT inX7) rfl (gc flX7_X7_thrown) (by decide) rfl (tyX7_ok 0 (by decide)) (fun _ => rfl) (fun _ => rfl) rfl (Nat.le_of_ble_eq_true rfl) ?_
  refine J_aload_n (i := 0) C dX7_sign_5 rfl rfl ?_
  refine J_iload_n (i := 1) C dX7_sign_6 rfl rfl ?_
  refine J_callVi C [.int a] rfl rfl 31 (m_isElement (th := 0)) (gV mlX7_X7_isElement imX7_isElement slX7_isElement iniX7 cdX7_isElement) rfl dsX7_isElement ⟨by decide, by decide⟩ dX7_sign_7 rfl (Nat.le_of_ble_eq_true rfl) rfl (Nat.le_of_ble_eq_true rfl) (Nat.le_of_eq hX) (Nat.le_of_ble_eq_true rfl) (Nat.le_of_ble_eq_true rfl) (fun r pw h hl => ?_)
  obtain ⟨rfl, rfl⟩ := h
  refine J_if_ne (tgt := 16) C dX7_sign_10 (by decide) (fun h10q => ?_) (fun h10q => ?_)
  · exact absurd rfl h10q
  · refine J_bipush (v := -2) C dX7_sign_13 (by decide) ?_
    refine hR _ _ _ _ _ _ dX7_sign_15 ⟨rfl,rfl⟩ (Nat.le_of_eq hX) (Nat.le_refl _) (Nat.le_refl _)
set_option maxHeartbeats 2000000 in
theorem m_degree {a : Int32} : jI vwCl yX7_degree (wc yX7_degree cX7_degree 2 (some .int)) 1 60 [.ref 20, .int a] (mW c0 c1 c2 c3 c4 c5 c6 c7 c8 c9 c10 c11 c12 c13 c14 c15 c16 c17 c18 c19 th z sz sg tk st ss sn 0 0 kt ks kn le lr pl rest) 0 0 (fun r pw => r = -1 ∧ pw = (mW c0 c1 c2 c3 c4 c5 c6 c7 c8 c9 c10 c11 c12 c13 c14 c15 c16 c17 c18 c19 0 z sz sg tk st ss sn 0 0 kt ks kn le lr pl rest)) := by
  refine jI_of (cc := cX7_degree) (nL := 2) .int (by decide) rfl (Nat.le_of_ble_eq_true rfl) (fun _ _ _ => rfl) ?_
  intro X C hX hR
  refine J_aload_n (i := 0) C dX7_degree_0 rfl rfl ?_
  refine J_iconst (v := 0) C dX7_degree_1 (by decide) ?_
  refine J_put (ci := 10) C 0 tyX7 tyX7_ok nmX7 dX7_degree_2 (inT inX7) rfl (gc flX7_X7_thrown) (by decide) rfl (tyX7_ok 0 (by decide)) (fun _ => rfl) (fun _ => rfl) rfl (Nat.le_of_ble_eq_true rfl) ?_
  refine J_aload_n (i := 0) C dX7_degree_5 rfl rfl ?_
  refine J_iload_n (i := 1) C dX7_degree_6 rfl rfl ?_
  refine J_callVi C [.int a] rfl rfl 31 (m_isElement (th := 0)) (gV mlX7_X7_isElement imX7_isElement slX7_isElement iniX7 cdX7_isElement) rfl dsX7_isElement ⟨by decide, by decide⟩ dX7_degree_7 rfl (Nat.le_of_ble_eq_true rfl) rfl (Nat.le_of_ble_eq_true rfl) (Nat.le_of_eq hX) (Nat.le_of_ble_eq_true rfl) (Nat.le_of_ble_eq_true rfl) (fun r pw h hl => ?_)
  obtain ⟨rfl, rfl⟩ := h
  refine J_if_ne (tgt := 15) C dX7_degree_10 (by decide) (fun h10q => ?_) (fun h10q => ?_)
  · exact absurd rfl h10q
  · refine J_iconst (v := -1) C dX7_degree_13 (by decide) ?_
    refine hR _ _ _ _ _ _ dX7_degree_14 ⟨rfl,rfl⟩ (Nat.le_of_eq hX) (Nat.le_refl _) (Nat.le_refl _)
set_option maxHeartbeats 2000000 in
theorem m_text {a : Int32} : jI vwCl yX7_text (wc yX7_text cX7_text 5 (some .int)) 1 60 [.ref 20, .int a] (mW c0 c1 c2 c3 c4 c5 c6 c7 c8 c9 c10 c11 c12 c13 c14 c15 c16 c17 c18 c19 th z sz sg tk st ss sn 0 0 kt ks kn le lr pl rest) 0 0 (fun r pw => r = -1 ∧ pw = (mW c0 c1 c2 c3 c4 c5 c6 c7 c8 c9 c10 c11 c12 c13 c14 c15 c16 c17 c18 c19 0 z sz sg tk st ss sn 0 0 kt ks kn le lr pl rest)) := by
  refine jI_of (cc := cX7_text) (nL := 5) .int (by decide) rfl (Nat.le_of_ble_eq_true rfl) (fun _ _ _ => rfl) ?_
  intro X C hX hR
  refine J_aload_n (i := 0) C dX7_text_0 rfl rfl ?_
  refine J_iconst (v := 0) C dX7_text_1 (by decide) ?_
  refine J_put (ci := 10) C 0 tyX7 tyX7_ok nmX7 dX7_text_2 (inT inX7) rfl (gc flX7_X7_thrown) (by decide) rfl (tyX7_ok 0 (by decide)) (fun _ => rfl) (fun _ => rfl) rfl (Nat.le_of_ble_eq_true rfl) ?_
  refine J_aload_n (i := 0) C dX7_text_5 rfl rfl ?_
  refine J_iload_n (i := 1) C dX7_text_6 rfl rfl ?_
  refine J_callVi C [.int a] rfl rfl 31 (m_isElement (th := 0)) (gV mlX7_X7_isElement imX7_isElement slX7_isElement iniX7 cdX7_isElement) rfl dsX7_isElement ⟨by decide, by decide⟩ dX7_text_7 rfl (Nat.le_of_ble_eq_true rfl) rfl (Nat.le_of_ble_eq_true rfl) (Nat.le_of_eq hX) (Nat.le_of_ble_eq_true rfl) (Nat.le_of_ble_eq_true rfl) (fun r pw h hl => ?_)
  obtain ⟨rfl, rfl⟩ := h
  refine J_if_ne (tgt := 15) C dX7_text_10 (by decide) (fun h10q => ?_) (fun h10q => ?_)
  · exact absurd rfl h10q
  · refine J_iconst (v := -1) C dX7_text_13 (by decide) ?_
    refine hR _ _ _ _ _ _ dX7_text_14 ⟨rfl,rfl⟩ (Nat.le_of_eq hX) (Nat.le_refl _) (Nat.le_refl _)
set_option maxHeartbeats 2000000 in
theorem m_radicand {k i : Int32} : jI vwCl yX7_radicand (wc yX7_radicand cX7_radicand 4 (some .int)) 1 60 [.ref 20, .int k, .int i] (mW c0 c1 c2 c3 c4 c5 c6 c7 c8 c9 c10 c11 c12 c13 c14 c15 c16 c17 c18 c19 th z sz sg tk st ss sn 0 0 kt ks kn le lr pl rest) 0 0 (fun r pw => r = -1 ∧ pw = (mW c0 c1 c2 c3 c4 c5 c6 c7 c8 c9 c10 c11 c12 c13 c14 c15 c16 c17 c18 c19 0 z sz sg tk st ss sn 0 0 kt ks kn le lr pl rest)) := by
  refine jI_of (cc := cX7_radicand) (nL := 4) .int (by decide) rfl (Nat.le_of_ble_eq_true rfl) (fun _ _ _ => rfl) ?_
  intro X C hX hR
  refine J_aload_n (i := 0) C dX7_radicand_0 rfl rfl ?_
  refine J_iconst (v := 0) C dX7_radicand_1 (by decide) ?_
  refine J_put (ci := 10) C 0 tyX7 tyX7_ok nmX7 dX7_radicand_2 (inT inX7) rfl (gc flX7_X7_thrown) (by decide) rfl (tyX7_ok 0 (by decide)) (fun _ => rfl) (fun _ => rfl) rfl (Nat.le_of_ble_eq_true rfl) ?_
  refine J_iload_n (i := 1) C dX7_radicand_5 rfl rfl ?_
  refine J_iconst (v := 1) C dX7_radicand_6 (by decide) ?_
  refine J_icmp_lt (tgt := 32) C dX7_radicand_7 (by decide) (fun h7q => ?_) (fun h7q => ?_)
  · refine J_iconst (v := -1) C dX7_radicand_32 (by decide) ?_
    refine hR _ _ _ _ _ _ dX7_radicand_33 ⟨rfl,rfl⟩ (Nat.le_of_eq hX) (Nat.le_refl _) (Nat.le_refl _)
  · refine J_iload_n (i := 1) C dX7_radicand_10 rfl rfl ?_
    refine J_aload_n (i := 0) C dX7_radicand_11 rfl rfl ?_
    refine J_get (ci := 10) (k := 9) C dX7_radicand_12 (inT inX7) rfl (gc flX7_X7_roots) (by decide) rfl rfl ?_
    refine J_icmp_gt (tgt := 32) C dX7_radicand_15 (by decide) (fun h15q => ?_) (fun h15q => ?_)
    · refine J_iconst (v := -1) C dX7_radicand_32 (by decide) ?_
      refine hR _ _ _ _ _ _ dX7_radicand_33 ⟨rfl,rfl⟩ (Nat.le_of_eq hX) (Nat.le_refl _) (Nat.le_refl _)
    · refine absurd ?_ h15q
      have e2 := Int32.le_iff_toInt_le.mp (Int32.not_lt.mp h7q)
      refine Int32.lt_iff_toInt_lt.mpr ?_
      have e3 : (1 : Int32).toInt = 1 := by decide
      have e4 : (0 : Int32).toInt = 0 := by decide
      omega
set_option maxHeartbeats 2000000 in
theorem m_told {w : Int32} : jI vwCl yX7_told (wc yX7_told cX7_told 2 (some .int)) 1 60 [.ref 20, .int w] (mW c0 c1 c2 c3 c4 c5 c6 c7 c8 c9 c10 c11 c12 c13 c14 c15 c16 c17 c18 c19 th z sz sg tk st ss sn 0 0 kt ks kn le lr pl rest) 0 0 (fun r pw => r = (if w = 0 then 0 else if w = 1 then 0 else -1) ∧ pw = (mW c0 c1 c2 c3 c4 c5 c6 c7 c8 c9 c10 c11 c12 c13 c14 c15 c16 c17 c18 c19 0 z sz sg tk st ss sn 0 0 kt ks kn le lr pl rest)) := by
  refine jI_of (cc := cX7_told) (nL := 2) .int (by decide) rfl (Nat.le_of_ble_eq_true rfl) (fun _ _ _ => rfl) ?_
  intro X C hX hR
  refine J_aload_n (i := 0) C dX7_told_0 rfl rfl ?_
  refine J_iconst (v := 0) C dX7_told_1 (by decide) ?_
  refine J_put (ci := 10) C 0 tyX7 tyX7_ok nmX7 dX7_told_2 (inT inX7) rfl (gc flX7_X7_thrown) (by decide) rfl (tyX7_ok 0 (by decide)) (fun _ => rfl) (fun _ => rfl) rfl (Nat.le_of_ble_eq_true rfl) ?_
  refine J_iload_n (i := 1) C dX7_told_5 rfl rfl ?_
  refine J_if_ne (tgt := 16) C dX7_told_6 (by decide) (fun h6q => ?_) (fun h6q => ?_)
  · refine J_iload_n (i := 1) C dX7_told_16 rfl rfl ?_
    refine J_iconst (v := 1) C dX7_told_17 (by decide) ?_
    refine J_icmp_ne (tgt := 28) C dX7_told_18 (by decide) (fun h18q => ?_) (fun h18q => ?_)
    · refine J_iconst (v := -1) C dX7_told_28 (by decide) ?_
      refine hR _ _ _ _ _ _ dX7_told_29 ⟨by rw [if_neg h6q, if_neg h18q],rfl⟩ (Nat.le_of_eq hX) (Nat.le_refl _) (Nat.le_refl _)
    · refine J_aload_n (i := 0) C dX7_told_21 rfl rfl ?_
      refine J_get (ci := 10) (k := 8) C dX7_told_22 (inT inX7) rfl (gc flX7_X7_elements) (by decide) rfl rfl ?_
      refine J_goto (tgt := 29) C dX7_told_25 (by decide) ?_
      refine hR _ _ _ _ _ _ dX7_told_29 ⟨by rw [if_neg h6q, if_pos h18q],rfl⟩ (Nat.le_of_eq hX) (Nat.le_refl _) (Nat.le_refl _)
  · refine J_aload_n (i := 0) C dX7_told_9 rfl rfl ?_
    refine J_get (ci := 10) (k := 9) C dX7_told_10 (inT inX7) rfl (gc flX7_X7_roots) (by decide) rfl rfl ?_
    refine J_goto (tgt := 29) C dX7_told_13 (by decide) ?_
    refine hR _ _ _ _ _ _ dX7_told_29 ⟨by rw [if_pos h6q],rfl⟩ (Nat.le_of_eq hX) (Nat.le_refl _) (Nat.le_refl _)
set_option maxHeartbeats 2000000 in
/-- letter(i), where there is no text -/
theorem m_letter {i : Int32} (hle : le = 0) : jI vwCl yX7_letter (wc yX7_letter cX7_letter 2 (some .int)) 0 0 [.ref 20, .int i] (mW c0 c1 c2 c3 c4 c5 c6 c7 c8 c9 c10 c11 c12 c13 c14 c15 c16 c17 c18 c19 th z sz sg tk st ss sn 0 0 kt ks kn le lr pl rest) 0 0 (fun r pw => r = 0 ∧ pw = (mW c0 c1 c2 c3 c4 c5 c6 c7 c8 c9 c10 c11 c12 c13 c14 c15 c16 c17 c18 c19 1 z sz sg tk st ss sn 0 0 kt ks kn le lr pl rest)) := by
  refine jI_of (cc := cX7_letter) (nL := 2) .int (by decide) rfl (Nat.le_of_ble_eq_true rfl) (fun _ _ _ => rfl) ?_
  intro X C hX hR
  have hE : ∀ lv : Nat → Option Value, lv 0 = some (.ref 20) → J X 17 lv [.ref 20] (mW c0 c1 c2 c3 c4 c5 c6 c7 c8 c9 c10 c11 c12 c13 c14 c15 c16 c17 c18 c19 th z sz sg tk st ss sn 0 0 kt ks kn le lr pl rest) 0 0 := by
    intro lv h0
    refine J_iconst (v := 1) C dX7_letter_17 (by decide) ?_
    refine J_put (ci := 10) C 0 tyX7 tyX7_ok nmX7 dX7_letter_18 (inT inX7) rfl (gc flX7_X7_thrown) (by decide) rfl (tyX7_ok 0 (by decide)) (fun _ => rfl) (fun _ => rfl) rfl (Nat.le_of_ble_eq_true rfl) ?_
    refine J_aload_n (i := 0) C dX7_letter_21 rfl h0 ?_
    refine J_get (ci := 10) (k := 0) C dX7_letter_22 (inT inX7) rfl (gc flX7_X7_thrown) (by decide) rfl rfl ?_
    refine J_if_le (tgt := 32) C dX7_letter_25 (by decide) (fun h25q => ?_) (fun h25q => ?_)
    · exact absurd h25q (by decide)
    · refine J_iconst (v := 0) C dX7_letter_28 (by decide) ?_
      refine J_goto (tgt := 38) C dX7_letter_29 (by decide) ?_
      refine hR _ _ _ _ _ _ dX7_letter_38 ⟨rfl,rfl⟩ (Nat.le_of_eq hX) (Nat.le_refl _) (Nat.le_refl _)
  refine J_aload_n (i := 0) C dX7_letter_0 rfl rfl ?_
  refine J_iload_n (i := 1) C dX7_letter_1 rfl rfl ?_
  refine J_if_lt (tgt := 17) C dX7_letter_2 (by decide) (fun h2q => ?_) (fun h2q => ?_)
  · exact hE _ rfl
  · refine J_iload_n (i := 1) C dX7_letter_5 rfl rfl ?_
    refine J_aload_n (i := 0) C dX7_letter_6 rfl rfl ?_
    refine J_get (ci := 10) (k := 13) C dX7_letter_7 (inT inX7) rfl (gc flX7_X7_letters) (by decide) rfl rfl ?_
    refine J_icmp_ge (tgt := 17) C dX7_letter_10 (by decide) (fun h10q => ?_) (fun h10q => ?_)
    · exact hE _ rfl
    · exact absurd (by rw [hle]; exact Int32.not_lt.mp h2q) h10q
end MOD

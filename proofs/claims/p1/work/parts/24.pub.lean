section PUB
variable {tp fm kp : Int32} {N : Nat} {f : Nat → Int32} {ht : Int32} {sq sc : Nat → Int32} {ct : Int32} {pl rk : Nat → Int32} {pr : Int32} {rl rh : Nat → Int32} {s12 s13 s14 s15 s16 s17 : jE} {ln : Int32} {lt : Nat → Int32} {rest : jW}
set_option maxHeartbeats 1000000 in
/-- has(a), where there is none -/
theorem c_has {a : Int32} : jI vwCl yX0_has (wc yX0_has cX0_has 2 (some .boolean)) 0 0 [.ref 6, .int a] (cW tp fm kp N f 0 sq sc 0 pl rk pr rl rh s12 s13 s14 s15 s16 s17 ln lt rest) 0 0 (fun r pw => r = 0 ∧ pw = (cW tp fm kp N f 0 sq sc 0 pl rk pr rl rh s12 s13 s14 s15 s16 s17 ln lt rest)) := by
  refine jI_of (cc := cX0_has) (nL := 2) .boolean (by decide) rfl (Nat.le_of_ble_eq_true rfl) (fun _ _ hq => by rw [hq.1]; rfl) ?_
  intro X C hX hR
  refine J_iload_n (i := 1) C dX0_has_0 rfl rfl ?_
  refine J_if_lt (tgt := 16) C dX0_has_1 (by decide) (fun h1q => ?_) (fun h1q => ?_)
  · refine J_iconst (v := 0) C dX0_has_16 (by decide) ?_
    refine hR _ _ _ _ _ _ dX0_has_17 ⟨rfl,rfl⟩ (Nat.le_of_eq hX) (Nat.le_refl _) (Nat.le_refl _)
  · refine J_iload_n (i := 1) C dX0_has_4 rfl rfl ?_
    refine J_aload_n (i := 0) C dX0_has_5 rfl rfl ?_
    refine J_get (ci := 3) (k := 4) C dX0_has_6 (inT inX0) rfl (gc flX0_X0_count) (by decide) rfl rfl ?_
    refine J_icmp_ge (tgt := 16) C dX0_has_9 (by decide) (fun h9q => ?_) (fun h9q => ?_)
    · refine J_iconst (v := 0) C dX0_has_16 (by decide) ?_
      refine hR _ _ _ _ _ _ dX0_has_17 ⟨rfl,rfl⟩ (Nat.le_of_eq hX) (Nat.le_refl _) (Nat.le_refl _)
    · exact absurd (Int32.not_lt.mp h1q) h9q
set_option maxHeartbeats 1000000 in
theorem c_isFull : jI vwCl yX0_isFull (wc yX0_isFull cX0_isFull 1 (some .boolean)) 0 0 [.ref 6] (cW tp fm kp N f 0 sq sc 0 pl rk pr rl rh s12 s13 s14 s15 s16 s17 ln lt rest) 0 0 (fun r pw => r = 0 ∧ pw = (cW tp fm kp N f 0 sq sc 0 pl rk pr rl rh s12 s13 s14 s15 s16 s17 ln lt rest)) := by
  refine jI_of (cc := cX0_isFull) (nL := 1) .boolean (by decide) rfl (Nat.le_of_ble_eq_true rfl) (fun _ _ hq => by rw [hq.1]; rfl) ?_
  intro X C hX hR
  refine J_aload_n (i := 0) C dX0_isFull_0 rfl rfl ?_
  refine J_get (ci := 3) (k := 4) C dX0_isFull_1 (inT inX0) rfl (gc flX0_X0_count) (by decide) rfl rfl ?_
  refine J_bipush (v := 60) C dX0_isFull_4 (by decide) ?_
  refine J_icmp_lt (tgt := 13) C dX0_isFull_6 (by decide) (fun h6q => ?_) (fun h6q => ?_)
  · refine J_iconst (v := 0) C dX0_isFull_13 (by decide) ?_
    refine hR _ _ _ _ _ _ dX0_isFull_14 ⟨rfl,rfl⟩ (Nat.le_of_eq hX) (Nat.le_refl _) (Nat.le_refl _)
  · exact absurd (by decide) h6q
set_option maxHeartbeats 2000000 in
theorem c_apply {op a b : Int32} : jI vwCl yX6_apply (wc yX6_apply cX6_apply 7 (some .int)) 1 60 [.ref 0, .int op, .int a, .int b] (cW tp fm kp N f 0 sq sc 0 pl rk pr rl rh s12 s13 s14 s15 s16 s17 ln lt rest) 0 0 (fun r pw => r = -1 ∧ pw = (cW tp fm kp N f 0 sq sc 0 pl rk pr rl rh s12 s13 s14 s15 s16 s17 ln lt rest)) := by
  refine jI_of (cc := cX6_apply) (nL := 7) .int (by decide) rfl (Nat.le_of_ble_eq_true rfl) (fun _ _ _ => rfl) ?_
  intro X C hX hR
  have hE : ∀ lv : Nat → Option Value, J X 41 lv [] (cW tp fm kp N f 0 sq sc 0 pl rk pr rl rh s12 s13 s14 s15 s16 s17 ln lt rest) 0 0 := by
    intro lv
    refine J_iconst (v := -1) C dX6_apply_41 (by decide) ?_
    refine hR _ _ _ _ _ _ dX6_apply_42 ⟨rfl,rfl⟩ (Nat.le_of_eq hX) (Nat.le_refl _) (Nat.le_refl _)
  refine J_iload_n (i := 1) C dX6_apply_0 rfl rfl ?_
  refine J_if_lt (tgt := 41) C dX6_apply_1 (by decide) (fun h1q => ?_) (fun h1q => ?_)
  · exact hE _
  · refine J_iload_n (i := 1) C dX6_apply_4 rfl rfl ?_
    refine J_iconst (v := 3) C dX6_apply_5 (by decide) ?_
    refine J_icmp_gt (tgt := 41) C dX6_apply_6 (by decide) (fun h6q => ?_) (fun h6q => ?_)
    · exact hE _
    · refine J_aload_n (i := 0) C dX6_apply_9 rfl rfl ?_
      refine J_get (ci := 9) (k := 2) C dX6_apply_10 (inT inX6) rfl (gc flX6_X6_elements) (by decide) rfl rfl ?_
      refine J_iload_n (i := 2) C dX6_apply_13 rfl rfl ?_
      refine J_callVi C [.int a] rfl rfl 12 c_has (gV mlX6_X0_has imX0_has slX0_has iniX0 cdX0_has) rfl dsX0_has ⟨by decide, by decide⟩ dX6_apply_14 rfl (Nat.le_of_ble_eq_true rfl) rfl (Nat.le_of_ble_eq_true rfl) (Nat.le_of_eq hX) (Nat.le_of_ble_eq_true rfl) (Nat.le_of_ble_eq_true rfl) (fun r pw h hl => ?_)
      obtain ⟨rfl, rfl⟩ := h
      refine J_if_eq (tgt := 41) C dX6_apply_17 (by decide) (fun h17q => ?_) (fun h17q => ?_)
      · exact hE _
      · exact absurd rfl h17q
set_option maxHeartbeats 2000000 in
theorem c_root {a : Int32} : jI vwCl yX6_root (wc yX6_root cX6_root 4 (some .int)) 1 60 [.ref 0, .int a] (cW tp fm kp N f 0 sq sc 0 pl rk pr rl rh s12 s13 s14 s15 s16 s17 ln lt rest) 0 0 (fun r pw => r = -1 ∧ pw = (cW tp fm kp N f 0 sq sc 0 pl rk pr rl rh s12 s13 s14 s15 s16 s17 ln lt rest)) := by
  refine jI_of (cc := cX6_root) (nL := 4) .int (by decide) rfl (Nat.le_of_ble_eq_true rfl) (fun _ _ _ => rfl) ?_
  intro X C hX hR
  refine J_aload_n (i := 0) C dX6_root_0 rfl rfl ?_
  refine J_get (ci := 9) (k := 2) C dX6_root_1 (inT inX6) rfl (gc flX6_X6_elements) (by decide) rfl rfl ?_
  refine J_iload_n (i := 1) C dX6_root_4 rfl rfl ?_
  refine J_callVi C [.int a] rfl rfl 12 c_has (gV mlX6_X0_has imX0_has slX0_has iniX0 cdX0_has) rfl dsX0_has ⟨by decide, by decide⟩ dX6_root_5 rfl (Nat.le_of_ble_eq_true rfl) rfl (Nat.le_of_ble_eq_true rfl) (Nat.le_of_eq hX) (Nat.le_of_ble_eq_true rfl) (Nat.le_of_ble_eq_true rfl) (fun r pw h hl => ?_)
  obtain ⟨rfl, rfl⟩ := h
  refine J_if_eq (tgt := 21) C dX6_root_8 (by decide) (fun h8q => ?_) (fun h8q => ?_)
  · refine J_iconst (v := -1) C dX6_root_21 (by decide) ?_
    refine hR _ _ _ _ _ _ dX6_root_22 ⟨rfl,rfl⟩ (Nat.le_of_eq hX) (Nat.le_refl _) (Nat.le_refl _)
  · exact absurd rfl h8q
set_option maxHeartbeats 2000000 in
theorem c_plain {a : Int32} : jI vwCl yX6_plain (wc yX6_plain cX6_plain 4 (some .int)) 1 60 [.ref 0, .int a] (cW tp fm kp N f 0 sq sc 0 pl rk pr rl rh s12 s13 s14 s15 s16 s17 ln lt rest) 0 0 (fun r pw => r = -1 ∧ pw = (cW tp fm kp N f 0 sq sc 0 pl rk pr rl rh s12 s13 s14 s15 s16 s17 ln lt rest)) := by
  refine jI_of (cc := cX6_plain) (nL := 4) .int (by decide) rfl (Nat.le_of_ble_eq_true rfl) (fun _ _ _ => rfl) ?_
  intro X C hX hR
  refine J_aload_n (i := 0) C dX6_plain_0 rfl rfl ?_
  refine J_get (ci := 9) (k := 2) C dX6_plain_1 (inT inX6) rfl (gc flX6_X6_elements) (by decide) rfl rfl ?_
  refine J_iload_n (i := 1) C dX6_plain_4 rfl rfl ?_
  refine J_callVi C [.int a] rfl rfl 12 c_has (gV mlX6_X0_has imX0_has slX0_has iniX0 cdX0_has) rfl dsX0_has ⟨by decide, by decide⟩ dX6_plain_5 rfl (Nat.le_of_ble_eq_true rfl) rfl (Nat.le_of_ble_eq_true rfl) (Nat.le_of_eq hX) (Nat.le_of_ble_eq_true rfl) (Nat.le_of_ble_eq_true rfl) (fun r pw h hl => ?_)
  obtain ⟨rfl, rfl⟩ := h
  refine J_if_eq (tgt := 21) C dX6_plain_8 (by decide) (fun h8q => ?_) (fun h8q => ?_)
  · refine J_iconst (v := -1) C dX6_plain_21 (by decide) ?_
    refine hR _ _ _ _ _ _ dX6_plain_22 ⟨rfl,rfl⟩ (Nat.le_of_eq hX) (Nat.le_refl _) (Nat.le_refl _)
  · exact absurd rfl h8q
set_option maxHeartbeats 2000000 in
theorem c_level {a : Int32} : jI vwCl yX6_level (wc yX6_level cX6_level 2 (some .int)) 1 60 [.ref 0, .int a] (cW tp fm kp N f 0 sq sc 0 pl rk pr rl rh s12 s13 s14 s15 s16 s17 ln lt rest) 0 0 (fun r pw => r = -1 ∧ pw = (cW tp fm kp N f 0 sq sc 0 pl rk pr rl rh s12 s13 s14 s15 s16 s17 ln lt rest)) := by
  refine jI_of (cc := cX6_level) (nL := 2) .int (by decide) rfl (Nat.le_of_ble_eq_true rfl) (fun _ _ _ => rfl) ?_
  intro X C hX hR
  refine J_aload_n (i := 0) C dX6_level_0 rfl rfl ?_
  refine J_get (ci := 9) (k := 2) C dX6_level_1 (inT inX6) rfl (gc flX6_X6_elements) (by decide) rfl rfl ?_
  refine J_iload_n (i := 1) C dX6_level_4 rfl rfl ?_
  refine J_callVi C [.int a] rfl rfl 12 c_has (gV mlX6_X0_has imX0_has slX0_has iniX0 cdX0_has) rfl dsX0_has ⟨by decide, by decide⟩ dX6_level_5 rfl (Nat.le_of_ble_eq_true rfl) rfl (Nat.le_of_ble_eq_true rfl) (Nat.le_of_eq hX) (Nat.le_of_ble_eq_true rfl) (Nat.le_of_ble_eq_true rfl) (fun r pw h hl => ?_)
  obtain ⟨rfl, rfl⟩ := h
  refine J_if_eq (tgt := 23) C dX6_level_8 (by decide) (fun h8q => ?_) (fun h8q => ?_)
  · refine J_iconst (v := -1) C dX6_level_23 (by decide) ?_
    refine hR _ _ _ _ _ _ dX6_level_24 ⟨rfl,rfl⟩ (Nat.le_of_eq hX) (Nat.le_refl _) (Nat.le_refl _)
  · exact absurd rfl h8q
set_option maxHeartbeats 2000000 in
theorem c_coordinate {a i : Int32} : jI vwCl yX6_coordinate (wc yX6_coordinate cX6_coordinate 3 (some .int)) 1 60 [.ref 0, .int a, .int i] (cW tp fm kp N f 0 sq sc 0 pl rk pr rl rh s12 s13 s14 s15 s16 s17 ln lt rest) 0 0 (fun r pw => r = -1 ∧ pw = (cW tp fm kp N f 0 sq sc 0 pl rk pr rl rh s12 s13 s14 s15 s16 s17 ln lt rest)) := by
  refine jI_of (cc := cX6_coordinate) (nL := 3) .int (by decide) rfl (Nat.le_of_ble_eq_true rfl) (fun _ _ _ => rfl) ?_
  intro X C hX hR
  refine J_aload_n (i := 0) C dX6_coordinate_0 rfl rfl ?_
  refine J_get (ci := 9) (k := 2) C dX6_coordinate_1 (inT inX6) rfl (gc flX6_X6_elements) (by decide) rfl rfl ?_
  refine J_iload_n (i := 1) C dX6_coordinate_4 rfl rfl ?_
  refine J_callVi C [.int a] rfl rfl 12 c_has (gV mlX6_X0_has imX0_has slX0_has iniX0 cdX0_has) rfl dsX0_has ⟨by decide, by decide⟩ dX6_coordinate_5 rfl (Nat.le_of_ble_eq_true rfl) rfl (Nat.le_of_ble_eq_true rfl) (Nat.le_of_eq hX) (Nat.le_of_ble_eq_true rfl) (Nat.le_of_ble_eq_true rfl) (fun r pw h hl => ?_)
  obtain ⟨rfl, rfl⟩ := h
  refine J_if_eq (tgt := 28) C dX6_coordinate_8 (by decide) (fun h8q => ?_) (fun h8q => ?_)
  · refine J_iconst (v := -1) C dX6_coordinate_28 (by decide) ?_
    refine hR _ _ _ _ _ _ dX6_coordinate_29 ⟨rfl,rfl⟩ (Nat.le_of_eq hX) (Nat.le_refl _) (Nat.le_refl _)
  · exact absurd rfl h8q
set_option maxHeartbeats 2000000 in
theorem c_equation {a i : Int32} : jI vwCl yX6_equation (wc yX6_equation cX6_equation 4 (some .int)) 1 60 [.ref 0, .int a, .int i] (cW tp fm kp N f 0 sq sc 0 pl rk pr rl rh s12 s13 s14 s15 s16 s17 ln lt rest) 0 0 (fun r pw => r = -1 ∧ pw = (cW tp fm kp N f 0 sq sc 0 pl rk pr rl rh s12 s13 s14 s15 s16 s17 ln lt rest)) := by
  refine jI_of (cc := cX6_equation) (nL := 4) .int (by decide) rfl (Nat.le_of_ble_eq_true rfl) (fun _ _ _ => rfl) ?_
  intro X C hX hR
  refine J_aload_n (i := 0) C dX6_equation_0 rfl rfl ?_
  refine J_get (ci := 9) (k := 2) C dX6_equation_1 (inT inX6) rfl (gc flX6_X6_elements) (by decide) rfl rfl ?_
  refine J_iload_n (i := 1) C dX6_equation_4 rfl rfl ?_
  refine J_callVi C [.int a] rfl rfl 12 c_has (gV mlX6_X0_has imX0_has slX0_has iniX0 cdX0_has) rfl dsX0_has ⟨by decide, by decide⟩ dX6_equation_5 rfl (Nat.le_of_ble_eq_true rfl) rfl (Nat.le_of_ble_eq_true rfl) (Nat.le_of_eq hX) (Nat.le_of_ble_eq_true rfl) (Nat.le_of_ble_eq_true rfl) (fun r pw h hl => ?_)
  obtain ⟨rfl, rfl⟩ := h
  refine J_if_eq (tgt := 21) C dX6_equation_8 (by decide) (fun h8q => ?_) (fun h8q => ?_)
  · refine J_iconst (v := -1) C dX6_equation_21 (by decide) ?_
    refine hR _ _ _ _ _ _ dX6_equation_22 ⟨rfl,rfl⟩ (Nat.le_of_eq hX) (Nat.le_refl _) (Nat.le_refl _)
  · exact absurd rfl h8q
set_option maxHeartbeats 2000000 in
theorem c_cut {a i : Int32} : jI vwCl yX6_cut (wc yX6_cut cX6_cut 5 (some .int)) 1 60 [.ref 0, .int a, .int i] (cW tp fm kp N f 0 sq sc 0 pl rk pr rl rh s12 s13 s14 s15 s16 s17 ln lt rest) 0 0 (fun r pw => r = -1 ∧ pw = (cW tp fm kp N f 0 sq sc 0 pl rk pr rl rh s12 s13 s14 s15 s16 s17 ln lt rest)) := by
  refine jI_of (cc := cX6_cut) (nL := 5) .int (by decide) rfl (Nat.le_of_ble_eq_true rfl) (fun _ _ _ => rfl) ?_
  intro X C hX hR
  refine J_aload_n (i := 0) C dX6_cut_0 rfl rfl ?_
  refine J_get (ci := 9) (k := 2) C dX6_cut_1 (inT inX6) rfl (gc flX6_X6_elements) (by decide) rfl rfl ?_
  refine J_iload_n (i := 1) C dX6_cut_4 rfl rfl ?_
  refine J_callVi C [.int a] rfl rfl 12 c_has (gV mlX6_X0_has imX0_has slX0_has iniX0 cdX0_has) rfl dsX0_has ⟨by decide, by decide⟩ dX6_cut_5 rfl (Nat.le_of_ble_eq_true rfl) rfl (Nat.le_of_ble_eq_true rfl) (Nat.le_of_eq hX) (Nat.le_of_ble_eq_true rfl) (Nat.le_of_ble_eq_true rfl) (fun r pw h hl => ?_)
  obtain ⟨rfl, rfl⟩ := h
  refine J_if_eq (tgt := 21) C dX6_cut_8 (by decide) (fun h8q => ?_) (fun h8q => ?_)
  · refine J_iconst (v := -1) C dX6_cut_21 (by decide) ?_
    refine hR _ _ _ _ _ _ dX6_cut_22 ⟨rfl,rfl⟩ (Nat.le_of_eq hX) (Nat.le_refl _) (Nat.le_refl _)
  · exact absurd rfl h8q
set_option maxHeartbeats 2000000 in
theorem c_denest {a i : Int32} : jI vwCl yX6_denest (wc yX6_denest cX6_denest 4 (some .int)) 1 60 [.ref 0, .int a, .int i] (cW tp fm kp N f 0 sq sc 0 pl rk pr rl rh s12 s13 s14 s15 s16 s17 ln lt rest) 0 0 (fun r pw => r = -1 ∧ pw = (cW tp fm kp N f 0 sq sc 0 pl rk pr rl rh s12 s13 s14 s15 s16 s17 ln lt rest)) := by
  refine jI_of (cc := cX6_denest) (nL := 4) .int (by decide) rfl (Nat.le_of_ble_eq_true rfl) (fun _ _ _ => rfl) ?_
  intro X C hX hR
  refine J_aload_n (i := 0) C dX6_denest_0 rfl rfl ?_
  refine J_get (ci := 9) (k := 2) C dX6_denest_1 (inT inX6) rfl (gc flX6_X6_elements) (by decide) rfl rfl ?_
  refine J_iload_n (i := 1) C dX6_denest_4 rfl rfl ?_
  refine J_callVi C [.int a] rfl rfl 12 c_has (gV mlX6_X0_has imX0_has slX0_has iniX0 cdX0_has) rfl dsX0_has ⟨by decide, by decide⟩ dX6_denest_5 rfl (Nat.le_of_ble_eq_true rfl) rfl (Nat.le_of_ble_eq_true rfl) (Nat.le_of_eq hX) (Nat.le_of_ble_eq_true rfl) (Nat.le_of_ble_eq_true rfl) (fun r pw h hl => ?_)
  obtain ⟨rfl, rfl⟩ := h
  refine J_if_eq (tgt := 33) C dX6_denest_8 (by decide) (fun h8q => ?_) (fun h8q => ?_)
  · refine J_iconst (v := -1) C dX6_denest_33 (by decide) ?_
    refine hR _ _ _ _ _ _ dX6_denest_34 ⟨rfl,rfl⟩ (Nat.le_of_eq hX) (Nat.le_refl _) (Nat.le_refl _)
  · exact absurd rfl h8q
set_option maxHeartbeats 2000000 in
theorem c_isSquare {a : Int32} : jI vwCl yX6_isSquare (wc yX6_isSquare cX6_isSquare 4 (some .int)) 1 60 [.ref 0, .int a] (cW tp fm kp N f 0 sq sc 0 pl rk pr rl rh s12 s13 s14 s15 s16 s17 ln lt rest) 0 0 (fun r pw => r = -1 ∧ pw = (cW tp fm kp N f 0 sq sc 0 pl rk pr rl rh s12 s13 s14 s15 s16 s17 ln lt rest)) := by
  refine jI_of (cc := cX6_isSquare) (nL := 4) .int (by decide) rfl (Nat.le_of_ble_eq_true rfl) (fun _ _ _ => rfl) ?_
  intro X C hX hR
  refine J_aload_n (i := 0) C dX6_isSquare_0 rfl rfl ?_
  refine J_get (ci := 9) (k := 2) C dX6_isSquare_1 (inT inX6) rfl (gc flX6_X6_elements) (by decide) rfl rfl ?_
  refine J_iload_n (i := 1) C dX6_isSquare_4 rfl rfl ?_
  refine J_callVi C [.int a] rfl rfl 12 c_has (gV mlX6_X0_has imX0_has slX0_has iniX0 cdX0_has) rfl dsX0_has ⟨by decide, by decide⟩ dX6_isSquare_5 rfl (Nat.le_of_ble_eq_true rfl) rfl (Nat.le_of_ble_eq_true rfl) (Nat.le_of_eq hX) (Nat.le_of_ble_eq_true rfl) (Nat.le_of_ble_eq_true rfl) (fun r pw h hl => ?_)
  obtain ⟨rfl, rfl⟩ := h
  refine J_if_ne (tgt := 13) C dX6_isSquare_8 (by decide) (fun h8q => ?_) (fun h8q => ?_)
  · exact absurd rfl h8q
  · refine J_iconst (v := -1) C dX6_isSquare_11 (by decide) ?_
    refine hR _ _ _ _ _ _ dX6_isSquare_12 ⟨rfl,rfl⟩ (Nat.le_of_eq hX) (Nat.le_refl _) (Nat.le_refl _)
set_option maxHeartbeats 2000000 in
theorem c_sign {a : Int32} : jI vwCl yX6_sign (wc yX6_sign cX6_sign 2 (some .int)) 1 60 [.ref 0, .int a] (cW tp fm kp N f 0 sq sc 0 pl rk pr rl rh s12 s13 s14 s15 s16 s17 ln lt rest) 0 0 (fun r pw => r = -2 ∧ pw = (cW tp fm kp N f 0 sq sc 0 pl rk pr rl rh s12 s13 s14 s15 s16 s17 ln lt rest)) := by
  refine jI_of (cc := cX6_sign) (nL := 2) .int (by decide) rfl (Nat.le_of_ble_eq_true rfl) (fun _ _ _ => rfl) ?_
  intro X C hX hR
  refine J_aload_n (i := 0) C dX6_sign_0 rfl rfl ?_
  refine J_get (ci := 9) (k := 2) C dX6_sign_1 (inT inX6) rfl (gc flX6_X6_elements) (by decide) rfl rfl ?_
  refine J_iload_n (i := 1) C dX6_sign_4 rfl rfl ?_
  refine J_callVi C [.int a] rfl rfl 12 c_has (gV mlX6_X0_has imX0_has slX0_has iniX0 cdX0_has) rfl dsX0_has ⟨by decide, by decide⟩ dX6_sign_5 rfl (Nat.le_of_ble_eq_true rfl) rfl (Nat.le_of_ble_eq_true rfl) (Nat.le_of_eq hX) (Nat.le_of_ble_eq_true rfl) (Nat.le_of_ble_eq_true rfl) (fun r pw h hl => ?_)
  obtain ⟨rfl, rfl⟩ := h
  refine J_if_ne (tgt := 14) C dX6_sign_8 (by decide) (fun h8q => ?_) (fun h8q => ?_)
  · exact absurd rfl h8q
  · refine J_bipush (v := -2) C dX6_sign_11 (by decide) ?_
    refine hR _ _ _ _ _ _ dX6_sign_13 ⟨rfl,rfl⟩ (Nat.le_of_eq hX) (Nat.le_refl _) (Nat.le_refl _)
set_option maxHeartbeats 2000000 in
theorem c_degree {a : Int32} : jI vwCl yX6_degree (wc yX6_degree cX6_degree 2 (some .int)) 1 60 [.ref 0, .int a] (cW tp fm kp N f 0 sq sc 0 pl rk pr rl rh s12 s13 s14 s15 s16 s17 ln lt rest) 0 0 (fun r pw => r = -1 ∧ pw = (cW tp fm kp N f 0 sq sc 0 pl rk pr rl rh s12 s13 s14 s15 s16 s17 ln lt rest)) := by
  refine jI_of (cc := cX6_degree) (nL := 2) .int (by decide) rfl (Nat.le_of_ble_eq_true rfl) (fun _ _ _ => rfl) ?_
  intro X C hX hR
  refine J_aload_n (i := 0) C dX6_degree_0 rfl rfl ?_
  refine J_get (ci := 9) (k := 2) C dX6_degree_1 (inT inX6) rfl (gc flX6_X6_elements) (by decide) rfl rfl ?_
  refine J_iload_n (i := 1) C dX6_degree_4 rfl rfl ?_
  refine J_callVi C [.int a] rfl rfl 12 c_has (gV mlX6_X0_has imX0_has slX0_has iniX0 cdX0_has) rfl dsX0_has ⟨by decide, by decide⟩ dX6_degree_5 rfl (Nat.le_of_ble_eq_true rfl) rfl (Nat.le_of_ble_eq_true rfl) (Nat.le_of_eq hX) (Nat.le_of_ble_eq_true rfl) (Nat.le_of_ble_eq_true rfl) (fun r pw h hl => ?_)
  obtain ⟨rfl, rfl⟩ := h
  refine J_if_ne (tgt := 13) C dX6_degree_8 (by decide) (fun h8q => ?_) (fun h8q => ?_)
  · exact absurd rfl h8q
  · refine J_iconst (v := -1) C dX6_degree_11 (by decide) ?_
    refine hR _ _ _ _ _ _ dX6_degree_12 ⟨rfl,rfl⟩ (Nat.le_of_eq hX) (Nat.le_refl _) (Nat.le_refl _)
set_option maxHeartbeats 2000000 in
theorem c_text {a : Int32} : jI vwCl yX6_text (wc yX6_text cX6_text 3 (some .int)) 1 60 [.ref 0, .int a] (cW tp fm kp N f 0 sq sc 0 pl rk pr rl rh s12 s13 s14 s15 s16 s17 ln lt rest) 0 0 (fun r pw => r = -1 ∧ pw = (cW tp fm kp N f 0 sq sc 0 pl rk pr rl rh s12 s13 s14 s15 s16 s17 ln lt rest)) := by
  refine jI_of (cc := cX6_text) (nL := 3) .int (by decide) rfl (Nat.le_of_ble_eq_true rfl) (fun _ _ _ => rfl) ?_
  intro X C hX hR
  refine J_aload_n (i := 0) C dX6_text_0 rfl rfl ?_
  refine J_get (ci := 9) (k := 2) C dX6_text_1 (inT inX6) rfl (gc flX6_X6_elements) (by decide) rfl rfl ?_
  refine J_iload_n (i := 1) C dX6_text_4 rfl rfl ?_
  refine J_callVi C [.int a] rfl rfl 12 c_has (gV mlX6_X0_has imX0_has slX0_has iniX0 cdX0_has) rfl dsX0_has ⟨by decide, by decide⟩ dX6_text_5 rfl (Nat.le_of_ble_eq_true rfl) rfl (Nat.le_of_ble_eq_true rfl) (Nat.le_of_eq hX) (Nat.le_of_ble_eq_true rfl) (Nat.le_of_ble_eq_true rfl) (fun r pw h hl => ?_)
  obtain ⟨rfl, rfl⟩ := h
  refine J_if_ne (tgt := 13) C dX6_text_8 (by decide) (fun h8q => ?_) (fun h8q => ?_)
  · exact absurd rfl h8q
  · refine J_iconst (v := -1) C dX6_text_11 (by decide) ?_
    refine hR _ _ _ _ _ _ dX6_text_12 ⟨rfl,rfl⟩ (Nat.le_of_eq hX) (Nat.le_refl _) (Nat.le_refl _)
set_option maxHeartbeats 2000000 in
theorem c_compare {a b : Int32} : jI vwCl yX6_compare (wc yX6_compare cX6_compare 8 (some .int)) 1 60 [.ref 0, .int a, .int b] (cW tp fm kp N f 0 sq sc 0 pl rk pr rl rh s12 s13 s14 s15 s16 s17 ln lt rest) 0 0 (fun r pw => r = -2 ∧ pw = (cW tp fm kp N f 0 sq sc 0 pl rk pr rl rh s12 s13 s14 s15 s16 s17 ln lt rest)) := by
  refine jI_of (cc := cX6_compare) (nL := 8) .int (by decide) rfl (Nat.le_of_ble_eq_true rfl) (fun _ _ _ => rfl) ?_
  intro X C hX hR
  refine J_aload_n (i := 0) C dX6_compare_0 rfl rfl ?_
  refine J_get (ci := 9) (k := 2) C dX6_compare_1 (inT inX6) rfl (gc flX6_X6_elements) (by decide) rfl rfl ?_
  refine J_iload_n (i := 1) C dX6_compare_4 rfl rfl ?_
  refine J_callVi C [.int a] rfl rfl 12 c_has (gV mlX6_X0_has imX0_has slX0_has iniX0 cdX0_has) rfl dsX0_has ⟨by decide, by decide⟩ dX6_compare_5 rfl (Nat.le_of_ble_eq_true rfl) rfl (Nat.le_of_ble_eq_true rfl) (Nat.le_of_eq hX) (Nat.le_of_ble_eq_true rfl) (Nat.le_of_ble_eq_true rfl) (fun r pw h hl => ?_)
  obtain ⟨rfl, rfl⟩ := h
  refine J_if_eq (tgt := 22) C dX6_compare_8 (by decide) (fun h8q => ?_) (fun h8q => ?_)
  · refine J_bipush (v := -2) C dX6_compare_22 (by decide) ?_
    refine hR _ _ _ _ _ _ dX6_compare_24 ⟨rfl,rfl⟩ (Nat.le_of_eq hX) (Nat.le_refl _) (Nat.le_refl _)
  · exact absurd rfl h8q
set_option maxHeartbeats 2000000 in
theorem c_radicand {k i : Int32} : jI vwCl yX6_radicand (wc yX6_radicand cX6_radicand 3 (some .int)) 1 60 [.ref 0, .int k, .int i] (cW tp fm kp N f 0 sq sc 0 pl rk pr rl rh s12 s13 s14 s15 s16 s17 ln lt rest) 0 0 (fun r pw => r = -1 ∧ pw = (cW tp fm kp N f 0 sq sc 0 pl rk pr rl rh s12 s13 s14 s15 s16 s17 ln lt rest)) := by
  refine jI_of (cc := cX6_radicand) (nL := 3) .int (by decide) rfl (Nat.le_of_ble_eq_true rfl) (fun _ _ _ => rfl) ?_
  intro X C hX hR
  refine J_iload_n (i := 1) C dX6_radicand_0 rfl rfl ?_
  refine J_iconst (v := 1) C dX6_radicand_1 (by decide) ?_
  refine J_icmp_lt (tgt := 29) C dX6_radicand_2 (by decide) (fun h2q => ?_) (fun h2q => ?_)
  · refine J_iconst (v := -1) C dX6_radicand_29 (by decide) ?_
    refine hR _ _ _ _ _ _ dX6_radicand_30 ⟨rfl,rfl⟩ (Nat.le_of_eq hX) (Nat.le_refl _) (Nat.le_refl _)
  · refine J_iload_n (i := 1) C dX6_radicand_5 rfl rfl ?_
    refine J_aload_n (i := 0) C dX6_radicand_6 rfl rfl ?_
    refine J_get (ci := 9) (k := 1) C dX6_radicand_7 (inT inX6) rfl (gc flX6_X6_field) (by decide) rfl rfl ?_
    refine J_get (ci := 4) (k := 1) C dX6_radicand_10 (inT inX1) rfl (gc flX6_X1_height) (by decide) rfl rfl ?_
    refine J_icmp_gt (tgt := 29) C dX6_radicand_13 (by decide) (fun h13q => ?_) (fun h13q => ?_)
    · refine J_iconst (v := -1) C dX6_radicand_29 (by decide) ?_
      refine hR _ _ _ _ _ _ dX6_radicand_30 ⟨rfl,rfl⟩ (Nat.le_of_eq hX) (Nat.le_refl _) (Nat.le_refl _)
    · refine absurd ?_ h13q
      have e1 : (1 : Int32) ≤ k := Int32.not_lt.mp h2q
      have e2 := Int32.le_iff_toInt_le.mp e1
      refine Int32.lt_iff_toInt_lt.mpr ?_
      have e3 : (1 : Int32).toInt = 1 := by decide
      have e4 : (0 : Int32).toInt = 0 := by decide
      omega
set_option maxHeartbeats 2000000 in
theorem c_told {w : Int32} : jI vwCl yX6_told (wc yX6_told cX6_told 2 (some .int)) 1 60 [.ref 0, .int w] (cW tp fm kp N f 0 sq sc 0 pl rk pr rl rh s12 s13 s14 s15 s16 s17 ln lt rest) 0 0 (fun r pw => r = (if w = 0 then 0 else if w = 1 then 0 else -1) ∧ pw = (cW tp fm kp N f 0 sq sc 0 pl rk pr rl rh s12 s13 s14 s15 s16 s17 ln lt rest)) := by
  refine jI_of (cc := cX6_told) (nL := 2) .int (by decide) rfl (Nat.le_of_ble_eq_true rfl) (fun _ _ _ => rfl) ?_
  intro X C hX hR
  refine J_iload_n (i := 1) C dX6_told_0 rfl rfl ?_
  refine J_if_ne (tgt := 12) C dX6_told_1 (by decide) (fun h1q => ?_) (fun h1q => ?_)
  · refine J_iload_n (i := 1) C dX6_told_12 rfl rfl ?_
    refine J_iconst (v := 1) C dX6_told_13 (by decide) ?_
    refine J_icmp_ne (tgt := 27) C dX6_told_14 (by decide) (fun h14q => ?_) (fun h14q => ?_)
    · refine J_iconst (v := -1) C dX6_told_27 (by decide) ?_
      refine hR _ _ _ _ _ _ dX6_told_28 ⟨by rw [if_neg h1q, if_neg h14q],rfl⟩ (Nat.le_of_eq hX) (Nat.le_refl _) (Nat.le_refl _)
    · refine J_aload_n (i := 0) C dX6_told_17 rfl rfl ?_
      refine J_get (ci := 9) (k := 2) C dX6_told_18 (inT inX6) rfl (gc flX6_X6_elements) (by decide) rfl rfl ?_
      refine J_get (ci := 3) (k := 4) C dX6_told_21 (inT inX0) rfl (gc flX6_X0_count) (by decide) rfl rfl ?_
      refine J_goto (tgt := 28) C dX6_told_24 (by decide) ?_
      refine hR _ _ _ _ _ _ dX6_told_28 ⟨by rw [if_neg h1q, if_pos h14q],rfl⟩ (Nat.le_of_eq hX) (Nat.le_refl _) (Nat.le_refl _)
  · refine J_aload_n (i := 0) C dX6_told_4 rfl rfl ?_
    refine J_get (ci := 9) (k := 1) C dX6_told_5 (inT inX6) rfl (gc flX6_X6_field) (by decide) rfl rfl ?_
    refine J_get (ci := 4) (k := 1) C dX6_told_8 (inT inX1) rfl (gc flX6_X1_height) (by decide) rfl rfl ?_
    refine hR _ _ _ _ _ _ dX6_told_11 ⟨by rw [if_pos h1q],rfl⟩ (Nat.le_of_eq hX) (Nat.le_refl _) (Nat.le_refl _)
end PUB

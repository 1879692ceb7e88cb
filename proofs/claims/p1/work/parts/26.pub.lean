section PUB2
variable {tp fm kp : Int32} {N : Nat} {f : Nat → Int32} {ht : Int32} {sq sc : Nat → Int32} {ct : Int32} {pl rk : Nat → Int32} {pr : Int32} {rl rh : Nat → Int32} {s12 s13 s14 s15 s16 s17 : jE} {ln : Int32} {lt : Nat → Int32} {rest : jW}
theorem lf_one : lf (nI 1) = 1 := by decide
set_option maxHeartbeats 2000000 in
/-- result(what), THE RESULT 0 -/
theorem c_result {w : Int32} (hN2 : 200 ≤ N) (hN : N < 2 ^ 30) (h0 : f 0 = 0) (h64 : f 64 = nI 2) (h65 : f 65 = nI 1) :
    jI vwCl yX6_result (wc yX6_result cX6_result 2 (some .int)) 2 120 [.ref 0, .int w] (cW tp fm kp N f 0 sq sc 0 pl rk pr rl rh s12 s13 s14 s15 s16 s17 ln lt rest) 0 0 (fun r pw => r = (if w = 0 then 0 else if w = 1 then 1 else if w = 2 then 1 else -2) ∧ pw = (cW tp fm kp N f 0 sq sc 0 pl rk pr rl rh s12 s13 s14 s15 s16 s17 ln lt rest)) := by
  refine jI_of (cc := cX6_result) (nL := 2) .int (by decide) rfl (Nat.le_of_ble_eq_true rfl) (fun _ _ _ => rfl) ?_
  intro X C hX hR
  have g0 : figN f 0 0 = 1 := rfl
  have g64 : figN f 64 2 = 1 := by
    show (if 2 / 2 = 0 then 1 else (2 / 2 - 1) * 9 + lf (f (64 + 2 / 2))) = 1
    rw [if_neg (by decide), show (64 + 2 / 2 : Nat) = 65 from rfl, h65, lf_one]
  refine J_iload_n (i := 1) C dX6_result_0 rfl rfl ?_
  refine J_if_ne (tgt := 13) C dX6_result_1 (by decide) (fun h1q => ?_) (fun h1q => ?_)
  · refine J_iload_n (i := 1) C dX6_result_13 rfl rfl ?_
    refine J_iconst (v := 1) C dX6_result_14 (by decide) ?_
    refine J_icmp_ne (tgt := 27) C dX6_result_15 (by decide) (fun h15q => ?_) (fun h15q => ?_)
    · refine J_iload_n (i := 1) C dX6_result_27 rfl rfl ?_
      refine J_iconst (v := 2) C dX6_result_28 (by decide) ?_
      refine J_icmp_ne (tgt := 44) C dX6_result_29 (by decide) (fun h29q => ?_) (fun h29q => ?_)
      · refine J_bipush (v := -2) C dX6_result_44 (by decide) ?_
        refine hR _ _ _ _ _ _ dX6_result_46 ⟨by rw [if_neg h1q, if_neg h15q, if_neg h29q],rfl⟩ (Nat.le_of_eq hX) (Nat.le_refl _) (Nat.le_refl _)
      · refine J_aload_n (i := 0) C dX6_result_32 rfl rfl ?_
        refine J_get (ci := 9) (k := 0) C dX6_result_33 (inT inX6) rfl (gc flX6_X6_numbers) (by decide) rfl rfl ?_
        refine J_bipush (v := 64) C dX6_result_36 (by decide) ?_
        refine J_callVi C [.int 64] rfl rfl 12 (c_figures (p := 64) (k := 2) (by omega) hN h64 (by decide)) (gV mlX6_X3_figures imX3_figures slX3_figures iniX3 cdX3_figures) rfl dsX3_figures ⟨by decide, by decide⟩ dX6_result_38 rfl (Nat.le_of_ble_eq_true rfl) rfl (Nat.le_of_ble_eq_true rfl) (Nat.le_of_eq hX) (Nat.le_of_ble_eq_true rfl) (Nat.le_of_ble_eq_true rfl) (fun r pw h hl => ?_)
        obtain ⟨rfl, rfl⟩ := h
        refine J_goto (tgt := 46) C dX6_result_41 (by decide) ?_
        refine hR _ _ _ _ _ _ dX6_result_46 ⟨by rw [if_neg h1q, if_neg h15q, if_pos h29q, g64]; rfl,rfl⟩ (Nat.le_of_eq hX) (Nat.le_refl _) (Nat.le_refl _)
    · refine J_aload_n (i := 0) C dX6_result_18 rfl rfl ?_
      refine J_get (ci := 9) (k := 0) C dX6_result_19 (inT inX6) rfl (gc flX6_X6_numbers) (by decide) rfl rfl ?_
      refine J_iconst (v := 0) C dX6_result_22 (by decide) ?_
      refine J_callVi C [.int 0] rfl rfl 12 (c_figures (p := 0) (k := 0) (by omega) hN h0 (by decide)) (gV mlX6_X3_figures imX3_figures slX3_figures iniX3 cdX3_figures) rfl dsX3_figures ⟨by decide, by decide⟩ dX6_result_23 rfl (Nat.le_of_ble_eq_true rfl) rfl (Nat.le_of_ble_eq_true rfl) (Nat.le_of_eq hX) (Nat.le_of_ble_eq_true rfl) (Nat.le_of_ble_eq_true rfl) (fun r pw h hl => ?_)
      obtain ⟨rfl, rfl⟩ := h
      refine hR _ _ _ _ _ _ dX6_result_26 ⟨by rw [if_neg h1q, if_pos h15q, g0]; rfl,rfl⟩ (Nat.le_of_eq hX) (Nat.le_refl _) (Nat.le_refl _)
  · refine J_aload_n (i := 0) C dX6_result_4 rfl rfl ?_
    refine J_get (ci := 9) (k := 0) C dX6_result_5 (inT inX6) rfl (gc flX6_X6_numbers) (by decide) rfl rfl ?_
    refine J_iconst (v := 0) C dX6_result_8 (by decide) ?_
    refine J_callVi C [.int 0] rfl rfl 12 (c_signAt (p := 0) (by omega) hN) (gV mlX6_X3_signAt imX3_signAt slX3_signAt iniX3 cdX3_signAt) rfl dsX3_signAt ⟨by decide, by decide⟩ dX6_result_9 rfl (Nat.le_of_ble_eq_true rfl) rfl (Nat.le_of_ble_eq_true rfl) (Nat.le_of_eq hX) (Nat.le_of_ble_eq_true rfl) (Nat.le_of_ble_eq_true rfl) (fun r pw h hl => ?_)
    obtain ⟨rfl, rfl⟩ := h
    refine hR _ _ _ _ _ _ dX6_result_12 ⟨by rw [if_pos h1q, if_pos h0],rfl⟩ (Nat.le_of_eq hX) (Nat.le_refl _) (Nat.le_refl _)
set_option maxHeartbeats 2000000 in
/-- figureAt(p, 0), of 0 and of 1 -/
theorem c_figureAt0 {p : Nat} (hp : p + 3 < N) (hN : N < 2 ^ 30) (h0 : f p = 0) :
    jI vwCl yX3_figureAt (wc yX3_figureAt cX3_figureAt 5 (some .int)) 2 120 [.ref 1, .int (nI p), .int 0] (cW tp fm kp N f 0 sq sc 0 pl rk pr rl rh s12 s13 s14 s15 s16 s17 ln lt rest) 0 0 (fun r pw => r = 0 ∧ pw = (cW tp fm kp N f 0 sq sc 0 pl rk pr rl rh s12 s13 s14 s15 s16 s17 ln lt rest)) := by
  refine jI_of (cc := cX3_figureAt) (nL := 5) .int (by decide) rfl (Nat.le_of_ble_eq_true rfl) (fun _ _ _ => rfl) ?_
  intro X C hX hR
  refine J_aload_n (i := 0) C dX3_figureAt_0 rfl rfl ?_
  refine J_iload_n (i := 1) C dX3_figureAt_1 rfl rfl ?_
  refine J_callVi C [.int (nI p)] rfl rfl 12 (c_figures (k := 0) (by omega) hN h0 (by decide)) (gV mlX3_X3_figures imX3_figures slX3_figures iniX3 cdX3_figures) rfl dsX3_figures ⟨by decide, by decide⟩ dX3_figureAt_2 rfl (Nat.le_of_ble_eq_true rfl) rfl (Nat.le_of_ble_eq_true rfl) (Nat.le_of_eq hX) (Nat.le_of_ble_eq_true rfl) (Nat.le_of_ble_eq_true rfl) (fun r pw h hl => ?_)
  obtain ⟨rfl, rfl⟩ := h
  refine J_iconst (v := 1) C dX3_figureAt_5 (by decide) ?_
  refine J_isub C dX3_figureAt_6 ?_
  refine J_iload_n (i := 2) C dX3_figureAt_7 rfl rfl ?_
  refine J_isub C dX3_figureAt_8 ?_
  refine J_istore_n (i := 3) C dX3_figureAt_9 rfl (by decide) ?_
  refine J_aload_n (i := 0) C dX3_figureAt_10 rfl rfl ?_
  refine J_get (ci := 6) (k := 0) C dX3_figureAt_11 (inT inX3) rfl (gc flX3_X3_cell) (by decide) rfl rfl ?_
  refine J_iload_n (i := 1) C dX3_figureAt_14 rfl rfl ?_
  refine J_iald C dX3_figureAt_15 rfl (vp_in_nI (show p < N by omega) (by omega)) ?_
  refine J_if_eq (tgt := 23) C dX3_figureAt_16 (by decide) (fun h16q => ?_) (fun h16q => ?_)
  · refine J_iconst (v := 0) C dX3_figureAt_23 (by decide) ?_
    refine hR _ _ _ _ _ _ dX3_figureAt_24 ⟨rfl,rfl⟩ (Nat.le_of_eq hX) (Nat.le_refl _) (Nat.le_refl _)
  · rw [nI_clamp (by omega)] at h16q
    exact absurd h0 h16q
set_option maxHeartbeats 2000000 in
theorem c_figureAt1 {p : Nat} (hp : p + 3 < N) (hN : N < 2 ^ 30) (h0 : f p = nI 2) (h1 : f (p + 1) = nI 1) :
    jI vwCl yX3_figureAt (wc yX3_figureAt cX3_figureAt 5 (some .int)) 2 120 [.ref 1, .int (nI p), .int 0] (cW tp fm kp N f 0 sq sc 0 pl rk pr rl rh s12 s13 s14 s15 s16 s17 ln lt rest) 0 0 (fun r pw => r = 1 ∧ pw = (cW tp fm kp N f 0 sq sc 0 pl rk pr rl rh s12 s13 s14 s15 s16 s17 ln lt rest)) := by
  refine jI_of (cc := cX3_figureAt) (nL := 5) .int (by decide) rfl (Nat.le_of_ble_eq_true rfl) (fun _ _ _ => rfl) ?_
  intro X C hX hR
  have g : figN f p 2 = 1 := by
    show (if 2 / 2 = 0 then 1 else (2 / 2 - 1) * 9 + lf (f (p + 2 / 2))) = 1
    rw [if_neg (by decide), show (p + 2 / 2 : Nat) = p + 1 from rfl, h1, lf_one]
  refine J_aload_n (i := 0) C dX3_figureAt_0 rfl rfl ?_
  refine J_iload_n (i := 1) C dX3_figureAt_1 rfl rfl ?_
  refine J_callVi C [.int (nI p)] rfl rfl 12 (c_figures (k := 2) (by omega) hN h0 (by decide)) (gV mlX3_X3_figures imX3_figures slX3_figures iniX3 cdX3_figures) rfl dsX3_figures ⟨by decide, by decide⟩ dX3_figureAt_2 rfl (Nat.le_of_ble_eq_true rfl) rfl (Nat.le_of_ble_eq_true rfl) (Nat.le_of_eq hX) (Nat.le_of_ble_eq_true rfl) (Nat.le_of_ble_eq_true rfl) (fun r pw h hl => ?_)
  obtain ⟨rfl, rfl⟩ := h
  refine J_eqi (y := 1) (by rw [g]; rfl) ?_
  refine J_iconst (v := 1) C dX3_figureAt_5 (by decide) ?_
  refine J_isub C dX3_figureAt_6 ?_
  refine J_iload_n (i := 2) C dX3_figureAt_7 rfl rfl ?_
  refine J_isub C dX3_figureAt_8 ?_
  refine J_istore_n (i := 3) C dX3_figureAt_9 rfl (by decide) ?_
  refine J_aload_n (i := 0) C dX3_figureAt_10 rfl rfl ?_
  refine J_get (ci := 6) (k := 0) C dX3_figureAt_11 (inT inX3) rfl (gc flX3_X3_cell) (by decide) rfl rfl ?_
  refine J_iload_n (i := 1) C dX3_figureAt_14 rfl rfl ?_
  refine J_iald C dX3_figureAt_15 rfl (vp_in_nI (show p < N by omega) (by omega)) ?_
  refine J_if_eq (tgt := 23) C dX3_figureAt_16 (by decide) (fun h16q => ?_) (fun h16q => ?_)
  · rw [nI_clamp (by omega), h0] at h16q
    exact absurd h16q (by decide)
  · refine J_iload_n (i := 3) C dX3_figureAt_19 rfl rfl ?_
    refine J_if_ge (tgt := 25) C dX3_figureAt_20 (by decide) (fun h20q => ?_) (fun h20q => ?_)
    · refine J_aload_n (i := 0) C dX3_figureAt_25 rfl rfl ?_
      refine J_get (ci := 6) (k := 0) C dX3_figureAt_26 (inT inX3) rfl (gc flX3_X3_cell) (by decide) rfl rfl ?_
      refine J_iload_n (i := 1) C dX3_figureAt_29 rfl rfl ?_
      refine J_iconst (v := 1) C dX3_figureAt_30 (by decide) ?_
      refine J_iadd C dX3_figureAt_31 ?_
      refine J_eqi (nI_1 p) ?_
      refine J_iload_n (i := 3) C dX3_figureAt_32 rfl rfl ?_
      refine J_bipush (v := 9) C dX3_figureAt_33 (by decide) ?_
      refine J_idiv C dX3_figureAt_35 (by decide) ?_
      refine J_iadd C dX3_figureAt_36 ?_
      refine J_eqi (y := nI (p + 1)) (show nI (p + 1) + nI 0 = _ from nI_add _ _) ?_
      refine J_iald C dX3_figureAt_37 rfl (vp_in_nI (show p + 1 < N by omega) (by omega)) ?_
      refine J_eqi (y := nI 1) (by rw [nI_clamp (by omega), h1]) ?_
      refine J_istore C dX3_figureAt_38 (by decide) ?_
      refine J_iload C dX3_figureAt_40 rfl ?_
      refine J_tens C dX3_figureAt_42 (gc flX3_TENS) ?_
      refine J_iload_n (i := 3) C dX3_figureAt_45 rfl rfl ?_
      refine J_bipush (v := 9) C dX3_figureAt_46 (by decide) ?_
      refine J_irem C dX3_figureAt_48 (by decide) ?_
      refine J_tald C dX3_figureAt_49 (k := 0) (by decide) (by decide) ?_
      refine J_idiv C dX3_figureAt_50 (ten_ne (k := 0) (by decide)) ?_
      refine J_bipush (v := 10) C dX3_figureAt_51 (by decide) ?_
      refine J_irem C dX3_figureAt_53 (by decide) ?_
      refine hR _ _ _ _ _ _ dX3_figureAt_54 ⟨by decide,rfl⟩ (Nat.le_of_eq hX) (Nat.le_refl _) (Nat.le_refl _)
    · exact absurd (by decide) h20q
set_option maxHeartbeats 2000000 in
/-- figure(side, i), THE RESULT 0 -/
theorem c_figure {w i : Int32} (hN2 : 200 ≤ N) (hN : N < 2 ^ 30) (h0 : f 0 = 0) (h64 : f 64 = nI 2) (h65 : f 65 = nI 1) :
    jI vwCl yX6_figure (wc yX6_figure cX6_figure 4 (some .int)) 3 180 [.ref 0, .int w, .int i] (cW tp fm kp N f 0 sq sc 0 pl rk pr rl rh s12 s13 s14 s15 s16 s17 ln lt rest) 0 0 (fun r pw => r = (if i = 0 then (if w = 0 then 0 else if w = 1 then 1 else -1) else -1) ∧ pw = (cW tp fm kp N f 0 sq sc 0 pl rk pr rl rh s12 s13 s14 s15 s16 s17 ln lt rest)) := by
  refine jI_of (cc := cX6_figure) (nL := 4) .int (by decide) rfl (Nat.le_of_ble_eq_true rfl) (fun _ _ _ => rfl) ?_
  intro X C hX hR
  have g0 : figN f 0 0 = 1 := rfl
  have g64 : figN f 64 2 = 1 := by
    show (if 2 / 2 = 0 then 1 else (2 / 2 - 1) * 9 + lf (f (64 + 2 / 2))) = 1
    rw [if_neg (by decide), show (64 + 2 / 2 : Nat) = 65 from rfl, h65, lf_one]
  -- a side that isn't there
  have hN1 : ∀ lv : Nat → Option Value, ¬ w = 0 → ¬ w = 1 → J X 9 lv [] (cW tp fm kp N f 0 sq sc 0 pl rk pr rl rh s12 s13 s14 s15 s16 s17 ln lt rest) 0 0 := by
    intro lv a1 a2
    refine J_iconst (v := -1) C dX6_figure_9 (by decide) ?_
    refine hR _ _ _ _ _ _ dX6_figure_10 ⟨?_,rfl⟩ (Nat.le_of_eq hX) (Nat.le_refl _) (Nat.le_refl _)
    rw [if_neg a1, if_neg a2]
    by_cases e : i = 0
    · rw [if_pos e]
    · rw [if_neg e]
  -- the number at p, which has one figure
  have hP : ∀ (p : Nat) (z : Int32) (lv : Nat → Option Value), p + 3 < N → lv 0 = some (.ref 0) → lv 2 = some (.int i) → (w = 0 → z = 0) → (¬ w = 0 → w = 1 ∧ z = 1) → jI vwCl yX3_figures (wc yX3_figures cX3_figures 3 (some .int)) 1 60 [.ref 1, .int (nI p)] (cW tp fm kp N f 0 sq sc 0 pl rk pr rl rh s12 s13 s14 s15 s16 s17 ln lt rest) 0 0 (fun r pw => r = nI 1 ∧ pw = (cW tp fm kp N f 0 sq sc 0 pl rk pr rl rh s12 s13 s14 s15 s16 s17 ln lt rest)) → jI vwCl yX3_figureAt (wc yX3_figureAt cX3_figureAt 5 (some .int)) 2 120 [.ref 1, .int (nI p), .int 0] (cW tp fm kp N f 0 sq sc 0 pl rk pr rl rh s12 s13 s14 s15 s16 s17 ln lt rest) 0 0 (fun r pw => r = z ∧ pw = (cW tp fm kp N f 0 sq sc 0 pl rk pr rl rh s12 s13 s14 s15 s16 s17 ln lt rest)) → J X 21 lv [.int (nI p)] (cW tp fm kp N f 0 sq sc 0 pl rk pr rl rh s12 s13 s14 s15 s16 s17 ln lt rest) 0 0 := by
    intro p z lv hp h0' h2' z0 z1 cF cA
    have hv : ∀ x : Int32, i = 0 → x = z → x = (if i = 0 then (if w = 0 then 0 else if w = 1 then 1 else -1) else -1) := by
      intro x e ex
      rw [if_pos e, ex]
      by_cases q : w = 0
      · rw [if_pos q]; exact z0 q
      · rw [if_neg q, if_pos (z1 q).1]; exact (z1 q).2
    refine J_istore_n (i := 3) C dX6_figure_21 rfl (by decide) ?_
    have g0 := js1_ref (i := 3) (v := .int (nI p)) h0' (by decide)
    have g2 := js1_int (i := 3) (v := .int (nI p)) h2' (by decide)
    have g3 : js1 lv 3 (.int (nI p)) 3 = some (.int (nI p)) := js1_at
    generalize js1 lv 3 (.int (nI p)) = lw at g0 g2 g3
    refine J_iload_n (i := 2) C dX6_figure_22 rfl g2 ?_
    refine J_if_lt (tgt := 38) C dX6_figure_23 (by decide) (fun h23q => ?_) (fun h23q => ?_)
    · refine J_iconst (v := -1) C dX6_figure_38 (by decide) ?_
      refine J_goto (tgt := 51) C dX6_figure_39 (by decide) ?_
      refine hR _ _ _ _ _ _ dX6_figure_51 ⟨?_,rfl⟩ (Nat.le_of_eq hX) (Nat.le_refl _) (Nat.le_refl _)
      rw [if_neg (fun e => absurd h23q (by rw [e]; decide))]
    · refine J_iload_n (i := 2) C dX6_figure_26 rfl g2 ?_
      refine J_aload_n (i := 0) C dX6_figure_27 rfl g0 ?_
      refine J_get (ci := 9) (k := 0) C dX6_figure_28 (inT inX6) rfl (gc flX6_X6_numbers) (by decide) rfl rfl ?_
      refine J_iload_n (i := 3) C dX6_figure_31 rfl g3 ?_
      refine J_callVi C [.int (nI p)] rfl rfl 12 cF (gV mlX6_X3_figures imX3_figures slX3_figures iniX3 cdX3_figures) rfl dsX3_figures ⟨by decide, by decide⟩ dX6_figure_32 rfl (Nat.le_of_ble_eq_true rfl) rfl (Nat.le_of_ble_eq_true rfl) (Nat.le_of_eq hX) (Nat.le_of_ble_eq_true rfl) (Nat.le_of_ble_eq_true rfl) (fun r pw h hl => ?_)
      obtain ⟨rfl, rfl⟩ := h
      have k0 : jdrop 12 lw 0 = some (.ref 0) := jdrop_of g0 rfl
      have k2 : jdrop 12 lw 2 = some (.int i) := jdrop_of g2 rfl
      have k3 : jdrop 12 lw 3 = some (.int (nI p)) := jdrop_of g3 rfl
      generalize jdrop 12 lw = lx at k0 k2 k3
      refine J_icmp_lt (tgt := 42) C dX6_figure_35 (by decide) (fun h35q => ?_) (fun h35q => ?_)
      · have e : i = 0 := by
          have b1 := Int32.le_iff_toInt_le.mp (Int32.not_lt.mp h23q)
          have b2 := Int32.lt_iff_toInt_lt.mp h35q
          have e3 : (nI 1).toInt = 1 := by decide
          have e4 : (0 : Int32).toInt = 0 := by decide
          exact Int32.toInt_inj.mp (by omega)
        refine J_aload_n (i := 0) C dX6_figure_42 rfl k0 ?_
        refine J_get (ci := 9) (k := 0) C dX6_figure_43 (inT inX6) rfl (gc flX6_X6_numbers) (by decide) rfl rfl ?_
        refine J_iload_n (i := 3) C dX6_figure_46 rfl k3 ?_
        refine J_iload_n (i := 2) C dX6_figure_47 rfl k2 ?_
        refine J_eqi e ?_
        refine J_callVi C [.int (nI p), .int 0] rfl rfl 12 cA (gV mlX6_X3_figureAt imX3_figureAt slX3_figureAt iniX3 cdX3_figureAt) rfl dsX3_figureAt ⟨by decide, by decide⟩ dX6_figure_48 rfl (Nat.le_of_ble_eq_true rfl) rfl (Nat.le_of_ble_eq_true rfl) (Nat.le_of_eq hX) (Nat.le_of_ble_eq_true rfl) (Nat.le_of_ble_eq_true rfl) (fun r pw h hl => ?_)
        obtain ⟨rfl, rfl⟩ := h
        refine hR _ _ _ _ _ _ dX6_figure_51 ⟨hv _ e rfl,rfl⟩ (Nat.le_of_eq hX) (Nat.le_refl _) (Nat.le_refl _)
      · refine J_iconst (v := -1) C dX6_figure_38 (by decide) ?_
        refine J_goto (tgt := 51) C dX6_figure_39 (by decide) ?_
        refine hR _ _ _ _ _ _ dX6_figure_51 ⟨?_,rfl⟩ (Nat.le_of_eq hX) (Nat.le_refl _) (Nat.le_refl _)
        rw [if_neg (fun e => absurd (by rw [e]; decide) h35q)]
  refine J_iload_n (i := 1) C dX6_figure_0 rfl rfl ?_
  refine J_if_lt (tgt := 9) C dX6_figure_1 (by decide) (fun h1q => ?_) (fun h1q => ?_)
  · refine hN1 _ (fun e => absurd h1q (by rw [e]; decide)) (fun e => absurd h1q (by rw [e]; decide))
  · refine J_iload_n (i := 1) C dX6_figure_4 rfl rfl ?_
    refine J_iconst (v := 1) C dX6_figure_5 (by decide) ?_
    refine J_icmp_le (tgt := 11) C dX6_figure_6 (by decide) (fun h6q => ?_) (fun h6q => ?_)
    · refine J_iload_n (i := 1) C dX6_figure_11 rfl rfl ?_
      refine J_if_ne (tgt := 19) C dX6_figure_12 (by decide) (fun h12q => ?_) (fun h12q => ?_)
      · have hw : w = 1 := by
          have b1 := Int32.le_iff_toInt_le.mp (Int32.not_lt.mp h1q)
          have b2 := Int32.le_iff_toInt_le.mp h6q
          have e3 : (1 : Int32).toInt = 1 := by decide
          have e4 : (0 : Int32).toInt = 0 := by decide
          have b3 : ¬ w.toInt = 0 := fun q => h12q (Int32.toInt_inj.mp (by omega))
          exact Int32.toInt_inj.mp (by omega)
        refine J_bipush (v := 64) C dX6_figure_19 (by decide) ?_
        refine hP 64 1 _ (by omega) rfl rfl (fun e => absurd e h12q) (fun _ => ⟨hw, rfl⟩) ?_ (c_figureAt1 (p := 64) (by omega) hN h64 h65)
        have cF := c_figures (x0 := kRT (.ref 1) (.ref 3) (.ref 6) (.ref 15) (.ref 18)) (tp := tp) (fm := fm) (kp := kp) (f := f) (p := 64) (k := 2) (show 64 + 2 / 2 < N by omega) hN h64 (by decide) (rest := (cW tp fm kp N f 0 sq sc 0 pl rk pr rl rh s12 s13 s14 s15 s16 s17 ln lt rest).drop 3)
        rw [g64] at cF
        exact cF
      · refine J_iconst (v := 0) C dX6_figure_15 (by decide) ?_
        refine J_goto (tgt := 21) C dX6_figure_16 (by decide) ?_
        refine hP 0 0 _ (by omega) rfl rfl (fun _ => rfl) (fun e => absurd h12q e) ?_ (c_figureAt0 (p := 0) (by omega) hN h0)
        have cF := c_figures (x0 := kRT (.ref 1) (.ref 3) (.ref 6) (.ref 15) (.ref 18)) (tp := tp) (fm := fm) (kp := kp) (f := f) (p := 0) (k := 0) (show 0 + 0 / 2 < N by omega) hN h0 (by decide) (rest := (cW tp fm kp N f 0 sq sc 0 pl rk pr rl rh s12 s13 s14 s15 s16 s17 ln lt rest).drop 3)
        exact cF
    · refine hN1 _ (fun e => absurd (by rw [e]; decide) h6q) (fun e => absurd (by rw [e]; decide) h6q)
end PUB2
set_option maxHeartbeats 2000000 in
/-- clear(), on a fresh object -/
theorem c_clear {tp fm kp : Int32} {f : Nat → Int32} {ht : Int32} {sq sc : Nat → Int32} {pl rk : Nat → Int32} {pr : Int32} {rl rh : Nat → Int32} {s12 s13 s14 s15 s16 s17 : jE} {ln : Int32} {lt : Nat → Int32} {rest : jW} :
    jI vwCl yX6_clear (wc yX6_clear cX6_clear 2 (some .int)) 6 360 [.ref 0] (cW tp fm kp 8192 f ht sq sc 0 pl rk pr rl rh s12 s13 s14 s15 s16 s17 ln lt rest) 0 0 (fun r pw => r = 0 ∧ ∃ (tp' : Int32) (f' sc' rl' rh' : Nat → Int32), pw = cW tp' tp' tp' 8192 f' 0 sq sc' 0 pl rk 4 rl' rh' s12 s13 s14 s15 s16 s17 0 lt rest) := by
  refine jI_of (cc := cX6_clear) (nL := 2) .int (by decide) rfl (Nat.le_of_ble_eq_true rfl) (fun _ _ _ => rfl) ?_
  intro X C hX hR
  refine J_aload_n (i := 0) C dX6_clear_0 rfl rfl ?_
  refine J_get (ci := 9) (k := 2) C dX6_clear_1 (inT inX6) rfl (gc flX6_X6_elements) (by decide) rfl rfl ?_
  refine J_get (ci := 3) (k := 4) C dX6_clear_4 (inT inX0) rfl (gc flX6_X0_count) (by decide) rfl rfl ?_
  refine J_istore_n (i := 1) C dX6_clear_7 rfl (by decide) ?_
  refine J_aload_n (i := 0) C dX6_clear_8 rfl rfl ?_
  refine J_callVn C [] rfl rfl 12 c_beginAnew (gV mlX6_X6_beginAnew imX6_beginAnew slX6_beginAnew iniX6 cdX6_beginAnew) rfl dsX6_beginAnew ⟨by decide, by decide⟩ dX6_clear_9 rfl (Nat.le_of_ble_eq_true rfl) rfl (Nat.le_of_ble_eq_true rfl) (Nat.le_of_eq hX) (Nat.le_of_ble_eq_true rfl) (Nat.le_of_ble_eq_true rfl) (fun pw h hl => ?_)
  subst h
  refine J_iload_n (i := 1) C dX6_clear_12 rfl rfl ?_
  refine hR _ _ _ _ _ _ dX6_clear_13 ⟨rfl,_,_,_,_,_,rfl⟩ (Nat.le_of_eq hX) (Nat.le_refl _) (Nat.le_refl _)

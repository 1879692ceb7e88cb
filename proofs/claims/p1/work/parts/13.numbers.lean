set_option maxHeartbeats 1000000 in
/-- Arrays.rangeCheck, where all is well -/
theorem c_rangeCheck {pw : jW} {a b n : Nat} (h1 : a ≤ b) (h2 : b ≤ n) (hn : n < 2 ^ 31) :
    jN vwCl yJ7_rangeCheck_23922 (wc yJ7_rangeCheck_23922 cJ7_rangeCheck_23922 3 none) 0 0 [.int (nI n), .int (nI a), .int (nI b)] pw 0 0 (fun pw' => pw' = pw) := by
  refine jN_of (cc := cJ7_rangeCheck_23922) (nL := 3) (by decide) rfl (Nat.le_of_ble_eq_true rfl) ?_
  intro X C hX hR
  refine J_iload_n (i := 1) C dJ7_rangeCheck_23922_0 rfl rfl ?_
  refine J_iload_n (i := 2) C dJ7_rangeCheck_23922_1 rfl rfl ?_
  refine J_icmp_le (tgt := 46) C dJ7_rangeCheck_23922_2 (by decide) (fun h2q => ?_) (fun h2q => ?_)
  · refine J_iload_n (i := 1) C dJ7_rangeCheck_23922_46 rfl rfl ?_
    refine J_if_ge (tgt := 59) C dJ7_rangeCheck_23922_47 (by decide) (fun h47q => ?_) (fun h47q => ?_)
    · refine J_iload_n (i := 2) C dJ7_rangeCheck_23922_59 rfl rfl ?_
      refine J_iload_n (i := 0) C dJ7_rangeCheck_23922_60 rfl rfl ?_
      refine J_icmp_le (tgt := 73) C dJ7_rangeCheck_23922_61 (by decide) (fun h61q => ?_) (fun h61q => ?_)
      · refine hR _ _ _ _ _ dJ7_rangeCheck_23922_73 rfl (Nat.le_of_eq hX) (Nat.le_refl _) (Nat.le_refl _)
      · exact absurd (nI_le h2 hn) h61q
    · exact absurd (nI_pos' (by omega)) h47q
  · exact absurd (nI_le h1 (by omega)) h2q
/-- a stretch of a row, filled -/
def fillN (f : Nat → Int32) (a b : Nat) (v : Int32) : Nat → Int32 := fun j => if a ≤ j ∧ j < b then v else f j
set_option maxHeartbeats 1000000 in
/-- Arrays.fill(row, a, b, v) -/
theorem c_fill {x0 x1 : jE} {rest : jW} {N : Nat} {f : Nat → Int32} {a b : Nat} {v : Int32} (h1 : a ≤ b) (h2 : b ≤ N) (hN : N < 2 ^ 30) :
    jN vwCl yJ7_fill_fda19 (wc yJ7_fill_fda19 cJ7_fill_fda19 5 none) 1 60 [.ref 2, .int (nI a), .int (nI b), .int v] (x0 :: x1 :: .inl (.int, N, .inl f) :: rest) 0 0 (fun pw' => pw' = x0 :: x1 :: .inl (.int, N, .inl (fillN f a b v)) :: rest) := by
  refine jN_of (cc := cJ7_fill_fda19) (nL := 5) (by decide) rfl (Nat.le_of_ble_eq_true rfl) ?_
  intro X C hX hR
  have hL : ∀ (d i : Nat) (g : Nat → Int32) (lv : Nat → Option Value), i + d = b → a ≤ i → g = fillN f a i v → lv 0 = some (.ref 2) → lv 2 = some (.int (nI b)) → lv 3 = some (.int v) → lv 4 = some (.int (nI i)) → J X 10 lv [] (x0 :: x1 :: .inl (.int, N, .inl g) :: rest) 0 0 := by
    intro d
    induction d with
    | zero =>
      intro i g lv hd ha hg h0 h2 h3 h4
      refine J_iload C dJ7_fill_fda19_10 h4 ?_
      refine J_iload_n (i := 2) C dJ7_fill_fda19_12 rfl h2 ?_
      refine J_icmp_ge (tgt := 27) C dJ7_fill_fda19_13 (by decide) (fun h13q => ?_) (fun h13q => ?_)
      · refine hR _ _ _ _ _ dJ7_fill_fda19_27 ?_ (Nat.le_of_eq hX) (Nat.le_refl _) (Nat.le_refl _)
        rw [hg, show i = b by omega]
      · exact absurd (nI_le (by omega) (by omega)) h13q
    | succ d ih =>
      intro i g lv hd ha hg h0 h2 h3 h4
      refine J_iload C dJ7_fill_fda19_10 h4 ?_
      refine J_iload_n (i := 2) C dJ7_fill_fda19_12 rfl h2 ?_
      refine J_icmp_ge (tgt := 27) C dJ7_fill_fda19_13 (by decide) (fun h13q => ?_) (fun h13q => ?_)
      · exact absurd h13q (nI_ge (by omega) (by omega))
      · refine J_aload_n (i := 0) C dJ7_fill_fda19_16 rfl h0 ?_
        refine J_iload C dJ7_fill_fda19_17 h4 ?_
        refine J_iload_n (i := 3) C dJ7_fill_fda19_19 rfl h3 ?_
        refine J_iast C dJ7_fill_fda19_20 rfl (vp_in_nI (by omega) (by omega)) ?_
        refine J_iinc C dJ7_fill_fda19_21 h4 (nI_1 _) ?_
        refine J_goto (tgt := 10) C dJ7_fill_fda19_24 (by decide) ?_
        refine ih (i + 1) _ _ (by omega) (by omega) ?_ (js1_ref h0 (by decide)) (js1_int h2 (by decide)) (js1_int h3 (by decide)) js1_at
        rw [nI_clamp (by omega), hg]
        funext j
        simp only [upd, fillN]
        by_cases e : j = i
        · rw [if_pos e, if_pos (by omega)]
        · rw [if_neg e]
          by_cases q : a ≤ j ∧ j < i
          · rw [if_pos q, if_pos (by omega)]
          · rw [if_neg q, if_neg (by omega)]
  refine J_aload_n (i := 0) C dJ7_fill_fda19_0 rfl rfl ?_
  refine J_alen C dJ7_fill_fda19_1 rfl rfl ?_
  refine J_iload_n (i := 1) C dJ7_fill_fda19_2 rfl rfl ?_
  refine J_iload_n (i := 2) C dJ7_fill_fda19_3 rfl rfl ?_
  refine J_callSn C [.int (nI N), .int (nI a), .int (nI b)] 3 (c_rangeCheck h1 h2 (by omega)) (gSt mlJ7_J7_rangeCheck_23922 stJ7_rangeCheck_23922 iniJ7 cdJ7_rangeCheck_23922) rfl dsJ7_rangeCheck_23922 ⟨by decide, by decide⟩ dJ7_fill_fda19_4 rfl (Nat.le_of_ble_eq_true rfl) rfl (Nat.le_of_ble_eq_true rfl) (Nat.le_of_eq hX) (Nat.le_of_ble_eq_true rfl) (Nat.le_of_ble_eq_true rfl) (fun pw h hl => ?_)
  subst h
  refine J_iload_n (i := 1) C dJ7_fill_fda19_7 rfl rfl ?_
  refine J_istore C dJ7_fill_fda19_8 (by decide) ?_
  exact hL (b - a) a f _ (by omega) (Nat.le_refl a) (by funext j; simp only [fillN]; rw [if_neg (by omega)]) rfl rfl rfl rfl
set_option maxHeartbeats 1000000 in
/-- noughts(k) -/
theorem c_noughts {x0 : jE} {rest : jW} {fm kp : Int32} {N : Nat} {f : Nat → Int32} {t k : Nat} (hr : t + k ≤ N) (hN : N < 2 ^ 30) :
    jN vwCl yX3_noughts (wc yX3_noughts cX3_noughts 2 none) 2 120 [.ref 1, .int (nI k)] (nW x0 (nI t) fm kp N f rest) 0 0 (fun pw => pw = nW x0 (nI (t + k)) fm kp N (fillN f t (t + k) 0) rest) := by
  refine jN_of (cc := cX3_noughts) (nL := 2) (by decide) rfl (Nat.le_of_ble_eq_true rfl) ?_
  intro X C hX hR
  refine J_aload_n (i := 0) C dX3_noughts_0 rfl rfl ?_
  refine J_iload_n (i := 1) C dX3_noughts_1 rfl rfl ?_
  refine J_callVn C [.int (nI k)] rfl rfl 3 (c_room hr hN) (gV mlX3_X3_room imX3_room slX3_room iniX3 cdX3_room) rfl dsX3_room ⟨by decide, by decide⟩ dX3_noughts_2 rfl (Nat.le_of_ble_eq_true rfl) rfl (Nat.le_of_ble_eq_true rfl) (Nat.le_of_eq hX) (Nat.le_of_ble_eq_true rfl) (Nat.le_of_ble_eq_true rfl) (fun pw h hl => ?_)
  subst h
  refine J_aload_n (i := 0) C dX3_noughts_5 rfl rfl ?_
  refine J_get (ci := 6) (k := 0) C dX3_noughts_6 (inT inX3) rfl (gc flX3_X3_cell) (by decide) rfl rfl ?_
  refine J_aload_n (i := 0) C dX3_noughts_9 rfl rfl ?_
  refine J_get (ci := 6) (k := 1) C dX3_noughts_10 (inT inX3) rfl (gc flX3_X3_top) (by decide) rfl rfl ?_
  refine J_aload_n (i := 0) C dX3_noughts_13 rfl rfl ?_
  refine J_get (ci := 6) (k := 1) C dX3_noughts_14 (inT inX3) rfl (gc flX3_X3_top) (by decide) rfl rfl ?_
  refine J_iload_n (i := 1) C dX3_noughts_17 rfl rfl ?_
  refine J_iadd C dX3_noughts_18 ?_
  refine J_eqi (nI_add _ _) ?_
  refine J_iconst (v := 0) C dX3_noughts_19 (by decide) ?_
  refine J_callTn C [.ref 2, .int (nI t), .int (nI (t + k)), .int 0] 3 (c_fill (by omega) hr hN) (gI cdJ7_fill_fda19) (gc iniJ7) (gc mlX3_J7_fill_fda19) (gc stJ7_fill_fda19) rfl dsJ7_fill_fda19.2 ⟨by decide, by decide⟩ dX3_noughts_20 rfl (Nat.le_of_ble_eq_true rfl) rfl (Nat.le_of_ble_eq_true rfl) (Nat.le_of_eq hX) (Nat.le_of_ble_eq_true rfl) (Nat.le_of_ble_eq_true rfl) (fun pw h hl => ?_)
  subst h
  refine J_aload_n (i := 0) C dX3_noughts_23 rfl rfl ?_
  refine J_dup C dX3_noughts_24 rfl ?_
  refine J_get (ci := 6) (k := 1) C dX3_noughts_25 (inT inX3) rfl (gc flX3_X3_top) (by decide) rfl rfl ?_
  refine J_iload_n (i := 1) C dX3_noughts_28 rfl rfl ?_
  refine J_iadd C dX3_noughts_29 ?_
  refine J_eqi (nI_add _ _) ?_
  refine J_put (ci := 6) C 1 tyX3 tyX3_ok nmX3 dX3_noughts_30 (inT inX3) rfl (gc flX3_X3_top) (by decide) rfl (tyX3_ok 1 (by decide)) (fun _ => rfl) (fun _ => rfl) rfl (Nat.le_of_ble_eq_true rfl) ?_
  refine hR _ _ _ _ _ dX3_noughts_33 rfl (Nat.le_of_eq hX) (Nat.le_refl _) (Nat.le_refl _)
/-- how many figures a limb has: 1 to 9 -/
def lfF (x : Int32) : Nat → Nat → Nat
  | 0, i => i
  | d + 1, i => if x < nI (10 ^ i) then i else lfF x d (i + 1)
def lf (x : Int32) : Nat := lfF x 8 1
theorem lfF_in (x : Int32) : ∀ d i, i ≤ lfF x d i ∧ lfF x d i ≤ i + d
  | 0, i => ⟨Nat.le_refl i, Nat.le_refl i⟩
  | d + 1, i => by
    unfold lfF
    by_cases h : x < nI (10 ^ i)
    · rw [if_pos h]; omega
    · rw [if_neg h]
      have := lfF_in x d (i + 1)
      omega
theorem lf_in (x : Int32) : 1 ≤ lf x ∧ lf x ≤ 9 := lfF_in x 8 1
set_option maxHeartbeats 1000000 in
/-- limbFigures(x) -/
theorem c_limbFigures {pw : jW} {x : Int32} :
    jI vwCl yX3_limbFigures (wc yX3_limbFigures cX3_limbFigures 2 (some .int)) 0 0 [.int x] pw 0 0 (fun r pw' => r = nI (lf x) ∧ pw' = pw) := by
  refine jI_of (cc := cX3_limbFigures) (nL := 2) .int (by decide) rfl (Nat.le_of_ble_eq_true rfl) (fun _ _ _ => rfl) ?_
  intro X C hX hR
  have hL : ∀ (d i : Nat) (lv : Nat → Option Value), i + d = 9 → 1 ≤ i → lfF x d i = lf x → lv 0 = some (.int x) → lv 1 = some (.int (nI i)) → J X 2 lv [] pw 0 0 := by
    intro d
    induction d with
    | zero =>
      intro i lv hd hi hf h0 h1
      refine J_iload_n (i := 1) C dX3_limbFigures_2 rfl h1 ?_
      refine J_bipush (v := 9) C dX3_limbFigures_3 (by decide) ?_
      refine J_icmp_ge (tgt := 23) C dX3_limbFigures_5 (by decide) (fun h5q => ?_) (fun h5q => ?_)
      · refine J_iload_n (i := 1) C dX3_limbFigures_23 rfl h1 ?_
        refine hR _ _ _ _ _ _ dX3_limbFigures_24 ⟨?_,rfl⟩ (Nat.le_of_eq hX) (Nat.le_refl _) (Nat.le_refl _)
        rw [← hf]
        rfl
      · exact absurd (show nI 9 ≤ nI i from nI_le (by omega) (by omega)) h5q
    | succ d ih =>
      intro i lv hd hi hf h0 h1
      have e : lfF x (d + 1) i = if x < nI (10 ^ i) then i else lfF x d (i + 1) := rfl
      refine J_iload_n (i := 1) C dX3_limbFigures_2 rfl h1 ?_
      refine J_bipush (v := 9) C dX3_limbFigures_3 (by decide) ?_
      refine J_icmp_ge (tgt := 23) C dX3_limbFigures_5 (by decide) (fun h5q => ?_) (fun h5q => ?_)
      · exact absurd (show nI 9 ≤ nI i from h5q) (nI_ge (by omega) (by omega))
      · refine J_iload_n (i := 0) C dX3_limbFigures_8 rfl h0 ?_
        refine J_tens C dX3_limbFigures_9 (gc flX3_TENS) ?_
        refine J_iload_n (i := 1) C dX3_limbFigures_12 rfl h1 ?_
        refine J_tald C dX3_limbFigures_13 rfl (show i < 10 by omega) ?_
        refine J_icmp_lt (tgt := 23) C dX3_limbFigures_14 (by decide) (fun h14q => ?_) (fun h14q => ?_)
        · refine J_iload_n (i := 1) C dX3_limbFigures_23 rfl h1 ?_
          refine hR _ _ _ _ _ _ dX3_limbFigures_24 ⟨?_,rfl⟩ (Nat.le_of_eq hX) (Nat.le_refl _) (Nat.le_refl _)
          rw [← hf, e, if_pos h14q]
        · refine J_iinc C dX3_limbFigures_17 h1 (nI_1 _) ?_
          refine J_goto (tgt := 2) C dX3_limbFigures_20 (by decide) ?_
          refine ih (i + 1) _ (by omega) (by omega) ?_ (js1_int h0 (by decide)) js1_at
          rw [← hf, e, if_neg h14q]
  refine J_iconst (v := 1) C dX3_limbFigures_0 (by decide) ?_
  refine J_istore_n (i := 1) C dX3_limbFigures_1 rfl (by decide) ?_
  exact hL 8 1 _ rfl (Nat.le_refl 1) rfl rfl rfl
/-- how many figures the number at p has, whose first cell is k -/
def figN (f : Nat → Int32) (p k : Nat) : Nat := if k / 2 = 0 then 1 else (k / 2 - 1) * 9 + lf (f (p + k / 2))
set_option maxHeartbeats 1000000 in
/-- figures(p) -/
theorem c_figures {x0 : jE} {rest : jW} {tp fm kp : Int32} {N : Nat} {f : Nat → Int32} {p k : Nat} (hp : p + k / 2 < N) (hN : N < 2 ^ 30) (hk : f p = nI k) (hk2 : k < 2 ^ 27) :
    jI vwCl yX3_figures (wc yX3_figures cX3_figures 3 (some .int)) 1 60 [.ref 1, .int (nI p)] (nW x0 tp fm kp N f rest) 0 0 (fun r pw => r = nI (figN f p k) ∧ pw = nW x0 tp fm kp N f rest) := by
  refine jI_of (cc := cX3_figures) (nL := 3) .int (by decide) rfl (Nat.le_of_ble_eq_true rfl) (fun _ _ _ => rfl) ?_
  intro X C hX hR
  refine J_aload_n (i := 0) C dX3_figures_0 rfl rfl ?_
  refine J_get (ci := 6) (k := 0) C dX3_figures_1 (inT inX3) rfl (gc flX3_X3_cell) (by decide) rfl rfl ?_
  refine J_iload_n (i := 1) C dX3_figures_4 rfl rfl ?_
  refine J_iald C dX3_figures_5 rfl (vp_in_nI (show p < N by omega) (by omega)) ?_
  refine J_eqi (y := nI k) (by rw [nI_clamp (by omega), hk]) ?_
  refine J_iconst (v := 1) C dX3_figures_6 (by decide) ?_
  refine J_ishr C dX3_figures_7 ?_
  refine J_eqi (nI_shr1 (by omega)) ?_
  refine J_istore_n (i := 2) C dX3_figures_8 rfl (by decide) ?_
  refine J_iload_n (i := 2) C dX3_figures_9 rfl rfl ?_
  refine J_if_ne (tgt := 17) C dX3_figures_10 (by decide) (fun h10q => ?_) (fun h10q => ?_)
  · have hk0 : ¬ k / 2 = 0 := fun e => h10q (by rw [e]; rfl)
    refine J_iload_n (i := 2) C dX3_figures_17 rfl rfl ?_
    refine J_iconst (v := 1) C dX3_figures_18 (by decide) ?_
    refine J_isub C dX3_figures_19 ?_
    refine J_eqi (y := nI (k / 2 - 1)) (show nI (k / 2) - nI 1 = _ from pk_sub (by omega)) ?_
    refine J_bipush (v := 9) C dX3_figures_20 (by decide) ?_
    refine J_imul C dX3_figures_22 ?_
    refine J_eqi (y := nI ((k / 2 - 1) * 9)) (show _ * nI 9 = _ from pk_mul _ 9) ?_
    refine J_aload_n (i := 0) C dX3_figures_23 rfl rfl ?_
    refine J_get (ci := 6) (k := 0) C dX3_figures_24 (inT inX3) rfl (gc flX3_X3_cell) (by decide) rfl rfl ?_
    refine J_iload_n (i := 1) C dX3_figures_27 rfl rfl ?_
    refine J_iload_n (i := 2) C dX3_figures_28 rfl rfl ?_
    refine J_iadd C dX3_figures_29 ?_
    refine J_eqi (nI_add _ _) ?_
    refine J_iald C dX3_figures_30 rfl (vp_in_nI hp (by omega)) ?_
    refine J_eqi (y := f (p + k / 2)) (by rw [nI_clamp (by omega)]) ?_
    refine J_callSi C [.int (f (p + k / 2))] 3 c_limbFigures (gSt mlX3_X3_limbFigures stX3_limbFigures iniX3 cdX3_limbFigures) rfl dsX3_limbFigures ⟨by decide, by decide⟩ dX3_figures_31 rfl (Nat.le_of_ble_eq_true rfl) rfl (Nat.le_of_ble_eq_true rfl) (Nat.le_of_eq hX) (Nat.le_of_ble_eq_true rfl) (Nat.le_of_ble_eq_true rfl) (fun r pw h hl => ?_)
    obtain ⟨rfl, rfl⟩ := h
    refine J_iadd C dX3_figures_34 ?_
    refine hR _ _ _ _ _ _ dX3_figures_35 ⟨?_,rfl⟩ (Nat.le_of_eq hX) (Nat.le_refl _) (Nat.le_refl _)
    rw [nI_add, figN, if_neg hk0]
  · have hk0 : k / 2 = 0 := by
      rcases Nat.eq_zero_or_pos (k / 2) with e | e
      · exact e
      · exact absurd h10q (nI_ne0 e (by omega))
    refine J_iconst (v := 1) C dX3_figures_13 (by decide) ?_
    refine J_goto (tgt := 35) C dX3_figures_14 (by decide) ?_
    refine hR _ _ _ _ _ _ dX3_figures_35 ⟨?_,rfl⟩ (Nat.le_of_eq hX) (Nat.le_refl _) (Nat.le_refl _)
    rw [figN, if_pos hk0]
    rfl
set_option maxHeartbeats 1000000 in
/-- isWider(p, most), of two numbers of so few figures: no -/
theorem c_notWider {x0 : jE} {rest : jW} {tp fm kp : Int32} {N : Nat} {f : Nat → Int32} {p k k2 w : Nat} (hp : p + k / 2 < N) (hp2 : p + 1 + k / 2 + k2 / 2 < N) (hN : N < 2 ^ 30) (hk : f p = nI k) (hkb : k < 2 ^ 27) (hk2 : f (p + 1 + k / 2) = nI k2) (hk2b : k2 < 2 ^ 27) (h1 : figN f p k ≤ w) (h2 : figN f (p + 1 + k / 2) k2 ≤ w) (hw : w < 2 ^ 30) :
    jI vwCl yX3_isWider (wc yX3_isWider cX3_isWider 3 (some .boolean)) 2 120 [.ref 1, .int (nI p), .int (nI w)] (nW x0 tp fm kp N f rest) 0 0 (fun r pw => r = 0 ∧ pw = nW x0 tp fm kp N f rest) := by
  refine jI_of (cc := cX3_isWider) (nL := 3) .boolean (by decide) rfl (Nat.le_of_ble_eq_true rfl) (fun _ _ hq => by rw [hq.1]; rfl) ?_
  intro X C hX hR
  refine J_aload_n (i := 0) C dX3_isWider_0 rfl rfl ?_
  refine J_iload_n (i := 1) C dX3_isWider_1 rfl rfl ?_
  refine J_callVi C [.int (nI p)] rfl rfl 3 (c_figures hp hN hk hkb) (gV mlX3_X3_figures imX3_figures slX3_figures iniX3 cdX3_figures) rfl dsX3_figures ⟨by decide, by decide⟩ dX3_isWider_2 rfl (Nat.le_of_ble_eq_true rfl) rfl (Nat.le_of_ble_eq_true rfl) (Nat.le_of_eq hX) (Nat.le_of_ble_eq_true rfl) (Nat.le_of_ble_eq_true rfl) (fun r pw h hl => ?_)
  obtain ⟨rfl, rfl⟩ := h
  refine J_iload_n (i := 2) C dX3_isWider_5 rfl rfl ?_
  refine J_icmp_gt (tgt := 22) C dX3_isWider_6 (by decide) (fun h6q => ?_) (fun h6q => ?_)
  · exact absurd h6q (nI_nlt h1 (by omega))
  · refine J_aload_n (i := 0) C dX3_isWider_9 rfl rfl ?_
    refine J_aload_n (i := 0) C dX3_isWider_10 rfl rfl ?_
    refine J_iload_n (i := 1) C dX3_isWider_11 rfl rfl ?_
    refine J_callVi C [.int (nI p)] rfl rfl 3 (c_next (by omega) (by omega) hk (by omega)) (gV mlX3_X3_next imX3_next slX3_next iniX3 cdX3_next) rfl dsX3_next ⟨by decide, by decide⟩ dX3_isWider_12 rfl (Nat.le_of_ble_eq_true rfl) rfl (Nat.le_of_ble_eq_true rfl) (Nat.le_of_eq hX) (Nat.le_of_ble_eq_true rfl) (Nat.le_of_ble_eq_true rfl) (fun r pw h hl => ?_)
    obtain ⟨rfl, rfl⟩ := h
    refine J_callVi C [.int (nI (p + 1 + k / 2))] rfl rfl 3 (c_figures hp2 hN hk2 hk2b) (gV mlX3_X3_figures imX3_figures slX3_figures iniX3 cdX3_figures) rfl dsX3_figures ⟨by decide, by decide⟩ dX3_isWider_15 rfl (Nat.le_of_ble_eq_true rfl) rfl (Nat.le_of_ble_eq_true rfl) (Nat.le_of_eq hX) (Nat.le_of_ble_eq_true rfl) (Nat.le_of_ble_eq_true rfl) (fun r pw h hl => ?_)
    obtain ⟨rfl, rfl⟩ := h
    refine J_iload_n (i := 2) C dX3_isWider_18 rfl rfl ?_
    refine J_icmp_le (tgt := 26) C dX3_isWider_19 (by decide) (fun h19q => ?_) (fun h19q => ?_)
    · refine J_iconst (v := 0) C dX3_isWider_26 (by decide) ?_
      refine hR _ _ _ _ _ _ dX3_isWider_27 ⟨rfl,rfl⟩ (Nat.le_of_eq hX) (Nat.le_refl _) (Nat.le_refl _)
    · exact absurd (nI_le h2 (by omega)) h19q

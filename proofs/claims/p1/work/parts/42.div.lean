/-- a number's first cell with the sign turned -/
def twK (k : Nat) : Nat := if k = 0 then 0 else if k % 2 = 0 then k + 1 else k - 1
theorem twK_x : ∀ k : Nat, k < 8 → nI k ^^^ nI 1 = nI (if k % 2 = 0 then k + 1 else k - 1) := by decide +kernel
theorem twK_2 {k : Nat} (h : k / 2 = 0 → k = 0) : twK k / 2 = k / 2 := by
  unfold twK
  by_cases e : k = 0
  · rw [if_pos e, e]
  · rw [if_neg e]
    by_cases q : k % 2 = 0
    · rw [if_pos q]; omega
    · rw [if_neg q]; omega
theorem twK_lt {k : Nat} (hk : k < 8) : twK k < 8 := by
  unfold twK
  by_cases e : k = 0
  · rw [if_pos e]; omega
  · rw [if_neg e]
    by_cases q : k % 2 = 0
    · rw [if_pos q]; omega
    · rw [if_neg q]; omega
theorem twK_0 {k : Nat} (h : k / 2 = 0 → k = 0) : twK k / 2 = 0 → twK k = 0 := by
  intro q
  rw [twK_2 h] at q
  rw [h q]; rfl
theorem sh_tw {f : Nat → Int32} {p k : Nat} (h : sh f p k) : sh (upd f p (nI (twK k))) p (twK k) := by
  obtain ⟨h1, h2, h3, h4, h5⟩ := h
  refine ⟨pk_us, twK_lt h2, twK_0 h3, ?_, fun q => ?_⟩
  · rw [twK_2 h3]; exact lm_un h4 (by omega)
  · rw [twK_2 h3] at q ⊢
    rw [dg_eq (f := f) (pk_un (by omega))]; exact h5 q
theorem upd_same {f : Nat → Int32} {p : Nat} {x : Int32} (h : f p = x) : upd f p x = f := by
  funext j
  by_cases e : j = p
  · rw [e, pk_us, h]
  · exact pk_un e
set_option maxHeartbeats 2000000 in
/-- turn: one number, and on -/
theorem s_turn {X : jK} (C : jX X cX3_turn 4 yX3_turn.cls (wc yX3_turn cX3_turn 4 none) vwCl 0 0 0 0) {x0 : jE} {rest : jW} {fm kp : Int32} {N : Nat} {t : Nat} (ht : t ≤ N) (hN : N < 2 ^ 30) {i a k : Nat} {g : Nat → Int32} {lv : Nat → Option Value} (hi : i ≤ 16) (ha : a < t) (hs : sh g a k) (h0 : lv 0 = some (.ref 1)) (h2 : lv 2 = some (.int (nI a))) (h3 : lv 3 = some (.int (nI i)))
    (hk : ∀ lv' : Nat → Option Value, lv' 0 = some (.ref 1) → lv' 2 = some (.int (nI (a + 1 + k / 2))) → lv' 3 = some (.int (nI (i + 1))) → J X 4 lv' [] (nW x0 (nI t) fm kp N (upd g a (nI (twK k))) rest) 0 0) : J X 4 lv [] (nW x0 (nI t) fm kp N g rest) 0 0 := by
  obtain ⟨e1, e2, e3, e4, e5⟩ := hs
  have hT : upd g a (nI (twK k)) a = nI (twK k) := pk_us
  have hT2 := twK_2 e3
  have hT3 := twK_lt e2
  have hM : ∀ g', g' = upd g a (nI (twK k)) → J X 37 lv [] (nW x0 (nI t) fm kp N g' rest) 0 0 := by
    intro g' hg
    subst hg
    refine J_iload_n (i := 2) C dX3_turn_37 rfl h2 ?_
    refine J_iconst (v := nI 1) C dX3_turn_38 (by decide) ?_
    refine J_aload_n (i := 0) C dX3_turn_39 rfl h0 ?_
    refine J_get (ci := 6) (k := 0) C dX3_turn_40 (inT inX3) rfl (gc flX3_X3_cell) (by decide) rfl rfl ?_
    refine J_iload_n (i := 2) C dX3_turn_43 rfl h2 ?_
    refine J_ialdN C dX3_turn_44 rfl (by omega) (by omega) hT ?_
    refine J_iconst (v := nI 1) C dX3_turn_45 (by decide) ?_
    refine J_ishr C dX3_turn_46 ?_
    refine J_eqi (nI_shr1N (by omega)) ?_
    refine J_iadd C dX3_turn_47 ?_
    refine J_eqi (nI_add _ _) ?_
    refine J_iadd C dX3_turn_48 ?_
    refine J_eqi (y := nI (a + 1 + k / 2)) ((nI_add _ _).trans (congrArg nI (by omega))) ?_
    refine J_istore_n (i := 2) C dX3_turn_49 rfl (by decide) ?_
    refine J_iinc C dX3_turn_50 (js1_int h3 (by decide)) (nI_1 _) ?_
    refine J_goto (tgt := 4) C dX3_turn_53 (by decide) ?_
    exact hk _ (js1_ref (js1_ref h0 (by decide)) (by decide)) (js1_int js1_at (by decide)) js1_at
  refine J_iload_n (i := 3) C dX3_turn_4 rfl h3 ?_
  refine J_bipush (v := nI 16) C dX3_turn_5 (by decide) ?_
  refine J_icmp_gt (tgt := 56) C dX3_turn_7 (by decide) (fun h7q => have h7 := (nI_ltI (by omega) (by omega)).mp h7q; ?_) (fun h7q => have h7 := (not_congr (nI_ltI (by omega) (by omega))).mp h7q; ?_)
  · exact absurd h7 (by omega)
  · refine J_iload_n (i := 2) C dX3_turn_10 rfl h2 ?_
    refine J_aload_n (i := 0) C dX3_turn_11 rfl h0 ?_
    refine J_get (ci := 6) (k := 1) C dX3_turn_12 (inT inX3) rfl (gc flX3_X3_top) (by decide) rfl rfl ?_
    refine J_icmp_ge (tgt := 56) C dX3_turn_15 (by decide) (fun h15q => have h15 := (nI_leI (by omega) (by omega)).mp h15q; ?_) (fun h15q => have h15 := (not_congr (nI_leI (by omega) (by omega))).mp h15q; ?_)
    · exact absurd h15 (by omega)
    · refine J_aload_n (i := 0) C dX3_turn_18 rfl h0 ?_
      refine J_get (ci := 6) (k := 0) C dX3_turn_19 (inT inX3) rfl (gc flX3_X3_cell) (by decide) rfl rfl ?_
      refine J_iload_n (i := 2) C dX3_turn_22 rfl h2 ?_
      refine J_ialdN C dX3_turn_23 rfl (by omega) (by omega) e1 ?_
      refine J_if_eq (tgt := 37) C dX3_turn_24 (by decide) (fun h24q => have h24 := (nI_z (by omega)).mp h24q; ?_) (fun h24q => have h24 := (not_congr (nI_z (by omega))).mp h24q; ?_)
      · refine hM g ?_
        rw [upd_same]
        rw [e1, h24]; rfl
      · refine J_aload_n (i := 0) C dX3_turn_27 rfl h0 ?_
        refine J_get (ci := 6) (k := 0) C dX3_turn_28 (inT inX3) rfl (gc flX3_X3_cell) (by decide) rfl rfl ?_
        refine J_iload_n (i := 2) C dX3_turn_31 rfl h2 ?_
        refine J_dup2 C dX3_turn_32 rfl rfl ?_
        refine J_ialdN C dX3_turn_33 rfl (by omega) (by omega) e1 ?_
        refine J_iconst (v := nI 1) C dX3_turn_34 (by decide) ?_
        refine J_ixor C dX3_turn_35 ?_
        refine J_eqi (twK_x k e2) ?_
        refine J_iastN C dX3_turn_36 rfl (by omega) (by omega) ?_
        refine hM _ ?_
        unfold twK
        rw [if_neg h24]
set_option maxHeartbeats 1000000 in
theorem c_turn1 {x0 : jE} {rest : jW} {fm kp : Int32} {N : Nat} {f : Nat → Int32} {t p k : Nat} (hs : sh f p k) (hp : p + 1 + k / 2 = t) (ht : t ≤ N) (hN : N < 2 ^ 30) :
    jN vwCl yX3_turn (wc yX3_turn cX3_turn 4 none) 0 0 [.ref 1, .int (nI p)] (nW x0 (nI t) fm kp N f rest) 0 0 (fun pw => pw = nW x0 (nI t) fm kp N (upd f p (nI (twK k))) rest) := by
  refine jN_of (cc := cX3_turn) (nL := 4) (by decide) rfl (Nat.le_of_ble_eq_true rfl) ?_
  intro X C hX hR
  refine J_iload_n (i := 1) C dX3_turn_0 rfl rfl ?_
  refine J_istore_n (i := 2) C dX3_turn_1 rfl (by decide) ?_
  refine J_iconst (v := nI 0) C dX3_turn_2 (by decide) ?_
  refine J_istore_n (i := 3) C dX3_turn_3 rfl (by decide) ?_
  refine s_turn C ht hN (i := 0) (by decide) (by omega) hs rfl rfl rfl (fun lv h0 h2 h3 => ?_)
  refine J_iload_n (i := 3) C dX3_turn_4 rfl h3 ?_
  refine J_bipush (v := nI 16) C dX3_turn_5 (by decide) ?_
  refine J_icmp_gt (tgt := 56) C dX3_turn_7 (by decide) (fun h7q => have h7 := (nI_ltI (by omega) (by omega)).mp h7q; ?_) (fun h7q => have h7 := (not_congr (nI_ltI (by omega) (by omega))).mp h7q; ?_)
  · exact absurd h7 (by decide)
  · refine J_iload_n (i := 2) C dX3_turn_10 rfl h2 ?_
    refine J_aload_n (i := 0) C dX3_turn_11 rfl h0 ?_
    refine J_get (ci := 6) (k := 1) C dX3_turn_12 (inT inX3) rfl (gc flX3_X3_top) (by decide) rfl rfl ?_
    refine J_icmp_ge (tgt := 56) C dX3_turn_15 (by decide) (fun h15q => have h15 := (nI_leI (by omega) (by omega)).mp h15q; ?_) (fun h15q => have h15 := (not_congr (nI_leI (by omega) (by omega))).mp h15q; ?_)
    · refine hR _ _ _ _ _ dX3_turn_56 rfl (Nat.le_of_eq hX) (Nat.le_refl _) (Nat.le_refl _)
    · exact absurd (by omega) h15
set_option maxHeartbeats 1000000 in
theorem c_turn2 {x0 : jE} {rest : jW} {fm kp : Int32} {N : Nat} {f : Nat → Int32} {t p k k2 : Nat} (hs : sh f p k) (hs2 : sh f (p + 1 + k / 2) k2) (hp : p + 1 + k / 2 + 1 + k2 / 2 = t) (ht : t ≤ N) (hN : N < 2 ^ 30) :
    jN vwCl yX3_turn (wc yX3_turn cX3_turn 4 none) 0 0 [.ref 1, .int (nI p)] (nW x0 (nI t) fm kp N f rest) 0 0 (fun pw => pw = nW x0 (nI t) fm kp N (upd (upd f p (nI (twK k))) (p + 1 + k / 2) (nI (twK k2))) rest) := by
  refine jN_of (cc := cX3_turn) (nL := 4) (by decide) rfl (Nat.le_of_ble_eq_true rfl) ?_
  intro X C hX hR
  refine J_iload_n (i := 1) C dX3_turn_0 rfl rfl ?_
  refine J_istore_n (i := 2) C dX3_turn_1 rfl (by decide) ?_
  refine J_iconst (v := nI 0) C dX3_turn_2 (by decide) ?_
  refine J_istore_n (i := 3) C dX3_turn_3 rfl (by decide) ?_
  refine s_turn C ht hN (i := 0) (by decide) (by omega) hs rfl rfl rfl (fun lv h0 h2 h3 => ?_)
  refine s_turn C ht hN (i := 0 + 1) (by decide) (by omega) (sh_eq hs2 (fun j hj _ => pk_un (by omega))) h0 h2 h3 (fun lv h0 h2 h3 => ?_)
  refine J_iload_n (i := 3) C dX3_turn_4 rfl h3 ?_
  refine J_bipush (v := nI 16) C dX3_turn_5 (by decide) ?_
  refine J_icmp_gt (tgt := 56) C dX3_turn_7 (by decide) (fun h7q => have h7 := (nI_ltI (by omega) (by omega)).mp h7q; ?_) (fun h7q => have h7 := (not_congr (nI_ltI (by omega) (by omega))).mp h7q; ?_)
  · exact absurd h7 (by decide)
  · refine J_iload_n (i := 2) C dX3_turn_10 rfl h2 ?_
    refine J_aload_n (i := 0) C dX3_turn_11 rfl h0 ?_
    refine J_get (ci := 6) (k := 1) C dX3_turn_12 (inT inX3) rfl (gc flX3_X3_top) (by decide) rfl rfl ?_
    refine J_icmp_ge (tgt := 56) C dX3_turn_15 (by decide) (fun h15q => have h15 := (nI_leI (by omega) (by omega)).mp h15q; ?_) (fun h15q => have h15 := (not_congr (nI_leI (by omega) (by omega))).mp h15q; ?_)
    · refine hR _ _ _ _ _ dX3_turn_56 rfl (Nat.le_of_eq hX) (Nat.le_refl _) (Nat.le_refl _)
    · exact absurd (by omega) h15
/-- a new number at t, all before it as it was -/
def pN (x0 : jE) (fm kp : Int32) (N : Nat) (f : Nat → Int32) (rest : jW) (t : Nat) (pw : jW) : Prop := ∃ (k : Nat) (g : Nat → Int32), pw = nW x0 (nI (t + 1 + k / 2)) fm kp N g rest ∧ sh g t k ∧ ∀ j, j < t → g j = f j
/-- a new number at t, one more behind it -/
def pN2 (x0 : jE) (fm kp : Int32) (N : Nat) (f : Nat → Int32) (rest : jW) (t : Nat) (pw : jW) : Prop := ∃ (k k2 : Nat) (g : Nat → Int32), pw = nW x0 (nI (t + 1 + k / 2 + 1 + k2 / 2)) fm kp N g rest ∧ sh g t k ∧ sh g (t + 1 + k / 2) k2 ∧ ∀ j, j < t → g j = f j
theorem pN_closed {x0 : jE} {fm kp : Int32} {N : Nat} {f g : Nat → Int32} {rest : jW} {t n b : Nat} (hl : lm g (t + 1) n) (hn : trimN g t n < 4) (hb : b < 2) (he : ∀ j, j < t → g j = f j) : pN x0 fm kp N f rest t (nW x0 (nI (t + 1 + trimN g t n)) fm kp N (upd g t (headN (trimN g t n) (nI b))) rest) := by
  obtain ⟨k, h1, h2, h3⟩ := sh_closed hl hn hb
  refine ⟨k, _, ?_, h1, fun j hj => ?_⟩
  · rw [h2]
  · rw [pk_un (by omega)]; exact he j hj
set_option maxHeartbeats 4000000 in
/-- times(p, q), where q is 1 -/
theorem c_times1 {x0 : jE} {rest : jW} {fm kp : Int32} {N : Nat} {f : Nat → Int32} {t p q k : Nat} (hs : sh f p k) (hq : f q = nI 2) (hq1 : f (q + 1) = nI 1) (hp : p + k / 2 < t) (hqt : q + 1 < t) (ht : t + 5 ≤ N) (hN : N < 2 ^ 30) :
    jI vwCl yX3_times (wc yX3_times cX3_times 15 (some .int)) 1 60 [.ref 1, .int (nI p), .int (nI q)] (nW x0 (nI t) fm kp N f rest) 0 0 (fun r pw => r = nI t ∧ pN x0 fm kp N f rest t pw) := by
  refine jI_of (cc := cX3_times) (nL := 15) .int (by decide) rfl (Nat.le_of_ble_eq_true rfl) (fun _ _ _ => rfl) ?_
  intro X C hX hR
  obtain ⟨e1, e2, e3, e4, e5⟩ := hs
  refine J_aload_n (i := 0) C dX3_times_0 rfl rfl ?_
  refine J_get (ci := 6) (k := 0) C dX3_times_1 (inT inX3) rfl (gc flX3_X3_cell) (by decide) rfl rfl ?_
  refine J_iload_n (i := 1) C dX3_times_4 rfl rfl ?_
  refine J_ialdN C dX3_times_5 rfl (by omega) (by omega) e1 ?_
  refine J_iconst (v := nI 1) C dX3_times_6 (by decide) ?_
  refine J_ishr C dX3_times_7 ?_
  refine J_eqi (nI_shr1N (by omega)) ?_
  refine J_istore_n (i := 3) C dX3_times_8 rfl (by decide) ?_
  refine J_aload_n (i := 0) C dX3_times_9 rfl rfl ?_
  refine J_get (ci := 6) (k := 0) C dX3_times_10 (inT inX3) rfl (gc flX3_X3_cell) (by decide) rfl rfl ?_
  refine J_iload_n (i := 2) C dX3_times_13 rfl rfl ?_
  refine J_ialdN C dX3_times_14 rfl (by omega) (by omega) hq ?_
  refine J_iconst (v := nI 1) C dX3_times_15 (by decide) ?_
  refine J_ishr C dX3_times_16 ?_
  refine J_eqi (nI_shr1N (by omega)) ?_
  refine J_istore C dX3_times_17 (by decide) ?_
  refine J_aload_n (i := 0) C dX3_times_19 rfl rfl ?_
  refine J_iload_n (i := 3) C dX3_times_20 rfl rfl ?_
  refine J_iload C dX3_times_21 rfl ?_
  refine J_iadd C dX3_times_23 ?_
  refine J_eqi (nI_add _ _) ?_
  refine J_iconst (v := nI 1) C dX3_times_24 (by decide) ?_
  refine J_iadd C dX3_times_25 ?_
  refine J_eqi (nI_add _ _) ?_
  refine J_callVn C [.int (nI (k / 2 + 2 / 2 + 1))] rfl rfl 3 (c_room (by omega) hN) (gV mlX3_X3_room imX3_room slX3_room iniX3 cdX3_room) rfl dsX3_room ⟨by decide, by decide⟩ dX3_times_26 rfl (Nat.le_of_ble_eq_true rfl) rfl (Nat.le_of_ble_eq_true rfl) (Nat.le_of_eq hX) (Nat.le_of_ble_eq_true rfl) (Nat.le_of_ble_eq_true rfl) (fun pw h hl => ?_)
  subst h
  refine J_aload_n (i := 0) C dX3_times_29 rfl rfl ?_
  refine J_get (ci := 6) (k := 1) C dX3_times_30 (inT inX3) rfl (gc flX3_X3_top) (by decide) rfl rfl ?_
  refine J_istore C dX3_times_33 (by decide) ?_
  refine J_iload_n (i := 3) C dX3_times_35 rfl rfl ?_
  refine J_if_eq (tgt := 44) C dX3_times_36 (by decide) (fun h36q => have h36 := (nI_z (by omega)).mp h36q; ?_) (fun h36q => have h36 := (not_congr (nI_z (by omega))).mp h36q; ?_)
  · refine J_aload_n (i := 0) C dX3_times_44 rfl rfl ?_
    refine J_iload C dX3_times_45 rfl ?_
    refine J_iconst (v := nI 0) C dX3_times_47 (by decide) ?_
    refine J_iconst (v := nI 0) C dX3_times_48 (by decide) ?_
    refine J_callVi C [.int (nI t), .int (nI 0), .int (nI 0)] rfl rfl 3 (c_closed (n := 0) (by omega) hN (Or.inl rfl)) (gV mlX3_X3_closed imX3_closed slX3_closed iniX3 cdX3_closed) rfl dsX3_closed ⟨by decide, by decide⟩ dX3_times_49 rfl (Nat.le_of_ble_eq_true rfl) rfl (Nat.le_of_ble_eq_true rfl) (Nat.le_of_eq hX) (Nat.le_of_ble_eq_true rfl) (Nat.le_of_ble_eq_true rfl) (fun r pw h hl => ?_)
    obtain ⟨rfl, rfl⟩ := h
    refine hR _ _ _ _ _ _ dX3_times_52 ⟨rfl,pN_closed (b := 0) (fun k hk => absurd hk (by omega)) (Nat.zero_lt_succ 3) (by decide) (fun _ _ => rfl)⟩ (Nat.le_of_eq hX) (Nat.le_refl _) (Nat.le_refl _)
  · refine J_iload C dX3_times_39 rfl ?_
    refine J_if_ne (tgt := 53) C dX3_times_41 (by decide) (fun h41q => have h41 := (not_congr (nI_z (by omega))).mp h41q; ?_) (fun h41q => have h41 := (nI_z (by omega)).mp h41q; ?_)
    · have hL : ∀ (d i : Nat) (g : Nat → Int32) (lv : Nat → Option Value), i + d = k / 2 → lm g (t + 1) i → (∀ j, j < t → g j = f j) → lv 0 = some (.ref 1) → lv 1 = some (.int (nI p)) → lv 2 = some (.int (nI q)) → lv 3 = some (.int (nI (k / 2))) → lv 4 = some (.int (nI (2 / 2))) → lv 5 = some (.int (nI t)) → lv 6 = some (.ref 2) → lv 7 = some (.long (lN 0)) → lv 9 = some (.int (nI i)) → J X 65 lv [] (nW x0 (nI t) fm kp N g rest) 0 0 := by
        intro d
        induction d with
        | zero =>
          intro i g lv hd hg he h0 h1 h2 h3 h4 h5 h6 h7 h9
          have c1 : g p = nI k := by rw [he p (by omega)]; exact e1
          have c2 : g q = nI 2 := by rw [he q (by omega)]; exact hq
          refine J_iload C dX3_times_65 h9 ?_
          refine J_iload_n (i := 3) C dX3_times_67 rfl h3 ?_
          refine J_iload C dX3_times_68 h4 ?_
          refine J_iadd C dX3_times_70 ?_
          refine J_eqi (nI_add _ _) ?_
          refine J_iconst (v := nI 1) C dX3_times_71 (by decide) ?_
          refine J_isub C dX3_times_72 ?_
          refine J_eqi (pk_sub (by omega)) ?_
          refine J_icmp_ge (tgt := 210) C dX3_times_73 (by decide) (fun h73q => have h73 := (nI_leI (by omega) (by omega)).mp h73q; ?_) (fun h73q => have h73 := (not_congr (nI_leI (by omega) (by omega))).mp h73q; ?_)
          · have hi : i = k / 2 := by omega
            subst hi
            refine J_aload C dX3_times_210 h6 ?_
            refine J_iload C dX3_times_212 h5 ?_
            refine J_iload_n (i := 3) C dX3_times_214 rfl h3 ?_
            refine J_iadd C dX3_times_215 ?_
            refine J_eqi (nI_add _ _) ?_
            refine J_iload C dX3_times_216 h4 ?_
            refine J_iadd C dX3_times_218 ?_
            refine J_eqi (y := nI (t + 1 + k / 2)) ((nI_add _ _).trans (congrArg nI (by omega))) ?_
            refine J_lload C dX3_times_219 h7 ?_
            refine J_l2i C dX3_times_221 (lN_i _) ?_
            refine J_iastN C dX3_times_222 rfl (by omega) (by omega) ?_
            have c3 : lm (upd g (t + 1 + k / 2) (nI 0)) (t + 1) (k / 2 + 1) := lm_up hg (by decide)
            have c4 : trimN (upd g (t + 1 + k / 2) (nI 0)) t (k / 2 + 1) < 4 := by
              unfold trimN
              rw [show t + (k / 2 + 1) = t + 1 + k / 2 by omega, pk_us, if_pos (show nI 0 = 0 from rfl)]
              have := trimN_le (upd g (t + 1 + k / 2) (nI 0)) t (k / 2)
              omega
            have hC : ∀ b : Nat, b < 2 → J X 250 lv [.int (nI b), .int (nI (k / 2 + 2 / 2)), .int (nI t), .ref 1] (nW x0 (nI t) fm kp N (upd g (t + 1 + k / 2) (nI 0)) rest) 0 0 := by
              intro b hb
              refine J_callVi C [.int (nI t), .int (nI (k / 2 + 2 / 2)), .int (nI b)] rfl rfl 3 (c_closed (by omega) hN (by rcases (show b = 0 ∨ b = 1 by omega) with z | z <;> subst z <;> simp [nI])) (gV mlX3_X3_closed imX3_closed slX3_closed iniX3 cdX3_closed) rfl dsX3_closed ⟨by decide, by decide⟩ dX3_times_250 rfl (Nat.le_of_ble_eq_true rfl) rfl (Nat.le_of_ble_eq_true rfl) (Nat.le_of_eq hX) (Nat.le_of_ble_eq_true rfl) (Nat.le_of_ble_eq_true rfl) (fun r pw h hl => ?_)
              obtain ⟨rfl, rfl⟩ := h
              refine hR _ _ _ _ _ _ dX3_times_253 ⟨rfl,pN_closed c3 c4 hb (fun j hj => by rw [pk_un (by omega)]; exact he j hj)⟩ (Nat.le_of_eq hX) (Nat.le_refl _) (Nat.le_refl _)
            refine J_aload_n (i := 0) C dX3_times_223 rfl h0 ?_
            refine J_iload C dX3_times_224 h5 ?_
            refine J_iload_n (i := 3) C dX3_times_226 rfl h3 ?_
            refine J_iload C dX3_times_227 h4 ?_
            refine J_iadd C dX3_times_229 ?_
            refine J_eqi (nI_add _ _) ?_
            refine J_aload C dX3_times_230 h6 ?_
            refine J_iload_n (i := 1) C dX3_times_232 rfl h1 ?_
            refine J_ialdN C dX3_times_233 rfl (show p < N by omega) (by omega) rfl ?_
            refine J_aload C dX3_times_234 h6 ?_
            refine J_iload_n (i := 2) C dX3_times_236 rfl h2 ?_
            refine J_ialdN C dX3_times_237 rfl (show q < N by omega) (by omega) rfl ?_
            refine J_ixor C dX3_times_238 ?_
            refine J_iconst (v := nI 1) C dX3_times_239 (by decide) ?_
            refine J_iand C dX3_times_240 ?_
            refine J_iconst (v := nI 1) C dX3_times_241 (by decide) ?_
            refine J_icmp_ne (tgt := 249) C dX3_times_242 (by decide) (fun h242q => ?_) (fun h242q => ?_)
            · refine J_iconst (v := nI 0) C dX3_times_249 (by decide) ?_
              exact hC 0 (by decide)
            · refine J_iconst (v := nI 1) C dX3_times_245 (by decide) ?_
              refine J_goto (tgt := 250) C dX3_times_246 (by decide) ?_
              exact hC 1 (by decide)
          · exact absurd (by omega) h73
        | succ d ih =>
          intro i g lv hd hg he h0 h1 h2 h3 h4 h5 h6 h7 h9
          obtain ⟨a1, a2⟩ := e4 i (by omega)
          have c1 : g (p + 1 + i) = nI (dg f (p + 1 + i)) := by rw [he _ (by omega)]; exact a1
          have c2 : g (q + 1 + i - i) = nI 1 := by rw [show q + 1 + i - i = q + 1 by omega, he _ (by omega)]; exact hq1
          generalize dg f (p + 1 + i) = x at a1 a2 c1
          refine J_iload C dX3_times_65 h9 ?_
          refine J_iload_n (i := 3) C dX3_times_67 rfl h3 ?_
          refine J_iload C dX3_times_68 h4 ?_
          refine J_iadd C dX3_times_70 ?_
          refine J_eqi (nI_add _ _) ?_
          refine J_iconst (v := nI 1) C dX3_times_71 (by decide) ?_
          refine J_isub C dX3_times_72 ?_
          refine J_eqi (pk_sub (by omega)) ?_
          refine J_icmp_ge (tgt := 210) C dX3_times_73 (by decide) (fun h73q => have h73 := (nI_leI (by omega) (by omega)).mp h73q; ?_) (fun h73q => have h73 := (not_congr (nI_leI (by omega) (by omega))).mp h73q; ?_)
          · exact absurd h73 (by omega)
          · refine J_lconst (v := lN 0) C dX3_times_76 (by decide) ?_
            refine J_lstore C dX3_times_77 (by decide) ?_
            refine J_iload C dX3_times_79 (js2_int h9 (by decide) (by decide)) ?_
            refine J_iload_n (i := 3) C dX3_times_81 rfl (js2_int h3 (by decide) (by decide)) ?_
            refine J_iconst (v := nI 1) C dX3_times_82 (by decide) ?_
            refine J_isub C dX3_times_83 ?_
            refine J_eqi (pk_sub (by omega)) ?_
            refine J_mmin C dX3_times_84 (gc mlX3_min) (gc stMin) (gc iniMath) (gc cdMin) (by decide) (Nat.le_of_ble_eq_true rfl) (Nat.le_refl _) (Nat.le_refl _) ?_
            refine J_eqi (y := nI i) (by by_cases w : nI (k / 2 - 1) < nI i; exact absurd ((nI_ltI (by omega) (by omega)).mp w) (by omega); exact if_neg w) ?_
            refine J_istore C dX3_times_87 (by decide) ?_
            refine J_iconst (v := nI 0) C dX3_times_89 (by decide) ?_
            refine J_iload C dX3_times_90 (js1_int (js2_int h9 (by decide) (by decide)) (by decide)) ?_
            refine J_iload C dX3_times_92 (js1_int (js2_int h4 (by decide) (by decide)) (by decide)) ?_
            refine J_isub C dX3_times_94 ?_
            refine J_iconst (v := nI 1) C dX3_times_95 (by decide) ?_
            refine J_iadd C dX3_times_96 ?_
            refine J_eqi (y := nI i) (Int32.sub_add_cancel _ _) ?_
            refine J_mmax C dX3_times_97 (gc mlX3_max) (gc stMax) (gc iniMath) (gc cdMax) (by decide) (Nat.le_of_ble_eq_true rfl) (Nat.le_refl _) (Nat.le_refl _) ?_
            refine J_eqi (y := nI i) (by by_cases w : nI 0 < nI i; exact if_pos w; rw [if_neg w]; exact congrArg nI (by have := mt (nI_ltI (a := 0) (b := i) (by omega) (by omega)).mpr w; omega)) ?_
            refine J_istore C dX3_times_100 (by decide) ?_
            refine J_iload C dX3_times_102 js1_at ?_
            refine J_iload C dX3_times_104 (js1_int js1_at (by decide)) ?_
            refine J_icmp_gt (tgt := 169) C dX3_times_106 (by decide) (fun h106q => have h106 := (nI_ltI (by omega) (by omega)).mp h106q; ?_) (fun h106q => have h106 := (not_congr (nI_ltI (by omega) (by omega))).mp h106q; ?_)
            · exact absurd h106 (by omega)
            · refine J_lload C dX3_times_109 (js1_long (js1_long (js2_long h7 (by decide) (by decide) (by decide)) (by decide) (by decide)) (by decide) (by decide)) ?_
              refine J_aload C dX3_times_111 (js1_ref (js1_ref (js2_ref h6 (by decide) (by decide)) (by decide)) (by decide)) ?_
              refine J_iload_n (i := 1) C dX3_times_113 rfl (js1_int (js1_int (js2_int h1 (by decide) (by decide)) (by decide)) (by decide)) ?_
              refine J_iconst (v := nI 1) C dX3_times_114 (by decide) ?_
              refine J_iadd C dX3_times_115 ?_
              refine J_eqi (nI_add _ _) ?_
              refine J_iload C dX3_times_116 js1_at ?_
              refine J_iadd C dX3_times_118 ?_
              refine J_eqi (nI_add _ _) ?_
              refine J_ialdN C dX3_times_119 rfl (by omega) (by omega) c1 ?_
              refine J_i2l C dX3_times_120 (nI_l (by omega)) ?_
              refine J_aload C dX3_times_121 (js1_ref (js1_ref (js2_ref h6 (by decide) (by decide)) (by decide)) (by decide)) ?_
              refine J_iload_n (i := 2) C dX3_times_123 rfl (js1_int (js1_int (js2_int h2 (by decide) (by decide)) (by decide)) (by decide)) ?_
              refine J_iconst (v := nI 1) C dX3_times_124 (by decide) ?_
              refine J_iadd C dX3_times_125 ?_
              refine J_eqi (nI_add _ _) ?_
              refine J_iload C dX3_times_126 (js1_int (js1_int (js2_int h9 (by decide) (by decide)) (by decide)) (by decide)) ?_
              refine J_iadd C dX3_times_128 ?_
              refine J_eqi (nI_add _ _) ?_
              refine J_iload C dX3_times_129 js1_at ?_
              refine J_isub C dX3_times_131 ?_
              refine J_eqi (pk_sub (by omega)) ?_
              refine J_ialdN C dX3_times_132 rfl (by omega) (by omega) c2 ?_
              refine J_i2l C dX3_times_133 (nI_l (by omega)) ?_
              refine J_lmul C dX3_times_134 ?_
              refine J_eql (lN_mul _ _) ?_
              refine J_ladd C dX3_times_135 ?_
              refine J_eql (lN_add _ _) ?_
              refine J_lstore C dX3_times_136 (by decide) ?_
              refine J_lload C dX3_times_138 js2_at ?_
              refine J_ldc2 C (gc clX3_8000000000000000000) dX3_times_140 ?_
              refine J_eql (y := lN 8000000000000000000) (by decide) ?_
              refine J_lcmp C dX3_times_143 ?_
              refine J_if_lt (tgt := 163) C dX3_times_144 (by decide) (fun h144q => have h144 := ((lg_cmp_lt _ _).trans (pk_lLT (by omega) (by omega))).mp h144q; ?_) (fun h144q => have h144 := (not_congr ((lg_cmp_lt _ _).trans (pk_lLT (by omega) (by omega)))).mp h144q; ?_)
              · refine J_iinc C dX3_times_163 (js2_int js1_at (by decide) (by decide)) (nI_1 _) ?_
                refine J_goto (tgt := 102) C dX3_times_166 (by decide) ?_
                refine J_iload C dX3_times_102 js1_at ?_
                refine J_iload C dX3_times_104 (js1_int (js2_int (js1_int js1_at (by decide)) (by decide) (by decide)) (by decide)) ?_
                refine J_icmp_gt (tgt := 169) C dX3_times_106 (by decide) (fun h106q => have h106 := (nI_ltI (by omega) (by omega)).mp h106q; ?_) (fun h106q => have h106 := (not_congr (nI_ltI (by omega) (by omega))).mp h106q; ?_)
                · refine J_lload C dX3_times_169 (js1_long js2_at (by decide) (by decide)) ?_
                  refine J_ldc2 C (gc clX3_1000000000) dX3_times_171 ?_
                  refine J_eql (y := lN 1000000000) (by decide) ?_
                  refine J_ldiv C dX3_times_174 (lN_ne0 (by omega) (by omega)) ?_
                  refine J_eql (pk_lDiv (by omega) (by omega) (by omega)) ?_
                  refine J_lstore C dX3_times_175 (by decide) ?_
                  refine J_aload C dX3_times_177 (js2_ref (js1_ref (js2_ref (js1_ref (js1_ref (js2_ref h6 (by decide) (by decide)) (by decide)) (by decide)) (by decide) (by decide)) (by decide)) (by decide) (by decide)) ?_
                  refine J_iload C dX3_times_179 (js2_int (js1_int (js2_int (js1_int (js1_int (js2_int h5 (by decide) (by decide)) (by decide)) (by decide)) (by decide) (by decide)) (by decide)) (by decide) (by decide)) ?_
                  refine J_iconst (v := nI 1) C dX3_times_181 (by decide) ?_
                  refine J_iadd C dX3_times_182 ?_
                  refine J_eqi (nI_add _ _) ?_
                  refine J_iload C dX3_times_183 (js2_int (js1_int (js2_int (js1_int (js1_int (js2_int h9 (by decide) (by decide)) (by decide)) (by decide)) (by decide) (by decide)) (by decide)) (by decide) (by decide)) ?_
                  refine J_iadd C dX3_times_185 ?_
                  refine J_eqi (nI_add _ _) ?_
                  refine J_lload C dX3_times_186 (js2_long (js1_long js2_at (by decide) (by decide)) (by decide) (by decide) (by decide)) ?_
                  refine J_lload C dX3_times_188 js2_at ?_
                  refine J_ldc2 C (gc clX3_1000000000) dX3_times_190 ?_
                  refine J_eql (y := lN 1000000000) (by decide) ?_
                  refine J_lmul C dX3_times_193 ?_
                  refine J_eql (lN_mul _ _) ?_
                  refine J_lsub C dX3_times_194 ?_
                  refine J_eql (lN_sub (by omega)) ?_
                  refine J_l2i C dX3_times_195 (lN_i _) ?_
                  refine J_eqi (y := nI x) (congrArg nI (by omega)) ?_
                  refine J_iastN C dX3_times_196 rfl (by omega) (by omega) ?_
                  refine J_lload C dX3_times_197 js2_at ?_
                  refine J_lload C dX3_times_199 (js2_long (js1_long (js2_long (js1_long (js1_long js2_at (by decide) (by decide)) (by decide) (by decide)) (by decide) (by decide) (by decide)) (by decide) (by decide)) (by decide) (by decide) (by decide)) ?_
                  refine J_ladd C dX3_times_201 ?_
                  refine J_eql (y := lN 0) ((lN_add _ _).trans (congrArg lN (by omega))) ?_
                  refine J_lstore C dX3_times_202 (by decide) ?_
                  refine J_iinc C dX3_times_204 (js2_int (js2_int (js1_int (js2_int (js1_int (js1_int (js2_int h9 (by decide) (by decide)) (by decide)) (by decide)) (by decide) (by decide)) (by decide)) (by decide) (by decide)) (by decide) (by decide)) (nI_1 _) ?_
                  refine J_goto (tgt := 65) C dX3_times_207 (by decide) ?_
                  exact ih (i + 1) _ _ (by omega) (lm_up hg a2) (fun j hj => by rw [pk_un (by omega)]; exact he j hj) (js1_ref (js2_ref (js2_ref (js1_ref (js2_ref (js1_ref (js1_ref (js2_ref h0 (by decide) (by decide)) (by decide)) (by decide)) (by decide) (by decide)) (by decide)) (by decide) (by decide)) (by decide) (by decide)) (by decide)) (js1_int (js2_int (js2_int (js1_int (js2_int (js1_int (js1_int (js2_int h1 (by decide) (by decide)) (by decide)) (by decide)) (by decide) (by decide)) (by decide)) (by decide) (by decide)) (by decide) (by decide)) (by decide)) (js1_int (js2_int (js2_int (js1_int (js2_int (js1_int (js1_int (js2_int h2 (by decide) (by decide)) (by decide)) (by decide)) (by decide) (by decide)) (by decide)) (by decide) (by decide)) (by decide) (by decide)) (by decide)) (js1_int (js2_int (js2_int (js1_int (js2_int (js1_int (js1_int (js2_int h3 (by decide) (by decide)) (by decide)) (by decide)) (by decide) (by decide)) (by decide)) (by decide) (by decide)) (by decide) (by decide)) (by decide)) (js1_int (js2_int (js2_int (js1_int (js2_int (js1_int (js1_int (js2_int h4 (by decide) (by decide)) (by decide)) (by decide)) (by decide) (by decide)) (by decide)) (by decide) (by decide)) (by decide) (by decide)) (by decide)) (js1_int (js2_int (js2_int (js1_int (js2_int (js1_int (js1_int (js2_int h5 (by decide) (by decide)) (by decide)) (by decide)) (by decide) (by decide)) (by decide)) (by decide) (by decide)) (by decide) (by decide)) (by decide)) (js1_ref (js2_ref (js2_ref (js1_ref (js2_ref (js1_ref (js1_ref (js2_ref h6 (by decide) (by decide)) (by decide)) (by decide)) (by decide) (by decide)) (by decide)) (by decide) (by decide)) (by decide) (by decide)) (by decide)) (js1_long js2_at (by decide) (by decide)) js1_at
                · exact absurd (by omega) h106
              · exact absurd (by omega) h144
      refine J_aload_n (i := 0) C dX3_times_53 rfl rfl ?_
      refine J_get (ci := 6) (k := 0) C dX3_times_54 (inT inX3) rfl (gc flX3_X3_cell) (by decide) rfl rfl ?_
      refine J_astore C dX3_times_57 (by decide) ?_
      refine J_lconst (v := lN 0) C dX3_times_59 (by decide) ?_
      refine J_lstore C dX3_times_60 (by decide) ?_
      refine J_iconst (v := nI 0) C dX3_times_62 (by decide) ?_
      refine J_istore C dX3_times_63 (by decide) ?_
      exact hL (k / 2) 0 f _ (by omega) (fun k hk => absurd hk (by omega)) (fun _ _ => rfl) rfl rfl rfl rfl rfl rfl rfl rfl rfl
    · exact absurd h41 (by decide)
theorem mul_step {A c fa V d P d' c' : Nat} (h : A + c * P = fa * V) (hx : d' + c' * 1000000000 = d * fa + c) : (A + d' * P) + c' * (P * 1000000000) = fa * (V + d * P) := by
  have h1 : (d' + c' * 1000000000) * P = (d * fa + c) * P := by rw [hx]
  rw [Nat.add_mul, Nat.add_mul, Nat.mul_assoc c'] at h1
  rw [Nat.mul_add, Nat.mul_comm P 1000000000, ← Nat.mul_assoc fa d P, Nat.mul_comm fa d]
  generalize c' * (1000000000 * P) = q1 at *
  generalize d' * P = q2 at *
  generalize d * fa * P = q3 at *
  generalize c * P = q4 at *
  omega
set_option maxHeartbeats 2000000 in
/-- multiply(p, n, factor, to) -/
theorem c_multiply {x0 : jE} {rest : jW} {tp fm kp : Int32} {N : Nat} {f : Nat → Int32} {p n fa to : Nat} (hl : lm f (p + 1) n) (hp : p + n < to) (ht : to + n < N) (hN : N < 2 ^ 30) (hf0 : 0 < fa) (hf : fa ≤ 1000000000) :
    jN vwCl yX3_multiply (wc yX3_multiply cX3_multiply 10 none) 0 0 [.ref 1, .int (nI p), .int (nI n), .int (nI fa), .int (nI to)] (nW x0 tp fm kp N f rest) 0 0 (fun pw => ∃ g, pw = nW x0 tp fm kp N g rest ∧ lm g to (n + 1) ∧ vN g to (n + 1) = fa * vN f (p + 1) n ∧ ∀ j, j < to ∨ to + n < j → g j = f j) := by
  refine jN_of (cc := cX3_multiply) (nL := 10) (by decide) rfl (Nat.le_of_ble_eq_true rfl) ?_
  intro X C hX hR
  have hL : ∀ (d i : Nat) (g : Nat → Int32) (cr : Nat) (lv : Nat → Option Value), i + d = n → lm g to i → cr < fa → vN g to i + cr * 1000000000 ^ i = fa * vN f (p + 1) i → (∀ j, j < to ∨ to + n < j → g j = f j) → lv 0 = some (.ref 1) → lv 1 = some (.int (nI p)) → lv 2 = some (.int (nI n)) → lv 3 = some (.int (nI fa)) → lv 4 = some (.int (nI to)) → lv 5 = some (.long (lN cr)) → lv 7 = some (.int (nI i)) → J X 6 lv [] (nW x0 tp fm kp N g rest) 0 0 := by
    intro d
    induction d with
    | zero =>
      intro i g cr lv hd hg hc hv he h0 h1 h2 h3 h4 h5 h7
      have hi : i = n := by omega
      subst hi
      refine J_iload C dX3_multiply_6 h7 ?_
      refine J_iload_n (i := 2) C dX3_multiply_8 rfl h2 ?_
      refine J_icmp_ge (tgt := 66) C dX3_multiply_9 (by decide) (fun h9q => have h9 := (nI_leI (by omega) (by omega)).mp h9q; ?_) (fun h9q => have h9 := (not_congr (nI_leI (by omega) (by omega))).mp h9q; ?_)
      · refine J_aload_n (i := 0) C dX3_multiply_66 rfl h0 ?_
        refine J_get (ci := 6) (k := 0) C dX3_multiply_67 (inT inX3) rfl (gc flX3_X3_cell) (by decide) rfl rfl ?_
        refine J_iload C dX3_multiply_70 h4 ?_
        refine J_iload_n (i := 2) C dX3_multiply_72 rfl h2 ?_
        refine J_iadd C dX3_multiply_73 ?_
        refine J_eqi (nI_add _ _) ?_
        refine J_lload C dX3_multiply_74 h5 ?_
        refine J_l2i C dX3_multiply_76 (lN_i _) ?_
        refine J_iastN C dX3_multiply_77 rfl (by omega) (by omega) ?_
        refine hR _ _ _ _ _ dX3_multiply_78 ⟨upd g (to + i) (nI cr),rfl,lm_up hg (by omega),(vN_up (by omega)).trans hv,fun j hj => by rw [pk_un (by omega)]; exact he j (by omega)⟩ (Nat.le_of_eq hX) (Nat.le_refl _) (Nat.le_refl _)
      · exact absurd (Nat.le_refl _) h9
    | succ d ih =>
      intro i g cr lv hd hg hc hv he h0 h1 h2 h3 h4 h5 h7
      obtain ⟨a1, a2⟩ := hl i (by omega)
      have c1 : g (p + 1 + i) = nI (dg f (p + 1 + i)) := by rw [he _ (by omega)]; exact a1
      have hV : vN f (p + 1) (i + 1) = vN f (p + 1) i + dg f (p + 1 + i) * 1000000000 ^ i := rfl
      generalize dg f (p + 1 + i) = x at a1 a2 c1 hV
      have b1 : x * fa ≤ 999999999 * fa := Nat.mul_le_mul_right _ (by omega)
      refine J_iload C dX3_multiply_6 h7 ?_
      refine J_iload_n (i := 2) C dX3_multiply_8 rfl h2 ?_
      refine J_icmp_ge (tgt := 66) C dX3_multiply_9 (by decide) (fun h9q => have h9 := (nI_leI (by omega) (by omega)).mp h9q; ?_) (fun h9q => have h9 := (not_congr (nI_leI (by omega) (by omega))).mp h9q; ?_)
      · exact absurd h9 (by omega)
      · refine J_aload_n (i := 0) C dX3_multiply_12 rfl h0 ?_
        refine J_get (ci := 6) (k := 0) C dX3_multiply_13 (inT inX3) rfl (gc flX3_X3_cell) (by decide) rfl rfl ?_
        refine J_iload_n (i := 1) C dX3_multiply_16 rfl h1 ?_
        refine J_iconst (v := nI 1) C dX3_multiply_17 (by decide) ?_
        refine J_iadd C dX3_multiply_18 ?_
        refine J_eqi (nI_add _ _) ?_
        refine J_iload C dX3_multiply_19 h7 ?_
        refine J_iadd C dX3_multiply_21 ?_
        refine J_eqi (nI_add _ _) ?_
        refine J_ialdN C dX3_multiply_22 rfl (by omega) (by omega) c1 ?_
        refine J_i2l C dX3_multiply_23 (nI_l (by omega)) ?_
        refine J_iload_n (i := 3) C dX3_multiply_24 rfl h3 ?_
        refine J_i2l C dX3_multiply_25 (nI_l (by omega)) ?_
        refine J_lmul C dX3_multiply_26 ?_
        refine J_eql (lN_mul _ _) ?_
        refine J_lload C dX3_multiply_27 h5 ?_
        refine J_ladd C dX3_multiply_29 ?_
        refine J_eql (lN_add _ _) ?_
        refine J_lstore C dX3_multiply_30 (by decide) ?_
        refine J_lload C dX3_multiply_32 js2_at ?_
        refine J_ldc2 C (gc clX3_1000000000) dX3_multiply_34 ?_
        refine J_eql (y := lN 1000000000) (by decide) ?_
        refine J_ldiv C dX3_multiply_37 (lN_ne0 (by omega) (by omega)) ?_
        refine J_eql (pk_lDiv (by omega) (by omega) (by omega)) ?_
        refine J_lstore C dX3_multiply_38 (by decide) ?_
        refine J_aload_n (i := 0) C dX3_multiply_40 rfl (js2_ref (js2_ref h0 (by decide) (by decide)) (by decide) (by decide)) ?_
        refine J_get (ci := 6) (k := 0) C dX3_multiply_41 (inT inX3) rfl (gc flX3_X3_cell) (by decide) rfl rfl ?_
        refine J_iload C dX3_multiply_44 (js2_int (js2_int h4 (by decide) (by decide)) (by decide) (by decide)) ?_
        refine J_iload C dX3_multiply_46 (js2_int (js2_int h7 (by decide) (by decide)) (by decide) (by decide)) ?_
        refine J_iadd C dX3_multiply_48 ?_
        refine J_eqi (nI_add _ _) ?_
        refine J_lload C dX3_multiply_49 (js2_long js2_at (by decide) (by decide) (by decide)) ?_
        refine J_lload C dX3_multiply_51 js2_at ?_
        refine J_ldc2 C (gc clX3_1000000000) dX3_multiply_53 ?_
        refine J_eql (y := lN 1000000000) (by decide) ?_
        refine J_lmul C dX3_multiply_56 ?_
        refine J_eql (lN_mul _ _) ?_
        refine J_lsub C dX3_multiply_57 ?_
        refine J_eql (lN_sub (by omega)) ?_
        refine J_l2i C dX3_multiply_58 (lN_i _) ?_
        refine J_iastN C dX3_multiply_59 rfl (by omega) (by omega) ?_
        refine J_iinc C dX3_multiply_60 (js2_int (js2_int h7 (by decide) (by decide)) (by decide) (by decide)) (nI_1 _) ?_
        refine J_goto (tgt := 6) C dX3_multiply_63 (by decide) ?_
        refine ih (i + 1) _ _ _ (by omega) (lm_up hg (by omega)) (by omega) ?_ (fun j hj => by rw [pk_un (by omega)]; exact he j hj) (js1_ref (js2_ref (js2_ref h0 (by decide) (by decide)) (by decide) (by decide)) (by decide)) (js1_int (js2_int (js2_int h1 (by decide) (by decide)) (by decide) (by decide)) (by decide)) (js1_int (js2_int (js2_int h2 (by decide) (by decide)) (by decide) (by decide)) (by decide)) (js1_int (js2_int (js2_int h3 (by decide) (by decide)) (by decide) (by decide)) (by decide)) (js1_int (js2_int (js2_int h4 (by decide) (by decide)) (by decide) (by decide)) (by decide)) (js1_long js2_at (by decide) (by decide)) js1_at
        rw [vN_up (by omega), hV, Nat.pow_succ]
        exact mul_step hv (by omega)
  refine J_lconst (v := lN 0) C dX3_multiply_0 (by decide) ?_
  refine J_lstore C dX3_multiply_1 (by decide) ?_
  refine J_iconst (v := nI 0) C dX3_multiply_3 (by decide) ?_
  refine J_istore C dX3_multiply_4 (by decide) ?_
  refine hL n 0 f 0 _ (by omega) (fun k hk => absurd hk (by omega)) hf0 (by simp [vN]) (fun _ _ => rfl) rfl rfl rfl rfl rfl rfl rfl

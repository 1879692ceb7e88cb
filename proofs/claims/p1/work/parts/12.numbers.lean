set_option maxHeartbeats 1000000 in
/-- skip(p, 1) -/
theorem c_skip1 {x0 : jE} {rest : jW} {tp fm kp : Int32} {N : Nat} {f : Nat → Int32} {p k : Nat} (hp : p < N) (hN : N < 2 ^ 30) (hk : f p = nI k) (hk2 : k < 2 ^ 30) :
    jI vwCl yX3_skip (wc yX3_skip cX3_skip 5 (some .int)) 0 0 [.ref 1, .int (nI p), .int 1] (nW x0 tp fm kp N f rest) 0 0 (fun r pw => r = nI (p + (1 + k / 2)) ∧ pw = nW x0 tp fm kp N f rest) := by
  refine jI_of (cc := cX3_skip) (nL := 5) .int (by decide) rfl (Nat.le_of_ble_eq_true rfl) (fun _ _ _ => rfl) ?_
  intro X C hX hR
  refine J_iload_n (i := 1) C dX3_skip_0 rfl rfl ?_
  refine J_istore_n (i := 3) C dX3_skip_1 rfl (by decide) ?_
  refine J_iconst (v := 0) C dX3_skip_2 (by decide) ?_
  refine J_istore C dX3_skip_3 (by decide) ?_
  refine J_iload C dX3_skip_5 rfl ?_
  refine J_iload_n (i := 2) C dX3_skip_7 rfl rfl ?_
  refine J_icmp_ge (tgt := 30) C dX3_skip_8 (by decide) (fun h8q => ?_) (fun h8q => ?_)
  · exact absurd h8q (by decide)
  · refine J_iload_n (i := 3) C dX3_skip_11 rfl rfl ?_
    refine J_iconst (v := 1) C dX3_skip_12 (by decide) ?_
    refine J_aload_n (i := 0) C dX3_skip_13 rfl rfl ?_
    refine J_get (ci := 6) (k := 0) C dX3_skip_14 (inT inX3) rfl (gc flX3_X3_cell) (by decide) rfl rfl ?_
    refine J_iload_n (i := 3) C dX3_skip_17 rfl rfl ?_
    refine J_iald C dX3_skip_18 rfl (vp_in_nI hp (by omega)) ?_
    refine J_iconst (v := 1) C dX3_skip_19 (by decide) ?_
    refine J_ishr C dX3_skip_20 ?_
    refine J_iadd C dX3_skip_21 ?_
    refine J_iadd C dX3_skip_22 ?_
    refine J_istore_n (i := 3) C dX3_skip_23 rfl (by decide) ?_
    refine J_iinc C dX3_skip_24 rfl rfl ?_
    refine J_goto (tgt := 5) C dX3_skip_27 (by decide) ?_
    refine J_iload C dX3_skip_5 rfl ?_
    refine J_iload_n (i := 2) C dX3_skip_7 rfl rfl ?_
    refine J_icmp_ge (tgt := 30) C dX3_skip_8 (by decide) (fun h8q => ?_) (fun h8q => ?_)
    · refine J_iload_n (i := 3) C dX3_skip_30 rfl rfl ?_
      refine hR _ _ _ _ _ _ dX3_skip_31 ⟨?_,rfl⟩ (Nat.le_of_eq hX) (Nat.le_refl _) (Nat.le_refl _)
      rw [nI_clamp (by omega), hk, nI_shr1 (by omega), show (1 : Int32) = nI 1 from rfl, nI_add, nI_add]
    · exact absurd (by decide) h8q
set_option maxHeartbeats 1000000 in
/-- copied(p, 1): the number at p, once more on top -/
theorem c_copied1 {x0 : jE} {rest : jW} {fm kp : Int32} {N : Nat} {f : Nat → Int32} {t p k : Nat} (hp : p + (1 + k / 2) ≤ N) (ht : t + (1 + k / 2) ≤ N) (hN : N < 2 ^ 30) (hk : f p = nI k) (hk2 : k < 2 ^ 30) :
    jI vwCl yX3_copied (wc yX3_copied cX3_copied 5 (some .int)) 1 60 [.ref 1, .int (nI p), .int 1] (nW x0 (nI t) fm kp N f rest) 0 0 (fun r pw => r = nI t ∧ pw = nW x0 (nI (t + (1 + k / 2))) fm kp N (va_cpy f f p t (1 + k / 2)) rest) := by
  refine jI_of (cc := cX3_copied) (nL := 5) .int (by decide) rfl (Nat.le_of_ble_eq_true rfl) (fun _ _ _ => rfl) ?_
  intro X C hX hR
  refine J_aload_n (i := 0) C dX3_copied_0 rfl rfl ?_
  refine J_iload_n (i := 1) C dX3_copied_1 rfl rfl ?_
  refine J_iload_n (i := 2) C dX3_copied_2 rfl rfl ?_
  refine J_callVi C [.int (nI p), .int 1] rfl rfl 3 (c_skip1 (by omega) hN hk hk2) (gV mlX3_X3_skip imX3_skip slX3_skip iniX3 cdX3_skip) rfl dsX3_skip ⟨by decide, by decide⟩ dX3_copied_3 rfl (Nat.le_of_ble_eq_true rfl) rfl (Nat.le_of_ble_eq_true rfl) (Nat.le_of_eq hX) (Nat.le_of_ble_eq_true rfl) (Nat.le_of_ble_eq_true rfl) (fun r pw h hl => ?_)
  obtain ⟨rfl, rfl⟩ := h
  refine J_iload_n (i := 1) C dX3_copied_6 rfl rfl ?_
  refine J_isub C dX3_copied_7 ?_
  refine J_eqi (y := nI (1 + k / 2)) (by rw [pk_sub (by omega)]; congr 1; omega) ?_
  refine J_istore_n (i := 3) C dX3_copied_8 rfl (by decide) ?_
  refine J_aload_n (i := 0) C dX3_copied_9 rfl rfl ?_
  refine J_iload_n (i := 3) C dX3_copied_10 rfl rfl ?_
  refine J_callVn C [.int (nI (1 + k / 2))] rfl rfl 3 (c_room ht hN) (gV mlX3_X3_room imX3_room slX3_room iniX3 cdX3_room) rfl dsX3_room ⟨by decide, by decide⟩ dX3_copied_11 rfl (Nat.le_of_ble_eq_true rfl) rfl (Nat.le_of_ble_eq_true rfl) (Nat.le_of_eq hX) (Nat.le_of_ble_eq_true rfl) (Nat.le_of_ble_eq_true rfl) (fun pw h hl => ?_)
  subst h
  refine J_aload_n (i := 0) C dX3_copied_14 rfl rfl ?_
  refine J_get (ci := 6) (k := 1) C dX3_copied_15 (inT inX3) rfl (gc flX3_X3_top) (by decide) rfl rfl ?_
  refine J_istore C dX3_copied_18 (by decide) ?_
  refine J_aload_n (i := 0) C dX3_copied_20 rfl rfl ?_
  refine J_get (ci := 6) (k := 0) C dX3_copied_21 (inT inX3) rfl (gc flX3_X3_cell) (by decide) rfl rfl ?_
  refine J_iload_n (i := 1) C dX3_copied_24 rfl rfl ?_
  refine J_aload_n (i := 0) C dX3_copied_25 rfl rfl ?_
  refine J_get (ci := 6) (k := 0) C dX3_copied_26 (inT inX3) rfl (gc flX3_X3_cell) (by decide) rfl rfl ?_
  refine J_iload C dX3_copied_29 rfl ?_
  refine J_iload_n (i := 3) C dX3_copied_31 rfl rfl ?_
  refine J_copy C dX3_copied_32 (gc mlX3_ac) (gc acNat) (gc acSt) (gc iniSys) rfl rfl rfl rfl rfl hp ht ⟨by omega,by omega⟩ (by decide) (Nat.le_of_ble_eq_true rfl) ?_
  refine J_aload_n (i := 0) C dX3_copied_35 rfl rfl ?_
  refine J_iload C dX3_copied_36 rfl ?_
  refine J_iload_n (i := 3) C dX3_copied_38 rfl rfl ?_
  refine J_iadd C dX3_copied_39 ?_
  refine J_eqi (nI_add _ _) ?_
  refine J_put (ci := 6) C 1 tyX3 tyX3_ok nmX3 dX3_copied_40 (inT inX3) rfl (gc flX3_X3_top) (by decide) rfl (tyX3_ok 1 (by decide)) (fun _ => rfl) (fun _ => rfl) rfl (Nat.le_of_ble_eq_true rfl) ?_
  refine J_iload C dX3_copied_43 rfl ?_
  refine hR _ _ _ _ _ _ dX3_copied_45 ⟨rfl,rfl⟩ (Nat.le_of_eq hX) (Nat.le_refl _) (Nat.le_refl _)
/-- the lowest limb of a long, and what whole() lays -/
def lbL (v : Int64) : Int64 := v - v / 1000000000 * 1000000000
def lb (v : Int64) : Int32 := (if lbL v < 0 then -(lbL v) else lbL v).toInt32
def whL (f : Nat → Int32) (t : Nat) (v : Int64) : Nat → Int32 := upd (upd (upd f (t + 1) (lb v)) (t + 2) (lb (v / 1000000000))) (t + 3) (lb (v / 1000000000 / 1000000000))
def sgL (v : Int64) : Int32 := if v < 0 then 1 else 0
theorem l_nge {x : Int64} (h : ¬ x < 0) : 0 ≤ lg_cmp x 0 := (lg_cmp_ge x 0).mpr (Int64.not_lt.mp h)
theorem l_ge {x : Int64} (h : 0 ≤ lg_cmp x 0) : ¬ x < 0 := Int64.not_lt.mpr ((lg_cmp_ge x 0).mp h)
set_option maxHeartbeats 2000000 in
/-- whole(v): v on top -/
theorem c_whole {x0 : jE} {rest : jW} {fm kp : Int32} {N : Nat} {f : Nat → Int32} {t : Nat} {v : Int64} (ht : t + 4 ≤ N) (hN : N < 2 ^ 30) :
    jI vwCl yX3_whole (wc yX3_whole cX3_whole 9 (some .int)) 1 60 [.ref 1, .long v] (nW x0 (nI t) fm kp N f rest) 0 0
      (fun r pw => r = nI t ∧ pw = nW x0 (nI (t + 1 + trimN (whL f t v) t 3)) fm kp N (upd (whL f t v) t (headN (trimN (whL f t v) t 3) (sgL v))) rest) := by
  refine jI_of (cc := cX3_whole) (nL := 9) .int (by decide) rfl (Nat.le_of_ble_eq_true rfl) (fun _ _ _ => rfl) ?_
  intro X C hX hR
  -- one limb
  have hS : ∀ (i : Nat) (g : Nat → Int32) (w : Int64) (lv : Nat → Option Value), 1 ≤ i → i ≤ 3 → lv 0 = some (.ref 1) → lv 1 = some (.long v) → lv 3 = some (.int (nI t)) → lv 4 = some (.long w) → lv 6 = some (.int (nI i)) →
      (∀ lv' : Nat → Option Value, lv' 0 = some (.ref 1) → lv' 1 = some (.long v) → lv' 3 = some (.int (nI t)) → lv' 4 = some (.long (w / 1000000000)) → lv' 6 = some (.int (nI (i + 1))) → J X 16 lv' [] (nW x0 (nI t) fm kp N (upd g (t + i) (lb w)) rest) 0 0) → J X 16 lv [] (nW x0 (nI t) fm kp N g rest) 0 0 := by
    intro i g w lv hi1 hi3 h0 h1 h3 h4 h6 hk
    refine J_iload C dX3_whole_16 h6 ?_
    refine J_iconst (v := 3) C dX3_whole_18 (by decide) ?_
    refine J_icmp_gt (tgt := 69) C dX3_whole_19 (by decide) (fun h19q => ?_) (fun h19q => ?_)
    · exact absurd h19q (show ¬ nI 3 < nI i from nI_nlt hi3 (by omega))
    · refine J_lload C dX3_whole_22 h4 ?_
      refine J_ldc2 C (gc clX3_1000000000) dX3_whole_24 ?_
      refine J_lrem C dX3_whole_27 (by decide) ?_
      refine J_eql (y := lbL w) rfl ?_
      refine J_lstore C dX3_whole_28 (by decide) ?_
      have h0' := js2_ref (i := 7) (v := .long (lbL w)) h0 (by decide) (by decide)
      have h1' := js2_long (i := 7) (v := .long (lbL w)) h1 (by decide) (by decide) (by decide)
      have h3' := js2_int (i := 7) (v := .long (lbL w)) h3 (by decide) (by decide)
      have h4' := js2_long (i := 7) (v := .long (lbL w)) h4 (by decide) (by decide) (by decide)
      have h6' := js2_int (i := 7) (v := .long (lbL w)) h6 (by decide) (by decide)
      have h7' : js2 lv 7 (.long (lbL w)) 7 = some (.long (lbL w)) := js2_at
      generalize js2 lv 7 (.long (lbL w)) = lw at h0' h1' h3' h4' h6' h7'
      have hT : ∀ z : Int64, z = (if lbL w < 0 then -(lbL w) else lbL w) → J X 53 lw [.long z, .int (nI (t + i)), .ref 2] (nW x0 (nI t) fm kp N g rest) 0 0 := by
        intro z hz
        refine J_l2i C dX3_whole_53 rfl ?_
        refine J_iast C dX3_whole_54 rfl (vp_in_nI (by omega) (by omega)) ?_
        refine J_eqw (pw' := nW x0 (nI t) fm kp N (upd g (t + i) (lb w)) rest) (by rw [nI_clamp (by omega), hz]; rfl) ?_
        refine J_lload C dX3_whole_55 h4' ?_
        refine J_ldc2 C (gc clX3_1000000000) dX3_whole_57 ?_
        refine J_ldiv C dX3_whole_60 (by decide) ?_
        refine J_lstore C dX3_whole_61 (by decide) ?_
        refine J_iinc C dX3_whole_63 (js2_int h6' (by decide) (by decide)) (nI_1 _) ?_
        refine J_goto (tgt := 16) C dX3_whole_66 (by decide) ?_
        exact hk _ (js1_ref (js2_ref h0' (by decide) (by decide)) (by decide)) (js1_long (js2_long h1' (by decide) (by decide) (by decide)) (by decide) (by decide)) (js1_int (js2_int h3' (by decide) (by decide)) (by decide)) (js1_long js2_at (by decide) (by decide)) js1_at
      refine J_aload_n (i := 0) C dX3_whole_30 rfl h0' ?_
      refine J_get (ci := 6) (k := 0) C dX3_whole_31 (inT inX3) rfl (gc flX3_X3_cell) (by decide) rfl rfl ?_
      refine J_iload_n (i := 3) C dX3_whole_34 rfl h3' ?_
      refine J_iload C dX3_whole_35 h6' ?_
      refine J_iadd C dX3_whole_37 ?_
      refine J_eqi (nI_add _ _) ?_
      refine J_lload C dX3_whole_38 h7' ?_
      refine J_lconst (v := 0) C dX3_whole_40 (by decide) ?_
      refine J_lcmp C dX3_whole_41 ?_
      refine J_if_ge (tgt := 51) C dX3_whole_42 (by decide) (fun h42q => ?_) (fun h42q => ?_)
      · refine J_lload C dX3_whole_51 h7' ?_
        exact hT _ (by rw [if_neg (l_ge h42q)])
      · refine J_lload C dX3_whole_45 h7' ?_
        refine J_lneg C dX3_whole_47 ?_
        refine J_goto (tgt := 53) C dX3_whole_48 (by decide) ?_
        refine hT _ ?_
        have hl : lbL w < 0 := by
          rcases Int64.lt_or_le (lbL w) 0 with q | q
          · exact q
          · exact absurd (l_nge (Int64.not_lt.mpr q)) h42q
        rw [if_pos hl]
  -- the end
  have hE : ∀ (lv : Nat → Option Value), lv 0 = some (.ref 1) → lv 1 = some (.long v) → lv 3 = some (.int (nI t)) → lv 6 = some (.int (nI 4)) → J X 16 lv [] (nW x0 (nI t) fm kp N (whL f t v) rest) 0 0 := by
    intro lv h0 h1 h3 h6
    have hC : ∀ b : Int32, b = sgL v → J X 83 lv [.int b, .int 3, .int (nI t), .ref 1] (nW x0 (nI t) fm kp N (whL f t v) rest) 0 0 := by
      intro b hb
      subst hb
      refine J_callVi C [.int (nI t), .int 3, .int (sgL v)] rfl rfl 3 (c_closed (n := 3) (by omega) hN (by unfold sgL; by_cases q : v < 0 <;> simp [q])) (gV mlX3_X3_closed imX3_closed slX3_closed iniX3 cdX3_closed) rfl dsX3_closed ⟨by decide, by decide⟩ dX3_whole_83 rfl (Nat.le_of_ble_eq_true rfl) rfl (Nat.le_of_ble_eq_true rfl) (Nat.le_of_eq hX) (Nat.le_of_ble_eq_true rfl) (Nat.le_of_ble_eq_true rfl) (fun r pw h hl => ?_)
      obtain ⟨rfl, rfl⟩ := h
      refine hR _ _ _ _ _ _ dX3_whole_86 ⟨rfl,rfl⟩ (Nat.le_of_eq hX) (Nat.le_refl _) (Nat.le_refl _)
    refine J_iload C dX3_whole_16 h6 ?_
    refine J_iconst (v := 3) C dX3_whole_18 (by decide) ?_
    refine J_icmp_gt (tgt := 69) C dX3_whole_19 (by decide) (fun h19q => ?_) (fun h19q => ?_)
    · refine J_aload_n (i := 0) C dX3_whole_69 rfl h0 ?_
      refine J_iload_n (i := 3) C dX3_whole_70 rfl h3 ?_
      refine J_iconst (v := 3) C dX3_whole_71 (by decide) ?_
      refine J_lload_n (i := 1) C dX3_whole_72 rfl h1 ?_
      refine J_lconst (v := 0) C dX3_whole_73 (by decide) ?_
      refine J_lcmp C dX3_whole_74 ?_
      refine J_if_ge (tgt := 82) C dX3_whole_75 (by decide) (fun h75q => ?_) (fun h75q => ?_)
      · refine J_iconst (v := 0) C dX3_whole_82 (by decide) ?_
        exact hC 0 (by unfold sgL; rw [if_neg (l_ge h75q)])
      · refine J_iconst (v := 1) C dX3_whole_78 (by decide) ?_
        refine J_goto (tgt := 83) C dX3_whole_79 (by decide) ?_
        refine hC 1 ?_
        have hl : v < 0 := by
          rcases Int64.lt_or_le v 0 with q | q
          · exact q
          · exact absurd (l_nge (Int64.not_lt.mpr q)) h75q
        unfold sgL
        rw [if_pos hl]
    · exact absurd (by decide) h19q
  refine J_aload_n (i := 0) C dX3_whole_0 rfl rfl ?_
  refine J_iconst (v := 4) C dX3_whole_1 (by decide) ?_
  refine J_callVn C [.int 4] rfl rfl 3 (c_room (k := 4) ht hN) (gV mlX3_X3_room imX3_room slX3_room iniX3 cdX3_room) rfl dsX3_room ⟨by decide, by decide⟩ dX3_whole_2 rfl (Nat.le_of_ble_eq_true rfl) rfl (Nat.le_of_ble_eq_true rfl) (Nat.le_of_eq hX) (Nat.le_of_ble_eq_true rfl) (Nat.le_of_ble_eq_true rfl) (fun pw h hl => ?_)
  subst h
  refine J_aload_n (i := 0) C dX3_whole_5 rfl rfl ?_
  refine J_get (ci := 6) (k := 1) C dX3_whole_6 (inT inX3) rfl (gc flX3_X3_top) (by decide) rfl rfl ?_
  refine J_istore_n (i := 3) C dX3_whole_9 rfl (by decide) ?_
  refine J_lload_n (i := 1) C dX3_whole_10 rfl rfl ?_
  refine J_lstore C dX3_whole_11 (by decide) ?_
  refine J_iconst (v := 1) C dX3_whole_13 (by decide) ?_
  refine J_istore C dX3_whole_14 (by decide) ?_
  refine hS 1 f v _ (by decide) (by decide) rfl rfl rfl rfl rfl (fun l1 a0 a1 a3 a4 a6 => ?_)
  refine hS 2 _ _ l1 (by decide) (by decide) a0 a1 a3 a4 a6 (fun l2 b0 b1 b3 b4 b6 => ?_)
  refine hS 3 _ _ l2 (by decide) (by decide) b0 b1 b3 b4 b6 (fun l3 d0 d1 d3 d4 d6 => ?_)
  exact hE l3 d0 d1 d3 d6

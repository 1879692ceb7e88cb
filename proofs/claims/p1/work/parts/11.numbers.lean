set_option maxHeartbeats 1000000 in
/-- room(k): nothing, where the row is long enough -/
theorem c_room {x0 : jE} {rest : jW} {fm kp : Int32} {N : Nat} {f : Nat → Int32} {t k : Nat} (h : t + k ≤ N) (hN : N < 2 ^ 30) :
    jN vwCl yX3_room (wc yX3_room cX3_room 3 none) 0 0 [.ref 1, .int (nI k)] (nW x0 (nI t) fm kp N f rest) 0 0 (fun pw => pw = nW x0 (nI t) fm kp N f rest) := by
  refine jN_of (cc := cX3_room) (nL := 3) (by decide) rfl (Nat.le_of_ble_eq_true rfl) ?_
  intro X C hX hR
  refine J_aload_n (i := 0) C dX3_room_0 rfl rfl ?_
  refine J_get (ci := 6) (k := 1) C dX3_room_1 (inT inX3) rfl (gc flX3_X3_top) (by decide) rfl rfl ?_
  refine J_iload_n (i := 1) C dX3_room_4 rfl rfl ?_
  refine J_iadd C dX3_room_5 ?_
  refine J_istore_n (i := 2) C dX3_room_6 rfl (by decide) ?_
  refine J_iload_n (i := 2) C dX3_room_7 rfl rfl ?_
  refine J_aload_n (i := 0) C dX3_room_8 rfl rfl ?_
  refine J_get (ci := 6) (k := 0) C dX3_room_9 (inT inX3) rfl (gc flX3_X3_cell) (by decide) rfl rfl ?_
  refine J_alen C dX3_room_12 rfl rfl ?_
  refine J_icmp_le (tgt := 38) C dX3_room_13 (by decide) (fun h13q => ?_) (fun h13q => ?_)
  · refine hR _ _ _ _ _ dX3_room_38 rfl (Nat.le_of_eq hX) (Nat.le_refl _) (Nat.le_refl _)
  · refine absurd ?_ h13q
    show nI t + nI k ≤ nI N
    rw [nI_add]
    exact nI_le h (by omega)
set_option maxHeartbeats 1000000 in
/-- isBelow(p) -/
theorem c_isBelow {x0 : jE} {rest : jW} {tp fm kp : Int32} {N : Nat} {f : Nat → Int32} {p : Nat} (h : p < N) (hN : N < 2 ^ 30) :
    jI vwCl yX3_isBelow (wc yX3_isBelow cX3_isBelow 2 (some .boolean)) 0 0 [.ref 1, .int (nI p)] (nW x0 tp fm kp N f rest) 0 0 (fun r pw => r = (if f p &&& 1 = 1 then 1 else 0) ∧ pw = nW x0 tp fm kp N f rest) := by
  refine jI_of (cc := cX3_isBelow) (nL := 2) .boolean (by decide) rfl (Nat.le_of_ble_eq_true rfl) ?_ ?_
  · intro r pw hp
    rw [hp.1]
    by_cases e : f p &&& 1 = 1
    · rw [if_pos e]; rfl
    · rw [if_neg e]; rfl
  intro X C hX hR
  have ec : (nI p).toNatClampNeg = p := nI_clamp (by omega)
  refine J_aload_n (i := 0) C dX3_isBelow_0 rfl rfl ?_
  refine J_get (ci := 6) (k := 0) C dX3_isBelow_1 (inT inX3) rfl (gc flX3_X3_cell) (by decide) rfl rfl ?_
  refine J_iload_n (i := 1) C dX3_isBelow_4 rfl rfl ?_
  refine J_iald C dX3_isBelow_5 rfl (vp_in_nI h (by omega)) ?_
  refine J_iconst (v := 1) C dX3_isBelow_6 (by decide) ?_
  refine J_iand C dX3_isBelow_7 ?_
  refine J_iconst (v := 1) C dX3_isBelow_8 (by decide) ?_
  refine J_icmp_ne (tgt := 16) C dX3_isBelow_9 (by decide) (fun h9q => ?_) (fun h9q => ?_)
  · refine J_iconst (v := 0) C dX3_isBelow_16 (by decide) ?_
    refine hR _ _ _ _ _ _ dX3_isBelow_17 ⟨?_,rfl⟩ (Nat.le_of_eq hX) (Nat.le_refl _) (Nat.le_refl _)
    rw [ec] at h9q
    rw [if_neg h9q]
  · refine J_iconst (v := 1) C dX3_isBelow_12 (by decide) ?_
    refine J_goto (tgt := 17) C dX3_isBelow_13 (by decide) ?_
    refine hR _ _ _ _ _ _ dX3_isBelow_17 ⟨?_,rfl⟩ (Nat.le_of_eq hX) (Nat.le_refl _) (Nat.le_refl _)
    rw [ec] at h9q
    rw [if_pos h9q]
set_option maxHeartbeats 1000000 in
/-- signAt(p) -/
theorem c_signAt {x0 : jE} {rest : jW} {tp fm kp : Int32} {N : Nat} {f : Nat → Int32} {p : Nat} (h : p < N) (hN : N < 2 ^ 30) :
    jI vwCl yX3_signAt (wc yX3_signAt cX3_signAt 2 (some .int)) 0 0 [.ref 1, .int (nI p)] (nW x0 tp fm kp N f rest) 0 0 (fun r pw => r = (if f p = 0 then 0 else 1 - 2 * (f p &&& 1)) ∧ pw = nW x0 tp fm kp N f rest) := by
  refine jI_of (cc := cX3_signAt) (nL := 2) .int (by decide) rfl (Nat.le_of_ble_eq_true rfl) (fun _ _ _ => rfl) ?_
  intro X C hX hR
  have ec : (nI p).toNatClampNeg = p := nI_clamp (by omega)
  refine J_aload_n (i := 0) C dX3_signAt_0 rfl rfl ?_
  refine J_get (ci := 6) (k := 0) C dX3_signAt_1 (inT inX3) rfl (gc flX3_X3_cell) (by decide) rfl rfl ?_
  refine J_iload_n (i := 1) C dX3_signAt_4 rfl rfl ?_
  refine J_iald C dX3_signAt_5 rfl (vp_in_nI h (by omega)) ?_
  refine J_if_ne (tgt := 13) C dX3_signAt_6 (by decide) (fun h6q => ?_) (fun h6q => ?_)
  · rw [ec] at h6q
    refine J_iconst (v := 1) C dX3_signAt_13 (by decide) ?_
    refine J_iconst (v := 2) C dX3_signAt_14 (by decide) ?_
    refine J_aload_n (i := 0) C dX3_signAt_15 rfl rfl ?_
    refine J_get (ci := 6) (k := 0) C dX3_signAt_16 (inT inX3) rfl (gc flX3_X3_cell) (by decide) rfl rfl ?_
    refine J_iload_n (i := 1) C dX3_signAt_19 rfl rfl ?_
    refine J_iald C dX3_signAt_20 rfl (vp_in_nI h (by omega)) ?_
    refine J_iconst (v := 1) C dX3_signAt_21 (by decide) ?_
    refine J_iand C dX3_signAt_22 ?_
    refine J_imul C dX3_signAt_23 ?_
    refine J_isub C dX3_signAt_24 ?_
    refine hR _ _ _ _ _ _ dX3_signAt_25 ⟨?_,rfl⟩ (Nat.le_of_eq hX) (Nat.le_refl _) (Nat.le_refl _)
    rw [if_neg h6q, ec]
  · rw [ec] at h6q
    refine J_iconst (v := 0) C dX3_signAt_9 (by decide) ?_
    refine J_goto (tgt := 25) C dX3_signAt_10 (by decide) ?_
    refine hR _ _ _ _ _ _ dX3_signAt_25 ⟨?_,rfl⟩ (Nat.le_of_eq hX) (Nat.le_refl _) (Nat.le_refl _)
    rw [if_pos h6q]
set_option maxHeartbeats 1000000 in
/-- settle(), rest() -/
theorem c_settle {x0 : jE} {rest : jW} {tp fm kp : Int32} {N : Nat} {f : Nat → Int32} :
    jN vwCl yX3_settle (wc yX3_settle cX3_settle 1 none) 0 0 [.ref 1] (nW x0 tp fm kp N f rest) 0 0 (fun pw => pw = nW x0 tp tp tp N f rest) := by
  refine jN_of (cc := cX3_settle) (nL := 1) (by decide) rfl (Nat.le_of_ble_eq_true rfl) ?_
  intro X C hX hR
  refine J_aload_n (i := 0) C dX3_settle_0 rfl rfl ?_
  refine J_aload_n (i := 0) C dX3_settle_1 rfl rfl ?_
  refine J_get (ci := 6) (k := 1) C dX3_settle_2 (inT inX3) rfl (gc flX3_X3_top) (by decide) rfl rfl ?_
  refine J_put (ci := 6) C 2 tyX3 tyX3_ok nmX3 dX3_settle_5 (inT inX3) rfl (gc flX3_X3_firm) (by decide) rfl (tyX3_ok 2 (by decide)) (fun _ => rfl) (fun _ => rfl) rfl (Nat.le_of_ble_eq_true rfl) ?_
  refine J_aload_n (i := 0) C dX3_settle_8 rfl rfl ?_
  refine J_aload_n (i := 0) C dX3_settle_9 rfl rfl ?_
  refine J_get (ci := 6) (k := 1) C dX3_settle_10 (inT inX3) rfl (gc flX3_X3_top) (by decide) rfl rfl ?_
  refine J_put (ci := 6) C 3 tyX3 tyX3_ok nmX3 dX3_settle_13 (inT inX3) rfl (gc flX3_X3_kept) (by decide) rfl (tyX3_ok 3 (by decide)) (fun _ => rfl) (fun _ => rfl) rfl (Nat.le_of_ble_eq_true rfl) ?_
  refine hR _ _ _ _ _ dX3_settle_16 rfl (Nat.le_of_eq hX) (Nat.le_refl _) (Nat.le_refl _)
set_option maxHeartbeats 1000000 in
theorem c_rest {x0 : jE} {rest : jW} {tp fm kp : Int32} {N : Nat} {f : Nat → Int32} :
    jN vwCl yX3_rest (wc yX3_rest cX3_rest 1 none) 0 0 [.ref 1] (nW x0 tp fm kp N f rest) 0 0 (fun pw => pw = nW x0 kp fm kp N f rest) := by
  refine jN_of (cc := cX3_rest) (nL := 1) (by decide) rfl (Nat.le_of_ble_eq_true rfl) ?_
  intro X C hX hR
  refine J_aload_n (i := 0) C dX3_rest_0 rfl rfl ?_
  refine J_aload_n (i := 0) C dX3_rest_1 rfl rfl ?_
  refine J_get (ci := 6) (k := 3) C dX3_rest_2 (inT inX3) rfl (gc flX3_X3_kept) (by decide) rfl rfl ?_
  refine J_put (ci := 6) C 1 tyX3 tyX3_ok nmX3 dX3_rest_5 (inT inX3) rfl (gc flX3_X3_top) (by decide) rfl (tyX3_ok 1 (by decide)) (fun _ => rfl) (fun _ => rfl) rfl (Nat.le_of_ble_eq_true rfl) ?_
  refine hR _ _ _ _ _ dX3_rest_8 rfl (Nat.le_of_eq hX) (Nat.le_refl _) (Nat.le_refl _)
set_option maxHeartbeats 1000000 in
/-- slid(to, from): all from an address to the top, moved down -/
theorem c_slid {x0 : jE} {rest : jW} {fm kp : Int32} {N : Nat} {f : Nat → Int32} {t a b : Nat} (h1 : b ≤ t) (h2 : a ≤ b) (h3 : t ≤ N) (hN : N < 2 ^ 30) :
    jI vwCl yX3_slid (wc yX3_slid cX3_slid 4 (some .int)) 1 60 [.ref 1, .int (nI a), .int (nI b)] (nW x0 (nI t) fm kp N f rest) 0 0 (fun r pw => r = nI a ∧ pw = nW x0 (nI (a + (t - b))) fm kp N (va_cpy f f b a (t - b)) rest) := by
  refine jI_of (cc := cX3_slid) (nL := 4) .int (by decide) rfl (Nat.le_of_ble_eq_true rfl) (fun _ _ _ => rfl) ?_
  intro X C hX hR
  refine J_aload_n (i := 0) C dX3_slid_0 rfl rfl ?_
  refine J_get (ci := 6) (k := 1) C dX3_slid_1 (inT inX3) rfl (gc flX3_X3_top) (by decide) rfl rfl ?_
  refine J_iload_n (i := 2) C dX3_slid_4 rfl rfl ?_
  refine J_isub C dX3_slid_5 ?_
  refine J_eqi (pk_sub h1) ?_
  refine J_istore_n (i := 3) C dX3_slid_6 rfl (by decide) ?_
  refine J_aload_n (i := 0) C dX3_slid_7 rfl rfl ?_
  refine J_get (ci := 6) (k := 0) C dX3_slid_8 (inT inX3) rfl (gc flX3_X3_cell) (by decide) rfl rfl ?_
  refine J_iload_n (i := 2) C dX3_slid_11 rfl rfl ?_
  refine J_aload_n (i := 0) C dX3_slid_12 rfl rfl ?_
  refine J_get (ci := 6) (k := 0) C dX3_slid_13 (inT inX3) rfl (gc flX3_X3_cell) (by decide) rfl rfl ?_
  refine J_iload_n (i := 1) C dX3_slid_16 rfl rfl ?_
  refine J_iload_n (i := 3) C dX3_slid_17 rfl rfl ?_
  refine J_copy C dX3_slid_18 (gc mlX3_ac) (gc acNat) (gc acSt) (gc iniSys) rfl rfl rfl rfl rfl (by omega) (by omega) ⟨by omega,by omega⟩ (by decide) (Nat.le_of_ble_eq_true rfl) ?_
  refine J_aload_n (i := 0) C dX3_slid_21 rfl rfl ?_
  refine J_iload_n (i := 1) C dX3_slid_22 rfl rfl ?_
  refine J_iload_n (i := 3) C dX3_slid_23 rfl rfl ?_
  refine J_iadd C dX3_slid_24 ?_
  refine J_eqi (nI_add _ _) ?_
  refine J_put (ci := 6) C 1 tyX3 tyX3_ok nmX3 dX3_slid_25 (inT inX3) rfl (gc flX3_X3_top) (by decide) rfl (tyX3_ok 1 (by decide)) (fun _ => rfl) (fun _ => rfl) rfl (Nat.le_of_ble_eq_true rfl) ?_
  refine J_iload_n (i := 1) C dX3_slid_28 rfl rfl ?_
  refine hR _ _ _ _ _ _ dX3_slid_29 ⟨rfl,rfl⟩ (Nat.le_of_eq hX) (Nat.le_refl _) (Nat.le_refl _)

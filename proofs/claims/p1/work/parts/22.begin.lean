def bl (x : Int32) : Int32 := if x &&& 1 = 1 then 1 else 0
theorem bl_in (x : Int32) : bl x = 0 ∨ bl x = 1 := by
  unfold bl
  by_cases h : x &&& 1 = 1 <;> simp [h]
def raN (f : Nat → Int32) (t p n m : Nat) : Nat → Int32 := va_cpy (fillN f (t + 1) (t + 1 + n) 0) (fillN f (t + 1) (t + 1 + n) 0) (p + 1) (t + 1 + n) m
set_option maxHeartbeats 2000000 in
/-- raised(p, n) -/
theorem c_raised {x0 : jE} {rest : jW} {fm kp : Int32} {N : Nat} {f : Nat → Int32} {t p k n : Nat} (hp : p + 1 + k / 2 ≤ t) (ht : t + (k / 2 + n + 1) ≤ N) (hN : N < 2 ^ 30) (hk : f p = nI k) (hk2 : k < 2 ^ 30) :
    jI vwCl yX3_raised (wc yX3_raised cX3_raised 5 (some .int)) 2 120 [.ref 1, .int (nI p), .int (nI n)] (nW x0 (nI t) fm kp N f rest) 0 0
      (fun r pw => r = nI t ∧ pw = nW x0 (nI (t + 1 + trimN (raN f t p n (k / 2)) t (k / 2 + n))) fm kp N (upd (raN f t p n (k / 2)) t (headN (trimN (raN f t p n (k / 2)) t (k / 2 + n)) (bl (nI k)))) rest) := by
  refine jI_of (cc := cX3_raised) (nL := 5) .int (by decide) rfl (Nat.le_of_ble_eq_true rfl) (fun _ _ _ => rfl) ?_
  intro X C hX hR
  have e0 : raN f t p n (k / 2) p = f p := by
    unfold raN
    rw [pk_cpy_out (by omega)]
    unfold fillN
    rw [if_neg (by omega)]
  refine J_aload_n (i := 0) C dX3_raised_0 rfl rfl ?_
  refine J_get (ci := 6) (k := 0) C dX3_raised_1 (inT inX3) rfl (gc flX3_X3_cell) (by decide) rfl rfl ?_
  refine J_iload_n (i := 1) C dX3_raised_4 rfl rfl ?_
  refine J_iald C dX3_raised_5 rfl (vp_in_nI (show p < N by omega) (by omega)) ?_
  refine J_eqi (y := nI k) (by rw [nI_clamp (by omega), hk]) ?_
  refine J_iconst (v := 1) C dX3_raised_6 (by decide) ?_
  refine J_ishr C dX3_raised_7 ?_
  refine J_eqi (nI_shr1 (by omega)) ?_
  refine J_istore_n (i := 3) C dX3_raised_8 rfl (by decide) ?_
  refine J_aload_n (i := 0) C dX3_raised_9 rfl rfl ?_
  refine J_iload_n (i := 3) C dX3_raised_10 rfl rfl ?_
  refine J_iload_n (i := 2) C dX3_raised_11 rfl rfl ?_
  refine J_iadd C dX3_raised_12 ?_
  refine J_eqi (nI_add _ _) ?_
  refine J_iconst (v := 1) C dX3_raised_13 (by decide) ?_
  refine J_iadd C dX3_raised_14 ?_
  refine J_eqi (nI_1 _) ?_
  refine J_callVn C [.int (nI (k / 2 + n + 1))] rfl rfl 3 (c_room ht hN) (gV mlX3_X3_room imX3_room slX3_room iniX3 cdX3_room) rfl dsX3_room ⟨by decide, by decide⟩ dX3_raised_15 rfl (Nat.le_of_ble_eq_true rfl) rfl (Nat.le_of_ble_eq_true rfl) (Nat.le_of_eq hX) (Nat.le_of_ble_eq_true rfl) (Nat.le_of_ble_eq_true rfl) (fun pw h hl => ?_)
  subst h
  refine J_aload_n (i := 0) C dX3_raised_18 rfl rfl ?_
  refine J_get (ci := 6) (k := 1) C dX3_raised_19 (inT inX3) rfl (gc flX3_X3_top) (by decide) rfl rfl ?_
  refine J_istore C dX3_raised_22 (by decide) ?_
  refine J_aload_n (i := 0) C dX3_raised_24 rfl rfl ?_
  refine J_get (ci := 6) (k := 0) C dX3_raised_25 (inT inX3) rfl (gc flX3_X3_cell) (by decide) rfl rfl ?_
  refine J_iload C dX3_raised_28 rfl ?_
  refine J_iconst (v := 1) C dX3_raised_30 (by decide) ?_
  refine J_iadd C dX3_raised_31 ?_
  refine J_eqi (nI_1 t) ?_
  refine J_iload C dX3_raised_32 rfl ?_
  refine J_iconst (v := 1) C dX3_raised_34 (by decide) ?_
  refine J_iadd C dX3_raised_35 ?_
  refine J_eqi (nI_1 t) ?_
  refine J_iload_n (i := 2) C dX3_raised_36 rfl rfl ?_
  refine J_iadd C dX3_raised_37 ?_
  refine J_eqi (nI_add _ _) ?_
  refine J_iconst (v := 0) C dX3_raised_38 (by decide) ?_
  refine J_callTn C [.ref 2, .int (nI (t + 1)), .int (nI (t + 1 + n)), .int 0] 3 (c_fill (by omega) (by omega) hN) (gI cdJ7_fill_fda19) (gc iniJ7) (gc mlX3_J7_fill_fda19) (gc stJ7_fill_fda19) rfl dsJ7_fill_fda19.2 ⟨by decide, by decide⟩ dX3_raised_39 rfl (Nat.le_of_ble_eq_true rfl) rfl (Nat.le_of_ble_eq_true rfl) (Nat.le_of_eq hX) (Nat.le_of_ble_eq_true rfl) (Nat.le_of_ble_eq_true rfl) (fun pw h hl => ?_)
  subst h
  refine J_aload_n (i := 0) C dX3_raised_42 rfl rfl ?_
  refine J_get (ci := 6) (k := 0) C dX3_raised_43 (inT inX3) rfl (gc flX3_X3_cell) (by decide) rfl rfl ?_
  refine J_iload_n (i := 1) C dX3_raised_46 rfl rfl ?_
  refine J_iconst (v := 1) C dX3_raised_47 (by decide) ?_
  refine J_iadd C dX3_raised_48 ?_
  refine J_eqi (nI_1 p) ?_
  refine J_aload_n (i := 0) C dX3_raised_49 rfl rfl ?_
  refine J_get (ci := 6) (k := 0) C dX3_raised_50 (inT inX3) rfl (gc flX3_X3_cell) (by decide) rfl rfl ?_
  refine J_iload C dX3_raised_53 rfl ?_
  refine J_iconst (v := 1) C dX3_raised_55 (by decide) ?_
  refine J_iadd C dX3_raised_56 ?_
  refine J_eqi (nI_1 t) ?_
  refine J_iload_n (i := 2) C dX3_raised_57 rfl rfl ?_
  refine J_iadd C dX3_raised_58 ?_
  refine J_eqi (nI_add _ _) ?_
  refine J_iload_n (i := 3) C dX3_raised_59 rfl rfl ?_
  refine J_copy C dX3_raised_60 (gc mlX3_ac) (gc acNat) (gc acSt) (gc iniSys) rfl rfl rfl rfl rfl (by omega) (by omega) ⟨by omega,by omega⟩ (by decide) (Nat.le_of_ble_eq_true rfl) ?_
  refine J_aload_n (i := 0) C dX3_raised_63 rfl rfl ?_
  refine J_iload C dX3_raised_64 rfl ?_
  refine J_iload_n (i := 3) C dX3_raised_66 rfl rfl ?_
  refine J_iload_n (i := 2) C dX3_raised_67 rfl rfl ?_
  refine J_iadd C dX3_raised_68 ?_
  refine J_eqi (nI_add _ _) ?_
  refine J_aload_n (i := 0) C dX3_raised_69 rfl rfl ?_
  refine J_iload_n (i := 1) C dX3_raised_70 rfl rfl ?_
  refine J_callVi C [.int (nI p)] rfl rfl 3 (c_isBelow (f := raN f t p n (k / 2)) (show p < N by omega) hN) (gV mlX3_X3_isBelow imX3_isBelow slX3_isBelow iniX3 cdX3_isBelow) rfl dsX3_isBelow ⟨by decide, by decide⟩ dX3_raised_71 rfl (Nat.le_of_ble_eq_true rfl) rfl (Nat.le_of_ble_eq_true rfl) (Nat.le_of_eq hX) (Nat.le_of_ble_eq_true rfl) (Nat.le_of_ble_eq_true rfl) (fun r pw h hl => ?_)
  obtain ⟨rfl, rfl⟩ := h
  refine J_eqi (y := bl (nI k)) (by rw [e0, hk]; rfl) ?_
  refine J_callVi C [.int (nI t), .int (nI (k / 2 + n)), .int (bl (nI k))] rfl rfl 3 (c_closed (by omega) hN (bl_in _)) (gV mlX3_X3_closed imX3_closed slX3_closed iniX3 cdX3_closed) rfl dsX3_closed ⟨by decide, by decide⟩ dX3_raised_74 rfl (Nat.le_of_ble_eq_true rfl) rfl (Nat.le_of_ble_eq_true rfl) (Nat.le_of_eq hX) (Nat.le_of_ble_eq_true rfl) (Nat.le_of_ble_eq_true rfl) (fun r pw h hl => ?_)
  obtain ⟨rfl, rfl⟩ := h
  refine hR _ _ _ _ _ _ dX3_raised_77 ⟨rfl,rfl⟩ (Nat.le_of_eq hX) (Nat.le_refl _) (Nat.le_refl _)
/-- the row of limbs after whole(v) at t -/
def whF (f : Nat → Int32) (t : Nat) (v : Int64) : Nat → Int32 := upd (whL f t v) t (headN (trimN (whL f t v) t 3) (sgL v))
def whT (f : Nat → Int32) (t : Nat) (v : Int64) : Nat := t + 1 + trimN (whL f t v) t 3
def rsF (f : Nat → Int32) : Nat → Int32 := whF (whF (whF f 0 0) 64 1) 128 1
def rsT (f : Nat → Int32) : Nat := whT (whF (whF f 0 0) 64 1) 128 1
set_option maxHeartbeats 2000000 in
/-- reset() -/
theorem c_X3_reset {x0 : jE} {rest : jW} {tp fm kp : Int32} {N : Nat} {f : Nat → Int32} (hN2 : 200 ≤ N) (hN : N < 2 ^ 30) :
    jN vwCl yX3_reset (wc yX3_reset cX3_reset 1 none) 2 120 [.ref 1] (nW x0 tp fm kp N f rest) 0 0 (fun pw => pw = nW x0 (nI (rsT f)) fm kp N (rsF f) rest) := by
  refine jN_of (cc := cX3_reset) (nL := 1) (by decide) rfl (Nat.le_of_ble_eq_true rfl) ?_
  intro X C hX hR
  refine J_aload_n (i := 0) C dX3_reset_0 rfl rfl ?_
  refine J_iconst (v := 0) C dX3_reset_1 (by decide) ?_
  refine J_put (ci := 6) C 1 tyX3 tyX3_ok nmX3 dX3_reset_2 (inT inX3) rfl (gc flX3_X3_top) (by decide) rfl (tyX3_ok 1 (by decide)) (fun _ => rfl) (fun _ => rfl) rfl (Nat.le_of_ble_eq_true rfl) ?_
  refine J_aload_n (i := 0) C dX3_reset_5 rfl rfl ?_
  refine J_lconst (v := 0) C dX3_reset_6 (by decide) ?_
  refine J_callVi C [.long 0] rfl rfl 3 (c_whole (t := 0) (by omega) hN) (gV mlX3_X3_whole imX3_whole slX3_whole iniX3 cdX3_whole) rfl dsX3_whole ⟨by decide, by decide⟩ dX3_reset_7 rfl (Nat.le_of_ble_eq_true rfl) rfl (Nat.le_of_ble_eq_true rfl) (Nat.le_of_eq hX) (Nat.le_of_ble_eq_true rfl) (Nat.le_of_ble_eq_true rfl) (fun r pw h hl => ?_)
  obtain ⟨rfl, rfl⟩ := h
  refine J_pop C dX3_reset_10 rfl ?_
  refine J_aload_n (i := 0) C dX3_reset_11 rfl rfl ?_
  refine J_bipush (v := 64) C dX3_reset_12 (by decide) ?_
  refine J_put (ci := 6) C 1 tyX3 tyX3_ok nmX3 dX3_reset_14 (inT inX3) rfl (gc flX3_X3_top) (by decide) rfl (tyX3_ok 1 (by decide)) (fun _ => rfl) (fun _ => rfl) rfl (Nat.le_of_ble_eq_true rfl) ?_
  refine J_aload_n (i := 0) C dX3_reset_17 rfl rfl ?_
  refine J_lconst (v := 1) C dX3_reset_18 (by decide) ?_
  refine J_callVi C [.long 1] rfl rfl 3 (c_whole (t := 64) (f := whF f 0 0) (by omega) hN) (gV mlX3_X3_whole imX3_whole slX3_whole iniX3 cdX3_whole) rfl dsX3_whole ⟨by decide, by decide⟩ dX3_reset_19 rfl (Nat.le_of_ble_eq_true rfl) rfl (Nat.le_of_ble_eq_true rfl) (Nat.le_of_eq hX) (Nat.le_of_ble_eq_true rfl) (Nat.le_of_ble_eq_true rfl) (fun r pw h hl => ?_)
  obtain ⟨rfl, rfl⟩ := h
  refine J_pop C dX3_reset_22 rfl ?_
  refine J_aload_n (i := 0) C dX3_reset_23 rfl rfl ?_
  refine J_sipush (v := 128) C dX3_reset_24 (by decide) ?_
  refine J_put (ci := 6) C 1 tyX3 tyX3_ok nmX3 dX3_reset_27 (inT inX3) rfl (gc flX3_X3_top) (by decide) rfl (tyX3_ok 1 (by decide)) (fun _ => rfl) (fun _ => rfl) rfl (Nat.le_of_ble_eq_true rfl) ?_
  refine J_aload_n (i := 0) C dX3_reset_30 rfl rfl ?_
  refine J_lconst (v := 1) C dX3_reset_31 (by decide) ?_
  refine J_callVi C [.long 1] rfl rfl 3 (c_whole (t := 128) (f := whF (whF f 0 0) 64 1) (by omega) hN) (gV mlX3_X3_whole imX3_whole slX3_whole iniX3 cdX3_whole) rfl dsX3_whole ⟨by decide, by decide⟩ dX3_reset_32 rfl (Nat.le_of_ble_eq_true rfl) rfl (Nat.le_of_ble_eq_true rfl) (Nat.le_of_eq hX) (Nat.le_of_ble_eq_true rfl) (Nat.le_of_ble_eq_true rfl) (fun r pw h hl => ?_)
  obtain ⟨rfl, rfl⟩ := h
  refine J_pop C dX3_reset_35 rfl ?_
  refine hR _ _ _ _ _ dX3_reset_36 rfl (Nat.le_of_eq hX) (Nat.le_refl _) (Nat.le_refl _)

/-! THE START: classes, array classes, the statics -/
theorem st_J0 : ∀ w ∈ u_ws RJ0 TJ0 4, w ∈ lw_tbl := by decide +kernel
theorem st_J4 : ∀ w ∈ u_ws RJ4 TJ4 4, w ∈ lw_tbl := by decide +kernel
theorem st_Jx : ∀ w ∈ u_ws RJx00060 TJx00060 6, w ∈ lw_tbl := by decide +kernel
theorem gT_tbl {w : Cond} (h : w ∈ gT) : w ∈ lw_tbl := (List.mem_filter.mp h).1
set_option maxHeartbeats 2000000 in
theorem st_K {s : State} {args : Array Value} (hts : ∀ w ∈ lw_tbl, w.before args s = true) : ∃ (D : va_G) (ty : FieldType → ClassId), va_K D vwCl (jtys ty) s := by
  have hi : ∀ {C : String} {n : Nat}, Cond.instantiable C n ∈ lw_tbl → (Cond.instantiable C n).before args s = true := fun h => hts _ h
  obtain ⟨c0, i0, k0⟩ := u_known (C := RJ0) (T := TJ0) (N := 4) (n := 4) hts st_J0 (hi (by decide +kernel))
  obtain ⟨c1, i1, k1⟩ := u_known (C := RJ4) (T := TJ4) (N := 4) (n := 4) hts st_J4 (hi (by decide +kernel))
  obtain ⟨c2, i2, k2⟩ := u_known (C := RJx00060) (T := TJx00060) (N := 6) (n := 6) hts st_Jx (hi (by decide +kernel))
  obtain ⟨c3, i3, k3⟩ := u_known (C := RX0) (T := TX0) (N := 7) (n := 7) hts (fun w h => gT_tbl (inX0 w h)) (hi (by decide +kernel))
  obtain ⟨c4, i4, k4⟩ := u_known (C := RX1) (T := TX1) (N := 4) (n := 4) hts (fun w h => gT_tbl (inX1 w h)) (hi (by decide +kernel))
  obtain ⟨c5, i5, k5⟩ := u_known (C := RX2) (T := TX2) (N := 6) (n := 6) hts (fun w h => gT_tbl (inX2 w h)) (hi (by decide +kernel))
  obtain ⟨c6, i6, k6⟩ := u_known (C := RX3) (T := TX3) (N := 4) (n := 4) hts (fun w h => gT_tbl (inX3 w h)) (hi (by decide +kernel))
  obtain ⟨c7, i7, k7⟩ := u_known (C := RX4) (T := TX4) (N := 3) (n := 3) hts (fun w h => gT_tbl (inX4 w h)) (hi (by decide +kernel))
  obtain ⟨c8, i8, k8⟩ := u_known (C := RX5) (T := TX5) (N := 5) (n := 5) hts (fun w h => gT_tbl (inX5 w h)) (hi (by decide +kernel))
  obtain ⟨c9, i9, k9⟩ := u_known (C := RX6) (T := TX6) (N := 5) (n := 5) hts (fun w h => gT_tbl (inX6 w h)) (hi (by decide +kernel))
  obtain ⟨c10, i10, k10⟩ := u_known (C := RX7) (T := TX7) (N := 16) (n := 16) hts (fun w h => gT_tbl (inX7 w h)) (hi (by decide +kernel))
  obtain ⟨a1, b1, d1, e1, f1, g1⟩ := Cond.arrayClass_spec (hts _ (gT_tbl arr_int))
  obtain ⟨a2, b2, d2, e2, f2, g2⟩ := Cond.arrayClass_spec (hts _ (gT_tbl arr_long))
  obtain ⟨a3, b3, d3, e3, f3, g3⟩ := Cond.arrayClass_spec (hts _ (gT_tbl arr_byte))
  refine ⟨(fun k => match k with | 0 => c0 | 1 => c1 | 2 => c2 | 3 => c3 | 4 => c4 | 5 => c5 | 6 => c6 | 7 => c7 | 8 => c8 | 9 => c9 | _ => c10, fun k => match k with | 0 => i0 | 1 => i1 | 2 => i2 | 3 => i3 | 4 => i4 | 5 => i5 | 6 => i6 | 7 => i7 | 8 => i8 | 9 => i9 | _ => i10), fun t => match t with | .int => a1 | .long => a2 | _ => a3, ?_, ?_⟩
  · intro k q hq
    match k, hq with
    | 0, hq => cases hq; exact k0
    | 1, hq => cases hq; exact k1
    | 2, hq => cases hq; exact k2
    | 3, hq => cases hq; exact k3
    | 4, hq => cases hq; exact k4
    | 5, hq => cases hq; exact k5
    | 6, hq => cases hq; exact k6
    | 7, hq => cases hq; exact k7
    | 8, hq => cases hq; exact k8
    | 9, hq => cases hq; exact k9
    | 10, hq => cases hq; exact k10
    | k + 11, hq => simp at hq
  · intro k q hq
    match k, hq with
    | 0, hq => cases hq; exact ⟨fun n z => ⟨fun k h => (by cases h), b1, f1, d1, g1⟩, e1⟩
    | 1, hq => cases hq; exact ⟨fun n z => ⟨fun k h => (by cases h), b2, f2, d2, g2⟩, e2⟩
    | 2, hq => cases hq; exact ⟨fun n z => ⟨fun k h => (by cases h), b3, f3, d3, g3⟩, e3⟩
    | k + 3, hq => simp [jtys] at hq
abbrev tensT : Term := .static "RootTowers$Numbers" "TENS" "[I"
set_option maxHeartbeats 2000000 in
/-- the row TENS -/
theorem st_Z {s : State} {args : Array Value} (hts : ∀ w ∈ lw_tbl, w.before args s = true) (hgv : (Jvm.Cond.and given_1 narrow_1).before args s = true) : ∃ t : Nat, va_Z "RootTowers$Numbers" "TENS" "[I" (.ref t) (fun q => s.heap.size ≤ q) s s.heap ∧ va_T .int t 10 (fun j => .int (nI (10 ^ j))) (fun q => s.heap.size ≤ q) s s.heap := by
  have hs := flat_of_before _ hgv
  have hA : ∀ a : Nat, a < s.heap.size → ¬ (fun q => s.heap.size ≤ q) a := fun a h => Nat.not_le.mpr h
  have hel : ∀ j : Nat, j < 10 → (Term.elem tensT (.int (Int32.ofNat j))).eval args s none [] s = some (.int (nI (10 ^ j))) := by
    intro j hj
    rcases (show j = 0 ∨ j = 1 ∨ j = 2 ∨ j = 3 ∨ j = 4 ∨ j = 5 ∨ j = 6 ∨ j = 7 ∨ j = 8 ∨ j = 9 by omega) with rfl | rfl | rfl | rfl | rfl | rfl | rfl | rfl | rfl | rfl
    · exact va_eqt (hs (Cond.eq (.elem tensT (.int 0)) (.int 1)) (by decide +kernel))
    · exact va_eqt (hs (Cond.eq (.elem tensT (.int 1)) (.int 10)) (by decide +kernel))
    · exact va_eqt (hs (Cond.eq (.elem tensT (.int 2)) (.int 100)) (by decide +kernel))
    · exact va_eqt (hs (Cond.eq (.elem tensT (.int 3)) (.int 1000)) (by decide +kernel))
    · exact va_eqt (hs (Cond.eq (.elem tensT (.int 4)) (.int 10000)) (by decide +kernel))
    · exact va_eqt (hs (Cond.eq (.elem tensT (.int 5)) (.int 100000)) (by decide +kernel))
    · exact va_eqt (hs (Cond.eq (.elem tensT (.int 6)) (.int 1000000)) (by decide +kernel))
    · exact va_eqt (hs (Cond.eq (.elem tensT (.int 7)) (.int 10000000)) (by decide +kernel))
    · exact va_eqt (hs (Cond.eq (.elem tensT (.int 8)) (.int 100000000)) (by decide +kernel))
    · exact va_eqt (hs (Cond.eq (.elem tensT (.int 9)) (.int 1000000000)) (by decide +kernel))
  obtain ⟨t, h1, h2⟩ := va_Tof (A := fun q => s.heap.size ≤ q) (tm := tensT) (ty := .int) (N := 10) (f := fun j => .int (nI (10 ^ j))) (by decide) (hs (Cond.arrayOf tensT .int) (by decide +kernel)) (va_eqt (hs (Cond.eq (.length tensT) (.int 10)) (by decide +kernel))) hel hA
  exact ⟨t, va_Zof (hts (.laysStatic "RootTowers$Numbers" "TENS" "[I") (by decide +kernel)) (hts (.initialized "RootTowers$Numbers") (by decide +kernel)) h1 hA, h2⟩
set_option maxHeartbeats 2000000 in
theorem st_T {s : State} {args : Array Value} (hts : ∀ w ∈ lw_tbl, w.before args s = true) (hgv : (Jvm.Cond.and given_1 narrow_1).before args s = true) : jDw s ∧ jTz (fun q => s.heap.size ≤ q) s s.heap := by
  have hs := flat_of_before _ hgv
  have hA : ∀ a : Nat, a < s.heap.size → ¬ (fun q => s.heap.size ≤ q) a := fun a h => Nat.not_le.mpr h
  refine ⟨⟨va_Nw.of rfl (hts (.declares (Bundle.init0 "java/lang/IndexOutOfBoundsException")) (by decide +kernel)), va_Nw.of rfl (hts (.declares (Bundle.init0 "java/lang/RuntimeException")) (by decide +kernel)), va_Nw.of rfl (hts (.declares (Bundle.init0 "java/lang/Exception")) (by decide +kernel)), va_Nw.of rfl (hts (.declares (Bundle.init0 "java/lang/Throwable")) (by decide +kernel)), va_Nw.of rfl (hts (.castable aiE aiE) (by decide +kernel))⟩, ?_, ?_⟩
  · exact vx_Zqof (hts (.laysStatic Bundle.tN "UNASSIGNED_STACK" Bundle.steD) (by decide +kernel)) (hts (.initialized Bundle.tN) (by decide +kernel)) (hs (.isRef (.static Bundle.tN "UNASSIGNED_STACK" Bundle.steD)) (by decide +kernel)) hA
  · exact vx_Zqof (hts (.laysStatic Bundle.tN "SUPPRESSED_SENTINEL" Bundle.listD) (by decide +kernel)) (hts (.initialized Bundle.tN) (by decide +kernel)) (hs (.isRef (.static Bundle.tN "SUPPRESSED_SENTINEL" Bundle.listD)) (by decide +kernel)) hA
theorem bg_lo {f : Nat → Int32} {j : Nat} (h : j < 130) : bgF f 130 j = f j := by
  unfold bgF
  rw [pk_un (by omega)]
  unfold raN
  rw [pk_cpy_out (by omega)]
  unfold fillN
  rw [if_neg (by omega)]
theorem bg_t (f : Nat → Int32) : 130 ≤ bgT f 130 ∧ bgT f 130 ≤ 136 := by
  unfold bgT
  have := trimN_le (raN f 130 128 4 1) 130 5
  omega

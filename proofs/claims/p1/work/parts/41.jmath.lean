/-! the JDK's own Math: abs, floorMod, floorDiv of longs -/
theorem bm64 {x : Int} (h1 : -9223372036854775808 ≤ x) (h2 : x < 9223372036854775808) : x.bmod (2 ^ 64) = x := by
  have e : (((2 ^ 64 : Nat)) : Int) = 18446744073709551616 := rfl
  refine Int.bmod_eq_of_le_mul_two ?_ ?_
  · rw [e]; omega
  · rw [e]; omega
theorem tmod_np {a : Int} (h : a ≤ 0) : a.tmod 1000000000 ≤ 0 := by
  have h1 := Int.tmod_nonneg 1000000000 (show 0 ≤ -a by omega)
  rw [Int.neg_tmod] at h1
  omega
theorem ldr_d (a : Int64) : (a / lN 1000000000).toInt = a.toInt.tdiv 1000000000 := by
  rw [Int64.toInt_div, pk_lT (by decide), show ((1000000000 : Nat) : Int) = 1000000000 from rfl]
  have h1 := Int64.le_toInt a
  have h2 := Int64.toInt_lt a
  have h3 := Int.natAbs_tdiv_le_natAbs a.toInt 1000000000
  have h4 := Int.mul_tdiv_add_tmod a.toInt 1000000000
  have h5 := Int.lt_tmod_of_pos a.toInt (b := 1000000000) (by decide)
  have h6 := Int.tmod_lt_of_pos a.toInt (b := 1000000000) (by decide)
  exact bm64 (by omega) (by omega)
theorem ldr_m (a : Int64) : (a - a / lN 1000000000 * lN 1000000000).toInt = a.toInt.tmod 1000000000 := by
  have h1 := Int64.le_toInt a
  have h2 := Int64.toInt_lt a
  have h4 := Int.mul_tdiv_add_tmod a.toInt 1000000000
  have h5 := Int.lt_tmod_of_pos a.toInt (b := 1000000000) (by decide)
  have h6 := Int.tmod_lt_of_pos a.toInt (b := 1000000000) (by decide)
  have e1 : (a / lN 1000000000 * lN 1000000000).toInt = a.toInt.tdiv 1000000000 * 1000000000 := by
    rw [Int64.toInt_mul, ldr_d, pk_lT (by decide)]
    have g : a.toInt.tdiv 1000000000 * 1000000000 = a.toInt - a.toInt.tmod 1000000000 := by omega
    rcases Int.lt_or_le a.toInt 0 with q | q
    · have g2 : a.toInt.tmod 1000000000 ≤ 0 := tmod_np (by omega)
      exact bm64 (by omega) (by omega)
    · have g2 := Int.tmod_nonneg 1000000000 q
      exact bm64 (by omega) (by omega)
  rw [Int64.toInt_sub, e1]
  have g : a.toInt - a.toInt.tdiv 1000000000 * 1000000000 = a.toInt.tmod 1000000000 := by omega
  rw [g]
  exact bm64 (by omega) (by omega)
theorem lx_neg (a : Int64) : a ^^^ lN 1000000000 < 0 ↔ a < 0 := by
  rw [Int64.lt_iff_toBitVec_slt, Int64.lt_iff_toBitVec_slt, Int64.toBitVec_xor]
  have e : (0 : Int64).toBitVec = 0#64 := rfl
  rw [e, BitVec.slt_zero_eq_msb, BitVec.slt_zero_eq_msb, BitVec.msb_xor, show (lN 1000000000).toBitVec.msb = false by decide, Bool.xor_false]
theorem lN_ofInt {x : Int64} {d : Nat} (hd : d < 2 ^ 63) (h : x.toInt = (d : Int)) : x = lN d := Int64.toInt_inj.mp (by rw [h, pk_lT hd])
def fmv2 (a : Int64) : Int64 := if a ^^^ lN 1000000000 < 0 then if a - a / lN 1000000000 * lN 1000000000 = 0 then a - a / lN 1000000000 * lN 1000000000 else a - a / lN 1000000000 * lN 1000000000 + lN 1000000000 else a - a / lN 1000000000 * lN 1000000000
theorem fmv2_in (a : Int64) : ∃ d : Nat, d < 1000000000 ∧ fmv2 a = lN d := by
  have h5 := Int.lt_tmod_of_pos a.toInt (b := 1000000000) (by decide)
  have h6 := Int.tmod_lt_of_pos a.toInt (b := 1000000000) (by decide)
  have hm := ldr_m a
  have e0 : ∀ x : Int64, x < 0 ↔ x.toInt < 0 := fun x => Int64.lt_iff_toInt_lt
  unfold fmv2
  generalize a - a / lN 1000000000 * lN 1000000000 = r at *
  by_cases h : a ^^^ lN 1000000000 < 0
  · rw [if_pos h]
    have h2 := (e0 a).mp ((lx_neg a).mp h)
    have h3 : a.toInt.tmod 1000000000 ≤ 0 := tmod_np (by omega)
    by_cases q : r = 0
    · rw [if_pos q]
      exact ⟨0, by decide, q⟩
    · rw [if_neg q]
      have q2 : r.toInt ≠ 0 := fun w => q (Int64.toInt_inj.mp w)
      refine ⟨(r.toInt + 1000000000).toNat, by omega, lN_ofInt (by omega) ?_⟩
      rw [Int64.toInt_add, pk_lT (by decide)]
      have : ((r.toInt + 1000000000).toNat : Int) = r.toInt + 1000000000 := by omega
      rw [this]
      exact bm64 (by omega) (by omega)
  · rw [if_neg h]
    have h2 := mt (e0 a).mpr (mt (lx_neg a).mpr h)
    have h3 := Int.tmod_nonneg 1000000000 (show 0 ≤ a.toInt by omega)
    exact ⟨r.toInt.toNat, by omega, lN_ofInt (by omega) (by omega)⟩
theorem jOfWF {l : Launch} {y : MethodName} {ws ws' : List Cond} {rm : Room} {Pc : Array Value → State → Prop} {Qc : Array Value → State → Outcome → State → Prop} {mc ms : Nat} {free : Addr → Prop} {cc : ByteArray} {maxL : Nat} {ret : Option FieldType}
    (hy : plainFor y = true) (hw : ws = Cond.code y cc maxL ret :: ws')
    (body : ∀ p e s m args below meth c s₁, BodyLoose p l y (headSpec ws rm) cc maxL ret e s m args below meth c s₁ → c.maxLocals = maxL → Pc args s →
      W p l e (headSpec ws rm).room s m args below meth c s.heap [] 0 0 (MQ below Qc args s mc ms free) (entryFrame m args maxL)) : Met l y ws rm Pc Qc mc ms free := by
  refine MetFree.of_bodySF (code := cc) (maxLocals := maxL) (ret := ret) hy ?_ ?_
  · intro args s m h hn
    obtain ⟨meth, c, h1, h2, h3, h4, h5, h6, -, -⟩ := Cond.code_spec hn (atoms_spec (ws := ws) h _ (by rw [hw]; exact List.mem_cons_self))
    exact ⟨meth, c, h1, h2, h3, h4, h5, h6⟩
  · intro p e s m args below meth c s₁ B hml hP _
    have hh0 : s₁.heap = s.heap := by rw [B.state]; rfl
    obtain ⟨t, a1, o, b1, b2, b3⟩ := body p e s m args below meth c s₁ B hml hP s₁ hh0 (Stand.of_body B)
    exact ⟨t, o, a1, b1, b2, ⟨b3.1, b3.2⟩⟩
set_option maxHeartbeats 1000000 in
theorem jG_ofF {cl : List vw_C} {y : MethodName} {ws ws' : List Cond} {fr lo nL nc ns : Nat} {av : List Value} {pw : jW} {post : Int64 → jW → Prop} {cc : ByteArray} (hy : plainFor y = true) (hw : ws = .code y cc nL (some .long) :: ws') (hl : (lg_sl av).length ≤ nL)
    (body : ∀ X : jK, jX X cc nL y.cls ws cl fr lo nc ns → jn0 X = pw.length → jRg X cc post nc ns → J X 0 (jent av) [] pw 0 0) : jG cl y ws fr lo av pw nc ns post := by
  intro l D ty ad sz
  refine jOfWF (cc := cc) (maxL := nL) (ret := some .long) hy hw ?_
  intro p e s m args below meth c s₁ B hml hv
  obtain ⟨rfl, hsz, hP, hK, hD0, hZ⟩ := hv
  subst hsz
  have hD := hD0.self (sz := s.heap.size)
  have hl2 := lv_entry (av.map (jv ad)) (n := nL) (by rw [jlen]; exact hl)
  rw [lg_entry_eq]
  generalize (lg_sl (av.map (jv ad)) ++ List.replicate (nL - (lg_sl (av.map (jv ad))).length) Slot.unset).toArray = ls at hl2 ⊢
  have hown : s.vm.findClass y.cls = some m.cls := findClass_of_methodNamed B.named
  refine body ((p, l, e, (headSpec ws (jRm fr lo nc ns)).room, s), (m, (av.map (jv ad)).toArray, below, meth, c), (nL, D, cl, ty), (va_A (jr ty ad pw) s.heap.size, ad, pw.length, _)) ⟨⟨B.exec, B.bytes, hml, hown, atoms_spec (ws := ws) B.pre⟩, hK, fun q h => Or.inr h, hZ, rfl, rfl, rfl, rfl, rfl, rfl⟩ rfl ?_ ad s.heap [] ls (fun _ _ => rfl) hP hD va_S.rf (jent_L hl2)
  intro pc lv r pw2 k n hd hpost hlen h1 h2 ad2 H locs ls2 g1 g2 g3 g4 g5
  refine W.widen h1 h2 ?_
  exact W.lret B.exec B.bytes B.returns (fun t ht hW => ⟨⟨r, (pw2, ad2), rfl, hpost, g1, hlen, by rw [ht]; exact g2, va_K.moved hW.alike hK, g3⟩, g4.F ht⟩) g4.2.2 hd B.notSynchronized
set_option maxHeartbeats 1000000 in
/-- Math.abs of a long: some long -/
theorem c_absl {pw : jW} {x : Int64} : jG vwCl yJ9_abs_067f4 (wc yJ9_abs_067f4 cJ9_abs_067f4 2 (some .long)) 0 0 [.long x] pw 0 0 (fun _ pw' => pw' = pw) := by
  refine jG_ofF (cc := cJ9_abs_067f4) (nL := 2) (by decide +kernel) rfl (Nat.le_of_ble_eq_true rfl) ?_
  intro X C hX hR
  refine J_lload_n (i := 0) C dJ9_abs_067f4_0 rfl rfl ?_
  refine J_lconst (v := 0) C dJ9_abs_067f4_1 (by decide) ?_
  refine J_lcmp C dJ9_abs_067f4_2 ?_
  refine J_if_ge (tgt := 11) C dJ9_abs_067f4_3 (by decide) (fun h3q => ?_) (fun h3q => ?_)
  · refine J_lload_n (i := 0) C dJ9_abs_067f4_11 rfl rfl ?_
    refine hR _ _ _ _ _ _ dJ9_abs_067f4_12 rfl (Nat.le_of_eq hX) (Nat.le_refl _) (Nat.le_refl _)
  · refine J_lload_n (i := 0) C dJ9_abs_067f4_6 rfl rfl ?_
    refine J_lneg C dJ9_abs_067f4_7 ?_
    refine J_goto (tgt := 12) C dJ9_abs_067f4_8 (by decide) ?_
    refine hR _ _ _ _ _ _ dJ9_abs_067f4_12 rfl (Nat.le_of_eq hX) (Nat.le_refl _) (Nat.le_refl _)
set_option maxHeartbeats 1000000 in
/-- Math.floorMod(a, 10^9) -/
theorem c_fmod {pw : jW} {a : Int64} : jG vwCl yJ9_floorMod_f86c9 (wc yJ9_floorMod_f86c9 cJ9_floorMod_f86c9 6 (some .long)) 0 0 [.long a, .long (lN 1000000000)] pw 0 0 (fun r pw' => (∃ d : Nat, d < 1000000000 ∧ r = lN d) ∧ pw' = pw) := by
  refine jG_ofF (cc := cJ9_floorMod_f86c9) (nL := 6) (by decide +kernel) rfl (Nat.le_of_ble_eq_true rfl) ?_
  intro X C hX hR
  obtain ⟨d, h1, h2⟩ := fmv2_in a
  unfold fmv2 at h2
  refine J_lload_n (i := 0) C dJ9_floorMod_f86c9_0 rfl rfl ?_
  refine J_lload_n (i := 2) C dJ9_floorMod_f86c9_1 rfl rfl ?_
  refine J_lrem C dJ9_floorMod_f86c9_2 (lN_ne0 (by decide) (by decide)) ?_
  refine J_lstore C dJ9_floorMod_f86c9_3 (by decide) ?_
  refine J_lload_n (i := 0) C dJ9_floorMod_f86c9_5 rfl rfl ?_
  refine J_lload_n (i := 2) C dJ9_floorMod_f86c9_6 rfl rfl ?_
  refine J_lxor C dJ9_floorMod_f86c9_7 ?_
  refine J_lconst (v := 0) C dJ9_floorMod_f86c9_8 (by decide) ?_
  refine J_lcmp C dJ9_floorMod_f86c9_9 ?_
  refine J_if_ge (tgt := 25) C dJ9_floorMod_f86c9_10 (by decide) (fun h10q => ?_) (fun h10q => ?_)
  · refine J_lload C dJ9_floorMod_f86c9_25 rfl ?_
    refine hR _ _ _ _ _ _ dJ9_floorMod_f86c9_27 ⟨⟨d,h1,?_⟩,rfl⟩ (Nat.le_of_eq hX) (Nat.le_refl _) (Nat.le_refl _)
    rw [if_neg (l_ge h10q)] at h2
    exact h2
  · have hl : a ^^^ lN 1000000000 < 0 := by
      rcases Int64.lt_or_le (a ^^^ lN 1000000000) 0 with q | q
      · exact q
      · exact absurd (l_nge (Int64.not_lt.mpr q)) h10q
    rw [if_pos hl] at h2
    refine J_lload C dJ9_floorMod_f86c9_13 rfl ?_
    refine J_lconst (v := 0) C dJ9_floorMod_f86c9_15 (by decide) ?_
    refine J_lcmp C dJ9_floorMod_f86c9_16 ?_
    refine J_if_eq (tgt := 25) C dJ9_floorMod_f86c9_17 (by decide) (fun h17q => ?_) (fun h17q => ?_)
    · refine J_lload C dJ9_floorMod_f86c9_25 rfl ?_
      refine hR _ _ _ _ _ _ dJ9_floorMod_f86c9_27 ⟨⟨d,h1,?_⟩,rfl⟩ (Nat.le_of_eq hX) (Nat.le_refl _) (Nat.le_refl _)
      rw [if_pos ((lg_cmp_eq _ _).mp h17q)] at h2
      exact h2
    · refine J_lload C dJ9_floorMod_f86c9_20 rfl ?_
      refine J_lload_n (i := 2) C dJ9_floorMod_f86c9_22 rfl rfl ?_
      refine J_ladd C dJ9_floorMod_f86c9_23 ?_
      refine hR _ _ _ _ _ _ dJ9_floorMod_f86c9_24 ⟨⟨d,h1,?_⟩,rfl⟩ (Nat.le_of_eq hX) (Nat.le_refl _) (Nat.le_refl _)
      rw [if_neg (mt (lg_cmp_eq _ _).mpr h17q)] at h2
      exact h2
set_option maxHeartbeats 1000000 in
/-- Math.floorDiv(a, 10^9): some long -/
theorem c_fdiv {pw : jW} {a : Int64} : jG vwCl yJ9_floorDiv_f86c9 (wc yJ9_floorDiv_f86c9 cJ9_floorDiv_f86c9 6 (some .long)) 0 0 [.long a, .long (lN 1000000000)] pw 0 0 (fun _ pw' => pw' = pw) := by
  refine jG_ofF (cc := cJ9_floorDiv_f86c9) (nL := 6) (by decide +kernel) rfl (Nat.le_of_ble_eq_true rfl) ?_
  intro X C hX hR
  refine J_lload_n (i := 0) C dJ9_floorDiv_f86c9_0 rfl rfl ?_
  refine J_lload_n (i := 2) C dJ9_floorDiv_f86c9_1 rfl rfl ?_
  refine J_ldiv C dJ9_floorDiv_f86c9_2 (lN_ne0 (by decide) (by decide)) ?_
  refine J_lstore C dJ9_floorDiv_f86c9_3 (by decide) ?_
  refine J_lload_n (i := 0) C dJ9_floorDiv_f86c9_5 rfl rfl ?_
  refine J_lload_n (i := 2) C dJ9_floorDiv_f86c9_6 rfl rfl ?_
  refine J_lxor C dJ9_floorDiv_f86c9_7 ?_
  refine J_lconst (v := 0) C dJ9_floorDiv_f86c9_8 (by decide) ?_
  refine J_lcmp C dJ9_floorDiv_f86c9_9 ?_
  refine J_if_ge (tgt := 27) C dJ9_floorDiv_f86c9_10 (by decide) (fun h10q => ?_) (fun h10q => ?_)
  · refine J_lload C dJ9_floorDiv_f86c9_27 rfl ?_
    refine hR _ _ _ _ _ _ dJ9_floorDiv_f86c9_29 rfl (Nat.le_of_eq hX) (Nat.le_refl _) (Nat.le_refl _)
  · refine J_lload C dJ9_floorDiv_f86c9_13 rfl ?_
    refine J_lload_n (i := 2) C dJ9_floorDiv_f86c9_15 rfl rfl ?_
    refine J_lmul C dJ9_floorDiv_f86c9_16 ?_
    refine J_lload_n (i := 0) C dJ9_floorDiv_f86c9_17 rfl rfl ?_
    refine J_lcmp C dJ9_floorDiv_f86c9_18 ?_
    refine J_if_eq (tgt := 27) C dJ9_floorDiv_f86c9_19 (by decide) (fun h19q => ?_) (fun h19q => ?_)
    · refine J_lload C dJ9_floorDiv_f86c9_27 rfl ?_
      refine hR _ _ _ _ _ _ dJ9_floorDiv_f86c9_29 rfl (Nat.le_of_eq hX) (Nat.le_refl _) (Nat.le_refl _)
    · refine J_lload C dJ9_floorDiv_f86c9_22 rfl ?_
      refine J_lconst (v := 1) C dJ9_floorDiv_f86c9_24 (by decide) ?_
      refine J_lsub C dJ9_floorDiv_f86c9_25 ?_
      refine hR _ _ _ _ _ _ dJ9_floorDiv_f86c9_26 rfl (Nat.le_of_eq hX) (Nat.le_refl _) (Nat.le_refl _)

section LH
variable {tp fm kp : Int32} {N : Nat} {f : Nat → Int32} {ht : Int32} {sq sc : Nat → Int32} {ct : Int32} {pl rk : Nat → Int32} {pr : Int32} {rl rh : Nat → Int32} {s12 s13 s14 s15 s16 s17 : jE} {lt : Nat → Int32} {rest : jW}
set_option maxHeartbeats 4000000 in
/-- the law's helper letter(x, i, out): 1 -/
theorem c_Lletter (l : Launch) (hl : l.stackTraces = false) (D : va_G) (ty : FieldType → ClassId) (ad : Nat → Nat) (sz : Nat) {i : Int32} {o : Nat} {pw : jW} (hw : pw = cW tp fm kp N f ht sq sc ct pl rk pr rl rh s12 s13 s14 s15 s16 s17 0 lt rest) :
    Met l yL_letter (.codeWith yL_letter cL_letter 4 (some .int) [(0, 9, 12, 18)] :: gT) (jRm 14 500 1 6) (jPreT D vwCl ty ad sz [.ref 0, .int i, .ref o] pw) (va_Qi (S := jW × (Nat → Nat)) (fun r u => r = 1 ∧ u.1 = pw) (jB D vwCl ty ad pw.length (va_A (jr ty ad pw) sz)) (va_A (jr ty ad pw) sz)) 1 6 (va_A (jr ty ad pw) sz) := by
  refine MetFree.of_bodyS (code := cL_letter) (maxLocals := 4) (ret := some .int) (by decide) ?_ ?_
  · intro args s m h hn2
    obtain ⟨m9, meth9, c9, hn9, h1, h2, h3, h4, h5, h6, h7, h8⟩ := Cond.codeWith_spec (atoms_spec (ws := .codeWith yL_letter cL_letter 4 (some .int) [(0, 9, 12, 18)] :: gT) h _ List.mem_cons_self)
    cases Option.some.inj (hn9.symm.trans hn2)
    exact ⟨meth9, c9, h1, h2, h3, h4, by assumption, by assumption⟩
  intro p e s m args below meth c s₁ B hml hv _
  obtain ⟨rfl, ⟨hsz, hP, hK, hD0, hZ⟩, hdw, htz⟩ := hv
  subst hsz
  have hD := hD0.self (sz := s.heap.size)
  have hl2 := lv_entry (([.ref 0, .int i, .ref o] : List Value).map (jv ad)) (n := 4) (by rw [jlen]; exact Nat.le_of_ble_eq_true rfl)
  have hh0 : s₁.heap = s.heap := by rw [B.state]; rfl
  have hown : s.vm.findClass yL_letter.cls = some m.cls := findClass_of_methodNamed B.named
  have hts : ∀ w ∈ (Cond.codeWith yL_letter cL_letter 4 (some .int) [(0, 9, 12, 18)] :: gT), w.before (([.ref 0, .int i, .ref o] : List Value).map (jv ad)).toArray s = true := atoms_spec (ws := .codeWith yL_letter cL_letter 4 (some .int) [(0, 9, 12, 18)] :: gT) B.pre
  have htab : c.exceptionTable.toList = [] ++ (⟨0, 9, 12, 18⟩ : ExceptionTableEntry) :: [] := vx_table (x := yL_letter) B (hts _ List.mem_cons_self)
  have hJ : ∀ X : jK, X = ((p, l, e, (headSpec (.codeWith yL_letter cL_letter 4 (some .int) [(0, 9, 12, 18)] :: gT) (jRm 14 500 1 6)).room, s), (m, (([.ref 0, .int i, .ref o] : List Value).map (jv ad)).toArray, below, meth, c), (4, D, vwCl, ty), (va_A (jr ty ad pw) s.heap.size, ad, pw.length, MQ below (va_Qi (S := jW × (Nat → Nat)) (fun r u => r = 1 ∧ u.1 = pw) (jB D vwCl ty ad pw.length (va_A (jr ty ad pw) s.heap.size)) (va_A (jr ty ad pw) s.heap.size)) (([.ref 0, .int i, .ref o] : List Value).map (jv ad)).toArray s 1 6 (va_A (jr ty ad pw) s.heap.size))) → J X 0 (jent [.ref 0, .int i, .ref o]) [] pw 0 0 := by
    intro X hXe
    have C : jX X cL_letter 4 yL_letter.cls (.codeWith yL_letter cL_letter 4 (some .int) [(0, 9, 12, 18)] :: gT) vwCl 14 500 1 6 := by
      rw [hXe]
      exact ⟨⟨B.exec, B.bytes, hml, hown, hts⟩, hK, fun q h => Or.inr h, hZ, rfl, rfl, rfl, rfl, rfl, rfl⟩
    have hR : ∀ (pc : Nat) (lv : Nat → Option Value) (nc ns : Nat), decode cL_letter pc = .ok (.ireturn, 1) → nc ≤ 1 → ns ≤ 6 → J X pc lv [.int 1] pw nc ns := by
      intro pc lv nc ns hd h1 h2
      rw [hXe]
      intro ad2 H locs ls2 g1 g2 g3 g4 g5
      refine W.widen h1 h2 ?_
      exact W.zret B.exec B.bytes B.returns rfl (fun t ht hW => ⟨⟨1, (pw, ad2), rfl, ⟨rfl, rfl⟩, g1, Nat.le_refl _, by rw [ht]; exact g2, va_K.moved hW.alike hK, g3⟩, g4.F ht⟩) g4.2.2 hd B.notSynchronized
    have hE : ∀ lv : Nat → Option Value, J X 13 lv [] pw 1 6 := by
      intro lv
      refine J_iconst (v := 1) C dL_letter_13 (by decide) ?_
      exact hR 14 _ _ _ dL_letter_14 (Nat.le_refl _) (Nat.le_refl _)
    refine J_aload_n (i := 2) C dL_letter_0 rfl rfl ?_
    refine J_iconst (v := 0) C dL_letter_1 (by decide) ?_
    refine J_aload_n (i := 0) C dL_letter_2 rfl rfl ?_
    refine J_iload_n (i := 1) C dL_letter_3 rfl rfl ?_
    rw [hXe]
    rw [hXe] at hE
    intro ad2 H locs ls g1 g2 g3 g4 g5
    subst hw
    have hFc := jA_in g3 g4 (fun q h => Or.inr h)
    have hrv := va_recv (ci := 9) (q0 := 0) hK g2 rfl (jr_at (k := 0) (c := .inr (9, [.ref 1, .ref 3, .ref 6, .ref 15, .ref 18])) rfl)
    refine vx_calli (vx_runV (As := [.int i]) (rest := [.int 0, .ref (ad2 o)]) (C := RX6) (b := ad2 0) ⟨B.exec, B.bytes, hml, hown, hts⟩ (c_letterX (tp := tp) (fm := fm) (kp := kp) (N := N) (f := f) (ht := ht) (sq := sq) (sc := sc) (ct := ct) (pl := pl) (rk := rk) (pr := pr) (rl := rl) (rh := rh) (s12 := s12) (s13 := s13) (s14 := s14) (s15 := s15) (s16 := s16) (s17 := s17) (lt := lt) (rest := rest) l hl D ty ad2 H.size (i := i)) (cwV 1 hts (gV mlL_X6_letter imX6_letter slX6_letter iniX6 cdX6_letter) rfl rfl rfl dsX6_letter ⟨by decide, by decide⟩) ⟨jPreT_blind, hrv, fun U hU hW => ?_⟩ rfl rfl g5.1 rfl (lv_room (Nat.le_of_ble_eq_true rfl)) dL_letter_4 ⟨by decide, by decide⟩) g4 (fun q _ h => hFc q h) hFc (fun q _ h => hFc q h) (fun E ce q9 u t H1 locs1 ht hvm hpx hB hz hk hS hce hcv hcl => ?_) (fun r u t H1 locs1 ht hvm hpost hB hz hk hS => hpost.elim)
    · exact ⟨rfl, ⟨by rw [hU], by rw [hU]; exact g2, va_K.moved hW.alike hK, g3.weaken (fun _ _ _ _ => trivial), jZ_call hZ g4 (g1 1000 (Or.inr (Nat.le_refl _))) hFc hW.alike hU⟩, jDw.warm hW hdw, jTz_call htz g4 hFc hW.alike hU⟩
    · obtain ⟨rfl, a1, a2, a3, a4, a5⟩ := hB
      obtain ⟨u1, u2⟩ := u
      have hpx : u1 = _ := hpx
      subst hpx
      rw [ht] at a3
      refine vx_catch (own := RL) (name := aiE) hown [] ⟨0, 9, 12, 18⟩ [] htab (fun z hz => nomatch hz) rfl (by decide) (hts _ (gc klL_ArrayIndexOutOfBoundsException)) (hdw.2.2.2.2.use rfl) hce hcv hcl ?_
      refine lv_astore_n B.exec B.bytes dL_letter_12 rfl g5.has (by decide) rfl (fun ls' h' => ?_)
      exact hE (fun _ => none) u2 H1 locs1 ls' (fun j hj => (a1 j hj).trans (g1 j hj)) a3 (a5.weaken (fun _ q _ h => hFc q.1 h)) hS ⟨h'.1, h'.2.1, fun _ _ h => nomatch h⟩
  have K : W p l e (headSpec (.codeWith yL_letter cL_letter 4 (some .int) [(0, 9, 12, 18)] :: gT) (jRm 14 500 1 6)).room s m (([.ref 0, .int i, .ref o] : List Value).map (jv ad)).toArray below meth c s.heap [] 0 0 (MQ below (va_Qi (S := jW × (Nat → Nat)) (fun r u => r = 1 ∧ u.1 = pw) (jB D vwCl ty ad pw.length (va_A (jr ty ad pw) s.heap.size)) (va_A (jr ty ad pw) s.heap.size)) (([.ref 0, .int i, .ref o] : List Value).map (jv ad)).toArray s 1 6 (va_A (jr ty ad pw) s.heap.size)) (entryFrame m (([.ref 0, .int i, .ref o] : List Value).map (jv ad)).toArray 4) := by
    rw [lg_entry_eq]
    generalize (lg_sl (([.ref 0, .int i, .ref o] : List Value).map (jv ad)) ++ List.replicate (4 - (lg_sl (([.ref 0, .int i, .ref o] : List Value).map (jv ad))).length) Slot.unset).toArray = ls at hl2 ⊢
    exact hJ _ rfl ad s.heap [] ls (fun _ _ => rfl) hP hD va_S.rf (jent_L hl2)
  obtain ⟨t, b1, o9, b2, b3, b4⟩ := K s₁ hh0 (Stand.of_body B)
  exact ⟨t, o9, b1, b2, b3, ⟨b4.1, b4.2⟩⟩
end LH

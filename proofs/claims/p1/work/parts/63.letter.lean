/-! letter's throw, and the helper that catches it -/
def aiN : List String := ["java/lang/IndexOutOfBoundsException", "java/lang/RuntimeException", "java/lang/Exception"]
def aiE : String := "java/lang/ArrayIndexOutOfBoundsException"
def aiB : List Cond := [.declares (Bundle.init0 "java/lang/IndexOutOfBoundsException"), .declares (Bundle.init0 "java/lang/RuntimeException"), .declares (Bundle.init0 "java/lang/Exception"), .declares (Bundle.init0 "java/lang/Throwable"), .castable aiE aiE]
/-- words that aren't of the tables' good ones -/
def jDw (U : State) : Prop := va_Nw (.declares (Bundle.init0 "java/lang/IndexOutOfBoundsException")) U ∧ va_Nw (.declares (Bundle.init0 "java/lang/RuntimeException")) U ∧ va_Nw (.declares (Bundle.init0 "java/lang/Exception")) U ∧ va_Nw (.declares (Bundle.init0 "java/lang/Throwable")) U ∧ va_Nw (.castable aiE aiE) U
theorem jDw.warm {s U : State} (hW : s.WarmedH U.vm) (h : jDw s) : jDw U := ⟨h.1.warmD hW, h.2.1.warmD hW, h.2.2.1.warmD hW, h.2.2.2.1.warmD hW, h.2.2.2.2.warmC hW⟩
theorem jDw.same {s U : State} (hW : s.vm = U.vm) (h : jDw s) : jDw U := ⟨h.1.same rfl hW, h.2.1.same rfl hW, h.2.2.1.same rfl hW, h.2.2.2.1.same rfl hW, h.2.2.2.2.same rfl hW⟩
theorem jDw.all {s : State} {args : Array Value} (h : jDw s) : ∀ w ∈ aiB, w.before args s = true := by
  intro w hw
  unfold aiB at hw
  rcases List.mem_cons.mp hw with e | hw
  · rw [e]; exact h.1.use rfl
  rcases List.mem_cons.mp hw with e | hw
  · rw [e]; exact h.2.1.use rfl
  rcases List.mem_cons.mp hw with e | hw
  · rw [e]; exact h.2.2.1.use rfl
  rcases List.mem_cons.mp hw with e | hw
  · rw [e]; exact h.2.2.2.1.use rfl
  rcases List.mem_cons.mp hw with e | hw
  · rw [e]; exact h.2.2.2.2.use rfl
  cases hw
/-- the two statics of Throwable -/
def jTz (A : Nat → Prop) (U : State) (H : Heap) : Prop := vx_Zq Bundle.tN "UNASSIGNED_STACK" Bundle.steD A U H ∧ vx_Zq Bundle.tN "SUPPRESSED_SENTINEL" Bundle.listD A U H
theorem jTz_call {A B : Nat → Prop} {s U : State} {H : Heap} {locs : List Loc} (hZ : jTz A s s.heap) (hS : va_S A s.heap H locs) (hB : ∀ q, B q → A q) (hvm : s.vm.Alike U.vm) (hU : U.heap = H) : jTz B U U.heap := by
  rw [hU]
  exact ⟨vx_Zq.narrow (vx_Zq.moved hvm (hZ.1.kept hS.2.1)) hB, vx_Zq.narrow (vx_Zq.moved hvm (hZ.2.kept hS.2.1)) hB⟩
def jPreT (D : va_G) (cl : List vw_C) (ty : FieldType → ClassId) (ad : Nat → Nat) (sz : Nat) (av : List Value) (pw : jW) : Array Value → State → Prop := va_Pc (av.map (jv ad)) (fun U => (U.heap.size = sz ∧ va_P D cl (jr ty ad pw) U.heap ∧ va_K D cl (jtys ty) U ∧ va_D (fun _ => True) (jr ty ad pw) ∧ jZ ad (va_A (jr ty ad pw) sz) U U.heap) ∧ jDw U ∧ jTz (va_A (jr ty ad pw) sz) U U.heap)
theorem jPreT_blind {D : va_G} {cl : List vw_C} {ty : FieldType → ClassId} {ad : Nat → Nat} {sz : Nat} {av : List Value} {pw : jW} : FrameBlind (jPreT D cl ty ad sz av pw) := by
  intro a U g mk q
  obtain ⟨q0, ⟨q1, qP, qK, qD, qZ⟩, qw, qt⟩ := q
  exact ⟨q0, ⟨q1, qP, va_K.moved (u := U) (U := U.calling g mk a) (Vm.Alike.refl U.vm) qK, qD, va_Z.moved (u := U) (U := U.calling g mk a) (Vm.Alike.refl U.vm) qZ.1, va_T.moved (u := U) (U := U.calling g mk a) (Vm.Alike.refl U.vm) qZ.2⟩, jDw.same (s := U) (U := U.calling g mk a) rfl qw, vx_Zq.moved (u := U) (U := U.calling g mk a) (Vm.Alike.refl U.vm) qt.1, vx_Zq.moved (u := U) (U := U.calling g mk a) (Vm.Alike.refl U.vm) qt.2⟩
theorem ai_good : ∀ w ∈ (vx_at0 RX6 178 aiE aiN).filter goodWord, w ∈ gT := by decide +kernel
theorem ai_bad : ∀ w ∈ (vx_at0 RX6 178 aiE aiN).filter (fun w => !goodWord w), w ∈ aiB := by decide +kernel
theorem ai_ot : ∀ w ∈ Cond.classLink RX6 176 aiE :: Cond.initialized aiE :: vx_at0 RX6 178 aiE aiN, vx_ot w = true := by decide +kernel
theorem ai_fit : Bundle.fit aiE = true := by decide +kernel
theorem ai_fits : ∀ n ∈ aiN, Bundle.fit n = true := by decide +kernel
section LT
variable {tp fm kp : Int32} {N : Nat} {f : Nat → Int32} {ht : Int32} {sq sc : Nat → Int32} {ct : Int32} {pl rk : Nat → Int32} {pr : Int32} {rl rh : Nat → Int32} {s12 s13 s14 s15 s16 s17 : jE} {lt : Nat → Int32} {rest : jW}
set_option maxHeartbeats 4000000 in
/-- letter(i), while there is no text: it throws -/
theorem c_letterX (l : Launch) (hl : l.stackTraces = false) (D : va_G) (ty : FieldType → ClassId) (ad : Nat → Nat) (sz : Nat) {i : Int32} :
    vx_Met l yX6_letter (wc yX6_letter cX6_letter 2 (some .int)) (jRm 12 400 1 6) (jPreT D vwCl ty ad sz [.ref 0, .int i] (cW tp fm kp N f ht sq sc ct pl rk pr rl rh s12 s13 s14 s15 s16 s17 0 lt rest)) (va_Qi (S := jW × (Nat → Nat)) (fun _ _ => False) (jB D vwCl ty ad (cW tp fm kp N f ht sq sc ct pl rk pr rl rh s12 s13 s14 s15 s16 s17 0 lt rest).length (va_A (jr ty ad (cW tp fm kp N f ht sq sc ct pl rk pr rl rh s12 s13 s14 s15 s16 s17 0 lt rest)) sz)) (va_A (jr ty ad (cW tp fm kp N f ht sq sc ct pl rk pr rl rh s12 s13 s14 s15 s16 s17 0 lt rest)) sz))
      (vx_X (S := jW × (Nat → Nat)) (fun u => u.1 = cW tp fm kp N f ht sq sc ct pl rk pr rl rh s12 s13 s14 s15 s16 s17 0 lt rest) (fun E u t => E = aiE ∧ jB D vwCl ty ad (cW tp fm kp N f ht sq sc ct pl rk pr rl rh s12 s13 s14 s15 s16 s17 0 lt rest).length (va_A (jr ty ad (cW tp fm kp N f ht sq sc ct pl rk pr rl rh s12 s13 s14 s15 s16 s17 0 lt rest)) sz) u t) (va_A (jr ty ad (cW tp fm kp N f ht sq sc ct pl rk pr rl rh s12 s13 s14 s15 s16 s17 0 lt rest)) sz)) 1 6 (va_A (jr ty ad (cW tp fm kp N f ht sq sc ct pl rk pr rl rh s12 s13 s14 s15 s16 s17 0 lt rest)) sz) := by
  generalize hw : cW tp fm kp N f ht sq sc ct pl rk pr rl rh s12 s13 s14 s15 s16 s17 0 lt rest = pw
  refine vx_ofW (cc := cX6_letter) (maxL := 2) (ret := some .int) (by decide) rfl ?_
  intro p e s m args below meth c s₁ B hml htab hv
  obtain ⟨rfl, ⟨hsz, hP, hK, hD0, hZ⟩, hdw, htz⟩ := hv
  subst hsz
  have hD := hD0.self (sz := s.heap.size)
  have hl2 := lv_entry (([.ref 0, .int i] : List Value).map (jv ad)) (n := 2) (by rw [jlen]; exact Nat.le_of_ble_eq_true rfl)
  rw [lg_entry_eq]
  generalize (lg_sl (([.ref 0, .int i] : List Value).map (jv ad)) ++ List.replicate (2 - (lg_sl (([.ref 0, .int i] : List Value).map (jv ad))).length) Slot.unset).toArray = ls at hl2 ⊢
  have hown : s.vm.findClass yX6_letter.cls = some m.cls := findClass_of_methodNamed B.named
  have hts : ∀ w ∈ wc yX6_letter cX6_letter 2 (some .int), w.before (([.ref 0, .int i] : List Value).map (jv ad)).toArray s = true := atoms_spec (ws := wc yX6_letter cX6_letter 2 (some .int)) B.pre
  have hJ : ∀ X : jK, X = ((p, l, e, (headSpec (wc yX6_letter cX6_letter 2 (some .int)) (jRm 12 400 1 6)).room, s), (m, (([.ref 0, .int i] : List Value).map (jv ad)).toArray, below, meth, c), (2, D, vwCl, ty), (va_A (jr ty ad pw) s.heap.size, ad, pw.length, vx_MQ below (va_Qi (S := jW × (Nat → Nat)) (fun _ _ => False) (jB D vwCl ty ad pw.length (va_A (jr ty ad pw) s.heap.size)) (va_A (jr ty ad pw) s.heap.size)) (vx_X (S := jW × (Nat → Nat)) (fun u => u.1 = pw) (fun E u t => E = aiE ∧ jB D vwCl ty ad pw.length (va_A (jr ty ad pw) s.heap.size) u t) (va_A (jr ty ad pw) s.heap.size)) (([.ref 0, .int i] : List Value).map (jv ad)).toArray s 1 6 (va_A (jr ty ad pw) s.heap.size))) → J X 0 (jent [.ref 0, .int i]) [] pw 0 0 := by
    intro X hXe
    have C : jX X cX6_letter 2 yX6_letter.cls (wc yX6_letter cX6_letter 2 (some .int)) vwCl 12 400 1 6 := by
      rw [hXe]
      exact ⟨⟨B.exec, B.bytes, hml, hown, hts⟩, hK, fun q h => Or.inr h, hZ, rfl, rfl, rfl, rfl, rfl, rfl⟩
    have hT : ∀ lv : Nat → Option Value, J X 15 lv [] pw 0 0 := by
      intro lv
      rw [hXe]
      intro ad2 H locs ls2 g1 g2 g3 g4 g5
      refine vx_throw0 (own := RX6) (cls := aiE) (names := aiN) (ik := 176) (ic := 178) (rest := []) B.exec B.bytes hl hown ai_fit ai_fits (hts _ (gc klX6_AI)) (hts _ (gc iniAI)) (vx_hat (fun w h => hts w (gc (ai_good w h))) ai_bad hdw.all) ai_ot htz.1 htz.2 g4 (g5.1.trans hml.symm) dX6_letter_15 dX6_letter_18 dX6_letter_19 dX6_letter_22 (fun x hx => (htab x hx).elim) (by decide) (by decide) (Nat.le_refl _) (Nat.le_refl _) B.notSynchronized (fun t h1 h2 h3 => ?_) g4.2.2 (Nat.le_refl _) (Nat.le_refl _)
      refine ⟨(pw, ad2), rfl, ⟨rfl, g1, Nat.le_refl _, g2.kept (fun k q hk => h3 q.1 (vx_lt g2 hk)), va_K.moved h1 hK, g3⟩, ?_⟩
      exact ⟨Nat.le_trans g4.1 h2, fun q h4 h5 => by rw [h3 q (Nat.lt_of_lt_of_le h4 g4.1)]; exact g4.2.1 q h4 h5⟩
    subst hw
    refine J_iload_n (i := 1) C dX6_letter_0 rfl rfl ?_
    refine J_if_lt (tgt := 15) C dX6_letter_1 (by decide) (fun h1q => ?_) (fun h1q => ?_)
    · exact hT _
    · refine J_iload_n (i := 1) C dX6_letter_4 rfl rfl ?_
      refine J_aload_n (i := 0) C dX6_letter_5 rfl rfl ?_
      refine J_get (ci := 9) (k := 4) C dX6_letter_6 (inT inX6) rfl (gc flX6_X6_script) (by decide) rfl rfl ?_
      refine J_get (ci := 7) (k := 2) C dX6_letter_9 (inT inX4) rfl (gc flX6_X4_length) (by decide) rfl rfl ?_
      refine J_icmp_lt (tgt := 23) C dX6_letter_12 (by decide) (fun h12q => ?_) (fun h12q => ?_)
      · exact absurd h12q h1q
      · exact hT _
  exact hJ _ rfl ad s.heap [] ls (fun _ _ => rfl) hP hD va_S.rf (jent_L hl2)
end LT

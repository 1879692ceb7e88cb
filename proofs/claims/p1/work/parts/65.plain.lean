theorem gH {c0 c1 : Cond} {own : String} {idx : Nat} {y : MethodName} (h1 : Cond.methodLink own idx y ∈ gT) (h2 : Cond.static y ∈ gT) (h4 : Cond.initialized y.cls ∈ gT) (h5 : c1 ∈ gT) : GoodIn (c0 :: gT) (va_wsS own idx y (c1 :: gT)) := by
  intro w hw
  unfold va_wsS at hw
  rcases List.mem_append.mp hw with h | h
  · have hm : w ∈ gT := by
      rcases List.mem_cons.mp h with e | h
      · rw [e]; exact h1
      rcases List.mem_cons.mp h with e | h
      · rw [e]; exact h2
      rcases List.mem_cons.mp h with e | h
      · rw [e]; exact h4
      cases h
    exact ⟨gc hm, gT_good _ hm⟩
  · exact gI h5 w h
/-- what the throw of letter rests on, at a method's start -/
def jT (X : jK) : Prop := match X with
  | ((_, l, _, _, s), _, _, (A, _, _, _)) => l.stackTraces = false ∧ jDw s ∧ jTz A s s.heap
def jIT (cl : List vw_C) (y : MethodName) (ws : List Cond) (fr lo : Nat) (av : List Value) (pw : jW) (nc ns : Nat) (post : Int32 → jW → Prop) : Prop :=
  ∀ (l : Launch), l.stackTraces = false → ∀ (D : va_G) (ty : FieldType → ClassId) (ad : Nat → Nat) (sz : Nat), Met l y ws (jRm fr lo nc ns) (jPreT D cl ty ad sz av pw) (va_Qi (S := jW × (Nat → Nat)) (fun r u => post r u.1) (jB D cl ty ad pw.length (va_A (jr ty ad pw) sz)) (va_A (jr ty ad pw) sz)) nc ns (va_A (jr ty ad pw) sz)
set_option maxHeartbeats 1000000 in
theorem J_callHt {X : jK} {cc : ByteArray} {nL : Nat} {own : String} {Ts : List Cond} {cl : List vw_C} {fr lo NC NS : Nat} (C : jX X cc nL own Ts cl fr lo NC NS) (TT : jT X) {pc : Nat} {lv : Nat → Option Value} {st st0 : List Value} {pw : jW} {nc ns : Nat} {index maxL fr' lo' nc' ns' : Nat} {y : MethodName} {ws ws' : List Cond} {bytes : ByteArray} {hh : List (Nat × Nat × Nat × Nat)} (As : List Value) {ret : FieldType} {post : Int32 → jW → Prop} (n1 : Nat) (hM : jIT cl y ws fr' lo' As pw nc' ns' post) (hG : GoodIn Ts (va_wsS own index y ws)) (hw : ws = .codeWith y bytes maxL (some ret) hh :: ws') (hd : y.cls ≠ "java/lang/invoke/MethodHandle" ∧ y.cls ≠ "java/lang/invoke/VarHandle" ∧ (parseMethodDescriptor y.desc).map (fun d => d.parameters.length) = some As.length) (hR : fr' + 1 ≤ fr ∧ 8 + (maxL + 11) + lo' ≤ lo) (hdg : decode cc pc = .ok (.invokestatic index, 3)) (hst : st0 = As.reverse ++ st) (hcat : (st.map (fun v => v.category)).sum ≤ 8) (hgood : st.all (jgood n1) = true) (hn1 : n1 ≤ pw.length) (hn0 : jn0 X ≤ pw.length) (hc : nc + nc' ≤ NC) (hs : ns + ns' ≤ NS) (kk : ∀ (r : Int32) (pw' : jW), post r pw' → pw.length ≤ pw'.length → J X (pc + 3) (jdrop n1 lv) (.int r :: st) pw' (nc + nc') (ns + ns')) : J X pc lv st0 pw nc ns := by
  obtain ⟨⟨p, l, e, R, s⟩, ⟨m, args, below, meth, c⟩, ⟨nL', D, cl', ty⟩, ⟨A, ad0, n0, Q⟩⟩ := X
  obtain ⟨⟨hx, hb, hml, hown, hts⟩, hK, hA, hZ, hfr, hlo, hNC, hNS, rfl, rfl⟩ := C
  obtain ⟨t1, t2, t3⟩ := TT
  intro ad H locs ls g1 g2 g3 g4 g5
  subst hst
  have hFc := jA_in g3 g4 hA
  refine va_calli (vx_runSW (As := As.map (jv ad)) (rest := st.map (jv ad)) ⟨hx, hb, hml, hown, hts⟩ (hM l t1 D ty ad H.size) (vx_cwSW As.length hts hG hw rfl rfl hd ⟨by rw [hfr]; exact hR.1, by rw [hlo]; exact hR.2⟩) ⟨jPreT_blind, fun U hU hW => ⟨by simp [jv], ⟨by rw [hU], by rw [hU]; exact g2, va_K.moved hW.alike hK, g3.weaken (fun _ _ _ _ => trivial), jZ_call hZ g4 (g1 1000 (Or.inr (Nat.le_refl _))) hFc hW.alike hU⟩, jDw.warm hW t2, jTz_call t3 g4 hFc hW.alike hU⟩⟩ rfl (by simp) g5.1 (by simp [jv]) (lv_room (by rw [jcats]; exact hcat)) hdg ⟨by rw [hNC]; exact hc, by rw [hNS]; exact hs⟩) g4 (fun q _ h => hFc q h) hFc (fun r u t H1 locs1 ht hvm hpost hB hz hk hS => ?_)
  obtain ⟨a1, a2, a3, a4, a5⟩ := hB
  have hag : jag n1 ad u.2 := fun i h1 => a1 i (h1.elim (fun q => Or.inl (Nat.lt_of_lt_of_le q hn1)) Or.inr)
  rw [jgood_map hgood hag]
  rw [ht] at a3
  exact kk r u.1 hpost a2 u.2 H1 locs1 ls (fun i h1 => (a1 i (h1.elim (fun q => Or.inl (Nat.lt_of_lt_of_le q hn0)) Or.inr)).trans (g1 i h1)) a3 (a5.weaken (fun _ q _ h => hFc q.1 h)) hS (jdrop_L g5 hag)
section PLN
variable {tp fm kp : Int32} {N : Nat} {f : Nat → Int32} {sq sc : Nat → Int32} {pl rk : Nat → Int32} {pr : Int32} {rl rh : Nat → Int32} {s12 s13 s14 s15 s16 s17 : jE} {lt : Nat → Int32} {th : Int32} {z sz sg : Nat → Int32} {tk : Int32} {st ss sn kt ks kn : Nat → Int32} {lr : Nat → Int32} {p2 : Int32} {g : Nat → Int64}
set_option maxHeartbeats 2000000 in
/-- the law's helper plain(x, a, out): 0, and -1 in out -/
theorem c_Lplain {a : Int32} : jI vwCl yL_plain (.codeWith yL_plain cL_plain 4 (some .int) [(0, 9, 12, 13)] :: gT) 2 120 [.ref 0, .int a, .ref 31] (cW tp fm kp N f 0 sq sc 0 pl rk pr rl rh s12 s13 s14 s15 s16 s17 0 lt (mT th z sz sg tk st ss sn 0 0 kt ks kn 0 lr p2 [.inl (.long, 1, .inr (.inl g))])) 0 0 (fun r pw => r = 0 ∧ pw = (cW tp fm kp N f 0 sq sc 0 pl rk pr rl rh s12 s13 s14 s15 s16 s17 0 lt (mT th z sz sg tk st ss sn 0 0 kt ks kn 0 lr p2 [.inl (.long, 1, .inr (.inl (vp_updL g 0 (-1))))]))) := by
  refine jI_ofH (cc := cL_plain) (nL := 4) .int (by decide) rfl (Nat.le_of_ble_eq_true rfl) (fun _ _ _ => rfl) ?_
  intro X C hX hR
  refine J_aload_n (i := 2) C dL_plain_0 rfl rfl ?_
  refine J_iconst (v := 0) C dL_plain_1 (by decide) ?_
  refine J_aload_n (i := 0) C dL_plain_2 rfl rfl ?_
  refine J_iload_n (i := 1) C dL_plain_3 rfl rfl ?_
  refine J_callVi C [.int a] rfl rfl 32 c_plain (gV mlL_X6_plain imX6_plain slX6_plain iniX6 cdX6_plain) rfl dsX6_plain ⟨by decide, by decide⟩ dL_plain_4 rfl (Nat.le_of_ble_eq_true rfl) rfl (Nat.le_of_ble_eq_true rfl) (Nat.le_of_eq hX) (Nat.le_of_ble_eq_true rfl) (Nat.le_of_ble_eq_true rfl) (fun r pw h hl => ?_)
  obtain ⟨rfl, rfl⟩ := h
  refine J_i2l C dL_plain_7 rfl ?_
  refine J_last C dL_plain_8 rfl (vp_in_nI (n := 0) (by decide) (by decide)) ?_
  refine J_goto (tgt := 15) C dL_plain_9 (by decide) ?_
  refine J_iconst (v := 0) C dL_plain_15 (by decide) ?_
  refine hR _ _ _ _ _ _ dL_plain_16 ⟨rfl,rfl⟩ (Nat.le_of_eq hX) (Nat.le_refl _) (Nat.le_refl _)
end PLN

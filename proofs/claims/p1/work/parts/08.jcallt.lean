set_option maxHeartbeats 1000000 in
theorem J_callTi {X : jK} {cc : ByteArray} {nL : Nat} {own : String} {Ts : List Cond} {cl : List vw_C} {fr lo NC NS : Nat} (C : jX X cc nL own Ts cl fr lo NC NS) {pc : Nat} {lv : Nat → Option Value} {st st0 : List Value} {pw : jW} {nc ns : Nat} {index maxL fr' lo' nc' ns' : Nat} {y : MethodName} {ws ws' : List Cond} {bytes : ByteArray} (As : List Value) {ret : FieldType} {post : Int32 → jW → Prop} (n1 : Nat) (hM : jI cl y ws fr' lo' As pw nc' ns' post) (hG : GoodIn Ts ws) (hini : Cond.initialized y.cls ∈ Ts) (hlk : Cond.methodLink own index y ∈ Ts) (hsy : Cond.static y ∈ Ts) (hw : ws = .code y bytes maxL (some ret) :: ws') (hd : y.cls ≠ "java/lang/invoke/MethodHandle" ∧ y.cls ≠ "java/lang/invoke/VarHandle" ∧ (parseMethodDescriptor y.desc).map (fun d => d.parameters.length) = some As.length) (hR : fr' + 1 ≤ fr ∧ 8 + (maxL + 11) + lo' ≤ lo) (hdg : decode cc pc = .ok (.invokestatic index, 3)) (hst : st0 = As.reverse ++ st) (hcat : (st.map (fun v => v.category)).sum ≤ 8) (hgood : st.all (jgood n1) = true) (hn1 : n1 ≤ pw.length) (hn0 : jn0 X ≤ pw.length) (hc : nc + nc' ≤ NC) (hs : ns + ns' ≤ NS) (kk : ∀ (r : Int32) (pw' : jW), post r pw' → pw.length ≤ pw'.length → J X (pc + 3) (jdrop n1 lv) (.int r :: st) pw' (nc + nc') (ns + ns')) : J X pc lv st0 pw nc ns := by
  obtain ⟨⟨p, l, e, R, s⟩, ⟨m, args, below, meth, c⟩, ⟨nL', D, cl', ty⟩, ⟨A, ad0, n0, Q⟩⟩ := X
  obtain ⟨⟨hx, hb, hml, hown, hts⟩, hK, hA, hZ, hfr, hlo, hNC, hNS, rfl, rfl⟩ := C
  intro ad H locs ls g1 g2 g3 g4 g5
  subst hst
  have hFc := jA_in g3 g4 hA
  refine va_calli (va_runS (As := As.map (jv ad)) (rest := st.map (jv ad)) ⟨hx, hb, hml, hown, hts⟩ (hM l D ty ad H.size) (⟨callB_of As.length hts hG hw rfl rfl (hts _ hini) (hts _ hlk) hd ⟨by rw [hfr]; exact hR.1, by rw [hlo]; exact hR.2⟩, hts _ hsy⟩) ⟨jPre_blind, fun U hU hW => ⟨by simp [jv], by rw [hU], by rw [hU]; exact g2, va_K.moved hW.alike hK, g3.weaken (fun _ _ _ _ => trivial), jZ_call hZ g4 (g1 1000 (Or.inr (Nat.le_refl _))) hFc hW.alike hU⟩⟩ rfl (by simp) g5.1 (by simp [jv]) (lv_room (by rw [jcats]; exact hcat)) hdg ⟨by rw [hNC]; exact hc, by rw [hNS]; exact hs⟩) g4 (fun q _ h => hFc q h) hFc (fun r u t H1 locs1 ht hvm hpost hB hz hk hS => ?_)
  obtain ⟨a1, a2, a3, a4, a5⟩ := hB
  have hag : jag n1 ad u.2 := fun i h1 => a1 i (h1.elim (fun q => Or.inl (Nat.lt_of_lt_of_le q hn1)) Or.inr)
  rw [jgood_map hgood hag]
  rw [ht] at a3
  exact kk r u.1 hpost a2 u.2 H1 locs1 ls (fun i h1 => (a1 i (h1.elim (fun q => Or.inl (Nat.lt_of_lt_of_le q hn0)) Or.inr)).trans (g1 i h1)) a3 (a5.weaken (fun _ q _ h => hFc q.1 h)) hS (jdrop_L g5 hag)
set_option maxHeartbeats 1000000 in
theorem J_callTg {X : jK} {cc : ByteArray} {nL : Nat} {own : String} {Ts : List Cond} {cl : List vw_C} {fr lo NC NS : Nat} (C : jX X cc nL own Ts cl fr lo NC NS) {pc : Nat} {lv : Nat → Option Value} {st st0 : List Value} {pw : jW} {nc ns : Nat} {index maxL fr' lo' nc' ns' : Nat} {y : MethodName} {ws ws' : List Cond} {bytes : ByteArray} (As : List Value) {post : Int64 → jW → Prop} (n1 : Nat) (hM : jG cl y ws fr' lo' As pw nc' ns' post) (hG : GoodIn Ts ws) (hini : Cond.initialized y.cls ∈ Ts) (hlk : Cond.methodLink own index y ∈ Ts) (hsy : Cond.static y ∈ Ts) (hw : ws = .code y bytes maxL (some .long) :: ws') (hd : y.cls ≠ "java/lang/invoke/MethodHandle" ∧ y.cls ≠ "java/lang/invoke/VarHandle" ∧ (parseMethodDescriptor y.desc).map (fun d => d.parameters.length) = some As.length) (hR : fr' + 1 ≤ fr ∧ 8 + (maxL + 11) + lo' ≤ lo) (hdg : decode cc pc = .ok (.invokestatic index, 3)) (hst : st0 = As.reverse ++ st) (hcat : (st.map (fun v => v.category)).sum ≤ 8) (hgood : st.all (jgood n1) = true) (hn1 : n1 ≤ pw.length) (hn0 : jn0 X ≤ pw.length) (hc : nc + nc' ≤ NC) (hs : ns + ns' ≤ NS) (kk : ∀ (r : Int64) (pw' : jW), post r pw' → pw.length ≤ pw'.length → J X (pc + 3) (jdrop n1 lv) (.long r :: st) pw' (nc + nc') (ns + ns')) : J X pc lv st0 pw nc ns := by
  obtain ⟨⟨p, l, e, R, s⟩, ⟨m, args, below, meth, c⟩, ⟨nL', D, cl', ty⟩, ⟨A, ad0, n0, Q⟩⟩ := X
  obtain ⟨⟨hx, hb, hml, hown, hts⟩, hK, hA, hZ, hfr, hlo, hNC, hNS, rfl, rfl⟩ := C
  intro ad H locs ls g1 g2 g3 g4 g5
  subst hst
  have hFc := jA_in g3 g4 hA
  refine va_calll (va_runS (As := As.map (jv ad)) (rest := st.map (jv ad)) ⟨hx, hb, hml, hown, hts⟩ (hM l D ty ad H.size) (⟨callB_of As.length hts hG hw rfl rfl (hts _ hini) (hts _ hlk) hd ⟨by rw [hfr]; exact hR.1, by rw [hlo]; exact hR.2⟩, hts _ hsy⟩) ⟨jPre_blind, fun U hU hW => ⟨by simp [jv], by rw [hU], by rw [hU]; exact g2, va_K.moved hW.alike hK, g3.weaken (fun _ _ _ _ => trivial), jZ_call hZ g4 (g1 1000 (Or.inr (Nat.le_refl _))) hFc hW.alike hU⟩⟩ rfl (by simp) g5.1 (by simp [jv]) (lv_room (by rw [jcats]; exact hcat)) hdg ⟨by rw [hNC]; exact hc, by rw [hNS]; exact hs⟩) g4 (fun q _ h => hFc q h) hFc (fun r u t H1 locs1 ht hvm hpost hB hz hk hS => ?_)
  obtain ⟨a1, a2, a3, a4, a5⟩ := hB
  have hag : jag n1 ad u.2 := fun i h1 => a1 i (h1.elim (fun q => Or.inl (Nat.lt_of_lt_of_le q hn1)) Or.inr)
  rw [jgood_map hgood hag]
  rw [ht] at a3
  exact kk r u.1 hpost a2 u.2 H1 locs1 ls (fun i h1 => (a1 i (h1.elim (fun q => Or.inl (Nat.lt_of_lt_of_le q hn0)) Or.inr)).trans (g1 i h1)) a3 (a5.weaken (fun _ q _ h => hFc q.1 h)) hS (jdrop_L g5 hag)
set_option maxHeartbeats 1000000 in
theorem J_callTn {X : jK} {cc : ByteArray} {nL : Nat} {own : String} {Ts : List Cond} {cl : List vw_C} {fr lo NC NS : Nat} (C : jX X cc nL own Ts cl fr lo NC NS) {pc : Nat} {lv : Nat → Option Value} {st st0 : List Value} {pw : jW} {nc ns : Nat} {index maxL fr' lo' nc' ns' : Nat} {y : MethodName} {ws ws' : List Cond} {bytes : ByteArray} (As : List Value) {post : jW → Prop} (n1 : Nat) (hM : jN cl y ws fr' lo' As pw nc' ns' post) (hG : GoodIn Ts ws) (hini : Cond.initialized y.cls ∈ Ts) (hlk : Cond.methodLink own index y ∈ Ts) (hsy : Cond.static y ∈ Ts) (hw : ws = .code y bytes maxL none :: ws') (hd : y.cls ≠ "java/lang/invoke/MethodHandle" ∧ y.cls ≠ "java/lang/invoke/VarHandle" ∧ (parseMethodDescriptor y.desc).map (fun d => d.parameters.length) = some As.length) (hR : fr' + 1 ≤ fr ∧ 8 + (maxL + 11) + lo' ≤ lo) (hdg : decode cc pc = .ok (.invokestatic index, 3)) (hst : st0 = As.reverse ++ st) (hcat : (st.map (fun v => v.category)).sum ≤ 8) (hgood : st.all (jgood n1) = true) (hn1 : n1 ≤ pw.length) (hn0 : jn0 X ≤ pw.length) (hc : nc + nc' ≤ NC) (hs : ns + ns' ≤ NS) (kk : ∀ (pw' : jW), post pw' → pw.length ≤ pw'.length → J X (pc + 3) (jdrop n1 lv) st pw' (nc + nc') (ns + ns')) : J X pc lv st0 pw nc ns := by
  obtain ⟨⟨p, l, e, R, s⟩, ⟨m, args, below, meth, c⟩, ⟨nL', D, cl', ty⟩, ⟨A, ad0, n0, Q⟩⟩ := X
  obtain ⟨⟨hx, hb, hml, hown, hts⟩, hK, hA, hZ, hfr, hlo, hNC, hNS, rfl, rfl⟩ := C
  intro ad H locs ls g1 g2 g3 g4 g5
  subst hst
  have hFc := jA_in g3 g4 hA
  refine va_callv (va_runS (As := As.map (jv ad)) (rest := st.map (jv ad)) ⟨hx, hb, hml, hown, hts⟩ (hM l D ty ad H.size) (⟨callB_of As.length hts hG hw rfl rfl (hts _ hini) (hts _ hlk) hd ⟨by rw [hfr]; exact hR.1, by rw [hlo]; exact hR.2⟩, hts _ hsy⟩) ⟨jPre_blind, fun U hU hW => ⟨by simp [jv], by rw [hU], by rw [hU]; exact g2, va_K.moved hW.alike hK, g3.weaken (fun _ _ _ _ => trivial), jZ_call hZ g4 (g1 1000 (Or.inr (Nat.le_refl _))) hFc hW.alike hU⟩⟩ rfl (by simp) g5.1 (by simp [jv]) (lv_room (by rw [jcats]; exact hcat)) hdg ⟨by rw [hNC]; exact hc, by rw [hNS]; exact hs⟩) g4 (fun q _ h => hFc q h) hFc (fun u t H1 locs1 ht hvm hpost hB hz hk hS => ?_)
  obtain ⟨a1, a2, a3, a4, a5⟩ := hB
  have hag : jag n1 ad u.2 := fun i h1 => a1 i (h1.elim (fun q => Or.inl (Nat.lt_of_lt_of_le q hn1)) Or.inr)
  rw [jgood_map hgood hag]
  rw [ht] at a3
  exact kk u.1 hpost a2 u.2 H1 locs1 ls (fun i h1 => (a1 i (h1.elim (fun q => Or.inl (Nat.lt_of_lt_of_le q hn0)) Or.inr)).trans (g1 i h1)) a3 (a5.weaken (fun _ q _ h => hFc q.1 h)) hS (jdrop_L g5 hag)

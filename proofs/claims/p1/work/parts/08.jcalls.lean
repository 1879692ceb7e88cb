/-- a value that a call leaves as it is: no reference beyond the first n cells but to a static's place -/
def jgood (n : Nat) (v : Value) : Bool := match v with
  | .ref i => decide (i < n) || decide (1000 ≤ i)
  | _ => true
def jdrop (n : Nat) (lv : Nat → Option Value) : Nat → Option Value := fun j => match lv j with
  | some v => if jgood n v = true then some v else none
  | none => none
theorem jgood_eq {n : Nat} {v : Value} {ad ad' : Nat → Nat} (h : jgood n v = true) (ha : jag n ad ad') : jv ad' v = jv ad v := by
  cases v with
  | ref i =>
    have h1 : i < n ∨ 1000 ≤ i := by simpa [jgood] using h
    show Value.ref (ad' i) = Value.ref (ad i)
    rw [ha i h1]
  | _ => rfl
theorem jgood_map {n : Nat} {st : List Value} {ad ad' : Nat → Nat} (h : st.all (jgood n) = true) (ha : jag n ad ad') : st.map (jv ad) = st.map (jv ad') := by
  refine List.map_congr_left (fun v hv => ?_)
  exact (jgood_eq (List.all_eq_true.mp h v hv) ha).symm
theorem jdrop_L {ls : Array Slot} {nL n : Nat} {lv : Nat → Option Value} {ad ad' : Nat → Nat} (h : jL ls nL ad lv) (ha : jag n ad ad') : jL ls nL ad' (jdrop n lv) := by
  refine ⟨h.1, h.2.1, fun i v hv => ?_⟩
  unfold jdrop at hv
  cases hl : lv i with
  | none => rw [hl] at hv; cases hv
  | some w =>
    rw [hl] at hv
    dsimp only at hv
    by_cases hg : jgood n w = true
    · rw [if_pos hg] at hv
      cases hv
      rw [jgood_eq hg ha]
      exact h.2.2 i _ hl
    · rw [if_neg hg] at hv; cases hv
theorem jA_in {A : Nat → Prop} {ws : va_W} {H0 H : Heap} {locs : List Loc} (hD : va_D A ws) (hS : va_S A H0 H locs) (hA : ∀ q, H0.size ≤ q → A q) : ∀ q, va_A ws H.size q → A q := by
  intro q h
  rcases h with ⟨k, e, h⟩ | h
  · exact hD.2 k (q, e) h
  · exact hA q (Nat.le_trans hS.1 h)
theorem jPre_blind {D : va_G} {cl : List vw_C} {ty : FieldType → ClassId} {ad : Nat → Nat} {sz : Nat} {av : List Value} {pw : jW} : FrameBlind (jPre D cl ty ad sz av pw) := by
  intro a U g mk q
  obtain ⟨q0, q1, qP, qK, qD, qZ⟩ := q
  exact ⟨q0, q1, qP, va_K.moved (u := U) (U := U.calling g mk a) (Vm.Alike.refl U.vm) qK, qD, va_Z.moved (u := U) (U := U.calling g mk a) (Vm.Alike.refl U.vm) qZ.1, va_T.moved (u := U) (U := U.calling g mk a) (Vm.Alike.refl U.vm) qZ.2⟩
theorem jZ_call {ad0 ad : Nat → Nat} {A B : Nat → Prop} {s U : State} {H : Heap} {locs : List Loc} (hZ : jZ ad0 A s s.heap) (hS : va_S A s.heap H locs) (ha : ad 1000 = ad0 1000) (hB : ∀ q, B q → A q) (hvm : s.vm.Alike U.vm) (hU : U.heap = H) : jZ ad B U U.heap := by
  rw [hU]
  unfold jZ
  rw [ha]
  exact ⟨((hZ.1.kept hS.2.1).moved hvm).narrow hB, ((hZ.2.kept hS.2.1).moved hvm).narrow hB⟩
theorem jcats (ad : Nat → Nat) (st : List Value) : ((st.map (jv ad)).map fun v => v.category).sum = (st.map fun v => v.category).sum := by
  rw [List.map_map]
  congr 1
  exact List.map_congr_left (fun v _ => jv_cat ad v)
set_option maxHeartbeats 1000000 in
theorem J_callVi {X : jK} {cc : ByteArray} {nL : Nat} {own : String} {Ts : List Cond} {cl : List vw_C} {fr lo NC NS : Nat} (C : jX X cc nL own Ts cl fr lo NC NS) {pc : Nat} {lv : Nat → Option Value} {st st0 : List Value} {pw : jW} {nc ns : Nat} {index maxL fr' lo' nc' ns' : Nat} {y : MethodName} {ws ws' : List Cond} {bytes : ByteArray} (As : List Value) {ret : FieldType} {post : Int32 → jW → Prop} {b : Nat} {ci N : Nat} {K : String} {T : u_T} {fs : List Value} (hrecv : pw[b]? = some (.inr (ci, fs))) (hcl : cl[ci]? = some (K, T, N)) (n1 : Nat) (hM : jI cl y ws fr' lo' (.ref b :: As) pw nc' ns' post) (hG : GoodIn Ts (wsV own index K y ws)) (hw : ws = .code y bytes maxL (some ret) :: ws') (hd : y.cls = K ∧ y.cls ≠ "java/lang/invoke/MethodHandle" ∧ y.cls ≠ "java/lang/invoke/VarHandle" ∧ (parseMethodDescriptor y.desc).map (fun d => d.parameters.length) = some As.length) (hR : fr' + 1 ≤ fr ∧ 8 + (maxL + 11) + lo' ≤ lo) (hdg : decode cc pc = .ok (.invokevirtual index, 3)) (hst : st0 = As.reverse ++ .ref b :: st) (hcat : (st.map (fun v => v.category)).sum ≤ 8) (hgood : st.all (jgood n1) = true) (hn1 : n1 ≤ pw.length) (hn0 : jn0 X ≤ pw.length) (hc : nc + nc' ≤ NC) (hs : ns + ns' ≤ NS) (kk : ∀ (r : Int32) (pw' : jW), post r pw' → pw.length ≤ pw'.length → J X (pc + 3) (jdrop n1 lv) (.int r :: st) pw' (nc + nc') (ns + ns')) : J X pc lv st0 pw nc ns := by
  obtain ⟨⟨p, l, e, R, s⟩, ⟨m, args, below, meth, c⟩, ⟨nL', D, cl', ty⟩, ⟨A, ad0, n0, Q⟩⟩ := X
  obtain ⟨⟨hx, hb, hml, hown, hts⟩, hK, hA, hZ, hfr, hlo, hNC, hNS, rfl, rfl⟩ := C
  intro ad H locs ls g1 g2 g3 g4 g5
  subst hst
  have hFc := jA_in g3 g4 hA
  refine va_calli (va_runV (b := ad b) (As := As.map (jv ad)) (rest := st.map (jv ad)) ⟨hx, hb, hml, hown, hts⟩ (hM l D ty ad H.size) (cwV As.length hts hG hw rfl rfl hd ⟨by rw [hfr]; exact hR.1, by rw [hlo]; exact hR.2⟩) ⟨jPre_blind, va_recv hK g2 hcl (jr_at hrecv), fun U hU hW => ⟨by simp [jv], by rw [hU], by rw [hU]; exact g2, va_K.moved hW.alike hK, g3.weaken (fun _ _ _ _ => trivial), jZ_call hZ g4 (g1 1000 (Or.inr (Nat.le_refl _))) hFc hW.alike hU⟩⟩ rfl (by simp) g5.1 (by simp [jv]) (lv_room (by rw [jcats]; exact hcat)) hdg ⟨by rw [hNC]; exact hc, by rw [hNS]; exact hs⟩) g4 (fun q _ h => hFc q h) hFc (fun r u t H1 locs1 ht hvm hpost hB hz hk hS => ?_)
  obtain ⟨a1, a2, a3, a4, a5⟩ := hB
  have hag : jag n1 ad u.2 := fun i h1 => a1 i (h1.elim (fun q => Or.inl (Nat.lt_of_lt_of_le q hn1)) Or.inr)
  rw [jgood_map hgood hag]
  rw [ht] at a3
  exact kk r u.1 hpost a2 u.2 H1 locs1 ls (fun i h1 => (a1 i (h1.elim (fun q => Or.inl (Nat.lt_of_lt_of_le q hn0)) Or.inr)).trans (g1 i h1)) a3 (a5.weaken (fun _ q _ h => hFc q.1 h)) hS (jdrop_L g5 hag)
set_option maxHeartbeats 1000000 in
theorem J_callVg {X : jK} {cc : ByteArray} {nL : Nat} {own : String} {Ts : List Cond} {cl : List vw_C} {fr lo NC NS : Nat} (C : jX X cc nL own Ts cl fr lo NC NS) {pc : Nat} {lv : Nat → Option Value} {st st0 : List Value} {pw : jW} {nc ns : Nat} {index maxL fr' lo' nc' ns' : Nat} {y : MethodName} {ws ws' : List Cond} {bytes : ByteArray} (As : List Value) {post : Int64 → jW → Prop} {b : Nat} {ci N : Nat} {K : String} {T : u_T} {fs : List Value} (hrecv : pw[b]? = some (.inr (ci, fs))) (hcl : cl[ci]? = some (K, T, N)) (n1 : Nat) (hM : jG cl y ws fr' lo' (.ref b :: As) pw nc' ns' post) (hG : GoodIn Ts (wsV own index K y ws)) (hw : ws = .code y bytes maxL (some .long) :: ws') (hd : y.cls = K ∧ y.cls ≠ "java/lang/invoke/MethodHandle" ∧ y.cls ≠ "java/lang/invoke/VarHandle" ∧ (parseMethodDescriptor y.desc).map (fun d => d.parameters.length) = some As.length) (hR : fr' + 1 ≤ fr ∧ 8 + (maxL + 11) + lo' ≤ lo) (hdg : decode cc pc = .ok (.invokevirtual index, 3)) (hst : st0 = As.reverse ++ .ref b :: st) (hcat : (st.map (fun v => v.category)).sum ≤ 8) (hgood : st.all (jgood n1) = true) (hn1 : n1 ≤ pw.length) (hn0 : jn0 X ≤ pw.length) (hc : nc + nc' ≤ NC) (hs : ns + ns' ≤ NS) (kk : ∀ (r : Int64) (pw' : jW), post r pw' → pw.length ≤ pw'.length → J X (pc + 3) (jdrop n1 lv) (.long r :: st) pw' (nc + nc') (ns + ns')) : J X pc lv st0 pw nc ns := by
  obtain ⟨⟨p, l, e, R, s⟩, ⟨m, args, below, meth, c⟩, ⟨nL', D, cl', ty⟩, ⟨A, ad0, n0, Q⟩⟩ := X
  obtain ⟨⟨hx, hb, hml, hown, hts⟩, hK, hA, hZ, hfr, hlo, hNC, hNS, rfl, rfl⟩ := C
  intro ad H locs ls g1 g2 g3 g4 g5
  subst hst
  have hFc := jA_in g3 g4 hA
  refine va_calll (va_runV (b := ad b) (As := As.map (jv ad)) (rest := st.map (jv ad)) ⟨hx, hb, hml, hown, hts⟩ (hM l D ty ad H.size) (cwV As.length hts hG hw rfl rfl hd ⟨by rw [hfr]; exact hR.1, by rw [hlo]; exact hR.2⟩) ⟨jPre_blind, va_recv hK g2 hcl (jr_at hrecv), fun U hU hW => ⟨by simp [jv], by rw [hU], by rw [hU]; exact g2, va_K.moved hW.alike hK, g3.weaken (fun _ _ _ _ => trivial), jZ_call hZ g4 (g1 1000 (Or.inr (Nat.le_refl _))) hFc hW.alike hU⟩⟩ rfl (by simp) g5.1 (by simp [jv]) (lv_room (by rw [jcats]; exact hcat)) hdg ⟨by rw [hNC]; exact hc, by rw [hNS]; exact hs⟩) g4 (fun q _ h => hFc q h) hFc (fun r u t H1 locs1 ht hvm hpost hB hz hk hS => ?_)
  obtain ⟨a1, a2, a3, a4, a5⟩ := hB
  have hag : jag n1 ad u.2 := fun i h1 => a1 i (h1.elim (fun q => Or.inl (Nat.lt_of_lt_of_le q hn1)) Or.inr)
  rw [jgood_map hgood hag]
  rw [ht] at a3
  exact kk r u.1 hpost a2 u.2 H1 locs1 ls (fun i h1 => (a1 i (h1.elim (fun q => Or.inl (Nat.lt_of_lt_of_le q hn0)) Or.inr)).trans (g1 i h1)) a3 (a5.weaken (fun _ q _ h => hFc q.1 h)) hS (jdrop_L g5 hag)
set_option maxHeartbeats 1000000 in
theorem J_callVn {X : jK} {cc : ByteArray} {nL : Nat} {own : String} {Ts : List Cond} {cl : List vw_C} {fr lo NC NS : Nat} (C : jX X cc nL own Ts cl fr lo NC NS) {pc : Nat} {lv : Nat → Option Value} {st st0 : List Value} {pw : jW} {nc ns : Nat} {index maxL fr' lo' nc' ns' : Nat} {y : MethodName} {ws ws' : List Cond} {bytes : ByteArray} (As : List Value) {post : jW → Prop} {b : Nat} {ci N : Nat} {K : String} {T : u_T} {fs : List Value} (hrecv : pw[b]? = some (.inr (ci, fs))) (hcl : cl[ci]? = some (K, T, N)) (n1 : Nat) (hM : jN cl y ws fr' lo' (.ref b :: As) pw nc' ns' post) (hG : GoodIn Ts (wsV own index K y ws)) (hw : ws = .code y bytes maxL none :: ws') (hd : y.cls = K ∧ y.cls ≠ "java/lang/invoke/MethodHandle" ∧ y.cls ≠ "java/lang/invoke/VarHandle" ∧ (parseMethodDescriptor y.desc).map (fun d => d.parameters.length) = some As.length) (hR : fr' + 1 ≤ fr ∧ 8 + (maxL + 11) + lo' ≤ lo) (hdg : decode cc pc = .ok (.invokevirtual index, 3)) (hst : st0 = As.reverse ++ .ref b :: st) (hcat : (st.map (fun v => v.category)).sum ≤ 8) (hgood : st.all (jgood n1) = true) (hn1 : n1 ≤ pw.length) (hn0 : jn0 X ≤ pw.length) (hc : nc + nc' ≤ NC) (hs : ns + ns' ≤ NS) (kk : ∀ (pw' : jW), post pw' → pw.length ≤ pw'.length → J X (pc + 3) (jdrop n1 lv) st pw' (nc + nc') (ns + ns')) : J X pc lv st0 pw nc ns := by
  obtain ⟨⟨p, l, e, R, s⟩, ⟨m, args, below, meth, c⟩, ⟨nL', D, cl', ty⟩, ⟨A, ad0, n0, Q⟩⟩ := X
  obtain ⟨⟨hx, hb, hml, hown, hts⟩, hK, hA, hZ, hfr, hlo, hNC, hNS, rfl, rfl⟩ := C
  intro ad H locs ls g1 g2 g3 g4 g5
  subst hst
  have hFc := jA_in g3 g4 hA
  refine va_callv (va_runV (b := ad b) (As := As.map (jv ad)) (rest := st.map (jv ad)) ⟨hx, hb, hml, hown, hts⟩ (hM l D ty ad H.size) (cwV As.length hts hG hw rfl rfl hd ⟨by rw [hfr]; exact hR.1, by rw [hlo]; exact hR.2⟩) ⟨jPre_blind, va_recv hK g2 hcl (jr_at hrecv), fun U hU hW => ⟨by simp [jv], by rw [hU], by rw [hU]; exact g2, va_K.moved hW.alike hK, g3.weaken (fun _ _ _ _ => trivial), jZ_call hZ g4 (g1 1000 (Or.inr (Nat.le_refl _))) hFc hW.alike hU⟩⟩ rfl (by simp) g5.1 (by simp [jv]) (lv_room (by rw [jcats]; exact hcat)) hdg ⟨by rw [hNC]; exact hc, by rw [hNS]; exact hs⟩) g4 (fun q _ h => hFc q h) hFc (fun u t H1 locs1 ht hvm hpost hB hz hk hS => ?_)
  obtain ⟨a1, a2, a3, a4, a5⟩ := hB
  have hag : jag n1 ad u.2 := fun i h1 => a1 i (h1.elim (fun q => Or.inl (Nat.lt_of_lt_of_le q hn1)) Or.inr)
  rw [jgood_map hgood hag]
  rw [ht] at a3
  exact kk u.1 hpost a2 u.2 H1 locs1 ls (fun i h1 => (a1 i (h1.elim (fun q => Or.inl (Nat.lt_of_lt_of_le q hn0)) Or.inr)).trans (g1 i h1)) a3 (a5.weaken (fun _ q _ h => hFc q.1 h)) hS (jdrop_L g5 hag)
set_option maxHeartbeats 1000000 in
theorem J_callSi {X : jK} {cc : ByteArray} {nL : Nat} {own : String} {Ts : List Cond} {cl : List vw_C} {fr lo NC NS : Nat} (C : jX X cc nL own Ts cl fr lo NC NS) {pc : Nat} {lv : Nat → Option Value} {st st0 : List Value} {pw : jW} {nc ns : Nat} {index maxL fr' lo' nc' ns' : Nat} {y : MethodName} {ws ws' : List Cond} {bytes : ByteArray} (As : List Value) {ret : FieldType} {post : Int32 → jW → Prop} (n1 : Nat) (hM : jI cl y ws fr' lo' As pw nc' ns' post) (hG : GoodIn Ts (wsS own index y ws)) (hw : ws = .code y bytes maxL (some ret) :: ws') (hd : y.cls = own ∧ y.cls ≠ "java/lang/invoke/MethodHandle" ∧ y.cls ≠ "java/lang/invoke/VarHandle" ∧ (parseMethodDescriptor y.desc).map (fun d => d.parameters.length) = some As.length) (hR : fr' + 1 ≤ fr ∧ 8 + (maxL + 11) + lo' ≤ lo) (hdg : decode cc pc = .ok (.invokestatic index, 3)) (hst : st0 = As.reverse ++ st) (hcat : (st.map (fun v => v.category)).sum ≤ 8) (hgood : st.all (jgood n1) = true) (hn1 : n1 ≤ pw.length) (hn0 : jn0 X ≤ pw.length) (hc : nc + nc' ≤ NC) (hs : ns + ns' ≤ NS) (kk : ∀ (r : Int32) (pw' : jW), post r pw' → pw.length ≤ pw'.length → J X (pc + 3) (jdrop n1 lv) (.int r :: st) pw' (nc + nc') (ns + ns')) : J X pc lv st0 pw nc ns := by
  obtain ⟨⟨p, l, e, R, s⟩, ⟨m, args, below, meth, c⟩, ⟨nL', D, cl', ty⟩, ⟨A, ad0, n0, Q⟩⟩ := X
  obtain ⟨⟨hx, hb, hml, hown, hts⟩, hK, hA, hZ, hfr, hlo, hNC, hNS, rfl, rfl⟩ := C
  intro ad H locs ls g1 g2 g3 g4 g5
  subst hst
  have hFc := jA_in g3 g4 hA
  refine va_calli (va_runS (As := As.map (jv ad)) (rest := st.map (jv ad)) ⟨hx, hb, hml, hown, hts⟩ (hM l D ty ad H.size) (cwS As.length hts hG hw rfl rfl hd ⟨by rw [hfr]; exact hR.1, by rw [hlo]; exact hR.2⟩) ⟨jPre_blind, fun U hU hW => ⟨by simp [jv], by rw [hU], by rw [hU]; exact g2, va_K.moved hW.alike hK, g3.weaken (fun _ _ _ _ => trivial), jZ_call hZ g4 (g1 1000 (Or.inr (Nat.le_refl _))) hFc hW.alike hU⟩⟩ rfl (by simp) g5.1 (by simp [jv]) (lv_room (by rw [jcats]; exact hcat)) hdg ⟨by rw [hNC]; exact hc, by rw [hNS]; exact hs⟩) g4 (fun q _ h => hFc q h) hFc (fun r u t H1 locs1 ht hvm hpost hB hz hk hS => ?_)
  obtain ⟨a1, a2, a3, a4, a5⟩ := hB
  have hag : jag n1 ad u.2 := fun i h1 => a1 i (h1.elim (fun q => Or.inl (Nat.lt_of_lt_of_le q hn1)) Or.inr)
  rw [jgood_map hgood hag]
  rw [ht] at a3
  exact kk r u.1 hpost a2 u.2 H1 locs1 ls (fun i h1 => (a1 i (h1.elim (fun q => Or.inl (Nat.lt_of_lt_of_le q hn0)) Or.inr)).trans (g1 i h1)) a3 (a5.weaken (fun _ q _ h => hFc q.1 h)) hS (jdrop_L g5 hag)
set_option maxHeartbeats 1000000 in
theorem J_callSg {X : jK} {cc : ByteArray} {nL : Nat} {own : String} {Ts : List Cond} {cl : List vw_C} {fr lo NC NS : Nat} (C : jX X cc nL own Ts cl fr lo NC NS) {pc : Nat} {lv : Nat → Option Value} {st st0 : List Value} {pw : jW} {nc ns : Nat} {index maxL fr' lo' nc' ns' : Nat} {y : MethodName} {ws ws' : List Cond} {bytes : ByteArray} (As : List Value) {post : Int64 → jW → Prop} (n1 : Nat) (hM : jG cl y ws fr' lo' As pw nc' ns' post) (hG : GoodIn Ts (wsS own index y ws)) (hw : ws = .code y bytes maxL (some .long) :: ws') (hd : y.cls = own ∧ y.cls ≠ "java/lang/invoke/MethodHandle" ∧ y.cls ≠ "java/lang/invoke/VarHandle" ∧ (parseMethodDescriptor y.desc).map (fun d => d.parameters.length) = some As.length) (hR : fr' + 1 ≤ fr ∧ 8 + (maxL + 11) + lo' ≤ lo) (hdg : decode cc pc = .ok (.invokestatic index, 3)) (hst : st0 = As.reverse ++ st) (hcat : (st.map (fun v => v.category)).sum ≤ 8) (hgood : st.all (jgood n1) = true) (hn1 : n1 ≤ pw.length) (hn0 : jn0 X ≤ pw.length) (hc : nc + nc' ≤ NC) (hs : ns + ns' ≤ NS) (kk : ∀ (r : Int64) (pw' : jW), post r pw' → pw.length ≤ pw'.length → J X (pc + 3) (jdrop n1 lv) (.long r :: st) pw' (nc + nc') (ns + ns')) : J X pc lv st0 pw nc ns := by
  obtain ⟨⟨p, l, e, R, s⟩, ⟨m, args, below, meth, c⟩, ⟨nL', D, cl', ty⟩, ⟨A, ad0, n0, Q⟩⟩ := X
  obtain ⟨⟨hx, hb, hml, hown, hts⟩, hK, hA, hZ, hfr, hlo, hNC, hNS, rfl, rfl⟩ := C
  intro ad H locs ls g1 g2 g3 g4 g5
  subst hst
  have hFc := jA_in g3 g4 hA
  refine va_calll (va_runS (As := As.map (jv ad)) (rest := st.map (jv ad)) ⟨hx, hb, hml, hown, hts⟩ (hM l D ty ad H.size) (cwS As.length hts hG hw rfl rfl hd ⟨by rw [hfr]; exact hR.1, by rw [hlo]; exact hR.2⟩) ⟨jPre_blind, fun U hU hW => ⟨by simp [jv], by rw [hU], by rw [hU]; exact g2, va_K.moved hW.alike hK, g3.weaken (fun _ _ _ _ => trivial), jZ_call hZ g4 (g1 1000 (Or.inr (Nat.le_refl _))) hFc hW.alike hU⟩⟩ rfl (by simp) g5.1 (by simp [jv]) (lv_room (by rw [jcats]; exact hcat)) hdg ⟨by rw [hNC]; exact hc, by rw [hNS]; exact hs⟩) g4 (fun q _ h => hFc q h) hFc (fun r u t H1 locs1 ht hvm hpost hB hz hk hS => ?_)
  obtain ⟨a1, a2, a3, a4, a5⟩ := hB
  have hag : jag n1 ad u.2 := fun i h1 => a1 i (h1.elim (fun q => Or.inl (Nat.lt_of_lt_of_le q hn1)) Or.inr)
  rw [jgood_map hgood hag]
  rw [ht] at a3
  exact kk r u.1 hpost a2 u.2 H1 locs1 ls (fun i h1 => (a1 i (h1.elim (fun q => Or.inl (Nat.lt_of_lt_of_le q hn0)) Or.inr)).trans (g1 i h1)) a3 (a5.weaken (fun _ q _ h => hFc q.1 h)) hS (jdrop_L g5 hag)
set_option maxHeartbeats 1000000 in
theorem J_callSn {X : jK} {cc : ByteArray} {nL : Nat} {own : String} {Ts : List Cond} {cl : List vw_C} {fr lo NC NS : Nat} (C : jX X cc nL own Ts cl fr lo NC NS) {pc : Nat} {lv : Nat → Option Value} {st st0 : List Value} {pw : jW} {nc ns : Nat} {index maxL fr' lo' nc' ns' : Nat} {y : MethodName} {ws ws' : List Cond} {bytes : ByteArray} (As : List Value) {post : jW → Prop} (n1 : Nat) (hM : jN cl y ws fr' lo' As pw nc' ns' post) (hG : GoodIn Ts (wsS own index y ws)) (hw : ws = .code y bytes maxL none :: ws') (hd : y.cls = own ∧ y.cls ≠ "java/lang/invoke/MethodHandle" ∧ y.cls ≠ "java/lang/invoke/VarHandle" ∧ (parseMethodDescriptor y.desc).map (fun d => d.parameters.length) = some As.length) (hR : fr' + 1 ≤ fr ∧ 8 + (maxL + 11) + lo' ≤ lo) (hdg : decode cc pc = .ok (.invokestatic index, 3)) (hst : st0 = As.reverse ++ st) (hcat : (st.map (fun v => v.category)).sum ≤ 8) (hgood : st.all (jgood n1) = true) (hn1 : n1 ≤ pw.length) (hn0 : jn0 X ≤ pw.length) (hc : nc + nc' ≤ NC) (hs : ns + ns' ≤ NS) (kk : ∀ (pw' : jW), post pw' → pw.length ≤ pw'.length → J X (pc + 3) (jdrop n1 lv) st pw' (nc + nc') (ns + ns')) : J X pc lv st0 pw nc ns := by
  obtain ⟨⟨p, l, e, R, s⟩, ⟨m, args, below, meth, c⟩, ⟨nL', D, cl', ty⟩, ⟨A, ad0, n0, Q⟩⟩ := X
  obtain ⟨⟨hx, hb, hml, hown, hts⟩, hK, hA, hZ, hfr, hlo, hNC, hNS, rfl, rfl⟩ := C
  intro ad H locs ls g1 g2 g3 g4 g5
  subst hst
  have hFc := jA_in g3 g4 hA
  refine va_callv (va_runS (As := As.map (jv ad)) (rest := st.map (jv ad)) ⟨hx, hb, hml, hown, hts⟩ (hM l D ty ad H.size) (cwS As.length hts hG hw rfl rfl hd ⟨by rw [hfr]; exact hR.1, by rw [hlo]; exact hR.2⟩) ⟨jPre_blind, fun U hU hW => ⟨by simp [jv], by rw [hU], by rw [hU]; exact g2, va_K.moved hW.alike hK, g3.weaken (fun _ _ _ _ => trivial), jZ_call hZ g4 (g1 1000 (Or.inr (Nat.le_refl _))) hFc hW.alike hU⟩⟩ rfl (by simp) g5.1 (by simp [jv]) (lv_room (by rw [jcats]; exact hcat)) hdg ⟨by rw [hNC]; exact hc, by rw [hNS]; exact hs⟩) g4 (fun q _ h => hFc q h) hFc (fun u t H1 locs1 ht hvm hpost hB hz hk hS => ?_)
  obtain ⟨a1, a2, a3, a4, a5⟩ := hB
  have hag : jag n1 ad u.2 := fun i h1 => a1 i (h1.elim (fun q => Or.inl (Nat.lt_of_lt_of_le q hn1)) Or.inr)
  rw [jgood_map hgood hag]
  rw [ht] at a3
  exact kk u.1 hpost a2 u.2 H1 locs1 ls (fun i h1 => (a1 i (h1.elim (fun q => Or.inl (Nat.lt_of_lt_of_le q hn0)) Or.inr)).trans (g1 i h1)) a3 (a5.weaken (fun _ q _ h => hFc q.1 h)) hS (jdrop_L g5 hag)
set_option maxHeartbeats 1000000 in
theorem J_callIn {X : jK} {cc : ByteArray} {nL : Nat} {own : String} {Ts : List Cond} {cl : List vw_C} {fr lo NC NS : Nat} (C : jX X cc nL own Ts cl fr lo NC NS) {pc : Nat} {lv : Nat → Option Value} {st st0 : List Value} {pw : jW} {nc ns : Nat} {index maxL fr' lo' nc' ns' : Nat} {y : MethodName} {ws ws' : List Cond} {bytes : ByteArray} (As : List Value) {post : jW → Prop} {b : Nat} (n1 : Nat) (hM : jN cl y ws fr' lo' (.ref b :: As) pw nc' ns' post) (hG : GoodIn Ts ws) (hini : Cond.initialized y.cls ∈ Ts) (hlk : Cond.methodLink own index y ∈ Ts) (him : Cond.instanceMethod y ∈ Ts) (hy1 : y.name = "<init>") (hw : ws = .code y bytes maxL none :: ws') (hd : y.cls ≠ "java/lang/invoke/MethodHandle" ∧ y.cls ≠ "java/lang/invoke/VarHandle" ∧ (parseMethodDescriptor y.desc).map (fun d => d.parameters.length) = some As.length) (hR : fr' + 1 ≤ fr ∧ 8 + (maxL + 11) + lo' ≤ lo) (hdg : decode cc pc = .ok (.invokespecial index, 3)) (hst : st0 = As.reverse ++ .ref b :: st) (hcat : (st.map (fun v => v.category)).sum ≤ 8) (hgood : st.all (jgood n1) = true) (hn1 : n1 ≤ pw.length) (hn0 : jn0 X ≤ pw.length) (hc : nc + nc' ≤ NC) (hs : ns + ns' ≤ NS) (kk : ∀ (pw' : jW), post pw' → pw.length ≤ pw'.length → J X (pc + 3) (jdrop n1 lv) st pw' (nc + nc') (ns + ns')) : J X pc lv st0 pw nc ns := by
  obtain ⟨⟨p, l, e, R, s⟩, ⟨m, args, below, meth, c⟩, ⟨nL', D, cl', ty⟩, ⟨A, ad0, n0, Q⟩⟩ := X
  obtain ⟨⟨hx, hb, hml, hown, hts⟩, hK, hA, hZ, hfr, hlo, hNC, hNS, rfl, rfl⟩ := C
  intro ad H locs ls g1 g2 g3 g4 g5
  subst hst
  have hFc := jA_in g3 g4 hA
  refine va_callv (va_runI (b := ad b) (As := As.map (jv ad)) (rest := st.map (jv ad)) ⟨hx, hb, hml, hown, hts⟩ (hM l D ty ad H.size) (cwI As.length hts hG hw rfl rfl (hts _ hini) (hts _ hlk) (hts _ him) hy1 hd ⟨by rw [hfr]; exact hR.1, by rw [hlo]; exact hR.2⟩) ⟨jPre_blind, fun U hU hW => ⟨by simp [jv], by rw [hU], by rw [hU]; exact g2, va_K.moved hW.alike hK, g3.weaken (fun _ _ _ _ => trivial), jZ_call hZ g4 (g1 1000 (Or.inr (Nat.le_refl _))) hFc hW.alike hU⟩⟩ rfl (by simp) g5.1 (by simp [jv]) (lv_room (by rw [jcats]; exact hcat)) hdg ⟨by rw [hNC]; exact hc, by rw [hNS]; exact hs⟩) g4 (fun q _ h => hFc q h) hFc (fun u t H1 locs1 ht hvm hpost hB hz hk hS => ?_)
  obtain ⟨a1, a2, a3, a4, a5⟩ := hB
  have hag : jag n1 ad u.2 := fun i h1 => a1 i (h1.elim (fun q => Or.inl (Nat.lt_of_lt_of_le q hn1)) Or.inr)
  rw [jgood_map hgood hag]
  rw [ht] at a3
  exact kk u.1 hpost a2 u.2 H1 locs1 ls (fun i h1 => (a1 i (h1.elim (fun q => Or.inl (Nat.lt_of_lt_of_le q hn0)) Or.inr)).trans (g1 i h1)) a3 (a5.weaken (fun _ q _ h => hFc q.1 h)) hS (jdrop_L g5 hag)

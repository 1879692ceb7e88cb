/-! library members in the pure world: arraycopy over int rows, Math.max, Math.min; static calls of another class -/
set_option maxHeartbeats 1000000 in
theorem J_copy {X : jK} {cc : ByteArray} {nL : Nat} {own : String} {Ts : List Cond} {cl : List vw_C} {fr lo NC NS : Nat} (C : jX X cc nL own Ts cl fr lo NC NS) {pc : Nat} {lv : Nat → Option Value} {st : List Value} {pw : jW} {nc ns : Nat} {index i0 i1 n0 n1 a b k : Nat} {f g : Nat → Int32} {x y z : Int32} (hd : decode cc pc = .ok (.invokestatic index, 3)) (hlk : Cond.methodLink own index arraycopyName ∈ Ts) (hnat : Cond.native arraycopyName ∈ Ts) (hst : Cond.static arraycopyName ∈ Ts) (hini : Cond.initialized "java/lang/System" ∈ Ts) (h0 : pw[i0]? = some (.inl (.int, n0, .inl f))) (h1 : pw[i1]? = some (.inl (.int, n1, .inl g))) (hx : x = nI a) (hy : y = nI b) (hz : z = nI k) (ha : a + k ≤ n0) (hb2 : b + k ≤ n1) (hn : n0 < 2 ^ 31 ∧ n1 < 2 ^ 31) (hF : 1 ≤ fr) (hW : (st.map fun v => v.category).sum + (nativeFrameWords "java/lang/System" "arraycopy" 5 + 11) ≤ lo) (kk : J X (pc + 3) lv st (pw.set i1 (.inl (.int, n1, .inl (va_cpy f g a b k)))) nc ns) : J X pc lv (.int z :: .int y :: .ref i1 :: .int x :: .ref i0 :: st) pw nc ns := by
  obtain ⟨⟨p, l, e, R, s⟩, ⟨m, args, below, meth, c⟩, ⟨nL', D, cl', ty⟩, ⟨A, ad0, n0', Q⟩⟩ := X
  obtain ⟨⟨hx', hb, hml, hown, hts⟩, hK, hA, hfr, hlo, hNC, hNS, rfl, rfl⟩ := C
  intro ad H locs ls g1 g2 g3 g4 g5
  subst hx; subst hy; subst hz
  have ca : (nI a).toNatClampNeg = a := nI_clamp (by omega)
  have cb : (nI b).toNatClampNeg = b := nI_clamp (by omega)
  have ck : (nI k).toNatClampNeg = k := nI_clamp (by omega)
  refine va_copyi hx' hb (by rw [hml]; exact g5.1.symm) hown (hts _ hlk) (hts _ hnat) (hts _ hst) (hts _ hini) hK g2 g3 g4 i0 i1 0 0 (jr_at h0) (jr_at h1) rfl rfl rfl (nI_pos (by omega)) (nI_pos (by omega)) (nI_pos (by omega)) (by rw [ca, ck]; exact ha) (by rw [cb, ck]; exact hb2) (fun _ _ => rfl) (by rw [hfr]; exact hF) (by rw [jcats, hlo]; exact hW) hd (fun H1 locs1 a1 a2 a3 => ?_)
  rw [ca, cb, ck] at a1 a2
  have e1 := jr_set ty ad pw i1 (.inl (.int, n1, .inl (va_cpy f g a b k)))
  exact kk ad H1 locs1 ls g1 (e1 ▸ a1) (e1 ▸ a2) a3 g5
set_option maxHeartbeats 1000000 in
theorem J_mmax {X : jK} {cc : ByteArray} {nL : Nat} {own : String} {Ts : List Cond} {cl : List vw_C} {fr lo NC NS : Nat} (C : jX X cc nL own Ts cl fr lo NC NS) {pc : Nat} {lv : Nat → Option Value} {st : List Value} {pw : jW} {nc ns index : Nat} {x y : Int32} (hd : decode cc pc = .ok (.invokestatic index, 3)) (hlk : Cond.methodLink own index Lib.Math.max.name ∈ Ts) (hst : Cond.static Lib.Math.max.name ∈ Ts) (hini : Cond.initialized "java/lang/Math" ∈ Ts) (hcd : Cond.code Lib.Math.max.name Lib.Math.max.code 2 (some .int) ∈ Ts) (hF : 1 ≤ fr) (hW : (st.map fun v => v.category).sum + 13 ≤ lo) (hc : nc ≤ NC) (hs : ns ≤ NS) (kk : J X (pc + 3) lv (.int (if x < y then y else x) :: st) pw nc ns) : J X pc lv (.int y :: .int x :: st) pw nc ns := by
  obtain ⟨⟨p, l, e, R, s⟩, ⟨m, args, below, meth, c⟩, ⟨nL', D, cl', ty⟩, ⟨A, ad0, n0', Q⟩⟩ := X
  obtain ⟨⟨hx', hb, hml, hown, hts⟩, hK, hA, hfr, hlo, hNC, hNS, rfl, rfl⟩ := C
  intro ad H locs ls g1 g2 g3 g4 g5
  exact va_mmax hx' hb (by rw [hml]; exact g5.1.symm) hown (hts _ hlk) (hts _ hst) (hts _ hini) (hts _ hcd) (by rw [hfr]; exact hF) (by rw [jcats, hlo]; exact hW) (by rw [hNC]; exact hc) (by rw [hNS]; exact hs) hd (kk ad H locs ls g1 g2 g3 g4 g5)
set_option maxHeartbeats 1000000 in
theorem J_mmin {X : jK} {cc : ByteArray} {nL : Nat} {own : String} {Ts : List Cond} {cl : List vw_C} {fr lo NC NS : Nat} (C : jX X cc nL own Ts cl fr lo NC NS) {pc : Nat} {lv : Nat → Option Value} {st : List Value} {pw : jW} {nc ns index : Nat} {x y : Int32} (hd : decode cc pc = .ok (.invokestatic index, 3)) (hlk : Cond.methodLink own index Lib.Math.min.name ∈ Ts) (hst : Cond.static Lib.Math.min.name ∈ Ts) (hini : Cond.initialized "java/lang/Math" ∈ Ts) (hcd : Cond.code Lib.Math.min.name Lib.Math.min.code 2 (some .int) ∈ Ts) (hF : 1 ≤ fr) (hW : (st.map fun v => v.category).sum + 13 ≤ lo) (hc : nc ≤ NC) (hs : ns ≤ NS) (kk : J X (pc + 3) lv (.int (if y < x then y else x) :: st) pw nc ns) : J X pc lv (.int y :: .int x :: st) pw nc ns := by
  obtain ⟨⟨p, l, e, R, s⟩, ⟨m, args, below, meth, c⟩, ⟨nL', D, cl', ty⟩, ⟨A, ad0, n0', Q⟩⟩ := X
  obtain ⟨⟨hx', hb, hml, hown, hts⟩, hK, hA, hfr, hlo, hNC, hNS, rfl, rfl⟩ := C
  intro ad H locs ls g1 g2 g3 g4 g5
  exact va_mmin hx' hb (by rw [hml]; exact g5.1.symm) hown (hts _ hlk) (hts _ hst) (hts _ hini) (hts _ hcd) (by rw [hfr]; exact hF) (by rw [jcats, hlo]; exact hW) (by rw [hNC]; exact hc) (by rw [hNS]; exact hs) hd (kk ad H locs ls g1 g2 g3 g4 g5)
set_option maxHeartbeats 1000000 in
theorem J_callTi {X : jK} {cc : ByteArray} {nL : Nat} {own : String} {Ts : List Cond} {cl : List vw_C} {fr lo NC NS : Nat} (C : jX X cc nL own Ts cl fr lo NC NS) {pc : Nat} {lv : Nat → Option Value} {st st0 : List Value} {pw : jW} {nc ns : Nat} {index maxL fr' lo' nc' ns' : Nat} {y : MethodName} {ws ws' : List Cond} {bytes : ByteArray} (As : List Value) {ret : FieldType} {post : Int32 → jW → Prop} (n1 : Nat) (hM : jI cl y ws fr' lo' As pw nc' ns' post) (hG : GoodIn Ts ws) (hini : Cond.initialized y.cls ∈ Ts) (hlk : Cond.methodLink own index y ∈ Ts) (hsy : Cond.static y ∈ Ts) (hw : ws = .code y bytes maxL (some ret) :: ws') (hd : y.cls ≠ "java/lang/invoke/MethodHandle" ∧ y.cls ≠ "java/lang/invoke/VarHandle" ∧ (parseMethodDescriptor y.desc).map (fun d => d.parameters.length) = some As.length) (hR : fr' + 1 ≤ fr ∧ 8 + (maxL + 11) + lo' ≤ lo) (hdg : decode cc pc = .ok (.invokestatic index, 3)) (hst : st0 = As.reverse ++ st) (hcat : (st.map (fun v => v.category)).sum ≤ 8) (hgood : st.all (jgood n1) = true) (hn1 : n1 ≤ pw.length) (hn0 : jn0 X ≤ pw.length) (hc : nc + nc' ≤ NC) (hs : ns + ns' ≤ NS) (kk : ∀ (r : Int32) (pw' : jW), post r pw' → pw.length ≤ pw'.length → J X (pc + 3) (jdrop n1 lv) (.int r :: st) pw' (nc + nc') (ns + ns')) : J X pc lv st0 pw nc ns := by
  obtain ⟨⟨p, l, e, R, s⟩, ⟨m, args, below, meth, c⟩, ⟨nL', D, cl', ty⟩, ⟨A, ad0, n0, Q⟩⟩ := X
  obtain ⟨⟨hx, hb, hml, hown, hts⟩, hK, hA, hfr, hlo, hNC, hNS, rfl, rfl⟩ := C
  intro ad H locs ls g1 g2 g3 g4 g5
  subst hst
  have hFc := jA_in g3 g4 hA
  refine va_calli (va_runS (As := As.map (jv ad)) (rest := st.map (jv ad)) ⟨hx, hb, hml, hown, hts⟩ (hM l D ty ad H.size) (⟨callB_of As.length hts hG hw rfl rfl (hts _ hini) (hts _ hlk) hd ⟨by rw [hfr]; exact hR.1, by rw [hlo]; exact hR.2⟩, hts _ hsy⟩) ⟨jPre_blind, fun U hU hW => ⟨by simp [jv], by rw [hU], by rw [hU]; exact g2, va_K.moved hW.alike hK, g3.weaken (fun _ _ _ _ => trivial)⟩⟩ rfl (by simp) g5.1 (by simp [jv]) (lv_room (by rw [jcats]; exact hcat)) hdg ⟨by rw [hNC]; exact hc, by rw [hNS]; exact hs⟩) g4 (fun q _ h => hFc q h) hFc (fun r u t H1 locs1 ht hvm hpost hB hz hk hS => ?_)
  obtain ⟨a1, a2, a3, a4, a5⟩ := hB
  have hag : ∀ i, i < n1 → i ≠ 2 → u.2 i = ad i := fun i h1 h2 => a1 i (Nat.lt_of_lt_of_le h1 hn1) h2
  rw [jgood_map hgood hag]
  rw [ht] at a3
  exact kk r u.1 hpost a2 u.2 H1 locs1 ls (fun i h1 h2 => (a1 i (Nat.lt_of_lt_of_le h1 hn0) h2).trans (g1 i h1 h2)) a3 (a5.weaken (fun _ q _ h => hFc q.1 h)) hS (jdrop_L g5 hag)
set_option maxHeartbeats 1000000 in
theorem J_callTg {X : jK} {cc : ByteArray} {nL : Nat} {own : String} {Ts : List Cond} {cl : List vw_C} {fr lo NC NS : Nat} (C : jX X cc nL own Ts cl fr lo NC NS) {pc : Nat} {lv : Nat → Option Value} {st st0 : List Value} {pw : jW} {nc ns : Nat} {index maxL fr' lo' nc' ns' : Nat} {y : MethodName} {ws ws' : List Cond} {bytes : ByteArray} (As : List Value) {post : Int64 → jW → Prop} (n1 : Nat) (hM : jG cl y ws fr' lo' As pw nc' ns' post) (hG : GoodIn Ts ws) (hini : Cond.initialized y.cls ∈ Ts) (hlk : Cond.methodLink own index y ∈ Ts) (hsy : Cond.static y ∈ Ts) (hw : ws = .code y bytes maxL (some .long) :: ws') (hd : y.cls ≠ "java/lang/invoke/MethodHandle" ∧ y.cls ≠ "java/lang/invoke/VarHandle" ∧ (parseMethodDescriptor y.desc).map (fun d => d.parameters.length) = some As.length) (hR : fr' + 1 ≤ fr ∧ 8 + (maxL + 11) + lo' ≤ lo) (hdg : decode cc pc = .ok (.invokestatic index, 3)) (hst : st0 = As.reverse ++ st) (hcat : (st.map (fun v => v.category)).sum ≤ 8) (hgood : st.all (jgood n1) = true) (hn1 : n1 ≤ pw.length) (hn0 : jn0 X ≤ pw.length) (hc : nc + nc' ≤ NC) (hs : ns + ns' ≤ NS) (kk : ∀ (r : Int64) (pw' : jW), post r pw' → pw.length ≤ pw'.length → J X (pc + 3) (jdrop n1 lv) (.long r :: st) pw' (nc + nc') (ns + ns')) : J X pc lv st0 pw nc ns := by
  obtain ⟨⟨p, l, e, R, s⟩, ⟨m, args, below, meth, c⟩, ⟨nL', D, cl', ty⟩, ⟨A, ad0, n0, Q⟩⟩ := X
  obtain ⟨⟨hx, hb, hml, hown, hts⟩, hK, hA, hfr, hlo, hNC, hNS, rfl, rfl⟩ := C
  intro ad H locs ls g1 g2 g3 g4 g5
  subst hst
  have hFc := jA_in g3 g4 hA
  refine va_calll (va_runS (As := As.map (jv ad)) (rest := st.map (jv ad)) ⟨hx, hb, hml, hown, hts⟩ (hM l D ty ad H.size) (⟨callB_of As.length hts hG hw rfl rfl (hts _ hini) (hts _ hlk) hd ⟨by rw [hfr]; exact hR.1, by rw [hlo]; exact hR.2⟩, hts _ hsy⟩) ⟨jPre_blind, fun U hU hW => ⟨by simp [jv], by rw [hU], by rw [hU]; exact g2, va_K.moved hW.alike hK, g3.weaken (fun _ _ _ _ => trivial)⟩⟩ rfl (by simp) g5.1 (by simp [jv]) (lv_room (by rw [jcats]; exact hcat)) hdg ⟨by rw [hNC]; exact hc, by rw [hNS]; exact hs⟩) g4 (fun q _ h => hFc q h) hFc (fun r u t H1 locs1 ht hvm hpost hB hz hk hS => ?_)
  obtain ⟨a1, a2, a3, a4, a5⟩ := hB
  have hag : ∀ i, i < n1 → i ≠ 2 → u.2 i = ad i := fun i h1 h2 => a1 i (Nat.lt_of_lt_of_le h1 hn1) h2
  rw [jgood_map hgood hag]
  rw [ht] at a3
  exact kk r u.1 hpost a2 u.2 H1 locs1 ls (fun i h1 h2 => (a1 i (Nat.lt_of_lt_of_le h1 hn0) h2).trans (g1 i h1 h2)) a3 (a5.weaken (fun _ q _ h => hFc q.1 h)) hS (jdrop_L g5 hag)
set_option maxHeartbeats 1000000 in
theorem J_callTn {X : jK} {cc : ByteArray} {nL : Nat} {own : String} {Ts : List Cond} {cl : List vw_C} {fr lo NC NS : Nat} (C : jX X cc nL own Ts cl fr lo NC NS) {pc : Nat} {lv : Nat → Option Value} {st st0 : List Value} {pw : jW} {nc ns : Nat} {index maxL fr' lo' nc' ns' : Nat} {y : MethodName} {ws ws' : List Cond} {bytes : ByteArray} (As : List Value) {post : jW → Prop} (n1 : Nat) (hM : jN cl y ws fr' lo' As pw nc' ns' post) (hG : GoodIn Ts ws) (hini : Cond.initialized y.cls ∈ Ts) (hlk : Cond.methodLink own index y ∈ Ts) (hsy : Cond.static y ∈ Ts) (hw : ws = .code y bytes maxL none :: ws') (hd : y.cls ≠ "java/lang/invoke/MethodHandle" ∧ y.cls ≠ "java/lang/invoke/VarHandle" ∧ (parseMethodDescriptor y.desc).map (fun d => d.parameters.length) = some As.length) (hR : fr' + 1 ≤ fr ∧ 8 + (maxL + 11) + lo' ≤ lo) (hdg : decode cc pc = .ok (.invokestatic index, 3)) (hst : st0 = As.reverse ++ st) (hcat : (st.map (fun v => v.category)).sum ≤ 8) (hgood : st.all (jgood n1) = true) (hn1 : n1 ≤ pw.length) (hn0 : jn0 X ≤ pw.length) (hc : nc + nc' ≤ NC) (hs : ns + ns' ≤ NS) (kk : ∀ (pw' : jW), post pw' → pw.length ≤ pw'.length → J X (pc + 3) (jdrop n1 lv) st pw' (nc + nc') (ns + ns')) : J X pc lv st0 pw nc ns := by
  obtain ⟨⟨p, l, e, R, s⟩, ⟨m, args, below, meth, c⟩, ⟨nL', D, cl', ty⟩, ⟨A, ad0, n0, Q⟩⟩ := X
  obtain ⟨⟨hx, hb, hml, hown, hts⟩, hK, hA, hfr, hlo, hNC, hNS, rfl, rfl⟩ := C
  intro ad H locs ls g1 g2 g3 g4 g5
  subst hst
  have hFc := jA_in g3 g4 hA
  refine va_callv (va_runS (As := As.map (jv ad)) (rest := st.map (jv ad)) ⟨hx, hb, hml, hown, hts⟩ (hM l D ty ad H.size) (⟨callB_of As.length hts hG hw rfl rfl (hts _ hini) (hts _ hlk) hd ⟨by rw [hfr]; exact hR.1, by rw [hlo]; exact hR.2⟩, hts _ hsy⟩) ⟨jPre_blind, fun U hU hW => ⟨by simp [jv], by rw [hU], by rw [hU]; exact g2, va_K.moved hW.alike hK, g3.weaken (fun _ _ _ _ => trivial)⟩⟩ rfl (by simp) g5.1 (by simp [jv]) (lv_room (by rw [jcats]; exact hcat)) hdg ⟨by rw [hNC]; exact hc, by rw [hNS]; exact hs⟩) g4 (fun q _ h => hFc q h) hFc (fun u t H1 locs1 ht hvm hpost hB hz hk hS => ?_)
  obtain ⟨a1, a2, a3, a4, a5⟩ := hB
  have hag : ∀ i, i < n1 → i ≠ 2 → u.2 i = ad i := fun i h1 h2 => a1 i (Nat.lt_of_lt_of_le h1 hn1) h2
  rw [jgood_map hgood hag]
  rw [ht] at a3
  exact kk u.1 hpost a2 u.2 H1 locs1 ls (fun i h1 h2 => (a1 i (Nat.lt_of_lt_of_le h1 hn0) h2).trans (g1 i h1 h2)) a3 (a5.weaken (fun _ q _ h => hFc q.1 h)) hS (jdrop_L g5 hag)
theorem acNat : Cond.native arraycopyName ∈ gT := gT_mem (List.mem_of_getElem? (i := 220) (by decide +kernel)) rfl
theorem acSt : Cond.static arraycopyName ∈ gT := gT_mem (List.mem_of_getElem? (i := 219) (by decide +kernel)) rfl
theorem iniSys : Cond.initialized "java/lang/System" ∈ gT := gT_mem (List.mem_of_getElem? (i := 10) (by decide +kernel)) rfl
theorem iniMath : Cond.initialized "java/lang/Math" ∈ gT := gT_mem (List.mem_of_getElem? (i := 8) (by decide +kernel)) rfl
theorem mlX3_ac : Cond.methodLink RX3 58 arraycopyName ∈ gT := gT_mem (List.mem_of_getElem? (i := 545) (by decide +kernel)) rfl
theorem mlX3_max : Cond.methodLink RX3 29 Lib.Math.max.name ∈ gT := gT_mem (List.mem_of_getElem? (i := 202) (by decide +kernel)) rfl
theorem stMax : Cond.static Lib.Math.max.name ∈ gT := gT_mem (List.mem_of_getElem? (i := 203) (by decide +kernel)) rfl
theorem cdMax : Cond.code Lib.Math.max.name Lib.Math.max.code 2 (some .int) ∈ gT := gT_mem (List.mem_of_getElem? (i := 204) (by decide +kernel)) rfl
theorem mlX3_min : Cond.methodLink RX3 72 Lib.Math.min.name ∈ gT := gT_mem (List.mem_of_getElem? (i := 708) (by decide +kernel)) rfl
theorem stMin : Cond.static Lib.Math.min.name ∈ gT := gT_mem (List.mem_of_getElem? (i := 216) (by decide +kernel)) rfl
theorem cdMin : Cond.code Lib.Math.min.name Lib.Math.min.code 2 (some .int) ∈ gT := gT_mem (List.mem_of_getElem? (i := 217) (by decide +kernel)) rfl

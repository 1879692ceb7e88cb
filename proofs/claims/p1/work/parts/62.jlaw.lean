/-! THE LAW: rows over its script (place 2000), the switch, the end -/
def jS (X : jK) (b L : Nat) (xs : Nat → Int32) : Prop := match X with
  | ((_, _, _, _, s), _, _, (A, ad0, _, _)) => va_X b L xs s s.heap ∧ b < s.heap.size ∧ ¬ A b ∧ ad0 2000 = b
section JL
variable {X : jK} {cc : ByteArray} {nL : Nat} {own : String} {Ts : List Cond} {cl : List vw_C} {fr lo NC NS : Nat} {pc : Nat} {lv : Nat → Option Value} {st : List Value} {pw : jW} {nc ns : Nat} {b L : Nat} {xs : Nat → Int32}
theorem J_sld (C : jX X cc nL own Ts cl fr lo NC NS) (S : jS X b L xs) (hd : decode cc pc = .ok (.iaload, 1)) {i : Nat} (hi : i < L) (hL : L < 2 ^ 31) (kk : J X (pc + 1) lv (.int (xs i) :: st) pw nc ns) : J X pc lv (.int (nI i) :: .ref 2000 :: st) pw nc ns := by
  obtain ⟨⟨p, l, e, R, s⟩, ⟨m, args, below, meth, c⟩, ⟨nL', D, cl', ty⟩, ⟨A, ad0, n0, Q⟩⟩ := X
  obtain ⟨⟨hx, hb, hml, hown, hts⟩, hK, hA, hZ, hfr, hlo, hNC, hNS, rfl, rfl⟩ := C
  obtain ⟨s1, s2, s3, s4⟩ := S
  intro ad H locs ls g1 g2 g3 g4 g5
  have e0 : ad 2000 = b := (g1 2000 (Or.inr (by decide))).trans s4
  show W _ _ _ _ _ _ _ _ _ _ _ _ _ _ _ (F0 m pc ls (.int (nI i) :: .ref (ad 2000) :: st.map (jv ad)))
  rw [e0]
  exact va_sld hx hb s1 s2 s3 g4 (vp_in_nI hi hL) hd (by rw [nI_clamp (by omega)]; exact kk ad H locs ls g1 g2 g3 g4 g5)
theorem J_slen (C : jX X cc nL own Ts cl fr lo NC NS) (S : jS X b L xs) (hd : decode cc pc = .ok (.arraylength, 1)) (kk : J X (pc + 1) lv (.int (nI L) :: st) pw nc ns) : J X pc lv (.ref 2000 :: st) pw nc ns := by
  obtain ⟨⟨p, l, e, R, s⟩, ⟨m, args, below, meth, c⟩, ⟨nL', D, cl', ty⟩, ⟨A, ad0, n0, Q⟩⟩ := X
  obtain ⟨⟨hx, hb, hml, hown, hts⟩, hK, hA, hZ, hfr, hlo, hNC, hNS, rfl, rfl⟩ := C
  obtain ⟨s1, s2, s3, s4⟩ := S
  intro ad H locs ls g1 g2 g3 g4 g5
  have e0 : ad 2000 = b := (g1 2000 (Or.inr (by decide))).trans s4
  show W _ _ _ _ _ _ _ _ _ _ _ _ _ _ _ (F0 m pc ls (.ref (ad 2000) :: st.map (jv ad)))
  rw [e0]
  exact va_slen hx hb s1 s2 s3 g4 hd (kk ad H locs ls g1 g2 g3 g4 g5)
theorem J_tswIn (C : jX X cc nL own Ts cl fr lo NC NS) {dflt lo' hi : Int} {offs : Array Int} {len : Nat} {x : Int32} {off : Int} {tgt : Nat} (hd : decode cc pc = .ok (.tableswitch dflt lo' hi offs, len)) (h1 : ¬ x.toInt < lo') (h2 : ¬ hi < x.toInt) (ho : offs[(x.toInt - lo').toNat]? = some off) (ht : (pc : Int) + off = (tgt : Int)) (k : J X tgt lv st pw nc ns) : J X pc lv (.int x :: st) pw nc ns := by
  obtain ⟨⟨p, l, e, R, s⟩, ⟨m, args, below, meth, c⟩, ⟨nL', D, cl', ty⟩, ⟨A, ad0, n0, Q⟩⟩ := X
  obtain ⟨⟨hx, hb, hml, hown, hts⟩, hK, hA, hZ, hfr, hlo, hNC, hNS, rfl, rfl⟩ := C
  intro ad H locs ls g1 g2 g3 g4 g5
  exact lv_tableIn hx hb hd h1 h2 ho ht (k ad H locs ls g1 g2 g3 g4 g5)
theorem J_tswOut (C : jX X cc nL own Ts cl fr lo NC NS) {dflt lo' hi : Int} {offs : Array Int} {len : Nat} {x : Int32} {tgt : Nat} (hd : decode cc pc = .ok (.tableswitch dflt lo' hi offs, len)) (h : x.toInt < lo' ∨ hi < x.toInt) (ht : (pc : Int) + dflt = (tgt : Int)) (k : J X tgt lv st pw nc ns) : J X pc lv (.int x :: st) pw nc ns := by
  obtain ⟨⟨p, l, e, R, s⟩, ⟨m, args, below, meth, c⟩, ⟨nL', D, cl', ty⟩, ⟨A, ad0, n0, Q⟩⟩ := X
  obtain ⟨⟨hx, hb, hml, hown, hts⟩, hK, hA, hZ, hfr, hlo, hNC, hNS, rfl, rfl⟩ := C
  intro ad H locs ls g1 g2 g3 g4 g5
  exact lv_tableOut hx hb hd h ht (k ad H locs ls g1 g2 g3 g4 g5)
end JL
set_option maxHeartbeats 1000000 in
/-- the law's end -/
theorem J_lend {p : Program} {l : Launch} {e : Env} {s : State} {m : MethodId} {below : List Frame} {meth : Method} {c : Code} {b : Nat} {D : va_G} {cl : List vw_C} {ty : FieldType → ClassId} {ad0 : Nat → Nat} {n0 : Nat} (hx : p.tables.exec = Jvm.exec) (hb : c.code = code) (hr : meth.sig.returnType = ret) (hlocks : meth.locks = false) {pc : Nat} {lv : Nat → Option Value} {pw : jW} {nc ns : Nat} (hd : decode code pc = .ok (.ireturn, 1)) (h1 : nc ≤ 600002) (h2 : ns ≤ 7302231) :
    J ((p, l, e, room_1, s), (m, #[Value.ref b], below, meth, c), (7, D, cl, ty), (fun q => s.heap.size ≤ q, ad0, n0, lw_Z below #[Value.ref b] s)) pc lv [.int 1] pw nc ns := by
  intro ad H locs ls g1 g2 g3 g4 g5
  refine va_forget (fun q hq => g4.2.2 q hq) ?_
  refine W.widen h1 h2 ?_
  exact lw_ret hx hb hr hlocks hd
/-! a helper with a table of its own: returning -/
set_option maxHeartbeats 1000000 in
theorem jI_ofH {cl : List vw_C} {y : MethodName} {ws ws' : List Cond} {fr lo nL nc ns : Nat} {av : List Value} {pw : jW} {post : Int32 → jW → Prop} {cc : ByteArray} {hh : List (Nat × Nat × Nat × Nat)} (ret : FieldType) (hy : plainName y.cls = true) (hw : ws = .codeWith y cc nL (some ret) hh :: ws') (hl : (lg_sl av).length ≤ nL) (hn : ∀ (r : Int32) (pw : jW), post r pw → narrow ret (.int r) = .int r)
    (body : ∀ X : jK, jX X cc nL y.cls ws cl fr lo nc ns → jn0 X = pw.length → jRi X cc post nc ns → J X 0 (jent av) [] pw 0 0) : jI cl y ws fr lo av pw nc ns post := by
  intro l D ty ad sz
  refine MetFree.of_bodyS (code := cc) (maxLocals := nL) (ret := some ret) hy ?_ ?_
  · intro args s m h hn2
    obtain ⟨m9, meth9, c9, hn9, h1, h2, h3, h4, h5, h6, h7, h8⟩ := Cond.codeWith_spec (atoms_spec (ws := ws) h _ (by rw [hw]; exact List.mem_cons_self))
    cases Option.some.inj (hn9.symm.trans hn2)
    exact ⟨meth9, c9, h1, h2, h3, h4, by assumption, by assumption⟩
  intro p e s m args below meth c s₁ B hml hv _
  obtain ⟨rfl, hsz, hP, hK, hD0, hZ⟩ := hv
  subst hsz
  have hD := hD0.self (sz := s.heap.size)
  have hl2 := lv_entry (av.map (jv ad)) (n := nL) (by rw [jlen]; exact hl)
  have hh0 : s₁.heap = s.heap := by rw [B.state]; rfl
  have hown : s.vm.findClass y.cls = some m.cls := findClass_of_methodNamed B.named
  have K : W p l e (headSpec ws (jRm fr lo nc ns)).room s m (av.map (jv ad)).toArray below meth c s.heap [] 0 0 (MQ below (va_Qi (S := jW × (Nat → Nat)) (fun r u => post r u.1) (jB D cl ty ad pw.length (va_A (jr ty ad pw) s.heap.size)) (va_A (jr ty ad pw) s.heap.size)) (av.map (jv ad)).toArray s nc ns (va_A (jr ty ad pw) s.heap.size)) (entryFrame m (av.map (jv ad)).toArray nL) := by
    rw [lg_entry_eq]
    generalize (lg_sl (av.map (jv ad)) ++ List.replicate (nL - (lg_sl (av.map (jv ad))).length) Slot.unset).toArray = ls at hl2 ⊢
    refine body ((p, l, e, (headSpec ws (jRm fr lo nc ns)).room, s), (m, (av.map (jv ad)).toArray, below, meth, c), (nL, D, cl, ty), (va_A (jr ty ad pw) s.heap.size, ad, pw.length, _)) ⟨⟨B.exec, B.bytes, hml, hown, atoms_spec (ws := ws) B.pre⟩, hK, fun q h => Or.inr h, hZ, rfl, rfl, rfl, rfl, rfl, rfl⟩ rfl ?_ ad s.heap [] ls (fun _ _ => rfl) hP hD va_S.rf (jent_L hl2)
    intro pc lv r pw2 k n hd hpost hlen h1 h2 ad2 H locs ls2 g1 g2 g3 g4 g5
    refine W.widen h1 h2 ?_
    exact W.zret B.exec B.bytes B.returns (hn r pw2 hpost) (fun t ht hW => ⟨⟨r, (pw2, ad2), rfl, hpost, g1, hlen, by rw [ht]; exact g2, va_K.moved hW.alike hK, g3⟩, g4.F ht⟩) g4.2.2 hd B.notSynchronized
  obtain ⟨t, a1, o, b1, b2, b3⟩ := K s₁ hh0 (Stand.of_body B)
  exact ⟨t, o, a1, b1, b2, ⟨b3.1, b3.2⟩⟩
set_option maxHeartbeats 1000000 in
/-- a static call of such a helper -/
theorem J_callHi {X : jK} {cc : ByteArray} {nL : Nat} {own : String} {Ts : List Cond} {cl : List vw_C} {fr lo NC NS : Nat} (C : jX X cc nL own Ts cl fr lo NC NS) {pc : Nat} {lv : Nat → Option Value} {st st0 : List Value} {pw : jW} {nc ns : Nat} {index maxL fr' lo' nc' ns' : Nat} {y : MethodName} {ws ws' : List Cond} {bytes : ByteArray} {hh : List (Nat × Nat × Nat × Nat)} (As : List Value) {ret : FieldType} {post : Int32 → jW → Prop} (n1 : Nat) (hM : jI cl y ws fr' lo' As pw nc' ns' post) (hG : GoodIn Ts (va_wsS own index y ws)) (hw : ws = .codeWith y bytes maxL (some ret) hh :: ws') (hd : y.cls ≠ "java/lang/invoke/MethodHandle" ∧ y.cls ≠ "java/lang/invoke/VarHandle" ∧ (parseMethodDescriptor y.desc).map (fun d => d.parameters.length) = some As.length) (hR : fr' + 1 ≤ fr ∧ 8 + (maxL + 11) + lo' ≤ lo) (hdg : decode cc pc = .ok (.invokestatic index, 3)) (hst : st0 = As.reverse ++ st) (hcat : (st.map (fun v => v.category)).sum ≤ 8) (hgood : st.all (jgood n1) = true) (hn1 : n1 ≤ pw.length) (hn0 : jn0 X ≤ pw.length) (hc : nc + nc' ≤ NC) (hs : ns + ns' ≤ NS) (kk : ∀ (r : Int32) (pw' : jW), post r pw' → pw.length ≤ pw'.length → J X (pc + 3) (jdrop n1 lv) (.int r :: st) pw' (nc + nc') (ns + ns')) : J X pc lv st0 pw nc ns := by
  obtain ⟨⟨p, l, e, R, s⟩, ⟨m, args, below, meth, c⟩, ⟨nL', D, cl', ty⟩, ⟨A, ad0, n0, Q⟩⟩ := X
  obtain ⟨⟨hx, hb, hml, hown, hts⟩, hK, hA, hZ, hfr, hlo, hNC, hNS, rfl, rfl⟩ := C
  intro ad H locs ls g1 g2 g3 g4 g5
  subst hst
  have hFc := jA_in g3 g4 hA
  refine va_calli (vx_runSW (As := As.map (jv ad)) (rest := st.map (jv ad)) ⟨hx, hb, hml, hown, hts⟩ (hM l D ty ad H.size) (vx_cwSW As.length hts hG hw rfl rfl hd ⟨by rw [hfr]; exact hR.1, by rw [hlo]; exact hR.2⟩) ⟨jPre_blind, fun U hU hW => ⟨by simp [jv], by rw [hU], by rw [hU]; exact g2, va_K.moved hW.alike hK, g3.weaken (fun _ _ _ _ => trivial), jZ_call hZ g4 (g1 1000 (Or.inr (Nat.le_refl _))) hFc hW.alike hU⟩⟩ rfl (by simp) g5.1 (by simp [jv]) (lv_room (by rw [jcats]; exact hcat)) hdg ⟨by rw [hNC]; exact hc, by rw [hNS]; exact hs⟩) g4 (fun q _ h => hFc q h) hFc (fun r u t H1 locs1 ht hvm hpost hB hz hk hS => ?_)
  obtain ⟨a1, a2, a3, a4, a5⟩ := hB
  have hag : jag n1 ad u.2 := fun i h1 => a1 i (h1.elim (fun q => Or.inl (Nat.lt_of_lt_of_le q hn1)) Or.inr)
  rw [jgood_map hgood hag]
  rw [ht] at a3
  exact kk r u.1 hpost a2 u.2 H1 locs1 ls (fun i h1 => (a1 i (h1.elim (fun q => Or.inl (Nat.lt_of_lt_of_le q hn0)) Or.inr)).trans (g1 i h1)) a3 (a5.weaken (fun _ q _ h => hFc q.1 h)) hS (jdrop_L g5 hag)

/-! CONTRACTS in the pure world: a method at these arguments, in this world, ends with an answer and a world of which 'post' holds; nc new cells of ns slots come at the most. -/
def jB (D : va_G) (cl : List vw_C) (ty : FieldType → ClassId) (ad : Nat → Nat) (n : Nat) (A : Nat → Prop) (u : jW × (Nat → Nat)) (t : State) : Prop := jag n ad u.2 ∧ n ≤ u.1.length ∧ va_P D cl (jr ty u.2 u.1) t.heap ∧ va_K D cl (jtys ty) t ∧ va_D A (jr ty u.2 u.1)
def jPre (D : va_G) (cl : List vw_C) (ty : FieldType → ClassId) (ad : Nat → Nat) (sz : Nat) (av : List Value) (pw : jW) : Array Value → State → Prop := va_Pc (av.map (jv ad)) (fun U => U.heap.size = sz ∧ va_P D cl (jr ty ad pw) U.heap ∧ va_K D cl (jtys ty) U ∧ va_D (fun _ => True) (jr ty ad pw) ∧ jZ ad (va_A (jr ty ad pw) sz) U U.heap)
abbrev jRm (fr lo nc ns : Nat) : Room := { frames := fr, cells := nc, slots := ns, locals := lo }
def jI (cl : List vw_C) (y : MethodName) (ws : List Cond) (fr lo : Nat) (av : List Value) (pw : jW) (nc ns : Nat) (post : Int32 → jW → Prop) : Prop :=
  ∀ (l : Launch) (D : va_G) (ty : FieldType → ClassId) (ad : Nat → Nat) (sz : Nat), Met l y ws (jRm fr lo nc ns) (jPre D cl ty ad sz av pw) (va_Qi (S := jW × (Nat → Nat)) (fun r u => post r u.1) (jB D cl ty ad pw.length (va_A (jr ty ad pw) sz)) (va_A (jr ty ad pw) sz)) nc ns (va_A (jr ty ad pw) sz)
def jG (cl : List vw_C) (y : MethodName) (ws : List Cond) (fr lo : Nat) (av : List Value) (pw : jW) (nc ns : Nat) (post : Int64 → jW → Prop) : Prop :=
  ∀ (l : Launch) (D : va_G) (ty : FieldType → ClassId) (ad : Nat → Nat) (sz : Nat), Met l y ws (jRm fr lo nc ns) (jPre D cl ty ad sz av pw) (va_Ql (S := jW × (Nat → Nat)) (fun r u => post r u.1) (jB D cl ty ad pw.length (va_A (jr ty ad pw) sz)) (va_A (jr ty ad pw) sz)) nc ns (va_A (jr ty ad pw) sz)
def jN (cl : List vw_C) (y : MethodName) (ws : List Cond) (fr lo : Nat) (av : List Value) (pw : jW) (nc ns : Nat) (post : jW → Prop) : Prop :=
  ∀ (l : Launch) (D : va_G) (ty : FieldType → ClassId) (ad : Nat → Nat) (sz : Nat), Met l y ws (jRm fr lo nc ns) (jPre D cl ty ad sz av pw) (va_Qv (S := jW × (Nat → Nat)) (fun u => post u.1) (jB D cl ty ad pw.length (va_A (jr ty ad pw) sz)) (va_A (jr ty ad pw) sz)) nc ns (va_A (jr ty ad pw) sz)
/-- the locals at a method's start -/
def jent (av : List Value) : Nat → Option Value := fun i => ((lv_args 0 av).find? (fun q => q.1 == i)).map (fun q => q.2)
theorem jargs_map (ad : Nat → Nat) (av : List Value) : ∀ i, lv_args i (av.map (jv ad)) = (lv_args i av).map (fun q => (q.1, jv ad q.2)) := by
  induction av with
  | nil => intro i; rfl
  | cons v vs ih =>
    intro i
    simp only [List.map_cons, lv_args, jv_cat, ih]
theorem jent_L {ls : Array Slot} {nL : Nat} {ad : Nat → Nat} {av : List Value} (h : lv_has ls nL (lv_args 0 (av.map (jv ad)))) : jL ls nL ad (jent av) := by
  refine ⟨h.1, h.2.1, fun i v hv => ?_⟩
  unfold jent at hv
  cases hf : (lv_args 0 av).find? (fun q => q.1 == i) with
  | none => rw [hf] at hv; cases hv
  | some q =>
    rw [hf] at hv
    cases hv
    have h1 := List.mem_of_find?_eq_some hf
    have h2 := List.find?_some hf
    have h3 : q.1 = i := by simpa using h2
    subst h3
    refine h.2.2 (q.1, jv ad q.2) ?_
    rw [jargs_map]
    exact List.mem_map.mpr ⟨q, h1, rfl⟩
def jn0 (X : jK) : Nat := X.2.2.2.2.2.1
/-- the method's end: with an int, a long, nothing -/
def jRi (X : jK) (cc : ByteArray) (post : Int32 → jW → Prop) (NC NS : Nat) : Prop := ∀ (pc : Nat) (lv : Nat → Option Value) (r : Int32) (pw : jW) (nc ns : Nat), decode cc pc = .ok (.ireturn, 1) → post r pw → jn0 X ≤ pw.length → nc ≤ NC → ns ≤ NS → J X pc lv [.int r] pw nc ns
def jRg (X : jK) (cc : ByteArray) (post : Int64 → jW → Prop) (NC NS : Nat) : Prop := ∀ (pc : Nat) (lv : Nat → Option Value) (r : Int64) (pw : jW) (nc ns : Nat), decode cc pc = .ok (.lreturn, 1) → post r pw → jn0 X ≤ pw.length → nc ≤ NC → ns ≤ NS → J X pc lv [.long r] pw nc ns
def jRn (X : jK) (cc : ByteArray) (post : jW → Prop) (NC NS : Nat) : Prop := ∀ (pc : Nat) (lv : Nat → Option Value) (pw : jW) (nc ns : Nat), decode cc pc = .ok (.return_, 1) → post pw → jn0 X ≤ pw.length → nc ≤ NC → ns ≤ NS → J X pc lv [] pw nc ns
theorem jlen (ad : Nat → Nat) (av : List Value) : (lg_sl (av.map (jv ad))).length = (lg_sl av).length := by
  induction av with
  | nil => rfl
  | cons v vs ih =>
    have e1 : ∀ (w : Value) (ws : List Value), (lg_sl (w :: ws)).length = (if w.category = 2 then 2 else 1) + (lg_sl ws).length := by
      intro w ws
      simp only [lg_sl, List.flatMap_cons, List.length_append]
      by_cases hw : w.category = 2 <;> simp [hw]
    rw [List.map_cons, e1, e1, jv_cat, ih]
set_option maxHeartbeats 1000000 in
theorem jI_of {cl : List vw_C} {y : MethodName} {ws ws' : List Cond} {fr lo nL nc ns : Nat} {av : List Value} {pw : jW} {post : Int32 → jW → Prop} {cc : ByteArray} (ret : FieldType) (hy : plainName y.cls = true) (hw : ws = .code y cc nL (some ret) :: ws') (hl : (lg_sl av).length ≤ nL) (hn : ∀ (r : Int32) (pw : jW), post r pw → narrow ret (.int r) = .int r)
    (body : ∀ X : jK, jX X cc nL y.cls ws cl fr lo nc ns → jn0 X = pw.length → jRi X cc post nc ns → J X 0 (jent av) [] pw 0 0) : jI cl y ws fr lo av pw nc ns post := by
  intro l D ty ad sz
  refine Met.ofW (cc := cc) (maxL := nL) (ret := some ret) hy hw ?_
  intro p e s m args below meth c s₁ B hml hv
  obtain ⟨rfl, hsz, hP, hK, hD0, hZ⟩ := hv
  subst hsz
  have hD := hD0.self (sz := s.heap.size)
  have hl2 := lv_entry (av.map (jv ad)) (n := nL) (by rw [jlen]; exact hl)
  rw [lg_entry_eq]
  generalize (lg_sl (av.map (jv ad)) ++ List.replicate (nL - (lg_sl (av.map (jv ad))).length) Slot.unset).toArray = ls at hl2 ⊢
  have hown : s.vm.findClass y.cls = some m.cls := findClass_of_methodNamed B.named
  refine body ((p, l, e, (headSpec ws (jRm fr lo nc ns)).room, s), (m, (av.map (jv ad)).toArray, below, meth, c), (nL, D, cl, ty), (va_A (jr ty ad pw) s.heap.size, ad, pw.length, _)) ⟨⟨B.exec, B.bytes, hml, hown, atoms_spec (ws := ws) B.pre⟩, hK, fun q h => Or.inr h, hZ, rfl, rfl, rfl, rfl, rfl, rfl⟩ rfl ?_ ad s.heap [] ls (fun _ _ => rfl) hP hD va_S.rf (jent_L hl2)
  intro pc lv r pw2 k n hd hpost hlen h1 h2 ad2 H locs ls2 g1 g2 g3 g4 g5
  refine W.widen h1 h2 ?_
  exact W.zret B.exec B.bytes B.returns (hn r pw2 hpost) (fun t ht hW => ⟨⟨r, (pw2, ad2), rfl, hpost, g1, hlen, by rw [ht]; exact g2, va_K.moved hW.alike hK, g3⟩, g4.F ht⟩) g4.2.2 hd B.notSynchronized
set_option maxHeartbeats 1000000 in
theorem jG_of {cl : List vw_C} {y : MethodName} {ws ws' : List Cond} {fr lo nL nc ns : Nat} {av : List Value} {pw : jW} {post : Int64 → jW → Prop} {cc : ByteArray} (hy : plainName y.cls = true) (hw : ws = .code y cc nL (some .long) :: ws') (hl : (lg_sl av).length ≤ nL)
    (body : ∀ X : jK, jX X cc nL y.cls ws cl fr lo nc ns → jn0 X = pw.length → jRg X cc post nc ns → J X 0 (jent av) [] pw 0 0) : jG cl y ws fr lo av pw nc ns post := by
  intro l D ty ad sz
  refine Met.ofW (cc := cc) (maxL := nL) (ret := some .long) hy hw ?_
  intro p e s m args below meth c s₁ B hml hv
  obtain ⟨rfl, hsz, hP, hK, hD0, hZ⟩ := hv
  subst hsz
  have hD := hD0.self (sz := s.heap.size)
  have hl2 := lv_entry (av.map (jv ad)) (n := nL) (by rw [jlen]; exact hl)
  rw [lg_entry_eq]
  generalize (lg_sl (av.map (jv ad)) ++ List.replicate (nL - (lg_sl (av.map (jv ad))).length) Slot.unset).toArray = ls at hl2 ⊢
  have hown : s.vm.findClass y.cls = some m.cls := findClass_of_methodNamed B.named
  refine body ((p, l, e, (headSpec ws (jRm fr lo nc ns)).room, s), (m, (av.map (jv ad)).toArray, below, meth, c), (nL, D, cl, ty), (va_A (jr ty ad pw) s.heap.size, ad, pw.length, _)) ⟨⟨B.exec, B.bytes, hml, hown, atoms_spec (ws := ws) B.pre⟩, hK, fun q h => Or.inr h, hZ, rfl, rfl, rfl, rfl, rfl, rfl⟩ rfl ?_ ad s.heap [] ls (fun _ _ => rfl) hP hD va_S.rf (jent_L hl2)
  intro pc lv r pw2 k n hd hpost hlen h1 h2 ad2 H locs ls2 g1 g2 g3 g4 g5
  refine W.widen h1 h2 ?_
  exact W.lret B.exec B.bytes B.returns (fun t ht hW => ⟨⟨r, (pw2, ad2), rfl, hpost, g1, hlen, by rw [ht]; exact g2, va_K.moved hW.alike hK, g3⟩, g4.F ht⟩) g4.2.2 hd B.notSynchronized
set_option maxHeartbeats 1000000 in
theorem jN_of {cl : List vw_C} {y : MethodName} {ws ws' : List Cond} {fr lo nL nc ns : Nat} {av : List Value} {pw : jW} {post : jW → Prop} {cc : ByteArray} (hy : plainName y.cls = true) (hw : ws = .code y cc nL none :: ws') (hl : (lg_sl av).length ≤ nL)
    (body : ∀ X : jK, jX X cc nL y.cls ws cl fr lo nc ns → jn0 X = pw.length → jRn X cc post nc ns → J X 0 (jent av) [] pw 0 0) : jN cl y ws fr lo av pw nc ns post := by
  intro l D ty ad sz
  refine Met.ofW (cc := cc) (maxL := nL) (ret := none) hy hw ?_
  intro p e s m args below meth c s₁ B hml hv
  obtain ⟨rfl, hsz, hP, hK, hD0, hZ⟩ := hv
  subst hsz
  have hD := hD0.self (sz := s.heap.size)
  have hl2 := lv_entry (av.map (jv ad)) (n := nL) (by rw [jlen]; exact hl)
  rw [lg_entry_eq]
  generalize (lg_sl (av.map (jv ad)) ++ List.replicate (nL - (lg_sl (av.map (jv ad))).length) Slot.unset).toArray = ls at hl2 ⊢
  have hown : s.vm.findClass y.cls = some m.cls := findClass_of_methodNamed B.named
  refine body ((p, l, e, (headSpec ws (jRm fr lo nc ns)).room, s), (m, (av.map (jv ad)).toArray, below, meth, c), (nL, D, cl, ty), (va_A (jr ty ad pw) s.heap.size, ad, pw.length, _)) ⟨⟨B.exec, B.bytes, hml, hown, atoms_spec (ws := ws) B.pre⟩, hK, fun q h => Or.inr h, hZ, rfl, rfl, rfl, rfl, rfl, rfl⟩ rfl ?_ ad s.heap [] ls (fun _ _ => rfl) hP hD va_S.rf (jent_L hl2)
  intro pc lv pw2 k n hd hpost hlen h1 h2 ad2 H locs ls2 g1 g2 g3 g4 g5
  refine W.widen h1 h2 ?_
  exact W.vret B.exec B.bytes B.returns (fun t ht hW => ⟨⟨(pw2, ad2), rfl, hpost, g1, hlen, by rw [ht]; exact g2, va_K.moved hW.alike hK, g3⟩, g4.F ht⟩) g4.2.2 hd B.notSynchronized

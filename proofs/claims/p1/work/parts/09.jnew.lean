/-! NEW CELLS: at the end of the world -/
def jfree (n : Nat) (v : Value) : Bool := match v with
  | .ref i => !(i == n)
  | _ => true
def jfreeA (a : vp_A) : Bool := match a.2 with
  | .inr (.inr (.inr (.inr _))) => false
  | _ => true
def jfreeE (n : Nat) (c : jE) : Bool := match c with
  | .inl (_, a) => jfreeA a
  | .inr (_, fs) => fs.all (jfree n)
def jup (ad : Nat → Nat) (n q : Nat) : Nat → Nat := fun i => if i = n then q else ad i
def jkeep (n : Nat) (lv : Nat → Option Value) : Nat → Option Value := fun j => match lv j with
  | some v => if jfree n v = true then some v else none
  | none => none
theorem jfree_eq {n q : Nat} {ad : Nat → Nat} {v : Value} (h : jfree n v = true) : jv (jup ad n q) v = jv ad v := by
  cases v with
  | ref i =>
    have h1 : ¬ i = n := by simpa [jfree] using h
    show Value.ref (jup ad n q i) = Value.ref (ad i)
    unfold jup
    rw [if_neg h1]
  | _ => rfl
theorem jfreeA_eq {ad ad' : Nat → Nat} {a : vp_A} (h : jfreeA a = true) : ja ad' a = ja ad a := by
  obtain ⟨m, f | f | f | f | f⟩ := a
  · rfl
  · rfl
  · rfl
  · rfl
  · cases h
theorem jfreeE_eq {ty : FieldType → ClassId} {n q : Nat} {ad : Nat → Nat} {c : jE} (h : jfreeE n c = true) : jc ty (jup ad n q) c = jc ty ad c := by
  cases c with
  | inl x =>
    obtain ⟨t, a⟩ := x
    show Sum.inl (ty t, ja (jup ad n q) a) = Sum.inl (ty t, ja ad a)
    rw [jfreeA_eq h]
  | inr x =>
    obtain ⟨k, fs⟩ := x
    show Sum.inr (k, fs.map (jv (jup ad n q))) = Sum.inr (k, fs.map (jv ad))
    congr 2
    exact List.map_congr_left (fun v hv => jfree_eq (List.all_eq_true.mp h v hv))
theorem jr_push {ty : FieldType → ClassId} {ad : Nat → Nat} {pw : jW} {c : jE} {q : Nat} (h : pw.all (jfreeE pw.length) = true) (hc : jfreeE pw.length c = true) : jr ty (jup ad pw.length q) (pw ++ [c]) = jr ty ad pw ++ [(q, jc ty ad c)] := by
  apply List.ext_getElem?
  intro i
  rw [jr_get]
  by_cases h1 : i < pw.length
  · rw [List.getElem?_append_left h1, List.getElem?_append_left (by rw [jr_len]; exact h1), jr_get]
    cases hp : pw[i]? with
    | none => rfl
    | some d =>
      have hd := List.all_eq_true.mp h d (List.mem_of_getElem? hp)
      show some (jup ad pw.length q i, _) = some (ad i, _)
      rw [jfreeE_eq hd]
      unfold jup
      rw [if_neg (by omega)]
  · rw [List.getElem?_append_right (by omega), List.getElem?_append_right (by rw [jr_len]; omega), jr_len]
    by_cases h2 : i = pw.length
    · subst h2
      rw [Nat.sub_self]
      show some (jup ad pw.length q pw.length, _) = some (q, _)
      rw [jfreeE_eq hc]
      unfold jup
      rw [if_pos rfl]
    · rw [show i - pw.length = (i - pw.length - 1) + 1 by omega]
      rfl
theorem jkeep_L {ls : Array Slot} {nL n q : Nat} {ad : Nat → Nat} {lv : Nat → Option Value} (h : jL ls nL ad lv) : jL ls nL (jup ad n q) (jkeep n lv) := by
  refine ⟨h.1, h.2.1, fun i v hv => ?_⟩
  unfold jkeep at hv
  cases hl : lv i with
  | none => rw [hl] at hv; cases hv
  | some w =>
    rw [hl] at hv
    dsimp only at hv
    by_cases hg : jfree n w = true
    · rw [if_pos hg] at hv
      cases hv
      rw [jfree_eq hg]
      exact h.2.2 i _ hl
    · rw [if_neg hg] at hv; cases hv
theorem jup_ag {n0 n q : Nat} {ad0 ad : Nat → Nat} (h : jag n0 ad0 ad) (hn : n0 ≤ n) (hl : n < 1000) : jag n0 ad0 (jup ad n q) := by
  intro i hi
  unfold jup
  rw [if_neg (by omega)]
  exact h i hi
set_option maxHeartbeats 1000000 in
/-- new C, where the class has the number ci, its fields begin as fs -/
theorem J_new {X : jK} {cc : ByteArray} {nL : Nat} {own : String} {Ts : List Cond} {cl : List vw_C} {fr lo NC NS : Nat} (C : jX X cc nL own Ts cl fr lo NC NS) {pc : Nat} {lv : Nat → Option Value} {st : List Value} {pw : jW} {nc ns : Nat} {index ci N : Nat} {K : String} {T : u_T} {fs : List Value} (ty0 : Nat → FieldType) (hty : ∀ k, k < N → parseFieldDescriptor (T k).2.2.1 = some (ty0 k)) (hd : decode cc pc = .ok (.new index, 3)) (hin : ∀ w ∈ u_ws K T N, w ∈ Ts) (hc : cl[ci]? = some (K, T, N)) (hlk : Cond.classLink own index K ∈ Ts) (hist : Cond.instantiable K N ∈ Ts) (hini : Cond.initialized K ∈ Ts) (hfs : ∀ ad : Nat → Nat, ∀ j, j < N → defaultValue (ty0 j) = vp_V (fs.map (jv ad)) j)
    (h1 : pw.all (jfreeE pw.length) = true) (h2 : fs.all (jfree pw.length) = true) (h3 : st.all (jfree pw.length) = true) (hn0 : jn0 X ≤ pw.length) (hl : pw.length < 1000) (hcc : nc + 1 ≤ NC) (hss : ns + N ≤ NS) (kk : J X (pc + 3) (jkeep pw.length lv) (.ref pw.length :: st) (pw ++ [.inr (ci, fs)]) (nc + 1) (ns + N)) : J X pc lv st pw nc ns := by
  obtain ⟨⟨p, l, e, R, s⟩, ⟨m, args, below, meth, c⟩, ⟨nL', D, cl', ty⟩, ⟨A, ad0, n0, Q⟩⟩ := X
  obtain ⟨⟨hx, hb, hml, hown, hts⟩, hK, hA, hZ, hfr, hlo, hNC, hNS, rfl, rfl⟩ := C
  intro ad H locs ls g1 g2 g3 g4 g5
  refine va_new hx hb hts hin ty0 hty hown (hts _ hlk) (hts _ hist) (hts _ hini) hK g2 g3 g4 hA hc (hfs ad) (by rw [hNC]; exact hcc) (by rw [hNS]; exact hss) hd (fun q H1 a1 a2 a3 => ?_)
  have e1 := jr_push (ty := ty) (ad := ad) (pw := pw) (c := .inr (ci, fs)) (q := q) h1 h2
  have a1' : va_P D cl' (jr ty (jup ad pw.length q) (pw ++ [.inr (ci, fs)])) H1 := by rw [e1]; exact a1
  have a2' : va_D A (jr ty (jup ad pw.length q) (pw ++ [.inr (ci, fs)])) := by rw [e1]; exact a2
  have k2 := kk (jup ad pw.length q) H1 locs ls (jup_ag g1 hn0 hl) a1' a2' a3 (jkeep_L g5)
  have e2 : (Value.ref pw.length :: st).map (jv (jup ad pw.length q)) = .ref q :: st.map (jv ad) := by
    show Value.ref (jup ad pw.length q pw.length) :: _ = _
    have e3 : jup ad pw.length q pw.length = q := by unfold jup; rw [if_pos rfl]
    rw [e3, List.map_congr_left (fun v hv => jfree_eq (List.all_eq_true.mp h3 v hv))]
  rw [e2] at k2
  exact k2
set_option maxHeartbeats 1000000 in
/-- a new row of n ints (or bytes, longs) -/
theorem J_newa {X : jK} {cc : ByteArray} {nL : Nat} {own : String} {Ts : List Cond} {cl : List vw_C} {fr lo NC NS : Nat} (C : jX X cc nL own Ts cl fr lo NC NS) {pc : Nat} {lv : Nat → Option Value} {st : List Value} {pw : jW} {nc ns : Nat} {at_ : ArrayType} (t : FieldType) (t0 : Nat) {x : Int32} {n : Nat} {a0 : vp_A} (hd : decode cc pc = .ok (.newarray at_, 2)) (hat : newarray.typeOf at_ = t) (ht : ∀ ty : FieldType → ClassId, (jtys ty)[t0]? = some (ty t, t)) (hRA : ∀ (U : State) (q : ClassId), va_RA U q t = (U.vm.findClass ("[" ++ t.toString) = some q)) (hw : Cond.arrayClass t ∈ Ts) (ha : ∀ cA : ClassId, vp_cell cA a0 = arrV cA n (fun _ => defaultValue t)) (hf : jfreeA a0 = true) (hx0 : x = nI n) (hn : n < 2 ^ 24) (hby : n * componentBytes t ≤ 536870912)
    (h1 : pw.all (jfreeE pw.length) = true) (h3 : st.all (jfree pw.length) = true) (hn0 : jn0 X ≤ pw.length) (hl : pw.length < 1000) (hcc : nc + 1 ≤ NC) (hss : ns + n ≤ NS) (kk : J X (pc + 2) (jkeep pw.length lv) (.ref pw.length :: st) (pw ++ [.inl (t, a0)]) (nc + 1) (ns + n)) : J X pc lv (.int x :: st) pw nc ns := by
  obtain ⟨⟨p, l, e, R, s⟩, ⟨m, args, below, meth, c⟩, ⟨nL', D, cl', ty⟩, ⟨A, ad0, n0, Q⟩⟩ := X
  obtain ⟨⟨hx, hb, hml, hown, hts⟩, hK, hA, hZ, hfr, hlo, hNC, hNS, rfl, rfl⟩ := C
  intro ad H locs ls g1 g2 g3 g4 g5
  subst hx0
  refine va_newa hx hb (by rw [hat]; exact hts _ hw) hat hK g2 g3 g4 hA (a0 := ja ad a0) (fun cA => ?_) (nI_pos (by omega)) (nI_clamp (by omega)) hby (by rw [hNC]; exact hcc) (by rw [hNS]; exact hss) hd (fun q cA H1 k1 a1 a2 a3 => ?_)
  · rw [show ja ad a0 = a0 from ?_]
    · exact ha cA
    · obtain ⟨m0, f | f | f | f | f⟩ := a0
      · rfl
      · rfl
      · rfl
      · rfl
      · cases hf
  · have hcA : cA = ty t := by
      have b1 := (k1.2 (jtys ty).length (cA, t) (by rw [List.getElem?_append_right (Nat.le_refl _), Nat.sub_self]; rfl)).2
      have b2 := (hK.2 t0 (ty t, t) (ht ty)).2
      dsimp only at b1 b2
      rw [hRA] at b1 b2
      exact Option.some.inj (b1.symm.trans b2)
    subst hcA
    have e1 := jr_push (ty := ty) (ad := ad) (pw := pw) (c := .inl (t, a0)) (q := q) h1 hf
    have a1' : va_P D cl' (jr ty (jup ad pw.length q) (pw ++ [.inl (t, a0)])) H1 := by rw [e1]; exact a1
    have a2' : va_D A (jr ty (jup ad pw.length q) (pw ++ [.inl (t, a0)])) := by rw [e1]; exact a2
    have k2 := kk (jup ad pw.length q) H1 locs ls (jup_ag g1 hn0 hl) a1' a2' a3 (jkeep_L g5)
    have e2 : (Value.ref pw.length :: st).map (jv (jup ad pw.length q)) = .ref q :: st.map (jv ad) := by
      show Value.ref (jup ad pw.length q pw.length) :: _ = _
      have e3 : jup ad pw.length q pw.length = q := by unfold jup; rw [if_pos rfl]
      rw [e3, List.map_congr_left (fun v hv => jfree_eq (List.all_eq_true.mp h3 v hv))]
    rw [e2] at k2
    exact k2
set_option maxHeartbeats 1000000 in
/-- Object() -/
theorem J_obj {X : jK} {cc : ByteArray} {nL : Nat} {own : String} {Ts : List Cond} {cl : List vw_C} {fr lo NC NS : Nat} (C : jX X cc nL own Ts cl fr lo NC NS) {pc : Nat} {lv : Nat → Option Value} {st : List Value} {pw : jW} {nc ns index i : Nat} (hd : decode cc pc = .ok (.invokespecial index, 3)) (hlk : Cond.methodLink own index objectInit ∈ Ts) (him : Cond.instanceMethod objectInit ∈ Ts) (hcd : Cond.code objectInit ⟨#[0xb1]⟩ 1 none ∈ Ts) (hF : 1 ≤ fr) (hW : (st.map fun v => v.category).sum + 12 ≤ lo) (kk : J X (pc + 3) lv st pw nc ns) : J X pc lv (.ref i :: st) pw nc ns := by
  obtain ⟨⟨p, l, e, R, s⟩, ⟨m, args, below, meth, c⟩, ⟨nL', D, cl', ty⟩, ⟨A, ad0, n0, Q⟩⟩ := X
  obtain ⟨⟨hx, hb, hml, hown, hts⟩, hK, hA, hZ, hfr, hlo, hNC, hNS, rfl, rfl⟩ := C
  intro ad H locs ls g1 g2 g3 g4 g5
  refine W.objInit hx hb hown (hts _ hlk) (hts _ him) (hts _ hcd) (g := F0 m pc ls ((Value.ref i :: st).map (jv ad))) rfl (by rw [hml]; exact g5.1) (rest := st.map (jv ad)) rfl hd (by rw [hfr]; exact hF) (by show 2 * 0 + _ + 12 ≤ _; rw [jcats, hlo]; omega) ?_
  exact kk ad H locs ls g1 g2 g3 g4 g5
-- a constructor's body: it may write final fields
set_option maxHeartbeats 1000000 in
theorem jN_ofI {cl : List vw_C} {y : MethodName} {ws ws' : List Cond} {fr lo nL nc ns : Nat} {av : List Value} {pw : jW} {post : jW → Prop} {cc : ByteArray} (hy : plainName y.cls = true) (hw : ws = .code y cc nL none :: ws') (hl : (lg_sl av).length ≤ nL)
    (body : ∀ X : jK, jX X cc nL y.cls ws cl fr lo nc ns → jn0 X = pw.length → X.2.1.2.2.2.1.name = y.name → jRn X cc post nc ns → J X 0 (jent av) [] pw 0 0) : jN cl y ws fr lo av pw nc ns post := by
  intro l D ty ad sz
  refine Met.ofW (cc := cc) (maxL := nL) (ret := none) hy hw ?_
  intro p e s m args below meth c s₁ B hml hv
  obtain ⟨rfl, hsz, hP, hK, hD0, hZ⟩ := hv
  subst hsz
  have hD := hD0.self (sz := s.heap.size)
  have hl2 := lv_entry (av.map (jv ad)) (n := nL) (by rw [jlen]; exact hl)
  rw [lg_entry_eq]
  generalize (lg_sl (av.map (jv ad)) ++ List.replicate (nL - (lg_sl (av.map (jv ad))).length) Slot.unset).toArray = ls at hl2 ⊢
  have hown : s.vm.findClass y.cls = some m.cls := findClass_of_methodNamed B.named
  refine body ((p, l, e, (headSpec ws (jRm fr lo nc ns)).room, s), (m, (av.map (jv ad)).toArray, below, meth, c), (nL, D, cl, ty), (va_A (jr ty ad pw) s.heap.size, ad, pw.length, _)) ⟨⟨B.exec, B.bytes, hml, hown, atoms_spec (ws := ws) B.pre⟩, hK, fun q h => Or.inr h, hZ, rfl, rfl, rfl, rfl, rfl, rfl⟩ rfl (name_of_methodNamed B.named B.method).1 ?_ ad s.heap [] ls (fun _ _ => rfl) hP hD va_S.rf (jent_L hl2)
  intro pc lv pw2 k n hd hpost hlen h1 h2 ad2 H locs ls2 g1 g2 g3 g4 g5
  refine W.widen h1 h2 ?_
  exact W.vret B.exec B.bytes B.returns (fun t ht hW => ⟨⟨(pw2, ad2), rfl, hpost, g1, hlen, by rw [ht]; exact g2, va_K.moved hW.alike hK, g3⟩, g4.F ht⟩) g4.2.2 hd B.notSynchronized
set_option maxHeartbeats 1000000 in
theorem J_putF {X : jK} {cc : ByteArray} {nL : Nat} {own : String} {Ts : List Cond} {cl : List vw_C} {fr lo NC NS : Nat} (C : jX X cc nL own Ts cl fr lo NC NS) {pc : Nat} {lv : Nat → Option Value} {st : List Value} {pw : jW} {nc ns : Nat} {index ci i N : Nat} {K : String} {T : u_T} {fs : List Value} {v : Value} {t : FieldType} (k : Nat) (ty0 : Nat → FieldType) (hty : ∀ k, k < N → parseFieldDescriptor (T k).2.2.1 = some (ty0 k)) (hnm : ∀ a, a < N → ∀ b, b < N → a ≠ b → (T a).2.1 ≠ (T b).2.1) (hI : X.2.1.2.2.2.1.name = "<init>") (hd : decode cc pc = .ok (.putfield index, 3)) (hin : ∀ w ∈ u_ws K T N, w ∈ Ts) (hc : cl[ci]? = some (K, T, N)) (hlink : Cond.fieldLink own index (T k).1 (T k).2.1 (T k).2.2.1 ∈ Ts) (hk : k < N) (hfin : (T k).2.2.2 = true) (hdecl : (T k).1 = own) (hdt : parseFieldDescriptor (T k).2.2.1 = some t) (hn : ∀ ad, narrow t (jv ad v) = jv ad v) (hfit : ∀ ad, fits t (jv ad v) = true) (hw : pw[i]? = some (.inr (ci, fs))) (hl : k < fs.length) (kk : J X (pc + 3) lv st (pw.set i (.inr (ci, fs.set k v))) nc ns) : J X pc lv (v :: .ref i :: st) pw nc ns := by
  obtain ⟨⟨p, l, e, R, s⟩, ⟨m, args, below, meth, c⟩, ⟨nL', D, cl', ty⟩, ⟨A, ad0, n0, Q⟩⟩ := X
  obtain ⟨⟨hx, hb, hml, hown, hts⟩, hK, hA, hZ, hfr, hlo, hNC, hNS, rfl, rfl⟩ := C
  intro ad H locs ls g1 g2 g3 g4 g5
  refine va_putF hx hb hts hin ty0 hty hnm hown hK g2 g3 g4 i (jr_at hw) hc k hk (hts _ hlink) (fun _ h9 => h9) hfin hI hdecl hdt (v := jv ad v) (hn ad) (hfit ad) (by rw [List.length_map]; exact hl) hd (fun H1 locs1 a1 a2 a3 => ?_)
  have e1 : (ad i, (Sum.inr (ci, (fs.map (jv ad)).set k (jv ad v)) : va_E)) = (ad i, jc ty ad (.inr (ci, fs.set k v))) := by rw [← List.map_set]; rfl
  rw [e1, jr_set] at a1 a2
  exact kk ad H1 locs1 ls g1 a1 a2 a3 g5

section
/-! THE PURE WORLD: cells without addresses; a reference is a place in the list of cells; 'ad' says where the cells lie.
The cell at place 2 (the row of limbs, which is laid anew when it grows) may come to lie elsewhere; no other one does. -/
abbrev jE : Type := (FieldType × vp_A) ⊕ (Nat × List Value)
abbrev jW : Type := List jE
def jv (ad : Nat → Nat) (v : Value) : Value := match v with
  | .ref i => .ref (ad i)
  | w => w
def ja (ad : Nat → Nat) (a : vp_A) : vp_A := match a with
  | (n, .inr (.inr (.inr (.inr f)))) => (n, .inr (.inr (.inr (.inr (fun j => (f j).map ad)))))
  | x => x
def jc (ty : FieldType → ClassId) (ad : Nat → Nat) (c : jE) : va_E := match c with
  | .inl (t, a) => .inl (ty t, ja ad a)
  | .inr (k, fs) => .inr (k, fs.map (jv ad))
def jr (ty : FieldType → ClassId) (ad : Nat → Nat) (pw : jW) : va_W := pw.mapIdx (fun i c => (ad i, jc ty ad c))
theorem jr_get (ty : FieldType → ClassId) (ad : Nat → Nat) (pw : jW) (k : Nat) : (jr ty ad pw)[k]? = (pw[k]?).map (fun c => (ad k, jc ty ad c)) := by
  simp [jr]
theorem jr_at {ty : FieldType → ClassId} {ad : Nat → Nat} {pw : jW} {k : Nat} {c : jE} (h : pw[k]? = some c) : (jr ty ad pw)[k]? = some (ad k, jc ty ad c) := by
  rw [jr_get, h]; rfl
theorem jr_len (ty : FieldType → ClassId) (ad : Nat → Nat) (pw : jW) : (jr ty ad pw).length = pw.length := by
  simp [jr]
theorem jr_set (ty : FieldType → ClassId) (ad : Nat → Nat) (pw : jW) (k : Nat) (c : jE) : (jr ty ad pw).set k (ad k, jc ty ad c) = jr ty ad (pw.set k c) := by
  apply List.ext_getElem?
  intro i
  rw [jr_get, List.getElem?_set, List.getElem?_set, jr_get, jr_len]
  by_cases h : k = i
  · subst h
    by_cases h2 : k < pw.length <;> simp [h2]
  · simp [h]
theorem jv_cat (ad : Nat → Nat) (v : Value) : (jv ad v).category = v.category := by
  cases v <;> rfl
/-- the classes of the arrays that are met -/
def jtys (ty : FieldType → ClassId) : List (ClassId × FieldType) := [(ty .int, .int), (ty .long, .long), (ty .byte, .byte), (ty .boolean, .boolean), (ty .char, .char), (ty .short, .short)]
/-- what stays the same within one call of a method -/
abbrev jK : Type := (Program × Launch × Env × Room × State) × (MethodId × Array Value × List Frame × Method × Code) × (Nat × va_G × List vw_C × (FieldType → ClassId)) × ((Nat → Prop) × (Nat → Nat) × Nat × (State → Prop))
def jX (X : jK) (cc : ByteArray) (nL : Nat) (own : String) (Ts : List Cond) (cl : List vw_C) (fr lo NC NS : Nat) : Prop := match X with
  | ((p, _, _, R, s), (m, args, _, _, c), (nL', D, cl', ty), (A, _, _, _)) => CallFix p m c cc nL s args Ts own ∧ va_K D cl (jtys ty) s ∧ (∀ q, s.heap.size ≤ q → A q) ∧ R.frames = fr ∧ R.locals = lo ∧ R.cells = NC ∧ R.slots = NS ∧ nL' = nL ∧ cl' = cl
/-- the locals, as far as they are known -/
def jL (ls : Array Slot) (nL : Nat) (ad : Nat → Nat) (lv : Nat → Option Value) : Prop := ls.size = nL ∧ lv_wf ls ∧ ∀ i v, lv i = some v → ls[i]? = some (.val (jv ad v))
/-- from this frame, in this world, the machine comes to the method's end -/
def J (X : jK) (pc : Nat) (lv : Nat → Option Value) (st : List Value) (pw : jW) (nc ns : Nat) : Prop := match X with
  | ((p, l, e, R, s), (m, args, below, meth, c), (nL, D, cl, ty), (A, ad0, n0, Q)) => ∀ (ad : Nat → Nat) (H : Heap) (locs : List Loc) (ls : Array Slot), (∀ i, i < n0 → i ≠ 2 → ad i = ad0 i) → va_P D cl (jr ty ad pw) H → va_D A (jr ty ad pw) → va_S A s.heap H locs → jL ls nL ad lv → W p l e R s m args below meth c H locs nc ns Q (F0 m pc ls (st.map (jv ad)))
def js1 (lv : Nat → Option Value) (i : Nat) (v : Value) : Nat → Option Value := fun j => if j = i then some v else match lv j with
  | some w => if j + 1 = i ∧ w.category = 2 then none else some w
  | none => none
def js2 (lv : Nat → Option Value) (i : Nat) (v : Value) : Nat → Option Value := fun j => if j = i then some v else if j = i + 1 then none else match lv j with
  | some w => if j + 1 = i ∧ w.category = 2 then none else some w
  | none => none
def jl (nL : Nat) (ad : Nat → Nat) (lv : Nat → Option Value) : List (Nat × Value) := (List.range nL).filterMap (fun j => (lv j).map (fun v => (j, jv ad v)))
theorem jl_mem {nL : Nat} {ad : Nat → Nat} {lv : Nat → Option Value} {j : Nat} {v : Value} (hj : j < nL) (h : lv j = some v) : (j, jv ad v) ∈ jl nL ad lv := by
  refine List.mem_filterMap.mpr ⟨j, List.mem_range.mpr hj, ?_⟩
  rw [h]; rfl
theorem jL.has {ls : Array Slot} {nL : Nat} {ad : Nat → Nat} {lv : Nat → Option Value} (h : jL ls nL ad lv) : lv_has ls nL (jl nL ad lv) := by
  refine ⟨h.1, h.2.1, fun q hq => ?_⟩
  obtain ⟨j, -, hj⟩ := List.mem_filterMap.mp hq
  cases hv : lv j with
  | none => rw [hv] at hj; cases hj
  | some v =>
    rw [hv] at hj
    cases hj
    exact h.2.2 j v hv
theorem jL.lt {ls : Array Slot} {nL : Nat} {ad : Nat → Nat} {lv : Nat → Option Value} (h : jL ls nL ad lv) {j : Nat} {v : Value} (hv : lv j = some v) : j < nL := by
  have h1 := (Array.getElem?_eq_some_iff.mp (h.2.2 j v hv)).1
  rw [h.1] at h1
  exact h1
theorem jL.st1 {ls ls' : Array Slot} {nL : Nat} {ad : Nat → Nat} {lv : Nat → Option Value} {i : Nat} {v : Value} (h : jL ls nL ad lv)
    (h' : lv_has ls' nL ((i, jv ad v) :: (jl nL ad lv).filter (fun q => !(q.1 == i) && !(q.1 + 1 == i && q.2.category == 2)))) : jL ls' nL ad (js1 lv i v) := by
  refine ⟨h'.1, h'.2.1, fun j w hw => ?_⟩
  unfold js1 at hw
  by_cases hj : j = i
  · rw [if_pos hj] at hw
    cases hw
    subst hj
    exact h'.2.2 _ List.mem_cons_self
  · rw [if_neg hj] at hw
    cases hl : lv j with
    | none => rw [hl] at hw; cases hw
    | some x =>
      rw [hl] at hw
      dsimp only at hw
      by_cases hc : j + 1 = i ∧ x.category = 2
      · rw [if_pos hc] at hw; cases hw
      · rw [if_neg hc] at hw
        cases hw
        refine h'.2.2 (j, jv ad w) (List.mem_cons_of_mem _ (List.mem_filter.mpr ⟨jl_mem (h.lt hl) hl, ?_⟩))
        simp only [jv_cat]
        simp only [Bool.and_eq_true, Bool.not_eq_true', beq_eq_false_iff_ne, Bool.and_eq_false_iff]
        refine ⟨hj, ?_⟩
        by_cases h1 : j + 1 = i
        · right
          exact fun h2 => hc ⟨h1, h2⟩
        · left
          exact h1
theorem jL.st2 {ls ls' : Array Slot} {nL : Nat} {ad : Nat → Nat} {lv : Nat → Option Value} {i : Nat} {v : Value} (h : jL ls nL ad lv)
    (h' : lv_has ls' nL ((i, jv ad v) :: (jl nL ad lv).filter (fun q => !(q.1 == i) && (!(q.1 == i + 1) && !(q.1 + 1 == i && q.2.category == 2))))) : jL ls' nL ad (js2 lv i v) := by
  refine ⟨h'.1, h'.2.1, fun j w hw => ?_⟩
  unfold js2 at hw
  by_cases hj : j = i
  · rw [if_pos hj] at hw
    cases hw
    subst hj
    exact h'.2.2 _ List.mem_cons_self
  · rw [if_neg hj] at hw
    by_cases hj2 : j = i + 1
    · rw [if_pos hj2] at hw; cases hw
    · rw [if_neg hj2] at hw
      cases hl : lv j with
      | none => rw [hl] at hw; cases hw
      | some x =>
        rw [hl] at hw
        dsimp only at hw
        by_cases hc : j + 1 = i ∧ x.category = 2
        · rw [if_pos hc] at hw; cases hw
        · rw [if_neg hc] at hw
          cases hw
          refine h'.2.2 (j, jv ad w) (List.mem_cons_of_mem _ (List.mem_filter.mpr ⟨jl_mem (h.lt hl) hl, ?_⟩))
          simp only [jv_cat]
          simp only [Bool.and_eq_true, Bool.not_eq_true', beq_eq_false_iff_ne, Bool.and_eq_false_iff]
          refine ⟨hj, hj2, ?_⟩
          by_cases h1 : j + 1 = i
          · right
            exact fun h2 => hc ⟨h1, h2⟩
          · left
            exact h1
end
section
theorem J_iconst {X : jK} {cc : ByteArray} {nL : Nat} {own : String} {Ts : List Cond} {cl : List vw_C} {fr lo NC NS : Nat} (C : jX X cc nL own Ts cl fr lo NC NS) {pc : Nat} {lv : Nat → Option Value} {st : List Value} {pw : jW} {nc ns : Nat} {n : Int} {v : Int32} (hd : decode cc pc = .ok (.iconst n, 1)) (hv : Int32.ofInt n = v) (k : J X (pc + 1) lv (.int v :: st) pw nc ns) : J X pc lv st pw nc ns := by
  obtain ⟨⟨p, l, e, R, s⟩, ⟨m, args, below, meth, c⟩, ⟨nL', D, cl', ty⟩, ⟨A, ad0, n0, Q⟩⟩ := X
  obtain ⟨⟨hx, hb, hml, hown, hts⟩, hK, hA, hfr, hlo, hNC, hNS, rfl, rfl⟩ := C
  intro ad H locs ls g1 g2 g3 g4 g5
  exact lv_iconst hx hb hd hv (k ad H locs ls g1 g2 g3 g4 g5)
theorem J_bipush {X : jK} {cc : ByteArray} {nL : Nat} {own : String} {Ts : List Cond} {cl : List vw_C} {fr lo NC NS : Nat} (C : jX X cc nL own Ts cl fr lo NC NS) {pc : Nat} {lv : Nat → Option Value} {st : List Value} {pw : jW} {nc ns : Nat} {n : Int} {v : Int32} (hd : decode cc pc = .ok (.bipush n, 2)) (hv : (Int8.ofInt n).toInt32 = v) (k : J X (pc + 2) lv (.int v :: st) pw nc ns) : J X pc lv st pw nc ns := by
  obtain ⟨⟨p, l, e, R, s⟩, ⟨m, args, below, meth, c⟩, ⟨nL', D, cl', ty⟩, ⟨A, ad0, n0, Q⟩⟩ := X
  obtain ⟨⟨hx, hb, hml, hown, hts⟩, hK, hA, hfr, hlo, hNC, hNS, rfl, rfl⟩ := C
  intro ad H locs ls g1 g2 g3 g4 g5
  exact lv_bipush hx hb hd hv (k ad H locs ls g1 g2 g3 g4 g5)
theorem J_sipush {X : jK} {cc : ByteArray} {nL : Nat} {own : String} {Ts : List Cond} {cl : List vw_C} {fr lo NC NS : Nat} (C : jX X cc nL own Ts cl fr lo NC NS) {pc : Nat} {lv : Nat → Option Value} {st : List Value} {pw : jW} {nc ns : Nat} {n : Int} {v : Int32} (hd : decode cc pc = .ok (.sipush n, 3)) (hv : (Int16.ofInt n).toInt32 = v) (k : J X (pc + 3) lv (.int v :: st) pw nc ns) : J X pc lv st pw nc ns := by
  obtain ⟨⟨p, l, e, R, s⟩, ⟨m, args, below, meth, c⟩, ⟨nL', D, cl', ty⟩, ⟨A, ad0, n0, Q⟩⟩ := X
  obtain ⟨⟨hx, hb, hml, hown, hts⟩, hK, hA, hfr, hlo, hNC, hNS, rfl, rfl⟩ := C
  intro ad H locs ls g1 g2 g3 g4 g5
  exact lv_sipush hx hb hd hv (k ad H locs ls g1 g2 g3 g4 g5)
theorem J_lconst {X : jK} {cc : ByteArray} {nL : Nat} {own : String} {Ts : List Cond} {cl : List vw_C} {fr lo NC NS : Nat} (C : jX X cc nL own Ts cl fr lo NC NS) {pc : Nat} {lv : Nat → Option Value} {st : List Value} {pw : jW} {nc ns : Nat} {n : Fin 2} {v : Int64} (hd : decode cc pc = .ok (.lconst n, 1)) (hv : Int64.ofNat (n : Nat) = v) (k : J X (pc + 1) lv (.long v :: st) pw nc ns) : J X pc lv st pw nc ns := by
  obtain ⟨⟨p, l, e, R, s⟩, ⟨m, args, below, meth, c⟩, ⟨nL', D, cl', ty⟩, ⟨A, ad0, n0, Q⟩⟩ := X
  obtain ⟨⟨hx, hb, hml, hown, hts⟩, hK, hA, hfr, hlo, hNC, hNS, rfl, rfl⟩ := C
  intro ad H locs ls g1 g2 g3 g4 g5
  exact lv_lconst hx hb hd hv (k ad H locs ls g1 g2 g3 g4 g5)
theorem J_ldc {X : jK} {cc : ByteArray} {nL : Nat} {own : String} {Ts : List Cond} {cl : List vw_C} {fr lo NC NS : Nat} (C : jX X cc nL own Ts cl fr lo NC NS) {pc : Nat} {lv : Nat → Option Value} {st : List Value} {pw : jW} {nc ns : Nat} {index : Nat} {v : Int32} (hc : Cond.constant own index v ∈ Ts) (hd : decode cc pc = .ok (.ldc index, 2)) (k : J X (pc + 2) lv (.int v :: st) pw nc ns) : J X pc lv st pw nc ns := by
  obtain ⟨⟨p, l, e, R, s⟩, ⟨m, args, below, meth, c⟩, ⟨nL', D, cl', ty⟩, ⟨A, ad0, n0, Q⟩⟩ := X
  obtain ⟨⟨hx, hb, hml, hown, hts⟩, hK, hA, hfr, hlo, hNC, hNS, rfl, rfl⟩ := C
  intro ad H locs ls g1 g2 g3 g4 g5
  exact lv_ldc hx hb hown (hts _ hc) hd (k ad H locs ls g1 g2 g3 g4 g5)
theorem J_ldc2 {X : jK} {cc : ByteArray} {nL : Nat} {own : String} {Ts : List Cond} {cl : List vw_C} {fr lo NC NS : Nat} (C : jX X cc nL own Ts cl fr lo NC NS) {pc : Nat} {lv : Nat → Option Value} {st : List Value} {pw : jW} {nc ns : Nat} {index : Nat} {v : Int64} (hc : Cond.constantLong own index v ∈ Ts) (hd : decode cc pc = .ok (.ldc2_w index, 3)) (k : J X (pc + 3) lv (.long v :: st) pw nc ns) : J X pc lv st pw nc ns := by
  obtain ⟨⟨p, l, e, R, s⟩, ⟨m, args, below, meth, c⟩, ⟨nL', D, cl', ty⟩, ⟨A, ad0, n0, Q⟩⟩ := X
  obtain ⟨⟨hx, hb, hml, hown, hts⟩, hK, hA, hfr, hlo, hNC, hNS, rfl, rfl⟩ := C
  intro ad H locs ls g1 g2 g3 g4 g5
  exact lv_ldc2 hx hb hown (hts _ hc) hd (k ad H locs ls g1 g2 g3 g4 g5)
theorem J_iload_n {X : jK} {cc : ByteArray} {nL : Nat} {own : String} {Ts : List Cond} {cl : List vw_C} {fr lo NC NS : Nat} (C : jX X cc nL own Ts cl fr lo NC NS) {pc : Nat} {lv : Nat → Option Value} {st : List Value} {pw : jW} {nc ns : Nat} {j : Fin 4} {i : Nat} {x : Int32} (hd : decode cc pc = .ok (.iload_n j, 1)) (hi : (j : Nat) = i) (hl : lv i = some (.int x)) (k : J X (pc + 1) lv (.int x :: st) pw nc ns) : J X pc lv st pw nc ns := by
  obtain ⟨⟨p, l, e, R, s⟩, ⟨m, args, below, meth, c⟩, ⟨nL', D, cl', ty⟩, ⟨A, ad0, n0, Q⟩⟩ := X
  obtain ⟨⟨hx, hb, hml, hown, hts⟩, hK, hA, hfr, hlo, hNC, hNS, rfl, rfl⟩ := C
  intro ad H locs ls g1 g2 g3 g4 g5
  exact lv_iload_n hx hb hd hi (g5.2.2 i _ hl) (k ad H locs ls g1 g2 g3 g4 g5)
theorem J_iload {X : jK} {cc : ByteArray} {nL : Nat} {own : String} {Ts : List Cond} {cl : List vw_C} {fr lo NC NS : Nat} (C : jX X cc nL own Ts cl fr lo NC NS) {pc : Nat} {lv : Nat → Option Value} {st : List Value} {pw : jW} {nc ns : Nat} {i : Nat} {x : Int32} (hd : decode cc pc = .ok (.iload i, 2)) (hl : lv i = some (.int x)) (k : J X (pc + 2) lv (.int x :: st) pw nc ns) : J X pc lv st pw nc ns := by
  obtain ⟨⟨p, l, e, R, s⟩, ⟨m, args, below, meth, c⟩, ⟨nL', D, cl', ty⟩, ⟨A, ad0, n0, Q⟩⟩ := X
  obtain ⟨⟨hx, hb, hml, hown, hts⟩, hK, hA, hfr, hlo, hNC, hNS, rfl, rfl⟩ := C
  intro ad H locs ls g1 g2 g3 g4 g5
  exact lv_iload hx hb hd (g5.2.2 i _ hl) (k ad H locs ls g1 g2 g3 g4 g5)
theorem J_lload_n {X : jK} {cc : ByteArray} {nL : Nat} {own : String} {Ts : List Cond} {cl : List vw_C} {fr lo NC NS : Nat} (C : jX X cc nL own Ts cl fr lo NC NS) {pc : Nat} {lv : Nat → Option Value} {st : List Value} {pw : jW} {nc ns : Nat} {j : Fin 4} {i : Nat} {x : Int64} (hd : decode cc pc = .ok (.lload_n j, 1)) (hi : (j : Nat) = i) (hl : lv i = some (.long x)) (k : J X (pc + 1) lv (.long x :: st) pw nc ns) : J X pc lv st pw nc ns := by
  obtain ⟨⟨p, l, e, R, s⟩, ⟨m, args, below, meth, c⟩, ⟨nL', D, cl', ty⟩, ⟨A, ad0, n0, Q⟩⟩ := X
  obtain ⟨⟨hx, hb, hml, hown, hts⟩, hK, hA, hfr, hlo, hNC, hNS, rfl, rfl⟩ := C
  intro ad H locs ls g1 g2 g3 g4 g5
  exact lv_lload_n hx hb hd hi (g5.2.2 i _ hl) (k ad H locs ls g1 g2 g3 g4 g5)
theorem J_lload {X : jK} {cc : ByteArray} {nL : Nat} {own : String} {Ts : List Cond} {cl : List vw_C} {fr lo NC NS : Nat} (C : jX X cc nL own Ts cl fr lo NC NS) {pc : Nat} {lv : Nat → Option Value} {st : List Value} {pw : jW} {nc ns : Nat} {i : Nat} {x : Int64} (hd : decode cc pc = .ok (.lload i, 2)) (hl : lv i = some (.long x)) (k : J X (pc + 2) lv (.long x :: st) pw nc ns) : J X pc lv st pw nc ns := by
  obtain ⟨⟨p, l, e, R, s⟩, ⟨m, args, below, meth, c⟩, ⟨nL', D, cl', ty⟩, ⟨A, ad0, n0, Q⟩⟩ := X
  obtain ⟨⟨hx, hb, hml, hown, hts⟩, hK, hA, hfr, hlo, hNC, hNS, rfl, rfl⟩ := C
  intro ad H locs ls g1 g2 g3 g4 g5
  exact lv_lload hx hb hd (g5.2.2 i _ hl) (k ad H locs ls g1 g2 g3 g4 g5)
theorem J_aload_n {X : jK} {cc : ByteArray} {nL : Nat} {own : String} {Ts : List Cond} {cl : List vw_C} {fr lo NC NS : Nat} (C : jX X cc nL own Ts cl fr lo NC NS) {pc : Nat} {lv : Nat → Option Value} {st : List Value} {pw : jW} {nc ns : Nat} {j : Fin 4} {i x : Nat} (hd : decode cc pc = .ok (.aload_n j, 1)) (hi : (j : Nat) = i) (hl : lv i = some (.ref x)) (k : J X (pc + 1) lv (.ref x :: st) pw nc ns) : J X pc lv st pw nc ns := by
  obtain ⟨⟨p, l, e, R, s⟩, ⟨m, args, below, meth, c⟩, ⟨nL', D, cl', ty⟩, ⟨A, ad0, n0, Q⟩⟩ := X
  obtain ⟨⟨hx, hb, hml, hown, hts⟩, hK, hA, hfr, hlo, hNC, hNS, rfl, rfl⟩ := C
  intro ad H locs ls g1 g2 g3 g4 g5
  exact lv_aload_n hx hb hd hi (g5.2.2 i _ hl) (k ad H locs ls g1 g2 g3 g4 g5)
theorem J_aload {X : jK} {cc : ByteArray} {nL : Nat} {own : String} {Ts : List Cond} {cl : List vw_C} {fr lo NC NS : Nat} (C : jX X cc nL own Ts cl fr lo NC NS) {pc : Nat} {lv : Nat → Option Value} {st : List Value} {pw : jW} {nc ns : Nat} {i x : Nat} (hd : decode cc pc = .ok (.aload i, 2)) (hl : lv i = some (.ref x)) (k : J X (pc + 2) lv (.ref x :: st) pw nc ns) : J X pc lv st pw nc ns := by
  obtain ⟨⟨p, l, e, R, s⟩, ⟨m, args, below, meth, c⟩, ⟨nL', D, cl', ty⟩, ⟨A, ad0, n0, Q⟩⟩ := X
  obtain ⟨⟨hx, hb, hml, hown, hts⟩, hK, hA, hfr, hlo, hNC, hNS, rfl, rfl⟩ := C
  intro ad H locs ls g1 g2 g3 g4 g5
  exact lv_aload hx hb hd (g5.2.2 i _ hl) (k ad H locs ls g1 g2 g3 g4 g5)
theorem J_istore_n {X : jK} {cc : ByteArray} {nL : Nat} {own : String} {Ts : List Cond} {cl : List vw_C} {fr lo NC NS : Nat} (C : jX X cc nL own Ts cl fr lo NC NS) {pc : Nat} {lv : Nat → Option Value} {st : List Value} {pw : jW} {nc ns : Nat} {j : Fin 4} {i : Nat} {x : Int32} (hd : decode cc pc = .ok (.istore_n j, 1)) (hi : (j : Nat) = i) (hn : i < nL) (k : J X (pc + 1) (js1 lv i (.int x)) st pw nc ns) : J X pc lv (.int x :: st) pw nc ns := by
  obtain ⟨⟨p, l, e, R, s⟩, ⟨m, args, below, meth, c⟩, ⟨nL', D, cl', ty⟩, ⟨A, ad0, n0, Q⟩⟩ := X
  obtain ⟨⟨hx, hb, hml, hown, hts⟩, hK, hA, hfr, hlo, hNC, hNS, rfl, rfl⟩ := C
  intro ad H locs ls g1 g2 g3 g4 g5
  exact lv_istore_n hx hb hd hi g5.has hn rfl (fun ls' h' => k ad H locs ls' g1 g2 g3 g4 (g5.st1 (v := .int x) h'))
theorem J_istore {X : jK} {cc : ByteArray} {nL : Nat} {own : String} {Ts : List Cond} {cl : List vw_C} {fr lo NC NS : Nat} (C : jX X cc nL own Ts cl fr lo NC NS) {pc : Nat} {lv : Nat → Option Value} {st : List Value} {pw : jW} {nc ns : Nat} {i : Nat} {x : Int32} (hd : decode cc pc = .ok (.istore i, 2)) (hn : i < nL) (k : J X (pc + 2) (js1 lv i (.int x)) st pw nc ns) : J X pc lv (.int x :: st) pw nc ns := by
  obtain ⟨⟨p, l, e, R, s⟩, ⟨m, args, below, meth, c⟩, ⟨nL', D, cl', ty⟩, ⟨A, ad0, n0, Q⟩⟩ := X
  obtain ⟨⟨hx, hb, hml, hown, hts⟩, hK, hA, hfr, hlo, hNC, hNS, rfl, rfl⟩ := C
  intro ad H locs ls g1 g2 g3 g4 g5
  exact lv_istore hx hb hd g5.has hn rfl (fun ls' h' => k ad H locs ls' g1 g2 g3 g4 (g5.st1 (v := .int x) h'))
theorem J_lstore_n {X : jK} {cc : ByteArray} {nL : Nat} {own : String} {Ts : List Cond} {cl : List vw_C} {fr lo NC NS : Nat} (C : jX X cc nL own Ts cl fr lo NC NS) {pc : Nat} {lv : Nat → Option Value} {st : List Value} {pw : jW} {nc ns : Nat} {j : Fin 4} {i : Nat} {x : Int64} (hd : decode cc pc = .ok (.lstore_n j, 1)) (hi : (j : Nat) = i) (hn : i + 1 < nL) (k : J X (pc + 1) (js2 lv i (.long x)) st pw nc ns) : J X pc lv (.long x :: st) pw nc ns := by
  obtain ⟨⟨p, l, e, R, s⟩, ⟨m, args, below, meth, c⟩, ⟨nL', D, cl', ty⟩, ⟨A, ad0, n0, Q⟩⟩ := X
  obtain ⟨⟨hx, hb, hml, hown, hts⟩, hK, hA, hfr, hlo, hNC, hNS, rfl, rfl⟩ := C
  intro ad H locs ls g1 g2 g3 g4 g5
  exact lv_lstore_n hx hb hd hi g5.has hn rfl (fun ls' h' => k ad H locs ls' g1 g2 g3 g4 (g5.st2 (v := .long x) h'))
theorem J_lstore {X : jK} {cc : ByteArray} {nL : Nat} {own : String} {Ts : List Cond} {cl : List vw_C} {fr lo NC NS : Nat} (C : jX X cc nL own Ts cl fr lo NC NS) {pc : Nat} {lv : Nat → Option Value} {st : List Value} {pw : jW} {nc ns : Nat} {i : Nat} {x : Int64} (hd : decode cc pc = .ok (.lstore i, 2)) (hn : i + 1 < nL) (k : J X (pc + 2) (js2 lv i (.long x)) st pw nc ns) : J X pc lv (.long x :: st) pw nc ns := by
  obtain ⟨⟨p, l, e, R, s⟩, ⟨m, args, below, meth, c⟩, ⟨nL', D, cl', ty⟩, ⟨A, ad0, n0, Q⟩⟩ := X
  obtain ⟨⟨hx, hb, hml, hown, hts⟩, hK, hA, hfr, hlo, hNC, hNS, rfl, rfl⟩ := C
  intro ad H locs ls g1 g2 g3 g4 g5
  exact lv_lstore hx hb hd g5.has hn rfl (fun ls' h' => k ad H locs ls' g1 g2 g3 g4 (g5.st2 (v := .long x) h'))
theorem J_astore_n {X : jK} {cc : ByteArray} {nL : Nat} {own : String} {Ts : List Cond} {cl : List vw_C} {fr lo NC NS : Nat} (C : jX X cc nL own Ts cl fr lo NC NS) {pc : Nat} {lv : Nat → Option Value} {st : List Value} {pw : jW} {nc ns : Nat} {j : Fin 4} {i : Nat} {x : Nat} (hd : decode cc pc = .ok (.astore_n j, 1)) (hi : (j : Nat) = i) (hn : i < nL) (k : J X (pc + 1) (js1 lv i (.ref x)) st pw nc ns) : J X pc lv (.ref x :: st) pw nc ns := by
  obtain ⟨⟨p, l, e, R, s⟩, ⟨m, args, below, meth, c⟩, ⟨nL', D, cl', ty⟩, ⟨A, ad0, n0, Q⟩⟩ := X
  obtain ⟨⟨hx, hb, hml, hown, hts⟩, hK, hA, hfr, hlo, hNC, hNS, rfl, rfl⟩ := C
  intro ad H locs ls g1 g2 g3 g4 g5
  exact lv_astore_n hx hb hd hi g5.has hn rfl (fun ls' h' => k ad H locs ls' g1 g2 g3 g4 (g5.st1 (v := .ref x) h'))
theorem J_astore {X : jK} {cc : ByteArray} {nL : Nat} {own : String} {Ts : List Cond} {cl : List vw_C} {fr lo NC NS : Nat} (C : jX X cc nL own Ts cl fr lo NC NS) {pc : Nat} {lv : Nat → Option Value} {st : List Value} {pw : jW} {nc ns : Nat} {i : Nat} {x : Nat} (hd : decode cc pc = .ok (.astore i, 2)) (hn : i < nL) (k : J X (pc + 2) (js1 lv i (.ref x)) st pw nc ns) : J X pc lv (.ref x :: st) pw nc ns := by
  obtain ⟨⟨p, l, e, R, s⟩, ⟨m, args, below, meth, c⟩, ⟨nL', D, cl', ty⟩, ⟨A, ad0, n0, Q⟩⟩ := X
  obtain ⟨⟨hx, hb, hml, hown, hts⟩, hK, hA, hfr, hlo, hNC, hNS, rfl, rfl⟩ := C
  intro ad H locs ls g1 g2 g3 g4 g5
  exact lv_astore hx hb hd g5.has hn rfl (fun ls' h' => k ad H locs ls' g1 g2 g3 g4 (g5.st1 (v := .ref x) h'))
theorem J_iinc {X : jK} {cc : ByteArray} {nL : Nat} {own : String} {Ts : List Cond} {cl : List vw_C} {fr lo NC NS : Nat} (C : jX X cc nL own Ts cl fr lo NC NS) {pc : Nat} {lv : Nat → Option Value} {st : List Value} {pw : jW} {nc ns : Nat} {i : Nat} {n : Int} {x v : Int32} (hd : decode cc pc = .ok (.iinc i n, 3)) (hl : lv i = some (.int x)) (hv : x + Int32.ofInt n = v) (k : J X (pc + 3) (js1 lv i (.int v)) st pw nc ns) : J X pc lv st pw nc ns := by
  obtain ⟨⟨p, l, e, R, s⟩, ⟨m, args, below, meth, c⟩, ⟨nL', D, cl', ty⟩, ⟨A, ad0, n0, Q⟩⟩ := X
  obtain ⟨⟨hx, hb, hml, hown, hts⟩, hK, hA, hfr, hlo, hNC, hNS, rfl, rfl⟩ := C
  intro ad H locs ls g1 g2 g3 g4 g5
  obtain ⟨q, hq⟩ := List.getElem?_of_mem (jl_mem (ad := ad) (g5.lt hl) hl)
  exact lv_iinc hx hb hd g5.has hq hv (g5.lt hl) rfl (fun ls' h' => k ad H locs ls' g1 g2 g3 g4 (g5.st1 (v := .int v) h'))
theorem J_iadd {X : jK} {cc : ByteArray} {nL : Nat} {own : String} {Ts : List Cond} {cl : List vw_C} {fr lo NC NS : Nat} (C : jX X cc nL own Ts cl fr lo NC NS) {pc : Nat} {lv : Nat → Option Value} {st : List Value} {pw : jW} {nc ns : Nat} {x y : Int32} (hd : decode cc pc = .ok (.iadd, 1)) (k : J X (pc + 1) lv (.int (x + y) :: st) pw nc ns) : J X pc lv (.int y :: .int x :: st) pw nc ns := by
  obtain ⟨⟨p, l, e, R, s⟩, ⟨m, args, below, meth, c⟩, ⟨nL', D, cl', ty⟩, ⟨A, ad0, n0, Q⟩⟩ := X
  obtain ⟨⟨hx, hb, hml, hown, hts⟩, hK, hA, hfr, hlo, hNC, hNS, rfl, rfl⟩ := C
  intro ad H locs ls g1 g2 g3 g4 g5
  exact lv_iadd hx hb hd (k ad H locs ls g1 g2 g3 g4 g5)
theorem J_isub {X : jK} {cc : ByteArray} {nL : Nat} {own : String} {Ts : List Cond} {cl : List vw_C} {fr lo NC NS : Nat} (C : jX X cc nL own Ts cl fr lo NC NS) {pc : Nat} {lv : Nat → Option Value} {st : List Value} {pw : jW} {nc ns : Nat} {x y : Int32} (hd : decode cc pc = .ok (.isub, 1)) (k : J X (pc + 1) lv (.int (x - y) :: st) pw nc ns) : J X pc lv (.int y :: .int x :: st) pw nc ns := by
  obtain ⟨⟨p, l, e, R, s⟩, ⟨m, args, below, meth, c⟩, ⟨nL', D, cl', ty⟩, ⟨A, ad0, n0, Q⟩⟩ := X
  obtain ⟨⟨hx, hb, hml, hown, hts⟩, hK, hA, hfr, hlo, hNC, hNS, rfl, rfl⟩ := C
  intro ad H locs ls g1 g2 g3 g4 g5
  exact lv_isub hx hb hd (k ad H locs ls g1 g2 g3 g4 g5)
theorem J_imul {X : jK} {cc : ByteArray} {nL : Nat} {own : String} {Ts : List Cond} {cl : List vw_C} {fr lo NC NS : Nat} (C : jX X cc nL own Ts cl fr lo NC NS) {pc : Nat} {lv : Nat → Option Value} {st : List Value} {pw : jW} {nc ns : Nat} {x y : Int32} (hd : decode cc pc = .ok (.imul, 1)) (k : J X (pc + 1) lv (.int (x * y) :: st) pw nc ns) : J X pc lv (.int y :: .int x :: st) pw nc ns := by
  obtain ⟨⟨p, l, e, R, s⟩, ⟨m, args, below, meth, c⟩, ⟨nL', D, cl', ty⟩, ⟨A, ad0, n0, Q⟩⟩ := X
  obtain ⟨⟨hx, hb, hml, hown, hts⟩, hK, hA, hfr, hlo, hNC, hNS, rfl, rfl⟩ := C
  intro ad H locs ls g1 g2 g3 g4 g5
  exact lv_imul hx hb hd (k ad H locs ls g1 g2 g3 g4 g5)
theorem J_iand {X : jK} {cc : ByteArray} {nL : Nat} {own : String} {Ts : List Cond} {cl : List vw_C} {fr lo NC NS : Nat} (C : jX X cc nL own Ts cl fr lo NC NS) {pc : Nat} {lv : Nat → Option Value} {st : List Value} {pw : jW} {nc ns : Nat} {x y : Int32} (hd : decode cc pc = .ok (.iand, 1)) (k : J X (pc + 1) lv (.int (x &&& y) :: st) pw nc ns) : J X pc lv (.int y :: .int x :: st) pw nc ns := by
  obtain ⟨⟨p, l, e, R, s⟩, ⟨m, args, below, meth, c⟩, ⟨nL', D, cl', ty⟩, ⟨A, ad0, n0, Q⟩⟩ := X
  obtain ⟨⟨hx, hb, hml, hown, hts⟩, hK, hA, hfr, hlo, hNC, hNS, rfl, rfl⟩ := C
  intro ad H locs ls g1 g2 g3 g4 g5
  exact lv_iand hx hb hd (k ad H locs ls g1 g2 g3 g4 g5)
theorem J_ior {X : jK} {cc : ByteArray} {nL : Nat} {own : String} {Ts : List Cond} {cl : List vw_C} {fr lo NC NS : Nat} (C : jX X cc nL own Ts cl fr lo NC NS) {pc : Nat} {lv : Nat → Option Value} {st : List Value} {pw : jW} {nc ns : Nat} {x y : Int32} (hd : decode cc pc = .ok (.ior, 1)) (k : J X (pc + 1) lv (.int (x ||| y) :: st) pw nc ns) : J X pc lv (.int y :: .int x :: st) pw nc ns := by
  obtain ⟨⟨p, l, e, R, s⟩, ⟨m, args, below, meth, c⟩, ⟨nL', D, cl', ty⟩, ⟨A, ad0, n0, Q⟩⟩ := X
  obtain ⟨⟨hx, hb, hml, hown, hts⟩, hK, hA, hfr, hlo, hNC, hNS, rfl, rfl⟩ := C
  intro ad H locs ls g1 g2 g3 g4 g5
  exact lv_ior hx hb hd (k ad H locs ls g1 g2 g3 g4 g5)
theorem J_ixor {X : jK} {cc : ByteArray} {nL : Nat} {own : String} {Ts : List Cond} {cl : List vw_C} {fr lo NC NS : Nat} (C : jX X cc nL own Ts cl fr lo NC NS) {pc : Nat} {lv : Nat → Option Value} {st : List Value} {pw : jW} {nc ns : Nat} {x y : Int32} (hd : decode cc pc = .ok (.ixor, 1)) (k : J X (pc + 1) lv (.int (x ^^^ y) :: st) pw nc ns) : J X pc lv (.int y :: .int x :: st) pw nc ns := by
  obtain ⟨⟨p, l, e, R, s⟩, ⟨m, args, below, meth, c⟩, ⟨nL', D, cl', ty⟩, ⟨A, ad0, n0, Q⟩⟩ := X
  obtain ⟨⟨hx, hb, hml, hown, hts⟩, hK, hA, hfr, hlo, hNC, hNS, rfl, rfl⟩ := C
  intro ad H locs ls g1 g2 g3 g4 g5
  exact lv_ixor hx hb hd (k ad H locs ls g1 g2 g3 g4 g5)
theorem J_ladd {X : jK} {cc : ByteArray} {nL : Nat} {own : String} {Ts : List Cond} {cl : List vw_C} {fr lo NC NS : Nat} (C : jX X cc nL own Ts cl fr lo NC NS) {pc : Nat} {lv : Nat → Option Value} {st : List Value} {pw : jW} {nc ns : Nat} {x y : Int64} (hd : decode cc pc = .ok (.ladd, 1)) (k : J X (pc + 1) lv (.long (x + y) :: st) pw nc ns) : J X pc lv (.long y :: .long x :: st) pw nc ns := by
  obtain ⟨⟨p, l, e, R, s⟩, ⟨m, args, below, meth, c⟩, ⟨nL', D, cl', ty⟩, ⟨A, ad0, n0, Q⟩⟩ := X
  obtain ⟨⟨hx, hb, hml, hown, hts⟩, hK, hA, hfr, hlo, hNC, hNS, rfl, rfl⟩ := C
  intro ad H locs ls g1 g2 g3 g4 g5
  exact lv_ladd hx hb hd (k ad H locs ls g1 g2 g3 g4 g5)
theorem J_lsub {X : jK} {cc : ByteArray} {nL : Nat} {own : String} {Ts : List Cond} {cl : List vw_C} {fr lo NC NS : Nat} (C : jX X cc nL own Ts cl fr lo NC NS) {pc : Nat} {lv : Nat → Option Value} {st : List Value} {pw : jW} {nc ns : Nat} {x y : Int64} (hd : decode cc pc = .ok (.lsub, 1)) (k : J X (pc + 1) lv (.long (x - y) :: st) pw nc ns) : J X pc lv (.long y :: .long x :: st) pw nc ns := by
  obtain ⟨⟨p, l, e, R, s⟩, ⟨m, args, below, meth, c⟩, ⟨nL', D, cl', ty⟩, ⟨A, ad0, n0, Q⟩⟩ := X
  obtain ⟨⟨hx, hb, hml, hown, hts⟩, hK, hA, hfr, hlo, hNC, hNS, rfl, rfl⟩ := C
  intro ad H locs ls g1 g2 g3 g4 g5
  exact lv_lsub hx hb hd (k ad H locs ls g1 g2 g3 g4 g5)
theorem J_lmul {X : jK} {cc : ByteArray} {nL : Nat} {own : String} {Ts : List Cond} {cl : List vw_C} {fr lo NC NS : Nat} (C : jX X cc nL own Ts cl fr lo NC NS) {pc : Nat} {lv : Nat → Option Value} {st : List Value} {pw : jW} {nc ns : Nat} {x y : Int64} (hd : decode cc pc = .ok (.lmul, 1)) (k : J X (pc + 1) lv (.long (x * y) :: st) pw nc ns) : J X pc lv (.long y :: .long x :: st) pw nc ns := by
  obtain ⟨⟨p, l, e, R, s⟩, ⟨m, args, below, meth, c⟩, ⟨nL', D, cl', ty⟩, ⟨A, ad0, n0, Q⟩⟩ := X
  obtain ⟨⟨hx, hb, hml, hown, hts⟩, hK, hA, hfr, hlo, hNC, hNS, rfl, rfl⟩ := C
  intro ad H locs ls g1 g2 g3 g4 g5
  exact lv_lmul hx hb hd (k ad H locs ls g1 g2 g3 g4 g5)
theorem J_land {X : jK} {cc : ByteArray} {nL : Nat} {own : String} {Ts : List Cond} {cl : List vw_C} {fr lo NC NS : Nat} (C : jX X cc nL own Ts cl fr lo NC NS) {pc : Nat} {lv : Nat → Option Value} {st : List Value} {pw : jW} {nc ns : Nat} {x y : Int64} (hd : decode cc pc = .ok (.land, 1)) (k : J X (pc + 1) lv (.long (x &&& y) :: st) pw nc ns) : J X pc lv (.long y :: .long x :: st) pw nc ns := by
  obtain ⟨⟨p, l, e, R, s⟩, ⟨m, args, below, meth, c⟩, ⟨nL', D, cl', ty⟩, ⟨A, ad0, n0, Q⟩⟩ := X
  obtain ⟨⟨hx, hb, hml, hown, hts⟩, hK, hA, hfr, hlo, hNC, hNS, rfl, rfl⟩ := C
  intro ad H locs ls g1 g2 g3 g4 g5
  exact lv_land hx hb hd (k ad H locs ls g1 g2 g3 g4 g5)
theorem J_lor {X : jK} {cc : ByteArray} {nL : Nat} {own : String} {Ts : List Cond} {cl : List vw_C} {fr lo NC NS : Nat} (C : jX X cc nL own Ts cl fr lo NC NS) {pc : Nat} {lv : Nat → Option Value} {st : List Value} {pw : jW} {nc ns : Nat} {x y : Int64} (hd : decode cc pc = .ok (.lor, 1)) (k : J X (pc + 1) lv (.long (x ||| y) :: st) pw nc ns) : J X pc lv (.long y :: .long x :: st) pw nc ns := by
  obtain ⟨⟨p, l, e, R, s⟩, ⟨m, args, below, meth, c⟩, ⟨nL', D, cl', ty⟩, ⟨A, ad0, n0, Q⟩⟩ := X
  obtain ⟨⟨hx, hb, hml, hown, hts⟩, hK, hA, hfr, hlo, hNC, hNS, rfl, rfl⟩ := C
  intro ad H locs ls g1 g2 g3 g4 g5
  exact lv_lor hx hb hd (k ad H locs ls g1 g2 g3 g4 g5)
theorem J_idiv {X : jK} {cc : ByteArray} {nL : Nat} {own : String} {Ts : List Cond} {cl : List vw_C} {fr lo NC NS : Nat} (C : jX X cc nL own Ts cl fr lo NC NS) {pc : Nat} {lv : Nat → Option Value} {st : List Value} {pw : jW} {nc ns : Nat} {x y : Int32} (hd : decode cc pc = .ok (.idiv, 1)) (hne : ¬ y = 0) (k : J X (pc + 1) lv (.int (x / y) :: st) pw nc ns) : J X pc lv (.int y :: .int x :: st) pw nc ns := by
  obtain ⟨⟨p, l, e, R, s⟩, ⟨m, args, below, meth, c⟩, ⟨nL', D, cl', ty⟩, ⟨A, ad0, n0, Q⟩⟩ := X
  obtain ⟨⟨hx, hb, hml, hown, hts⟩, hK, hA, hfr, hlo, hNC, hNS, rfl, rfl⟩ := C
  intro ad H locs ls g1 g2 g3 g4 g5
  exact lv_idiv hx hb hd hne (k ad H locs ls g1 g2 g3 g4 g5)
theorem J_irem {X : jK} {cc : ByteArray} {nL : Nat} {own : String} {Ts : List Cond} {cl : List vw_C} {fr lo NC NS : Nat} (C : jX X cc nL own Ts cl fr lo NC NS) {pc : Nat} {lv : Nat → Option Value} {st : List Value} {pw : jW} {nc ns : Nat} {x y : Int32} (hd : decode cc pc = .ok (.irem, 1)) (hne : ¬ y = 0) (k : J X (pc + 1) lv (.int (x - x / y * y) :: st) pw nc ns) : J X pc lv (.int y :: .int x :: st) pw nc ns := by
  obtain ⟨⟨p, l, e, R, s⟩, ⟨m, args, below, meth, c⟩, ⟨nL', D, cl', ty⟩, ⟨A, ad0, n0, Q⟩⟩ := X
  obtain ⟨⟨hx, hb, hml, hown, hts⟩, hK, hA, hfr, hlo, hNC, hNS, rfl, rfl⟩ := C
  intro ad H locs ls g1 g2 g3 g4 g5
  exact lv_irem hx hb hd hne (k ad H locs ls g1 g2 g3 g4 g5)
theorem J_ldiv {X : jK} {cc : ByteArray} {nL : Nat} {own : String} {Ts : List Cond} {cl : List vw_C} {fr lo NC NS : Nat} (C : jX X cc nL own Ts cl fr lo NC NS) {pc : Nat} {lv : Nat → Option Value} {st : List Value} {pw : jW} {nc ns : Nat} {x y : Int64} (hd : decode cc pc = .ok (.ldiv, 1)) (hne : ¬ y = 0) (k : J X (pc + 1) lv (.long (x / y) :: st) pw nc ns) : J X pc lv (.long y :: .long x :: st) pw nc ns := by
  obtain ⟨⟨p, l, e, R, s⟩, ⟨m, args, below, meth, c⟩, ⟨nL', D, cl', ty⟩, ⟨A, ad0, n0, Q⟩⟩ := X
  obtain ⟨⟨hx, hb, hml, hown, hts⟩, hK, hA, hfr, hlo, hNC, hNS, rfl, rfl⟩ := C
  intro ad H locs ls g1 g2 g3 g4 g5
  exact lv_ldiv hx hb hd hne (k ad H locs ls g1 g2 g3 g4 g5)
theorem J_lrem {X : jK} {cc : ByteArray} {nL : Nat} {own : String} {Ts : List Cond} {cl : List vw_C} {fr lo NC NS : Nat} (C : jX X cc nL own Ts cl fr lo NC NS) {pc : Nat} {lv : Nat → Option Value} {st : List Value} {pw : jW} {nc ns : Nat} {x y : Int64} (hd : decode cc pc = .ok (.lrem, 1)) (hne : ¬ y = 0) (k : J X (pc + 1) lv (.long (x - x / y * y) :: st) pw nc ns) : J X pc lv (.long y :: .long x :: st) pw nc ns := by
  obtain ⟨⟨p, l, e, R, s⟩, ⟨m, args, below, meth, c⟩, ⟨nL', D, cl', ty⟩, ⟨A, ad0, n0, Q⟩⟩ := X
  obtain ⟨⟨hx, hb, hml, hown, hts⟩, hK, hA, hfr, hlo, hNC, hNS, rfl, rfl⟩ := C
  intro ad H locs ls g1 g2 g3 g4 g5
  exact lv_lrem hx hb hd hne (k ad H locs ls g1 g2 g3 g4 g5)
theorem J_ineg {X : jK} {cc : ByteArray} {nL : Nat} {own : String} {Ts : List Cond} {cl : List vw_C} {fr lo NC NS : Nat} (C : jX X cc nL own Ts cl fr lo NC NS) {pc : Nat} {lv : Nat → Option Value} {st : List Value} {pw : jW} {nc ns : Nat} {x : Int32} (hd : decode cc pc = .ok (.ineg, 1)) (k : J X (pc + 1) lv (.int (-x) :: st) pw nc ns) : J X pc lv (.int x :: st) pw nc ns := by
  obtain ⟨⟨p, l, e, R, s⟩, ⟨m, args, below, meth, c⟩, ⟨nL', D, cl', ty⟩, ⟨A, ad0, n0, Q⟩⟩ := X
  obtain ⟨⟨hx, hb, hml, hown, hts⟩, hK, hA, hfr, hlo, hNC, hNS, rfl, rfl⟩ := C
  intro ad H locs ls g1 g2 g3 g4 g5
  exact lv_ineg hx hb hd (k ad H locs ls g1 g2 g3 g4 g5)
theorem J_lneg {X : jK} {cc : ByteArray} {nL : Nat} {own : String} {Ts : List Cond} {cl : List vw_C} {fr lo NC NS : Nat} (C : jX X cc nL own Ts cl fr lo NC NS) {pc : Nat} {lv : Nat → Option Value} {st : List Value} {pw : jW} {nc ns : Nat} {x : Int64} (hd : decode cc pc = .ok (.lneg, 1)) (k : J X (pc + 1) lv (.long (-x) :: st) pw nc ns) : J X pc lv (.long x :: st) pw nc ns := by
  obtain ⟨⟨p, l, e, R, s⟩, ⟨m, args, below, meth, c⟩, ⟨nL', D, cl', ty⟩, ⟨A, ad0, n0, Q⟩⟩ := X
  obtain ⟨⟨hx, hb, hml, hown, hts⟩, hK, hA, hfr, hlo, hNC, hNS, rfl, rfl⟩ := C
  intro ad H locs ls g1 g2 g3 g4 g5
  exact lv_lneg hx hb hd (k ad H locs ls g1 g2 g3 g4 g5)
theorem J_lcmp {X : jK} {cc : ByteArray} {nL : Nat} {own : String} {Ts : List Cond} {cl : List vw_C} {fr lo NC NS : Nat} (C : jX X cc nL own Ts cl fr lo NC NS) {pc : Nat} {lv : Nat → Option Value} {st : List Value} {pw : jW} {nc ns : Nat} {x y : Int64} (hd : decode cc pc = .ok (.lcmp, 1)) (k : J X (pc + 1) lv (.int (lg_cmp x y) :: st) pw nc ns) : J X pc lv (.long y :: .long x :: st) pw nc ns := by
  obtain ⟨⟨p, l, e, R, s⟩, ⟨m, args, below, meth, c⟩, ⟨nL', D, cl', ty⟩, ⟨A, ad0, n0, Q⟩⟩ := X
  obtain ⟨⟨hx, hb, hml, hown, hts⟩, hK, hA, hfr, hlo, hNC, hNS, rfl, rfl⟩ := C
  intro ad H locs ls g1 g2 g3 g4 g5
  exact W.lcmp hx hb hd (k ad H locs ls g1 g2 g3 g4 g5)
theorem J_i2l {X : jK} {cc : ByteArray} {nL : Nat} {own : String} {Ts : List Cond} {cl : List vw_C} {fr lo NC NS : Nat} (C : jX X cc nL own Ts cl fr lo NC NS) {pc : Nat} {lv : Nat → Option Value} {st : List Value} {pw : jW} {nc ns : Nat} {x : Int32} {v : Int64} (hd : decode cc pc = .ok (.i2l, 1)) (hv : x.toInt64 = v) (k : J X (pc + 1) lv (.long v :: st) pw nc ns) : J X pc lv (.int x :: st) pw nc ns := by
  obtain ⟨⟨p, l, e, R, s⟩, ⟨m, args, below, meth, c⟩, ⟨nL', D, cl', ty⟩, ⟨A, ad0, n0, Q⟩⟩ := X
  obtain ⟨⟨hx, hb, hml, hown, hts⟩, hK, hA, hfr, hlo, hNC, hNS, rfl, rfl⟩ := C
  intro ad H locs ls g1 g2 g3 g4 g5
  exact lv_i2l hx hb hd hv (k ad H locs ls g1 g2 g3 g4 g5)
theorem J_l2i {X : jK} {cc : ByteArray} {nL : Nat} {own : String} {Ts : List Cond} {cl : List vw_C} {fr lo NC NS : Nat} (C : jX X cc nL own Ts cl fr lo NC NS) {pc : Nat} {lv : Nat → Option Value} {st : List Value} {pw : jW} {nc ns : Nat} {x : Int64} {v : Int32} (hd : decode cc pc = .ok (.l2i, 1)) (hv : x.toInt32 = v) (k : J X (pc + 1) lv (.int v :: st) pw nc ns) : J X pc lv (.long x :: st) pw nc ns := by
  obtain ⟨⟨p, l, e, R, s⟩, ⟨m, args, below, meth, c⟩, ⟨nL', D, cl', ty⟩, ⟨A, ad0, n0, Q⟩⟩ := X
  obtain ⟨⟨hx, hb, hml, hown, hts⟩, hK, hA, hfr, hlo, hNC, hNS, rfl, rfl⟩ := C
  intro ad H locs ls g1 g2 g3 g4 g5
  exact lv_l2i hx hb hd hv (k ad H locs ls g1 g2 g3 g4 g5)
theorem J_i2b {X : jK} {cc : ByteArray} {nL : Nat} {own : String} {Ts : List Cond} {cl : List vw_C} {fr lo NC NS : Nat} (C : jX X cc nL own Ts cl fr lo NC NS) {pc : Nat} {lv : Nat → Option Value} {st : List Value} {pw : jW} {nc ns : Nat} {x v : Int32} (hd : decode cc pc = .ok (.i2b, 1)) (hv : x.toInt8.toInt32 = v) (k : J X (pc + 1) lv (.int v :: st) pw nc ns) : J X pc lv (.int x :: st) pw nc ns := by
  obtain ⟨⟨p, l, e, R, s⟩, ⟨m, args, below, meth, c⟩, ⟨nL', D, cl', ty⟩, ⟨A, ad0, n0, Q⟩⟩ := X
  obtain ⟨⟨hx, hb, hml, hown, hts⟩, hK, hA, hfr, hlo, hNC, hNS, rfl, rfl⟩ := C
  intro ad H locs ls g1 g2 g3 g4 g5
  exact lv_i2b hx hb hd hv (k ad H locs ls g1 g2 g3 g4 g5)
theorem J_lshl {X : jK} {cc : ByteArray} {nL : Nat} {own : String} {Ts : List Cond} {cl : List vw_C} {fr lo NC NS : Nat} (C : jX X cc nL own Ts cl fr lo NC NS) {pc : Nat} {lv : Nat → Option Value} {st : List Value} {pw : jW} {nc ns : Nat} {x v : Int64} {y : Int32} (hd : decode cc pc = .ok (.lshl, 1)) (hv : x <<< (y.toInt64 &&& 63) = v) (k : J X (pc + 1) lv (.long v :: st) pw nc ns) : J X pc lv (.int y :: .long x :: st) pw nc ns := by
  obtain ⟨⟨p, l, e, R, s⟩, ⟨m, args, below, meth, c⟩, ⟨nL', D, cl', ty⟩, ⟨A, ad0, n0, Q⟩⟩ := X
  obtain ⟨⟨hx, hb, hml, hown, hts⟩, hK, hA, hfr, hlo, hNC, hNS, rfl, rfl⟩ := C
  intro ad H locs ls g1 g2 g3 g4 g5
  exact lv_lshl hx hb hd hv (k ad H locs ls g1 g2 g3 g4 g5)
theorem J_iushr {X : jK} {cc : ByteArray} {nL : Nat} {own : String} {Ts : List Cond} {cl : List vw_C} {fr lo NC NS : Nat} (C : jX X cc nL own Ts cl fr lo NC NS) {pc : Nat} {lv : Nat → Option Value} {st : List Value} {pw : jW} {nc ns : Nat} {x y v : Int32} (hd : decode cc pc = .ok (.iushr, 1)) (hv : (x.toUInt32 >>> (y.toUInt32 &&& Int32.toUInt32 31)).toInt32 = v) (k : J X (pc + 1) lv (.int v :: st) pw nc ns) : J X pc lv (.int y :: .int x :: st) pw nc ns := by
  obtain ⟨⟨p, l, e, R, s⟩, ⟨m, args, below, meth, c⟩, ⟨nL', D, cl', ty⟩, ⟨A, ad0, n0, Q⟩⟩ := X
  obtain ⟨⟨hx, hb, hml, hown, hts⟩, hK, hA, hfr, hlo, hNC, hNS, rfl, rfl⟩ := C
  intro ad H locs ls g1 g2 g3 g4 g5
  exact lv_iushr hx hb hd hv (k ad H locs ls g1 g2 g3 g4 g5)
theorem J_ishl {X : jK} {cc : ByteArray} {nL : Nat} {own : String} {Ts : List Cond} {cl : List vw_C} {fr lo NC NS : Nat} (C : jX X cc nL own Ts cl fr lo NC NS) {pc : Nat} {lv : Nat → Option Value} {st : List Value} {pw : jW} {nc ns : Nat} {x y : Int32} (hd : decode cc pc = .ok (.ishl, 1)) (k : J X (pc + 1) lv (.int (x <<< (y &&& 31)) :: st) pw nc ns) : J X pc lv (.int y :: .int x :: st) pw nc ns := by
  obtain ⟨⟨p, l, e, R, s⟩, ⟨m, args, below, meth, c⟩, ⟨nL', D, cl', ty⟩, ⟨A, ad0, n0, Q⟩⟩ := X
  obtain ⟨⟨hx, hb, hml, hown, hts⟩, hK, hA, hfr, hlo, hNC, hNS, rfl, rfl⟩ := C
  intro ad H locs ls g1 g2 g3 g4 g5
  exact lv_ishl hx hb hd (k ad H locs ls g1 g2 g3 g4 g5)
theorem J_ishr {X : jK} {cc : ByteArray} {nL : Nat} {own : String} {Ts : List Cond} {cl : List vw_C} {fr lo NC NS : Nat} (C : jX X cc nL own Ts cl fr lo NC NS) {pc : Nat} {lv : Nat → Option Value} {st : List Value} {pw : jW} {nc ns : Nat} {x y : Int32} (hd : decode cc pc = .ok (.ishr, 1)) (k : J X (pc + 1) lv (.int (x >>> (y &&& 31)) :: st) pw nc ns) : J X pc lv (.int y :: .int x :: st) pw nc ns := by
  obtain ⟨⟨p, l, e, R, s⟩, ⟨m, args, below, meth, c⟩, ⟨nL', D, cl', ty⟩, ⟨A, ad0, n0, Q⟩⟩ := X
  obtain ⟨⟨hx, hb, hml, hown, hts⟩, hK, hA, hfr, hlo, hNC, hNS, rfl, rfl⟩ := C
  intro ad H locs ls g1 g2 g3 g4 g5
  exact lv_ishr hx hb hd (k ad H locs ls g1 g2 g3 g4 g5)
theorem J_dup {X : jK} {cc : ByteArray} {nL : Nat} {own : String} {Ts : List Cond} {cl : List vw_C} {fr lo NC NS : Nat} (C : jX X cc nL own Ts cl fr lo NC NS) {pc : Nat} {lv : Nat → Option Value} {st : List Value} {pw : jW} {nc ns : Nat} {v : Value} (hd : decode cc pc = .ok (.dup, 1)) (hv : v.category = 1) (k : J X (pc + 1) lv (v :: v :: st) pw nc ns) : J X pc lv (v :: st) pw nc ns := by
  obtain ⟨⟨p, l, e, R, s⟩, ⟨m, args, below, meth, c⟩, ⟨nL', D, cl', ty⟩, ⟨A, ad0, n0, Q⟩⟩ := X
  obtain ⟨⟨hx, hb, hml, hown, hts⟩, hK, hA, hfr, hlo, hNC, hNS, rfl, rfl⟩ := C
  intro ad H locs ls g1 g2 g3 g4 g5
  exact lv_dup hx hb hd ((jv_cat ad v).trans hv) (k ad H locs ls g1 g2 g3 g4 g5)
theorem J_pop {X : jK} {cc : ByteArray} {nL : Nat} {own : String} {Ts : List Cond} {cl : List vw_C} {fr lo NC NS : Nat} (C : jX X cc nL own Ts cl fr lo NC NS) {pc : Nat} {lv : Nat → Option Value} {st : List Value} {pw : jW} {nc ns : Nat} {v : Value} (hd : decode cc pc = .ok (.pop, 1)) (hv : v.category = 1) (k : J X (pc + 1) lv st pw nc ns) : J X pc lv (v :: st) pw nc ns := by
  obtain ⟨⟨p, l, e, R, s⟩, ⟨m, args, below, meth, c⟩, ⟨nL', D, cl', ty⟩, ⟨A, ad0, n0, Q⟩⟩ := X
  obtain ⟨⟨hx, hb, hml, hown, hts⟩, hK, hA, hfr, hlo, hNC, hNS, rfl, rfl⟩ := C
  intro ad H locs ls g1 g2 g3 g4 g5
  exact lv_pop hx hb hd ((jv_cat ad v).trans hv) (k ad H locs ls g1 g2 g3 g4 g5)
theorem J_dup2 {X : jK} {cc : ByteArray} {nL : Nat} {own : String} {Ts : List Cond} {cl : List vw_C} {fr lo NC NS : Nat} (C : jX X cc nL own Ts cl fr lo NC NS) {pc : Nat} {lv : Nat → Option Value} {st : List Value} {pw : jW} {nc ns : Nat} {v w : Value} (hd : decode cc pc = .ok (.dup2, 1)) (hv : v.category = 1) (hw : w.category = 1) (k : J X (pc + 1) lv (v :: w :: v :: w :: st) pw nc ns) : J X pc lv (v :: w :: st) pw nc ns := by
  obtain ⟨⟨p, l, e, R, s⟩, ⟨m, args, below, meth, c⟩, ⟨nL', D, cl', ty⟩, ⟨A, ad0, n0, Q⟩⟩ := X
  obtain ⟨⟨hx, hb, hml, hown, hts⟩, hK, hA, hfr, hlo, hNC, hNS, rfl, rfl⟩ := C
  intro ad H locs ls g1 g2 g3 g4 g5
  exact lv_dup2_11 hx hb hd ((jv_cat ad v).trans hv) ((jv_cat ad w).trans hw) (k ad H locs ls g1 g2 g3 g4 g5)
theorem J_goto {X : jK} {cc : ByteArray} {nL : Nat} {own : String} {Ts : List Cond} {cl : List vw_C} {fr lo NC NS : Nat} (C : jX X cc nL own Ts cl fr lo NC NS) {pc : Nat} {lv : Nat → Option Value} {st : List Value} {pw : jW} {nc ns : Nat} {off : Int} {tgt : Nat} (hd : decode cc pc = .ok (.goto off, 3)) (ht : (pc : Int) + off = (tgt : Int)) (k : J X tgt lv st pw nc ns) : J X pc lv st pw nc ns := by
  obtain ⟨⟨p, l, e, R, s⟩, ⟨m, args, below, meth, c⟩, ⟨nL', D, cl', ty⟩, ⟨A, ad0, n0, Q⟩⟩ := X
  obtain ⟨⟨hx, hb, hml, hown, hts⟩, hK, hA, hfr, hlo, hNC, hNS, rfl, rfl⟩ := C
  intro ad H locs ls g1 g2 g3 g4 g5
  exact lv_goto hx hb hd ht (k ad H locs ls g1 g2 g3 g4 g5)
theorem J_if_eq {X : jK} {cc : ByteArray} {nL : Nat} {own : String} {Ts : List Cond} {cl : List vw_C} {fr lo NC NS : Nat} (C : jX X cc nL own Ts cl fr lo NC NS) {pc : Nat} {lv : Nat → Option Value} {st : List Value} {pw : jW} {nc ns : Nat} {x : Int32} {off : Int} {tgt : Nat} (hd : decode cc pc = .ok (.ifCond .eq off, 3)) (ht : (pc : Int) + off = (tgt : Int)) (kt : x = 0 → J X tgt lv st pw nc ns) (kf : ¬ x = 0 → J X (pc + 3) lv st pw nc ns) : J X pc lv (.int x :: st) pw nc ns := by
  obtain ⟨⟨p, l, e, R, s⟩, ⟨m, args, below, meth, c⟩, ⟨nL', D, cl', ty⟩, ⟨A, ad0, n0, Q⟩⟩ := X
  obtain ⟨⟨hx, hb, hml, hown, hts⟩, hK, hA, hfr, hlo, hNC, hNS, rfl, rfl⟩ := C
  intro ad H locs ls g1 g2 g3 g4 g5
  exact lv_if_eq hx hb hd ht (fun h => kt h ad H locs ls g1 g2 g3 g4 g5) (fun h => kf h ad H locs ls g1 g2 g3 g4 g5)
theorem J_icmp_eq {X : jK} {cc : ByteArray} {nL : Nat} {own : String} {Ts : List Cond} {cl : List vw_C} {fr lo NC NS : Nat} (C : jX X cc nL own Ts cl fr lo NC NS) {pc : Nat} {lv : Nat → Option Value} {st : List Value} {pw : jW} {nc ns : Nat} {x y : Int32} {off : Int} {tgt : Nat} (hd : decode cc pc = .ok (.if_icmp .eq off, 3)) (ht : (pc : Int) + off = (tgt : Int)) (kt : x = y → J X tgt lv st pw nc ns) (kf : ¬ x = y → J X (pc + 3) lv st pw nc ns) : J X pc lv (.int y :: .int x :: st) pw nc ns := by
  obtain ⟨⟨p, l, e, R, s⟩, ⟨m, args, below, meth, c⟩, ⟨nL', D, cl', ty⟩, ⟨A, ad0, n0, Q⟩⟩ := X
  obtain ⟨⟨hx, hb, hml, hown, hts⟩, hK, hA, hfr, hlo, hNC, hNS, rfl, rfl⟩ := C
  intro ad H locs ls g1 g2 g3 g4 g5
  exact lv_icmp_eq hx hb hd ht (fun h => kt h ad H locs ls g1 g2 g3 g4 g5) (fun h => kf h ad H locs ls g1 g2 g3 g4 g5)
theorem J_if_ne {X : jK} {cc : ByteArray} {nL : Nat} {own : String} {Ts : List Cond} {cl : List vw_C} {fr lo NC NS : Nat} (C : jX X cc nL own Ts cl fr lo NC NS) {pc : Nat} {lv : Nat → Option Value} {st : List Value} {pw : jW} {nc ns : Nat} {x : Int32} {off : Int} {tgt : Nat} (hd : decode cc pc = .ok (.ifCond .ne off, 3)) (ht : (pc : Int) + off = (tgt : Int)) (kt : ¬ x = 0 → J X tgt lv st pw nc ns) (kf : x = 0 → J X (pc + 3) lv st pw nc ns) : J X pc lv (.int x :: st) pw nc ns := by
  obtain ⟨⟨p, l, e, R, s⟩, ⟨m, args, below, meth, c⟩, ⟨nL', D, cl', ty⟩, ⟨A, ad0, n0, Q⟩⟩ := X
  obtain ⟨⟨hx, hb, hml, hown, hts⟩, hK, hA, hfr, hlo, hNC, hNS, rfl, rfl⟩ := C
  intro ad H locs ls g1 g2 g3 g4 g5
  exact lv_if_ne hx hb hd ht (fun h => kt h ad H locs ls g1 g2 g3 g4 g5) (fun h => kf h ad H locs ls g1 g2 g3 g4 g5)
theorem J_icmp_ne {X : jK} {cc : ByteArray} {nL : Nat} {own : String} {Ts : List Cond} {cl : List vw_C} {fr lo NC NS : Nat} (C : jX X cc nL own Ts cl fr lo NC NS) {pc : Nat} {lv : Nat → Option Value} {st : List Value} {pw : jW} {nc ns : Nat} {x y : Int32} {off : Int} {tgt : Nat} (hd : decode cc pc = .ok (.if_icmp .ne off, 3)) (ht : (pc : Int) + off = (tgt : Int)) (kt : ¬ x = y → J X tgt lv st pw nc ns) (kf : x = y → J X (pc + 3) lv st pw nc ns) : J X pc lv (.int y :: .int x :: st) pw nc ns := by
  obtain ⟨⟨p, l, e, R, s⟩, ⟨m, args, below, meth, c⟩, ⟨nL', D, cl', ty⟩, ⟨A, ad0, n0, Q⟩⟩ := X
  obtain ⟨⟨hx, hb, hml, hown, hts⟩, hK, hA, hfr, hlo, hNC, hNS, rfl, rfl⟩ := C
  intro ad H locs ls g1 g2 g3 g4 g5
  exact lv_icmp_ne hx hb hd ht (fun h => kt h ad H locs ls g1 g2 g3 g4 g5) (fun h => kf h ad H locs ls g1 g2 g3 g4 g5)
theorem J_if_lt {X : jK} {cc : ByteArray} {nL : Nat} {own : String} {Ts : List Cond} {cl : List vw_C} {fr lo NC NS : Nat} (C : jX X cc nL own Ts cl fr lo NC NS) {pc : Nat} {lv : Nat → Option Value} {st : List Value} {pw : jW} {nc ns : Nat} {x : Int32} {off : Int} {tgt : Nat} (hd : decode cc pc = .ok (.ifCond .lt off, 3)) (ht : (pc : Int) + off = (tgt : Int)) (kt : x < 0 → J X tgt lv st pw nc ns) (kf : ¬ x < 0 → J X (pc + 3) lv st pw nc ns) : J X pc lv (.int x :: st) pw nc ns := by
  obtain ⟨⟨p, l, e, R, s⟩, ⟨m, args, below, meth, c⟩, ⟨nL', D, cl', ty⟩, ⟨A, ad0, n0, Q⟩⟩ := X
  obtain ⟨⟨hx, hb, hml, hown, hts⟩, hK, hA, hfr, hlo, hNC, hNS, rfl, rfl⟩ := C
  intro ad H locs ls g1 g2 g3 g4 g5
  exact lv_if_lt hx hb hd ht (fun h => kt h ad H locs ls g1 g2 g3 g4 g5) (fun h => kf h ad H locs ls g1 g2 g3 g4 g5)
theorem J_icmp_lt {X : jK} {cc : ByteArray} {nL : Nat} {own : String} {Ts : List Cond} {cl : List vw_C} {fr lo NC NS : Nat} (C : jX X cc nL own Ts cl fr lo NC NS) {pc : Nat} {lv : Nat → Option Value} {st : List Value} {pw : jW} {nc ns : Nat} {x y : Int32} {off : Int} {tgt : Nat} (hd : decode cc pc = .ok (.if_icmp .lt off, 3)) (ht : (pc : Int) + off = (tgt : Int)) (kt : x < y → J X tgt lv st pw nc ns) (kf : ¬ x < y → J X (pc + 3) lv st pw nc ns) : J X pc lv (.int y :: .int x :: st) pw nc ns := by
  obtain ⟨⟨p, l, e, R, s⟩, ⟨m, args, below, meth, c⟩, ⟨nL', D, cl', ty⟩, ⟨A, ad0, n0, Q⟩⟩ := X
  obtain ⟨⟨hx, hb, hml, hown, hts⟩, hK, hA, hfr, hlo, hNC, hNS, rfl, rfl⟩ := C
  intro ad H locs ls g1 g2 g3 g4 g5
  exact lv_icmp_lt hx hb hd ht (fun h => kt h ad H locs ls g1 g2 g3 g4 g5) (fun h => kf h ad H locs ls g1 g2 g3 g4 g5)
theorem J_if_ge {X : jK} {cc : ByteArray} {nL : Nat} {own : String} {Ts : List Cond} {cl : List vw_C} {fr lo NC NS : Nat} (C : jX X cc nL own Ts cl fr lo NC NS) {pc : Nat} {lv : Nat → Option Value} {st : List Value} {pw : jW} {nc ns : Nat} {x : Int32} {off : Int} {tgt : Nat} (hd : decode cc pc = .ok (.ifCond .ge off, 3)) (ht : (pc : Int) + off = (tgt : Int)) (kt : 0 ≤ x → J X tgt lv st pw nc ns) (kf : ¬ 0 ≤ x → J X (pc + 3) lv st pw nc ns) : J X pc lv (.int x :: st) pw nc ns := by
  obtain ⟨⟨p, l, e, R, s⟩, ⟨m, args, below, meth, c⟩, ⟨nL', D, cl', ty⟩, ⟨A, ad0, n0, Q⟩⟩ := X
  obtain ⟨⟨hx, hb, hml, hown, hts⟩, hK, hA, hfr, hlo, hNC, hNS, rfl, rfl⟩ := C
  intro ad H locs ls g1 g2 g3 g4 g5
  exact lv_if_ge hx hb hd ht (fun h => kt h ad H locs ls g1 g2 g3 g4 g5) (fun h => kf h ad H locs ls g1 g2 g3 g4 g5)
theorem J_icmp_ge {X : jK} {cc : ByteArray} {nL : Nat} {own : String} {Ts : List Cond} {cl : List vw_C} {fr lo NC NS : Nat} (C : jX X cc nL own Ts cl fr lo NC NS) {pc : Nat} {lv : Nat → Option Value} {st : List Value} {pw : jW} {nc ns : Nat} {x y : Int32} {off : Int} {tgt : Nat} (hd : decode cc pc = .ok (.if_icmp .ge off, 3)) (ht : (pc : Int) + off = (tgt : Int)) (kt : y ≤ x → J X tgt lv st pw nc ns) (kf : ¬ y ≤ x → J X (pc + 3) lv st pw nc ns) : J X pc lv (.int y :: .int x :: st) pw nc ns := by
  obtain ⟨⟨p, l, e, R, s⟩, ⟨m, args, below, meth, c⟩, ⟨nL', D, cl', ty⟩, ⟨A, ad0, n0, Q⟩⟩ := X
  obtain ⟨⟨hx, hb, hml, hown, hts⟩, hK, hA, hfr, hlo, hNC, hNS, rfl, rfl⟩ := C
  intro ad H locs ls g1 g2 g3 g4 g5
  exact lv_icmp_ge hx hb hd ht (fun h => kt h ad H locs ls g1 g2 g3 g4 g5) (fun h => kf h ad H locs ls g1 g2 g3 g4 g5)
theorem J_if_gt {X : jK} {cc : ByteArray} {nL : Nat} {own : String} {Ts : List Cond} {cl : List vw_C} {fr lo NC NS : Nat} (C : jX X cc nL own Ts cl fr lo NC NS) {pc : Nat} {lv : Nat → Option Value} {st : List Value} {pw : jW} {nc ns : Nat} {x : Int32} {off : Int} {tgt : Nat} (hd : decode cc pc = .ok (.ifCond .gt off, 3)) (ht : (pc : Int) + off = (tgt : Int)) (kt : 0 < x → J X tgt lv st pw nc ns) (kf : ¬ 0 < x → J X (pc + 3) lv st pw nc ns) : J X pc lv (.int x :: st) pw nc ns := by
  obtain ⟨⟨p, l, e, R, s⟩, ⟨m, args, below, meth, c⟩, ⟨nL', D, cl', ty⟩, ⟨A, ad0, n0, Q⟩⟩ := X
  obtain ⟨⟨hx, hb, hml, hown, hts⟩, hK, hA, hfr, hlo, hNC, hNS, rfl, rfl⟩ := C
  intro ad H locs ls g1 g2 g3 g4 g5
  exact lv_if_gt hx hb hd ht (fun h => kt h ad H locs ls g1 g2 g3 g4 g5) (fun h => kf h ad H locs ls g1 g2 g3 g4 g5)
theorem J_icmp_gt {X : jK} {cc : ByteArray} {nL : Nat} {own : String} {Ts : List Cond} {cl : List vw_C} {fr lo NC NS : Nat} (C : jX X cc nL own Ts cl fr lo NC NS) {pc : Nat} {lv : Nat → Option Value} {st : List Value} {pw : jW} {nc ns : Nat} {x y : Int32} {off : Int} {tgt : Nat} (hd : decode cc pc = .ok (.if_icmp .gt off, 3)) (ht : (pc : Int) + off = (tgt : Int)) (kt : y < x → J X tgt lv st pw nc ns) (kf : ¬ y < x → J X (pc + 3) lv st pw nc ns) : J X pc lv (.int y :: .int x :: st) pw nc ns := by
  obtain ⟨⟨p, l, e, R, s⟩, ⟨m, args, below, meth, c⟩, ⟨nL', D, cl', ty⟩, ⟨A, ad0, n0, Q⟩⟩ := X
  obtain ⟨⟨hx, hb, hml, hown, hts⟩, hK, hA, hfr, hlo, hNC, hNS, rfl, rfl⟩ := C
  intro ad H locs ls g1 g2 g3 g4 g5
  exact lv_icmp_gt hx hb hd ht (fun h => kt h ad H locs ls g1 g2 g3 g4 g5) (fun h => kf h ad H locs ls g1 g2 g3 g4 g5)
theorem J_if_le {X : jK} {cc : ByteArray} {nL : Nat} {own : String} {Ts : List Cond} {cl : List vw_C} {fr lo NC NS : Nat} (C : jX X cc nL own Ts cl fr lo NC NS) {pc : Nat} {lv : Nat → Option Value} {st : List Value} {pw : jW} {nc ns : Nat} {x : Int32} {off : Int} {tgt : Nat} (hd : decode cc pc = .ok (.ifCond .le off, 3)) (ht : (pc : Int) + off = (tgt : Int)) (kt : x ≤ 0 → J X tgt lv st pw nc ns) (kf : ¬ x ≤ 0 → J X (pc + 3) lv st pw nc ns) : J X pc lv (.int x :: st) pw nc ns := by
  obtain ⟨⟨p, l, e, R, s⟩, ⟨m, args, below, meth, c⟩, ⟨nL', D, cl', ty⟩, ⟨A, ad0, n0, Q⟩⟩ := X
  obtain ⟨⟨hx, hb, hml, hown, hts⟩, hK, hA, hfr, hlo, hNC, hNS, rfl, rfl⟩ := C
  intro ad H locs ls g1 g2 g3 g4 g5
  exact lv_if_le hx hb hd ht (fun h => kt h ad H locs ls g1 g2 g3 g4 g5) (fun h => kf h ad H locs ls g1 g2 g3 g4 g5)
theorem J_icmp_le {X : jK} {cc : ByteArray} {nL : Nat} {own : String} {Ts : List Cond} {cl : List vw_C} {fr lo NC NS : Nat} (C : jX X cc nL own Ts cl fr lo NC NS) {pc : Nat} {lv : Nat → Option Value} {st : List Value} {pw : jW} {nc ns : Nat} {x y : Int32} {off : Int} {tgt : Nat} (hd : decode cc pc = .ok (.if_icmp .le off, 3)) (ht : (pc : Int) + off = (tgt : Int)) (kt : x ≤ y → J X tgt lv st pw nc ns) (kf : ¬ x ≤ y → J X (pc + 3) lv st pw nc ns) : J X pc lv (.int y :: .int x :: st) pw nc ns := by
  obtain ⟨⟨p, l, e, R, s⟩, ⟨m, args, below, meth, c⟩, ⟨nL', D, cl', ty⟩, ⟨A, ad0, n0, Q⟩⟩ := X
  obtain ⟨⟨hx, hb, hml, hown, hts⟩, hK, hA, hfr, hlo, hNC, hNS, rfl, rfl⟩ := C
  intro ad H locs ls g1 g2 g3 g4 g5
  exact lv_icmp_le hx hb hd ht (fun h => kt h ad H locs ls g1 g2 g3 g4 g5) (fun h => kf h ad H locs ls g1 g2 g3 g4 g5)
theorem J_get {X : jK} {cc : ByteArray} {nL : Nat} {own : String} {Ts : List Cond} {cl : List vw_C} {fr lo NC NS : Nat} (C : jX X cc nL own Ts cl fr lo NC NS) {pc : Nat} {lv : Nat → Option Value} {st : List Value} {pw : jW} {nc ns : Nat} {index ci i k N : Nat} {K : String} {T : u_T} {fs : List Value} {v : Value} (hd : decode cc pc = .ok (.getfield index, 3)) (hin : ∀ w ∈ u_ws K T N, w ∈ Ts) (hc : cl[ci]? = some (K, T, N)) (hlink : Cond.fieldLink own index (T k).1 (T k).2.1 (T k).2.2.1 ∈ Ts) (hk : k < N) (hw : pw[i]? = some (.inr (ci, fs))) (hv : fs[k]? = some v) (kk : J X (pc + 3) lv (v :: st) pw nc ns) : J X pc lv (.ref i :: st) pw nc ns := by
  obtain ⟨⟨p, l, e, R, s⟩, ⟨m, args, below, meth, c⟩, ⟨nL', D, cl', ty⟩, ⟨A, ad0, n0, Q⟩⟩ := X
  obtain ⟨⟨hx, hb, hml, hown, hts⟩, hK, hA, hfr, hlo, hNC, hNS, rfl, rfl⟩ := C
  intro ad H locs ls g1 g2 g3 g4 g5
  exact va_get hx hb hts hin hown hK g2 i (jr_at hw) hc k hk (hts _ hlink) (fun _ h9 => h9) (v := jv ad v) (by rw [List.getElem?_map, hv]; rfl) hd (kk ad H locs ls g1 g2 g3 g4 g5)
theorem J_put {X : jK} {cc : ByteArray} {nL : Nat} {own : String} {Ts : List Cond} {cl : List vw_C} {fr lo NC NS : Nat} (C : jX X cc nL own Ts cl fr lo NC NS) {pc : Nat} {lv : Nat → Option Value} {st : List Value} {pw : jW} {nc ns : Nat} {index ci i N : Nat} {K : String} {T : u_T} {fs : List Value} {v : Value} {t : FieldType} (k : Nat) (ty0 : Nat → FieldType) (hty : ∀ k, k < N → parseFieldDescriptor (T k).2.2.1 = some (ty0 k)) (hnm : ∀ a, a < N → ∀ b, b < N → a ≠ b → (T a).2.1 ≠ (T b).2.1) (hd : decode cc pc = .ok (.putfield index, 3)) (hin : ∀ w ∈ u_ws K T N, w ∈ Ts) (hc : cl[ci]? = some (K, T, N)) (hlink : Cond.fieldLink own index (T k).1 (T k).2.1 (T k).2.2.1 ∈ Ts) (hk : k < N) (hfin : (T k).2.2.2 = false) (hdt : parseFieldDescriptor (T k).2.2.1 = some t) (hn : ∀ ad, narrow t (jv ad v) = jv ad v) (hfit : ∀ ad, fits t (jv ad v) = true) (hw : pw[i]? = some (.inr (ci, fs))) (hl : k < fs.length) (kk : J X (pc + 3) lv st (pw.set i (.inr (ci, fs.set k v))) nc ns) : J X pc lv (v :: .ref i :: st) pw nc ns := by
  obtain ⟨⟨p, l, e, R, s⟩, ⟨m, args, below, meth, c⟩, ⟨nL', D, cl', ty⟩, ⟨A, ad0, n0, Q⟩⟩ := X
  obtain ⟨⟨hx, hb, hml, hown, hts⟩, hK, hA, hfr, hlo, hNC, hNS, rfl, rfl⟩ := C
  intro ad H locs ls g1 g2 g3 g4 g5
  refine va_put hx hb hts hin ty0 hty hnm hown hK g2 g3 g4 i (jr_at hw) hc k hk (hts _ hlink) (fun _ h9 => h9) hfin hdt (v := jv ad v) (hn ad) (hfit ad) (by rw [List.length_map]; exact hl) hd (fun H1 locs1 a1 a2 a3 => ?_)
  have e1 : (ad i, (Sum.inr (ci, (fs.map (jv ad)).set k (jv ad v)) : va_E)) = (ad i, jc ty ad (.inr (ci, fs.set k v))) := by rw [← List.map_set]; rfl
  rw [e1, jr_set] at a1 a2
  exact kk ad H1 locs1 ls g1 a1 a2 a3 g5
theorem J_iald {X : jK} {cc : ByteArray} {nL : Nat} {own : String} {Ts : List Cond} {cl : List vw_C} {fr lo NC NS : Nat} (C : jX X cc nL own Ts cl fr lo NC NS) {pc : Nat} {lv : Nat → Option Value} {st : List Value} {pw : jW} {nc ns : Nat} {i n : Nat} {f : Nat → Int32} {x : Int32} (hd : decode cc pc = .ok (.iaload, 1)) (hw : pw[i]? = some (.inl (.int, n, .inl f))) (hi : vp_in x n) (kk : J X (pc + 1) lv (.int (f x.toNatClampNeg) :: st) pw nc ns) : J X pc lv (.int x :: .ref i :: st) pw nc ns := by
  obtain ⟨⟨p, l, e, R, s⟩, ⟨m, args, below, meth, c⟩, ⟨nL', D, cl', ty⟩, ⟨A, ad0, n0, Q⟩⟩ := X
  obtain ⟨⟨hx, hb, hml, hown, hts⟩, hK, hA, hfr, hlo, hNC, hNS, rfl, rfl⟩ := C
  intro ad H locs ls g1 g2 g3 g4 g5
  exact va_iald hx hb hK g2 i 0 (jr_at hw) rfl hi hd (kk ad H locs ls g1 g2 g3 g4 g5)
theorem J_iast {X : jK} {cc : ByteArray} {nL : Nat} {own : String} {Ts : List Cond} {cl : List vw_C} {fr lo NC NS : Nat} (C : jX X cc nL own Ts cl fr lo NC NS) {pc : Nat} {lv : Nat → Option Value} {st : List Value} {pw : jW} {nc ns : Nat} {i n : Nat} {f : Nat → Int32} {j : Int32} {x : Int32} (hd : decode cc pc = .ok (.iastore, 1)) (hw : pw[i]? = some (.inl (.int, n, .inl f))) (hi : vp_in j n) (kk : J X (pc + 1) lv st (pw.set i (.inl (.int, n, .inl (upd f j.toNatClampNeg x)))) nc ns) : J X pc lv (.int x :: .int j :: .ref i :: st) pw nc ns := by
  obtain ⟨⟨p, l, e, R, s⟩, ⟨m, args, below, meth, c⟩, ⟨nL', D, cl', ty⟩, ⟨A, ad0, n0, Q⟩⟩ := X
  obtain ⟨⟨hx, hb, hml, hown, hts⟩, hK, hA, hfr, hlo, hNC, hNS, rfl, rfl⟩ := C
  intro ad H locs ls g1 g2 g3 g4 g5
  refine va_iast hx hb hK g2 g3 g4 i 0 (jr_at hw) rfl hi hd (fun H1 locs1 a1 a2 a3 => ?_)
  have e1 := jr_set ty ad pw i (.inl (.int, n, .inl (upd f j.toNatClampNeg x)))
  exact kk ad H1 locs1 ls g1 (e1 ▸ a1) (e1 ▸ a2) a3 g5
theorem J_bald {X : jK} {cc : ByteArray} {nL : Nat} {own : String} {Ts : List Cond} {cl : List vw_C} {fr lo NC NS : Nat} (C : jX X cc nL own Ts cl fr lo NC NS) {pc : Nat} {lv : Nat → Option Value} {st : List Value} {pw : jW} {nc ns : Nat} {i n : Nat} {f : Nat → Int32} {x : Int32} (hd : decode cc pc = .ok (.baload, 1)) (hw : pw[i]? = some (.inl (.byte, n, .inl f))) (hi : vp_in x n) (kk : J X (pc + 1) lv (.int (f x.toNatClampNeg) :: st) pw nc ns) : J X pc lv (.int x :: .ref i :: st) pw nc ns := by
  obtain ⟨⟨p, l, e, R, s⟩, ⟨m, args, below, meth, c⟩, ⟨nL', D, cl', ty⟩, ⟨A, ad0, n0, Q⟩⟩ := X
  obtain ⟨⟨hx, hb, hml, hown, hts⟩, hK, hA, hfr, hlo, hNC, hNS, rfl, rfl⟩ := C
  intro ad H locs ls g1 g2 g3 g4 g5
  exact va_bald hx hb hK g2 i 2 (jr_at hw) rfl hi hd (kk ad H locs ls g1 g2 g3 g4 g5)
theorem J_bast {X : jK} {cc : ByteArray} {nL : Nat} {own : String} {Ts : List Cond} {cl : List vw_C} {fr lo NC NS : Nat} (C : jX X cc nL own Ts cl fr lo NC NS) {pc : Nat} {lv : Nat → Option Value} {st : List Value} {pw : jW} {nc ns : Nat} {i n : Nat} {f : Nat → Int32} {j : Int32} {x : Int32} (hd : decode cc pc = .ok (.bastore, 1)) (hw : pw[i]? = some (.inl (.byte, n, .inl f))) (hi : vp_in j n) (kk : J X (pc + 1) lv st (pw.set i (.inl (.byte, n, .inl (upd f j.toNatClampNeg (vp_nar .byte x))))) nc ns) : J X pc lv (.int x :: .int j :: .ref i :: st) pw nc ns := by
  obtain ⟨⟨p, l, e, R, s⟩, ⟨m, args, below, meth, c⟩, ⟨nL', D, cl', ty⟩, ⟨A, ad0, n0, Q⟩⟩ := X
  obtain ⟨⟨hx, hb, hml, hown, hts⟩, hK, hA, hfr, hlo, hNC, hNS, rfl, rfl⟩ := C
  intro ad H locs ls g1 g2 g3 g4 g5
  refine va_bast hx hb hK g2 g3 g4 i 2 (jr_at hw) rfl hi hd (fun H1 locs1 a1 a2 a3 => ?_)
  have e1 := jr_set ty ad pw i (.inl (.byte, n, .inl (upd f j.toNatClampNeg (vp_nar .byte x))))
  exact kk ad H1 locs1 ls g1 (e1 ▸ a1) (e1 ▸ a2) a3 g5
theorem J_lald {X : jK} {cc : ByteArray} {nL : Nat} {own : String} {Ts : List Cond} {cl : List vw_C} {fr lo NC NS : Nat} (C : jX X cc nL own Ts cl fr lo NC NS) {pc : Nat} {lv : Nat → Option Value} {st : List Value} {pw : jW} {nc ns : Nat} {i n : Nat} {f : Nat → Int64} {x : Int32} (hd : decode cc pc = .ok (.laload, 1)) (hw : pw[i]? = some (.inl (.long, n, .inr (.inl f)))) (hi : vp_in x n) (kk : J X (pc + 1) lv (.long (f x.toNatClampNeg) :: st) pw nc ns) : J X pc lv (.int x :: .ref i :: st) pw nc ns := by
  obtain ⟨⟨p, l, e, R, s⟩, ⟨m, args, below, meth, c⟩, ⟨nL', D, cl', ty⟩, ⟨A, ad0, n0, Q⟩⟩ := X
  obtain ⟨⟨hx, hb, hml, hown, hts⟩, hK, hA, hfr, hlo, hNC, hNS, rfl, rfl⟩ := C
  intro ad H locs ls g1 g2 g3 g4 g5
  exact va_lald hx hb hK g2 i 1 (jr_at hw) rfl hi hd (kk ad H locs ls g1 g2 g3 g4 g5)
theorem J_last {X : jK} {cc : ByteArray} {nL : Nat} {own : String} {Ts : List Cond} {cl : List vw_C} {fr lo NC NS : Nat} (C : jX X cc nL own Ts cl fr lo NC NS) {pc : Nat} {lv : Nat → Option Value} {st : List Value} {pw : jW} {nc ns : Nat} {i n : Nat} {f : Nat → Int64} {j : Int32} {x : Int64} (hd : decode cc pc = .ok (.lastore, 1)) (hw : pw[i]? = some (.inl (.long, n, .inr (.inl f)))) (hi : vp_in j n) (kk : J X (pc + 1) lv st (pw.set i (.inl (.long, n, .inr (.inl (vp_updL f j.toNatClampNeg x))))) nc ns) : J X pc lv (.long x :: .int j :: .ref i :: st) pw nc ns := by
  obtain ⟨⟨p, l, e, R, s⟩, ⟨m, args, below, meth, c⟩, ⟨nL', D, cl', ty⟩, ⟨A, ad0, n0, Q⟩⟩ := X
  obtain ⟨⟨hx, hb, hml, hown, hts⟩, hK, hA, hfr, hlo, hNC, hNS, rfl, rfl⟩ := C
  intro ad H locs ls g1 g2 g3 g4 g5
  refine va_last hx hb hK g2 g3 g4 i 1 (jr_at hw) rfl hi hd (fun H1 locs1 a1 a2 a3 => ?_)
  have e1 := jr_set ty ad pw i (.inl (.long, n, .inr (.inl (vp_updL f j.toNatClampNeg x))))
  exact kk ad H1 locs1 ls g1 (e1 ▸ a1) (e1 ▸ a2) a3 g5
theorem J_alen {X : jK} {cc : ByteArray} {nL : Nat} {own : String} {Ts : List Cond} {cl : List vw_C} {fr lo NC NS : Nat} (C : jX X cc nL own Ts cl fr lo NC NS) {pc : Nat} {lv : Nat → Option Value} {st : List Value} {pw : jW} {nc ns : Nat} {i n : Nat} {f : Nat → Int32} {v : Int32} (hd : decode cc pc = .ok (.arraylength, 1)) (hw : pw[i]? = some (.inl (.int, n, .inl f))) (hv : Int32.ofNat n = v) (kk : J X (pc + 1) lv (.int v :: st) pw nc ns) : J X pc lv (.ref i :: st) pw nc ns := by
  obtain ⟨⟨p, l, e, R, s⟩, ⟨m, args, below, meth, c⟩, ⟨nL', D, cl', ty⟩, ⟨A, ad0, n0, Q⟩⟩ := X
  obtain ⟨⟨hx, hb, hml, hown, hts⟩, hK, hA, hfr, hlo, hNC, hNS, rfl, rfl⟩ := C
  intro ad H locs ls g1 g2 g3 g4 g5
  exact va_alen hx hb hK g2 i 0 (jr_at hw) rfl hv hd (kk ad H locs ls g1 g2 g3 g4 g5)
theorem J_topi {X : jK} {pc : Nat} {lv : Nat → Option Value} {st : List Value} {pw : jW} {nc ns : Nat} {x : Int32} (k : ∀ y : Int32, y = x → J X pc lv (.int y :: st) pw nc ns) : J X pc lv (.int x :: st) pw nc ns := k x rfl
theorem J_topl {X : jK} {pc : Nat} {lv : Nat → Option Value} {st : List Value} {pw : jW} {nc ns : Nat} {x : Int64} (k : ∀ y : Int64, y = x → J X pc lv (.long y :: st) pw nc ns) : J X pc lv (.long x :: st) pw nc ns := k x rfl
theorem J_widen {X : jK} {pc : Nat} {lv : Nat → Option Value} {st : List Value} {pw : jW} {nc ns nc' ns' : Nat} (h1 : nc ≤ nc') (h2 : ns ≤ ns') (k : J X pc lv st pw nc' ns') : J X pc lv st pw nc ns := by
  obtain ⟨⟨p, l, e, R, s⟩, ⟨m, args, below, meth, c⟩, ⟨nL', D, cl', ty⟩, ⟨A, ad0, n0, Q⟩⟩ := X
  intro ad H locs ls g1 g2 g3 g4 g5
  exact W.widen h1 h2 (k ad H locs ls g1 g2 g3 g4 g5)
theorem J_lv {X : jK} {pc : Nat} {lv lv' : Nat → Option Value} {st : List Value} {pw : jW} {nc ns : Nat} (h : ∀ i v, lv' i = some v → lv i = some v) (k : J X pc lv' st pw nc ns) : J X pc lv st pw nc ns := by
  obtain ⟨⟨p, l, e, R, s⟩, ⟨m, args, below, meth, c⟩, ⟨nL', D, cl', ty⟩, ⟨A, ad0, n0, Q⟩⟩ := X
  intro ad H locs ls g1 g2 g3 g4 g5
  exact k ad H locs ls g1 g2 g3 g4 ⟨g5.1, g5.2.1, fun i v hv => g5.2.2 i v (h i v hv)⟩
end
section
/-! CONTRACTS in the pure world: a method at these arguments, in this world, ends with an answer and a world of which 'post' holds; nc new cells of ns slots come at the most. -/
def jB (D : va_G) (cl : List vw_C) (ty : FieldType → ClassId) (ad : Nat → Nat) (n : Nat) (A : Nat → Prop) (u : jW × (Nat → Nat)) (t : State) : Prop := (∀ i, i < n → i ≠ 2 → u.2 i = ad i) ∧ n ≤ u.1.length ∧ va_P D cl (jr ty u.2 u.1) t.heap ∧ va_K D cl (jtys ty) t ∧ va_D A (jr ty u.2 u.1)
def jPre (D : va_G) (cl : List vw_C) (ty : FieldType → ClassId) (ad : Nat → Nat) (sz : Nat) (av : List Value) (pw : jW) : Array Value → State → Prop := va_Pc (av.map (jv ad)) (fun U => U.heap.size = sz ∧ va_P D cl (jr ty ad pw) U.heap ∧ va_K D cl (jtys ty) U ∧ va_D (fun _ => True) (jr ty ad pw))
abbrev jRm (fr lo nc ns : Nat) : Room := { frames := fr, cells := nc, slots := ns, locals := lo }
def jI (cl : List vw_C) (y : MethodName) (ws : List Cond) (fr lo : Nat) (av : List Value) (pw : jW) (nc ns : Nat) (post : Int32 → jW → Prop) : Prop :=
  ∀ (l : Launch) (D : va_G) (ty : FieldType → ClassId) (ad : Nat → Nat) (sz : Nat), Met l y ws (jRm fr lo nc ns) (jPre D cl ty ad sz av pw) (va_Qi (S := jW × (Nat → Nat)) (fun r u => post r u.1) (jB D cl ty ad pw.length (va_A (jr ty ad pw) sz)) (va_A (jr ty ad pw) sz)) nc ns (va_A (jr ty ad pw) sz)
def jG (cl : List vw_C) (y : MethodName) (ws : List Cond) (fr lo : Nat) (av : List Value) (pw : jW) (nc ns : Nat) (post : Int64 → jW → Prop) : Prop :=
  ∀ (l : Launch) (D : va_G) (ty : FieldType → ClassId) (ad : Nat → Nat) (sz : Nat), Met l y ws (jRm fr lo nc ns) (jPre D cl ty ad sz av pw) (va_Ql (S := jW × (Nat → Nat)) (fun r u => post r u.1) (jB D cl ty ad pw.length (va_A (jr ty ad pw) sz)) (va_A (jr ty ad pw) sz)) nc ns (va_A (jr ty ad pw) sz)
def jN (cl : List vw_C) (y : MethodName) (ws : List Cond) (fr lo : Nat) (av : List Value) (pw : jW) (nc ns : Nat) (post : jW → Prop) : Prop :=
  ∀ (l : Launch) (D : va_G) (ty : FieldType → ClassId) (ad : Nat → Nat) (sz : Nat), Met l y ws (jRm fr lo nc ns) (jPre D cl ty ad sz av pw) (va_Qv (S := jW × (Nat → Nat)) (fun u => post u.1) (jB D cl ty ad pw.length (va_A (jr ty ad pw) sz)) (va_A (jr ty ad pw) sz)) nc ns (va_A (jr ty ad pw) sz)
/-- the locals at a method's start -/
def jent (av : List Value) : Nat → Option Value := fun i => ((lv_args 0 av).find? (fun q => q.1 == i)).map (fun q => q.2)
theorem jargs_map (ad : Nat → Nat) (av : List Value) : ∀ i, lv_args i (av.map (jv ad)) = (lv_args i av).map (fun q => (q.1, jv ad q.2)) := by
  induction av with
  | nil => intro i; rfl
  | cons v vs ih =>
    intro i
    simp only [List.map_cons, lv_args, jv_cat, ih]
theorem jent_L {ls : Array Slot} {nL : Nat} {ad : Nat → Nat} {av : List Value} (h : lv_has ls nL (lv_args 0 (av.map (jv ad)))) : jL ls nL ad (jent av) := by
  refine ⟨h.1, h.2.1, fun i v hv => ?_⟩
  unfold jent at hv
  cases hf : (lv_args 0 av).find? (fun q => q.1 == i) with
  | none => rw [hf] at hv; cases hv
  | some q =>
    rw [hf] at hv
    cases hv
    have h1 := List.mem_of_find?_eq_some hf
    have h2 := List.find?_some hf
    have h3 : q.1 = i := by simpa using h2
    subst h3
    refine h.2.2 (q.1, jv ad q.2) ?_
    rw [jargs_map]
    exact List.mem_map.mpr ⟨q, h1, rfl⟩
def jn0 (X : jK) : Nat := X.2.2.2.2.2.1
/-- the method's end: with an int, a long, nothing -/
def jRi (X : jK) (cc : ByteArray) (post : Int32 → jW → Prop) (NC NS : Nat) : Prop := ∀ (pc : Nat) (lv : Nat → Option Value) (r : Int32) (pw : jW) (nc ns : Nat), decode cc pc = .ok (.ireturn, 1) → post r pw → jn0 X ≤ pw.length → nc ≤ NC → ns ≤ NS → J X pc lv [.int r] pw nc ns
def jRg (X : jK) (cc : ByteArray) (post : Int64 → jW → Prop) (NC NS : Nat) : Prop := ∀ (pc : Nat) (lv : Nat → Option Value) (r : Int64) (pw : jW) (nc ns : Nat), decode cc pc = .ok (.lreturn, 1) → post r pw → jn0 X ≤ pw.length → nc ≤ NC → ns ≤ NS → J X pc lv [.long r] pw nc ns
def jRn (X : jK) (cc : ByteArray) (post : jW → Prop) (NC NS : Nat) : Prop := ∀ (pc : Nat) (lv : Nat → Option Value) (pw : jW) (nc ns : Nat), decode cc pc = .ok (.return_, 1) → post pw → jn0 X ≤ pw.length → nc ≤ NC → ns ≤ NS → J X pc lv [] pw nc ns
theorem jlen (ad : Nat → Nat) (av : List Value) : (lg_sl (av.map (jv ad))).length = (lg_sl av).length := by
  induction av with
  | nil => rfl
  | cons v vs ih =>
    have e1 : ∀ (w : Value) (ws : List Value), (lg_sl (w :: ws)).length = (if w.category = 2 then 2 else 1) + (lg_sl ws).length := by
      intro w ws
      simp only [lg_sl, List.flatMap_cons, List.length_append]
      by_cases hw : w.category = 2 <;> simp [hw]
    rw [List.map_cons, e1, e1, jv_cat, ih]
set_option maxHeartbeats 1000000 in
theorem jI_of {cl : List vw_C} {y : MethodName} {ws ws' : List Cond} {fr lo nL nc ns : Nat} {av : List Value} {pw : jW} {post : Int32 → jW → Prop} {cc : ByteArray} (ret : FieldType) (hy : plainName y.cls = true) (hw : ws = .code y cc nL (some ret) :: ws') (hl : (lg_sl av).length ≤ nL) (hn : ∀ (r : Int32) (pw : jW), post r pw → narrow ret (.int r) = .int r)
    (body : ∀ X : jK, jX X cc nL y.cls ws cl fr lo nc ns → jn0 X = pw.length → jRi X cc post nc ns → J X 0 (jent av) [] pw 0 0) : jI cl y ws fr lo av pw nc ns post := by
  intro l D ty ad sz
  refine Met.ofW (cc := cc) (maxL := nL) (ret := some ret) hy hw ?_
  intro p e s m args below meth c s₁ B hml hv
  obtain ⟨rfl, hsz, hP, hK, hD0⟩ := hv
  subst hsz
  have hD := hD0.self (sz := s.heap.size)
  have hl2 := lv_entry (av.map (jv ad)) (n := nL) (by rw [jlen]; exact hl)
  rw [lg_entry_eq]
  generalize (lg_sl (av.map (jv ad)) ++ List.replicate (nL - (lg_sl (av.map (jv ad))).length) Slot.unset).toArray = ls at hl2 ⊢
  have hown : s.vm.findClass y.cls = some m.cls := findClass_of_methodNamed B.named
  refine body ((p, l, e, (headSpec ws (jRm fr lo nc ns)).room, s), (m, (av.map (jv ad)).toArray, below, meth, c), (nL, D, cl, ty), (va_A (jr ty ad pw) s.heap.size, ad, pw.length, _)) ⟨⟨B.exec, B.bytes, hml, hown, atoms_spec (ws := ws) B.pre⟩, hK, fun q h => Or.inr h, rfl, rfl, rfl, rfl, rfl, rfl⟩ rfl ?_ ad s.heap [] ls (fun _ _ _ => rfl) hP hD va_S.rf (jent_L hl2)
  intro pc lv r pw2 k n hd hpost hlen h1 h2 ad2 H locs ls2 g1 g2 g3 g4 g5
  refine W.widen h1 h2 ?_
  exact W.zret B.exec B.bytes B.returns (hn r pw2 hpost) (fun t ht hW => ⟨⟨r, (pw2, ad2), rfl, hpost, g1, hlen, by rw [ht]; exact g2, va_K.moved hW.alike hK, g3⟩, g4.F ht⟩) g4.2.2 hd B.notSynchronized
set_option maxHeartbeats 1000000 in
theorem jG_of {cl : List vw_C} {y : MethodName} {ws ws' : List Cond} {fr lo nL nc ns : Nat} {av : List Value} {pw : jW} {post : Int64 → jW → Prop} {cc : ByteArray} (hy : plainName y.cls = true) (hw : ws = .code y cc nL (some .long) :: ws') (hl : (lg_sl av).length ≤ nL)
    (body : ∀ X : jK, jX X cc nL y.cls ws cl fr lo nc ns → jn0 X = pw.length → jRg X cc post nc ns → J X 0 (jent av) [] pw 0 0) : jG cl y ws fr lo av pw nc ns post := by
  intro l D ty ad sz
  refine Met.ofW (cc := cc) (maxL := nL) (ret := some .long) hy hw ?_
  intro p e s m args below meth c s₁ B hml hv
  obtain ⟨rfl, hsz, hP, hK, hD0⟩ := hv
  subst hsz
  have hD := hD0.self (sz := s.heap.size)
  have hl2 := lv_entry (av.map (jv ad)) (n := nL) (by rw [jlen]; exact hl)
  rw [lg_entry_eq]
  generalize (lg_sl (av.map (jv ad)) ++ List.replicate (nL - (lg_sl (av.map (jv ad))).length) Slot.unset).toArray = ls at hl2 ⊢
  have hown : s.vm.findClass y.cls = some m.cls := findClass_of_methodNamed B.named
  refine body ((p, l, e, (headSpec ws (jRm fr lo nc ns)).room, s), (m, (av.map (jv ad)).toArray, below, meth, c), (nL, D, cl, ty), (va_A (jr ty ad pw) s.heap.size, ad, pw.length, _)) ⟨⟨B.exec, B.bytes, hml, hown, atoms_spec (ws := ws) B.pre⟩, hK, fun q h => Or.inr h, rfl, rfl, rfl, rfl, rfl, rfl⟩ rfl ?_ ad s.heap [] ls (fun _ _ _ => rfl) hP hD va_S.rf (jent_L hl2)
  intro pc lv r pw2 k n hd hpost hlen h1 h2 ad2 H locs ls2 g1 g2 g3 g4 g5
  refine W.widen h1 h2 ?_
  exact W.lret B.exec B.bytes B.returns (fun t ht hW => ⟨⟨r, (pw2, ad2), rfl, hpost, g1, hlen, by rw [ht]; exact g2, va_K.moved hW.alike hK, g3⟩, g4.F ht⟩) g4.2.2 hd B.notSynchronized
set_option maxHeartbeats 1000000 in
theorem jN_of {cl : List vw_C} {y : MethodName} {ws ws' : List Cond} {fr lo nL nc ns : Nat} {av : List Value} {pw : jW} {post : jW → Prop} {cc : ByteArray} (hy : plainName y.cls = true) (hw : ws = .code y cc nL none :: ws') (hl : (lg_sl av).length ≤ nL)
    (body : ∀ X : jK, jX X cc nL y.cls ws cl fr lo nc ns → jn0 X = pw.length → jRn X cc post nc ns → J X 0 (jent av) [] pw 0 0) : jN cl y ws fr lo av pw nc ns post := by
  intro l D ty ad sz
  refine Met.ofW (cc := cc) (maxL := nL) (ret := none) hy hw ?_
  intro p e s m args below meth c s₁ B hml hv
  obtain ⟨rfl, hsz, hP, hK, hD0⟩ := hv
  subst hsz
  have hD := hD0.self (sz := s.heap.size)
  have hl2 := lv_entry (av.map (jv ad)) (n := nL) (by rw [jlen]; exact hl)
  rw [lg_entry_eq]
  generalize (lg_sl (av.map (jv ad)) ++ List.replicate (nL - (lg_sl (av.map (jv ad))).length) Slot.unset).toArray = ls at hl2 ⊢
  have hown : s.vm.findClass y.cls = some m.cls := findClass_of_methodNamed B.named
  refine body ((p, l, e, (headSpec ws (jRm fr lo nc ns)).room, s), (m, (av.map (jv ad)).toArray, below, meth, c), (nL, D, cl, ty), (va_A (jr ty ad pw) s.heap.size, ad, pw.length, _)) ⟨⟨B.exec, B.bytes, hml, hown, atoms_spec (ws := ws) B.pre⟩, hK, fun q h => Or.inr h, rfl, rfl, rfl, rfl, rfl, rfl⟩ rfl ?_ ad s.heap [] ls (fun _ _ _ => rfl) hP hD va_S.rf (jent_L hl2)
  intro pc lv pw2 k n hd hpost hlen h1 h2 ad2 H locs ls2 g1 g2 g3 g4 g5
  refine W.widen h1 h2 ?_
  exact W.vret B.exec B.bytes B.returns (fun t ht hW => ⟨⟨(pw2, ad2), rfl, hpost, g1, hlen, by rw [ht]; exact g2, va_K.moved hW.alike hK, g3⟩, g4.F ht⟩) g4.2.2 hd B.notSynchronized
end
section
/-- a value that a call leaves as it is: no reference to the row that may be laid anew, none beyond the first n cells -/
def jgood (n : Nat) (v : Value) : Bool := match v with
  | .ref i => !(i == 2) && decide (i < n)
  | _ => true
def jdrop (n : Nat) (lv : Nat → Option Value) : Nat → Option Value := fun j => match lv j with
  | some v => if jgood n v = true then some v else none
  | none => none
theorem jgood_eq {n : Nat} {v : Value} {ad ad' : Nat → Nat} (h : jgood n v = true) (ha : ∀ i, i < n → i ≠ 2 → ad' i = ad i) : jv ad' v = jv ad v := by
  cases v with
  | ref i =>
    have h1 : ¬ i = 2 ∧ i < n := by simpa [jgood] using h
    show Value.ref (ad' i) = Value.ref (ad i)
    rw [ha i h1.2 h1.1]
  | _ => rfl
theorem jgood_map {n : Nat} {st : List Value} {ad ad' : Nat → Nat} (h : st.all (jgood n) = true) (ha : ∀ i, i < n → i ≠ 2 → ad' i = ad i) : st.map (jv ad) = st.map (jv ad') := by
  refine List.map_congr_left (fun v hv => ?_)
  exact (jgood_eq (List.all_eq_true.mp h v hv) ha).symm
theorem jdrop_L {ls : Array Slot} {nL n : Nat} {lv : Nat → Option Value} {ad ad' : Nat → Nat} (h : jL ls nL ad lv) (ha : ∀ i, i < n → i ≠ 2 → ad' i = ad i) : jL ls nL ad' (jdrop n lv) := by
  refine ⟨h.1, h.2.1, fun i v hv => ?_⟩
  unfold jdrop at hv
  cases hl : lv i with
  | none => rw [hl] at hv; cases hv
  | some w =>
    rw [hl] at hv
    dsimp only at hv
    by_cases hg : jgood n w = true
    · rw [if_pos hg] at hv
      cases hv
      rw [jgood_eq hg ha]
      exact h.2.2 i _ hl
    · rw [if_neg hg] at hv; cases hv
theorem jA_in {A : Nat → Prop} {ws : va_W} {H0 H : Heap} {locs : List Loc} (hD : va_D A ws) (hS : va_S A H0 H locs) (hA : ∀ q, H0.size ≤ q → A q) : ∀ q, va_A ws H.size q → A q := by
  intro q h
  rcases h with ⟨k, e, h⟩ | h
  · exact hD.2 k (q, e) h
  · exact hA q (Nat.le_trans hS.1 h)
theorem jPre_blind {D : va_G} {cl : List vw_C} {ty : FieldType → ClassId} {ad : Nat → Nat} {sz : Nat} {av : List Value} {pw : jW} : FrameBlind (jPre D cl ty ad sz av pw) := by
  intro a U g mk q
  obtain ⟨q0, q1, qP, qK, qD⟩ := q
  exact ⟨q0, q1, qP, va_K.moved (u := U) (U := U.calling g mk a) (Vm.Alike.refl U.vm) qK, qD⟩
theorem jcats (ad : Nat → Nat) (st : List Value) : ((st.map (jv ad)).map fun v => v.category).sum = (st.map fun v => v.category).sum := by
  rw [List.map_map]
  congr 1
  exact List.map_congr_left (fun v _ => jv_cat ad v)
set_option maxHeartbeats 1000000 in
theorem J_callVi {X : jK} {cc : ByteArray} {nL : Nat} {own : String} {Ts : List Cond} {cl : List vw_C} {fr lo NC NS : Nat} (C : jX X cc nL own Ts cl fr lo NC NS) {pc : Nat} {lv : Nat → Option Value} {st st0 : List Value} {pw : jW} {nc ns : Nat} {index maxL fr' lo' nc' ns' : Nat} {y : MethodName} {ws ws' : List Cond} {bytes : ByteArray} (As : List Value) {ret : FieldType} {post : Int32 → jW → Prop} {b : Nat} {ci N : Nat} {K : String} {T : u_T} {fs : List Value} (hrecv : pw[b]? = some (.inr (ci, fs))) (hcl : cl[ci]? = some (K, T, N)) (n1 : Nat) (hM : jI cl y ws fr' lo' (.ref b :: As) pw nc' ns' post) (hG : GoodIn Ts (wsV own index K y ws)) (hw : ws = .code y bytes maxL (some ret) :: ws') (hd : y.cls = K ∧ y.cls ≠ "java/lang/invoke/MethodHandle" ∧ y.cls ≠ "java/lang/invoke/VarHandle" ∧ (parseMethodDescriptor y.desc).map (fun d => d.parameters.length) = some As.length) (hR : fr' + 1 ≤ fr ∧ 8 + (maxL + 11) + lo' ≤ lo) (hdg : decode cc pc = .ok (.invokevirtual index, 3)) (hst : st0 = As.reverse ++ .ref b :: st) (hcat : (st.map (fun v => v.category)).sum ≤ 8) (hgood : st.all (jgood n1) = true) (hn1 : n1 ≤ pw.length) (hn0 : jn0 X ≤ pw.length) (hc : nc + nc' ≤ NC) (hs : ns + ns' ≤ NS) (kk : ∀ (r : Int32) (pw' : jW), post r pw' → pw.length ≤ pw'.length → J X (pc + 3) (jdrop n1 lv) (.int r :: st) pw' (nc + nc') (ns + ns')) : J X pc lv st0 pw nc ns := by
  obtain ⟨⟨p, l, e, R, s⟩, ⟨m, args, below, meth, c⟩, ⟨nL', D, cl', ty⟩, ⟨A, ad0, n0, Q⟩⟩ := X
  obtain ⟨⟨hx, hb, hml, hown, hts⟩, hK, hA, hfr, hlo, hNC, hNS, rfl, rfl⟩ := C
  intro ad H locs ls g1 g2 g3 g4 g5
  subst hst
  have hFc := jA_in g3 g4 hA
  refine va_calli (va_runV (b := ad b) (As := As.map (jv ad)) (rest := st.map (jv ad)) ⟨hx, hb, hml, hown, hts⟩ (hM l D ty ad H.size) (cwV As.length hts hG hw rfl rfl hd ⟨by rw [hfr]; exact hR.1, by rw [hlo]; exact hR.2⟩) ⟨jPre_blind, va_recv hK g2 hcl (jr_at hrecv), fun U hU hW => ⟨by simp [jv], by rw [hU], by rw [hU]; exact g2, va_K.moved hW.alike hK, g3.weaken (fun _ _ _ _ => trivial)⟩⟩ rfl (by simp) g5.1 (by simp [jv]) (lv_room (by rw [jcats]; exact hcat)) hdg ⟨by rw [hNC]; exact hc, by rw [hNS]; exact hs⟩) g4 (fun q _ h => hFc q h) hFc (fun r u t H1 locs1 ht hvm hpost hB hz hk hS => ?_)
  obtain ⟨a1, a2, a3, a4, a5⟩ := hB
  have hag : ∀ i, i < n1 → i ≠ 2 → u.2 i = ad i := fun i h1 h2 => a1 i (Nat.lt_of_lt_of_le h1 hn1) h2
  rw [jgood_map hgood hag]
  rw [ht] at a3
  exact kk r u.1 hpost a2 u.2 H1 locs1 ls (fun i h1 h2 => (a1 i (Nat.lt_of_lt_of_le h1 hn0) h2).trans (g1 i h1 h2)) a3 (a5.weaken (fun _ q _ h => hFc q.1 h)) hS (jdrop_L g5 hag)
set_option maxHeartbeats 1000000 in
theorem J_callVg {X : jK} {cc : ByteArray} {nL : Nat} {own : String} {Ts : List Cond} {cl : List vw_C} {fr lo NC NS : Nat} (C : jX X cc nL own Ts cl fr lo NC NS) {pc : Nat} {lv : Nat → Option Value} {st st0 : List Value} {pw : jW} {nc ns : Nat} {index maxL fr' lo' nc' ns' : Nat} {y : MethodName} {ws ws' : List Cond} {bytes : ByteArray} (As : List Value) {post : Int64 → jW → Prop} {b : Nat} {ci N : Nat} {K : String} {T : u_T} {fs : List Value} (hrecv : pw[b]? = some (.inr (ci, fs))) (hcl : cl[ci]? = some (K, T, N)) (n1 : Nat) (hM : jG cl y ws fr' lo' (.ref b :: As) pw nc' ns' post) (hG : GoodIn Ts (wsV own index K y ws)) (hw : ws = .code y bytes maxL (some .long) :: ws') (hd : y.cls = K ∧ y.cls ≠ "java/lang/invoke/MethodHandle" ∧ y.cls ≠ "java/lang/invoke/VarHandle" ∧ (parseMethodDescriptor y.desc).map (fun d => d.parameters.length) = some As.length) (hR : fr' + 1 ≤ fr ∧ 8 + (maxL + 11) + lo' ≤ lo) (hdg : decode cc pc = .ok (.invokevirtual index, 3)) (hst : st0 = As.reverse ++ .ref b :: st) (hcat : (st.map (fun v => v.category)).sum ≤ 8) (hgood : st.all (jgood n1) = true) (hn1 : n1 ≤ pw.length) (hn0 : jn0 X ≤ pw.length) (hc : nc + nc' ≤ NC) (hs : ns + ns' ≤ NS) (kk : ∀ (r : Int64) (pw' : jW), post r pw' → pw.length ≤ pw'.length → J X (pc + 3) (jdrop n1 lv) (.long r :: st) pw' (nc + nc') (ns + ns')) : J X pc lv st0 pw nc ns := by
  obtain ⟨⟨p, l, e, R, s⟩, ⟨m, args, below, meth, c⟩, ⟨nL', D, cl', ty⟩, ⟨A, ad0, n0, Q⟩⟩ := X
  obtain ⟨⟨hx, hb, hml, hown, hts⟩, hK, hA, hfr, hlo, hNC, hNS, rfl, rfl⟩ := C
  intro ad H locs ls g1 g2 g3 g4 g5
  subst hst
  have hFc := jA_in g3 g4 hA
  refine va_calll (va_runV (b := ad b) (As := As.map (jv ad)) (rest := st.map (jv ad)) ⟨hx, hb, hml, hown, hts⟩ (hM l D ty ad H.size) (cwV As.length hts hG hw rfl rfl hd ⟨by rw [hfr]; exact hR.1, by rw [hlo]; exact hR.2⟩) ⟨jPre_blind, va_recv hK g2 hcl (jr_at hrecv), fun U hU hW => ⟨by simp [jv], by rw [hU], by rw [hU]; exact g2, va_K.moved hW.alike hK, g3.weaken (fun _ _ _ _ => trivial)⟩⟩ rfl (by simp) g5.1 (by simp [jv]) (lv_room (by rw [jcats]; exact hcat)) hdg ⟨by rw [hNC]; exact hc, by rw [hNS]; exact hs⟩) g4 (fun q _ h => hFc q h) hFc (fun r u t H1 locs1 ht hvm hpost hB hz hk hS => ?_)
  obtain ⟨a1, a2, a3, a4, a5⟩ := hB
  have hag : ∀ i, i < n1 → i ≠ 2 → u.2 i = ad i := fun i h1 h2 => a1 i (Nat.lt_of_lt_of_le h1 hn1) h2
  rw [jgood_map hgood hag]
  rw [ht] at a3
  exact kk r u.1 hpost a2 u.2 H1 locs1 ls (fun i h1 h2 => (a1 i (Nat.lt_of_lt_of_le h1 hn0) h2).trans (g1 i h1 h2)) a3 (a5.weaken (fun _ q _ h => hFc q.1 h)) hS (jdrop_L g5 hag)
set_option maxHeartbeats 1000000 in
theorem J_callVn {X : jK} {cc : ByteArray} {nL : Nat} {own : String} {Ts : List Cond} {cl : List vw_C} {fr lo NC NS : Nat} (C : jX X cc nL own Ts cl fr lo NC NS) {pc : Nat} {lv : Nat → Option Value} {st st0 : List Value} {pw : jW} {nc ns : Nat} {index maxL fr' lo' nc' ns' : Nat} {y : MethodName} {ws ws' : List Cond} {bytes : ByteArray} (As : List Value) {post : jW → Prop} {b : Nat} {ci N : Nat} {K : String} {T : u_T} {fs : List Value} (hrecv : pw[b]? = some (.inr (ci, fs))) (hcl : cl[ci]? = some (K, T, N)) (n1 : Nat) (hM : jN cl y ws fr' lo' (.ref b :: As) pw nc' ns' post) (hG : GoodIn Ts (wsV own index K y ws)) (hw : ws = .code y bytes maxL none :: ws') (hd : y.cls = K ∧ y.cls ≠ "java/lang/invoke/MethodHandle" ∧ y.cls ≠ "java/lang/invoke/VarHandle" ∧ (parseMethodDescriptor y.desc).map (fun d => d.parameters.length) = some As.length) (hR : fr' + 1 ≤ fr ∧ 8 + (maxL + 11) + lo' ≤ lo) (hdg : decode cc pc = .ok (.invokevirtual index, 3)) (hst : st0 = As.reverse ++ .ref b :: st) (hcat : (st.map (fun v => v.category)).sum ≤ 8) (hgood : st.all (jgood n1) = true) (hn1 : n1 ≤ pw.length) (hn0 : jn0 X ≤ pw.length) (hc : nc + nc' ≤ NC) (hs : ns + ns' ≤ NS) (kk : ∀ (pw' : jW), post pw' → pw.length ≤ pw'.length → J X (pc + 3) (jdrop n1 lv) st pw' (nc + nc') (ns + ns')) : J X pc lv st0 pw nc ns := by
  obtain ⟨⟨p, l, e, R, s⟩, ⟨m, args, below, meth, c⟩, ⟨nL', D, cl', ty⟩, ⟨A, ad0, n0, Q⟩⟩ := X
  obtain ⟨⟨hx, hb, hml, hown, hts⟩, hK, hA, hfr, hlo, hNC, hNS, rfl, rfl⟩ := C
  intro ad H locs ls g1 g2 g3 g4 g5
  subst hst
  have hFc := jA_in g3 g4 hA
  refine va_callv (va_runV (b := ad b) (As := As.map (jv ad)) (rest := st.map (jv ad)) ⟨hx, hb, hml, hown, hts⟩ (hM l D ty ad H.size) (cwV As.length hts hG hw rfl rfl hd ⟨by rw [hfr]; exact hR.1, by rw [hlo]; exact hR.2⟩) ⟨jPre_blind, va_recv hK g2 hcl (jr_at hrecv), fun U hU hW => ⟨by simp [jv], by rw [hU], by rw [hU]; exact g2, va_K.moved hW.alike hK, g3.weaken (fun _ _ _ _ => trivial)⟩⟩ rfl (by simp) g5.1 (by simp [jv]) (lv_room (by rw [jcats]; exact hcat)) hdg ⟨by rw [hNC]; exact hc, by rw [hNS]; exact hs⟩) g4 (fun q _ h => hFc q h) hFc (fun u t H1 locs1 ht hvm hpost hB hz hk hS => ?_)
  obtain ⟨a1, a2, a3, a4, a5⟩ := hB
  have hag : ∀ i, i < n1 → i ≠ 2 → u.2 i = ad i := fun i h1 h2 => a1 i (Nat.lt_of_lt_of_le h1 hn1) h2
  rw [jgood_map hgood hag]
  rw [ht] at a3
  exact kk u.1 hpost a2 u.2 H1 locs1 ls (fun i h1 h2 => (a1 i (Nat.lt_of_lt_of_le h1 hn0) h2).trans (g1 i h1 h2)) a3 (a5.weaken (fun _ q _ h => hFc q.1 h)) hS (jdrop_L g5 hag)
set_option maxHeartbeats 1000000 in
theorem J_callSi {X : jK} {cc : ByteArray} {nL : Nat} {own : String} {Ts : List Cond} {cl : List vw_C} {fr lo NC NS : Nat} (C : jX X cc nL own Ts cl fr lo NC NS) {pc : Nat} {lv : Nat → Option Value} {st st0 : List Value} {pw : jW} {nc ns : Nat} {index maxL fr' lo' nc' ns' : Nat} {y : MethodName} {ws ws' : List Cond} {bytes : ByteArray} (As : List Value) {ret : FieldType} {post : Int32 → jW → Prop} (n1 : Nat) (hM : jI cl y ws fr' lo' As pw nc' ns' post) (hG : GoodIn Ts (wsS own index y ws)) (hw : ws = .code y bytes maxL (some ret) :: ws') (hd : y.cls = own ∧ y.cls ≠ "java/lang/invoke/MethodHandle" ∧ y.cls ≠ "java/lang/invoke/VarHandle" ∧ (parseMethodDescriptor y.desc).map (fun d => d.parameters.length) = some As.length) (hR : fr' + 1 ≤ fr ∧ 8 + (maxL + 11) + lo' ≤ lo) (hdg : decode cc pc = .ok (.invokestatic index, 3)) (hst : st0 = As.reverse ++ st) (hcat : (st.map (fun v => v.category)).sum ≤ 8) (hgood : st.all (jgood n1) = true) (hn1 : n1 ≤ pw.length) (hn0 : jn0 X ≤ pw.length) (hc : nc + nc' ≤ NC) (hs : ns + ns' ≤ NS) (kk : ∀ (r : Int32) (pw' : jW), post r pw' → pw.length ≤ pw'.length → J X (pc + 3) (jdrop n1 lv) (.int r :: st) pw' (nc + nc') (ns + ns')) : J X pc lv st0 pw nc ns := by
  obtain ⟨⟨p, l, e, R, s⟩, ⟨m, args, below, meth, c⟩, ⟨nL', D, cl', ty⟩, ⟨A, ad0, n0, Q⟩⟩ := X
  obtain ⟨⟨hx, hb, hml, hown, hts⟩, hK, hA, hfr, hlo, hNC, hNS, rfl, rfl⟩ := C
  intro ad H locs ls g1 g2 g3 g4 g5
  subst hst
  have hFc := jA_in g3 g4 hA
  refine va_calli (va_runS (As := As.map (jv ad)) (rest := st.map (jv ad)) ⟨hx, hb, hml, hown, hts⟩ (hM l D ty ad H.size) (cwS As.length hts hG hw rfl rfl hd ⟨by rw [hfr]; exact hR.1, by rw [hlo]; exact hR.2⟩) ⟨jPre_blind, fun U hU hW => ⟨by simp [jv], by rw [hU], by rw [hU]; exact g2, va_K.moved hW.alike hK, g3.weaken (fun _ _ _ _ => trivial)⟩⟩ rfl (by simp) g5.1 (by simp [jv]) (lv_room (by rw [jcats]; exact hcat)) hdg ⟨by rw [hNC]; exact hc, by rw [hNS]; exact hs⟩) g4 (fun q _ h => hFc q h) hFc (fun r u t H1 locs1 ht hvm hpost hB hz hk hS => ?_)
  obtain ⟨a1, a2, a3, a4, a5⟩ := hB
  have hag : ∀ i, i < n1 → i ≠ 2 → u.2 i = ad i := fun i h1 h2 => a1 i (Nat.lt_of_lt_of_le h1 hn1) h2
  rw [jgood_map hgood hag]
  rw [ht] at a3
  exact kk r u.1 hpost a2 u.2 H1 locs1 ls (fun i h1 h2 => (a1 i (Nat.lt_of_lt_of_le h1 hn0) h2).trans (g1 i h1 h2)) a3 (a5.weaken (fun _ q _ h => hFc q.1 h)) hS (jdrop_L g5 hag)
set_option maxHeartbeats 1000000 in
theorem J_callSg {X : jK} {cc : ByteArray} {nL : Nat} {own : String} {Ts : List Cond} {cl : List vw_C} {fr lo NC NS : Nat} (C : jX X cc nL own Ts cl fr lo NC NS) {pc : Nat} {lv : Nat → Option Value} {st st0 : List Value} {pw : jW} {nc ns : Nat} {index maxL fr' lo' nc' ns' : Nat} {y : MethodName} {ws ws' : List Cond} {bytes : ByteArray} (As : List Value) {post : Int64 → jW → Prop} (n1 : Nat) (hM : jG cl y ws fr' lo' As pw nc' ns' post) (hG : GoodIn Ts (wsS own index y ws)) (hw : ws = .code y bytes maxL (some .long) :: ws') (hd : y.cls = own ∧ y.cls ≠ "java/lang/invoke/MethodHandle" ∧ y.cls ≠ "java/lang/invoke/VarHandle" ∧ (parseMethodDescriptor y.desc).map (fun d => d.parameters.length) = some As.length) (hR : fr' + 1 ≤ fr ∧ 8 + (maxL + 11) + lo' ≤ lo) (hdg : decode cc pc = .ok (.invokestatic index, 3)) (hst : st0 = As.reverse ++ st) (hcat : (st.map (fun v => v.category)).sum ≤ 8) (hgood : st.all (jgood n1) = true) (hn1 : n1 ≤ pw.length) (hn0 : jn0 X ≤ pw.length) (hc : nc + nc' ≤ NC) (hs : ns + ns' ≤ NS) (kk : ∀ (r : Int64) (pw' : jW), post r pw' → pw.length ≤ pw'.length → J X (pc + 3) (jdrop n1 lv) (.long r :: st) pw' (nc + nc') (ns + ns')) : J X pc lv st0 pw nc ns := by
  obtain ⟨⟨p, l, e, R, s⟩, ⟨m, args, below, meth, c⟩, ⟨nL', D, cl', ty⟩, ⟨A, ad0, n0, Q⟩⟩ := X
  obtain ⟨⟨hx, hb, hml, hown, hts⟩, hK, hA, hfr, hlo, hNC, hNS, rfl, rfl⟩ := C
  intro ad H locs ls g1 g2 g3 g4 g5
  subst hst
  have hFc := jA_in g3 g4 hA
  refine va_calll (va_runS (As := As.map (jv ad)) (rest := st.map (jv ad)) ⟨hx, hb, hml, hown, hts⟩ (hM l D ty ad H.size) (cwS As.length hts hG hw rfl rfl hd ⟨by rw [hfr]; exact hR.1, by rw [hlo]; exact hR.2⟩) ⟨jPre_blind, fun U hU hW => ⟨by simp [jv], by rw [hU], by rw [hU]; exact g2, va_K.moved hW.alike hK, g3.weaken (fun _ _ _ _ => trivial)⟩⟩ rfl (by simp) g5.1 (by simp [jv]) (lv_room (by rw [jcats]; exact hcat)) hdg ⟨by rw [hNC]; exact hc, by rw [hNS]; exact hs⟩) g4 (fun q _ h => hFc q h) hFc (fun r u t H1 locs1 ht hvm hpost hB hz hk hS => ?_)
  obtain ⟨a1, a2, a3, a4, a5⟩ := hB
  have hag : ∀ i, i < n1 → i ≠ 2 → u.2 i = ad i := fun i h1 h2 => a1 i (Nat.lt_of_lt_of_le h1 hn1) h2
  rw [jgood_map hgood hag]
  rw [ht] at a3
  exact kk r u.1 hpost a2 u.2 H1 locs1 ls (fun i h1 h2 => (a1 i (Nat.lt_of_lt_of_le h1 hn0) h2).trans (g1 i h1 h2)) a3 (a5.weaken (fun _ q _ h => hFc q.1 h)) hS (jdrop_L g5 hag)
set_option maxHeartbeats 1000000 in
theorem J_callSn {X : jK} {cc : ByteArray} {nL : Nat} {own : String} {Ts : List Cond} {cl : List vw_C} {fr lo NC NS : Nat} (C : jX X cc nL own Ts cl fr lo NC NS) {pc : Nat} {lv : Nat → Option Value} {st st0 : List Value} {pw : jW} {nc ns : Nat} {index maxL fr' lo' nc' ns' : Nat} {y : MethodName} {ws ws' : List Cond} {bytes : ByteArray} (As : List Value) {post : jW → Prop} (n1 : Nat) (hM : jN cl y ws fr' lo' As pw nc' ns' post) (hG : GoodIn Ts (wsS own index y ws)) (hw : ws = .code y bytes maxL none :: ws') (hd : y.cls = own ∧ y.cls ≠ "java/lang/invoke/MethodHandle" ∧ y.cls ≠ "java/lang/invoke/VarHandle" ∧ (parseMethodDescriptor y.desc).map (fun d => d.parameters.length) = some As.length) (hR : fr' + 1 ≤ fr ∧ 8 + (maxL + 11) + lo' ≤ lo) (hdg : decode cc pc = .ok (.invokestatic index, 3)) (hst : st0 = As.reverse ++ st) (hcat : (st.map (fun v => v.category)).sum ≤ 8) (hgood : st.all (jgood n1) = true) (hn1 : n1 ≤ pw.length) (hn0 : jn0 X ≤ pw.length) (hc : nc + nc' ≤ NC) (hs : ns + ns' ≤ NS) (kk : ∀ (pw' : jW), post pw' → pw.length ≤ pw'.length → J X (pc + 3) (jdrop n1 lv) st pw' (nc + nc') (ns + ns')) : J X pc lv st0 pw nc ns := by
  obtain ⟨⟨p, l, e, R, s⟩, ⟨m, args, below, meth, c⟩, ⟨nL', D, cl', ty⟩, ⟨A, ad0, n0, Q⟩⟩ := X
  obtain ⟨⟨hx, hb, hml, hown, hts⟩, hK, hA, hfr, hlo, hNC, hNS, rfl, rfl⟩ := C
  intro ad H locs ls g1 g2 g3 g4 g5
  subst hst
  have hFc := jA_in g3 g4 hA
  refine va_callv (va_runS (As := As.map (jv ad)) (rest := st.map (jv ad)) ⟨hx, hb, hml, hown, hts⟩ (hM l D ty ad H.size) (cwS As.length hts hG hw rfl rfl hd ⟨by rw [hfr]; exact hR.1, by rw [hlo]; exact hR.2⟩) ⟨jPre_blind, fun U hU hW => ⟨by simp [jv], by rw [hU], by rw [hU]; exact g2, va_K.moved hW.alike hK, g3.weaken (fun _ _ _ _ => trivial)⟩⟩ rfl (by simp) g5.1 (by simp [jv]) (lv_room (by rw [jcats]; exact hcat)) hdg ⟨by rw [hNC]; exact hc, by rw [hNS]; exact hs⟩) g4 (fun q _ h => hFc q h) hFc (fun u t H1 locs1 ht hvm hpost hB hz hk hS => ?_)
  obtain ⟨a1, a2, a3, a4, a5⟩ := hB
  have hag : ∀ i, i < n1 → i ≠ 2 → u.2 i = ad i := fun i h1 h2 => a1 i (Nat.lt_of_lt_of_le h1 hn1) h2
  rw [jgood_map hgood hag]
  rw [ht] at a3
  exact kk u.1 hpost a2 u.2 H1 locs1 ls (fun i h1 h2 => (a1 i (Nat.lt_of_lt_of_le h1 hn0) h2).trans (g1 i h1 h2)) a3 (a5.weaken (fun _ q _ h => hFc q.1 h)) hS (jdrop_L g5 hag)
set_option maxHeartbeats 1000000 in
theorem J_callIn {X : jK} {cc : ByteArray} {nL : Nat} {own : String} {Ts : List Cond} {cl : List vw_C} {fr lo NC NS : Nat} (C : jX X cc nL own Ts cl fr lo NC NS) {pc : Nat} {lv : Nat → Option Value} {st st0 : List Value} {pw : jW} {nc ns : Nat} {index maxL fr' lo' nc' ns' : Nat} {y : MethodName} {ws ws' : List Cond} {bytes : ByteArray} (As : List Value) {post : jW → Prop} {b : Nat} (n1 : Nat) (hM : jN cl y ws fr' lo' (.ref b :: As) pw nc' ns' post) (hG : GoodIn Ts ws) (hini : Cond.initialized y.cls ∈ Ts) (hlk : Cond.methodLink own index y ∈ Ts) (him : Cond.instanceMethod y ∈ Ts) (hy1 : y.name = "<init>") (hw : ws = .code y bytes maxL none :: ws') (hd : y.cls ≠ "java/lang/invoke/MethodHandle" ∧ y.cls ≠ "java/lang/invoke/VarHandle" ∧ (parseMethodDescriptor y.desc).map (fun d => d.parameters.length) = some As.length) (hR : fr' + 1 ≤ fr ∧ 8 + (maxL + 11) + lo' ≤ lo) (hdg : decode cc pc = .ok (.invokespecial index, 3)) (hst : st0 = As.reverse ++ .ref b :: st) (hcat : (st.map (fun v => v.category)).sum ≤ 8) (hgood : st.all (jgood n1) = true) (hn1 : n1 ≤ pw.length) (hn0 : jn0 X ≤ pw.length) (hc : nc + nc' ≤ NC) (hs : ns + ns' ≤ NS) (kk : ∀ (pw' : jW), post pw' → pw.length ≤ pw'.length → J X (pc + 3) (jdrop n1 lv) st pw' (nc + nc') (ns + ns')) : J X pc lv st0 pw nc ns := by
  obtain ⟨⟨p, l, e, R, s⟩, ⟨m, args, below, meth, c⟩, ⟨nL', D, cl', ty⟩, ⟨A, ad0, n0, Q⟩⟩ := X
  obtain ⟨⟨hx, hb, hml, hown, hts⟩, hK, hA, hfr, hlo, hNC, hNS, rfl, rfl⟩ := C
  intro ad H locs ls g1 g2 g3 g4 g5
  subst hst
  have hFc := jA_in g3 g4 hA
  refine va_callv (va_runI (b := ad b) (As := As.map (jv ad)) (rest := st.map (jv ad)) ⟨hx, hb, hml, hown, hts⟩ (hM l D ty ad H.size) (cwI As.length hts hG hw rfl rfl (hts _ hini) (hts _ hlk) (hts _ him) hy1 hd ⟨by rw [hfr]; exact hR.1, by rw [hlo]; exact hR.2⟩) ⟨jPre_blind, fun U hU hW => ⟨by simp [jv], by rw [hU], by rw [hU]; exact g2, va_K.moved hW.alike hK, g3.weaken (fun _ _ _ _ => trivial)⟩⟩ rfl (by simp) g5.1 (by simp [jv]) (lv_room (by rw [jcats]; exact hcat)) hdg ⟨by rw [hNC]; exact hc, by rw [hNS]; exact hs⟩) g4 (fun q _ h => hFc q h) hFc (fun u t H1 locs1 ht hvm hpost hB hz hk hS => ?_)
  obtain ⟨a1, a2, a3, a4, a5⟩ := hB
  have hag : ∀ i, i < n1 → i ≠ 2 → u.2 i = ad i := fun i h1 h2 => a1 i (Nat.lt_of_lt_of_le h1 hn1) h2
  rw [jgood_map hgood hag]
  rw [ht] at a3
  exact kk u.1 hpost a2 u.2 H1 locs1 ls (fun i h1 h2 => (a1 i (Nat.lt_of_lt_of_le h1 hn0) h2).trans (g1 i h1 h2)) a3 (a5.weaken (fun _ q _ h => hFc q.1 h)) hS (jdrop_L g5 hag)
theorem zz_false : (1 : Nat) = 2 := rfl
end

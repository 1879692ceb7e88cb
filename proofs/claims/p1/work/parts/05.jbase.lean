/-! THE PURE WORLD: cells without addresses; a reference is a place in the list of cells; 'ad' says where the cells lie.
-/
abbrev jE : Type := (FieldType × vp_A) ⊕ (Nat × List Value)
abbrev jW : Type := List jE
def jv (ad : Nat → Nat) (v : Value) : Value := match v with
  | .ref i => .ref (ad i)
  | w => w
def ja (ad : Nat → Nat) (a : vp_A) : vp_A := match a with
  | (n, .inr (.inr (.inr (.inr f)))) => (n, .inr (.inr (.inr (.inr (fun j => (f j).map ad)))))
  | x => x
def jc (ty : FieldType → ClassId) (ad : Nat → Nat) (c : jE) : va_E := match c with
  | .inl (t, a) => .inl (ty t, ja ad a)
  | .inr (k, fs) => .inr (k, fs.map (jv ad))
def jr (ty : FieldType → ClassId) (ad : Nat → Nat) (pw : jW) : va_W := pw.mapIdx (fun i c => (ad i, jc ty ad c))
theorem jr_get (ty : FieldType → ClassId) (ad : Nat → Nat) (pw : jW) (k : Nat) : (jr ty ad pw)[k]? = (pw[k]?).map (fun c => (ad k, jc ty ad c)) := by
  simp [jr]
theorem jr_at {ty : FieldType → ClassId} {ad : Nat → Nat} {pw : jW} {k : Nat} {c : jE} (h : pw[k]? = some c) : (jr ty ad pw)[k]? = some (ad k, jc ty ad c) := by
  rw [jr_get, h]; rfl
theorem jr_len (ty : FieldType → ClassId) (ad : Nat → Nat) (pw : jW) : (jr ty ad pw).length = pw.length := by
  simp [jr]
theorem jr_set (ty : FieldType → ClassId) (ad : Nat → Nat) (pw : jW) (k : Nat) (c : jE) : (jr ty ad pw).set k (ad k, jc ty ad c) = jr ty ad (pw.set k c) := by
  apply List.ext_getElem?
  intro i
  rw [jr_get, List.getElem?_set, List.getElem?_set, jr_get, jr_len]
  by_cases h : k = i
  · subst h
    by_cases h2 : k < pw.length <;> simp [h2]
  · simp [h]
theorem jv_cat (ad : Nat → Nat) (v : Value) : (jv ad v).category = v.category := by
  cases v <;> rfl
/-- the classes of the arrays that are met -/
def jtys (ty : FieldType → ClassId) : List (ClassId × FieldType) := [(ty .int, .int), (ty .long, .long), (ty .byte, .byte)]
/-- two maps of places that agree: on the first n cells, and on the statics' places (from 1000 on) -/
def jag (n : Nat) (ad ad' : Nat → Nat) : Prop := ∀ i, i < n ∨ 1000 ≤ i → ad' i = ad i
/-- the static row TENS, at the place 1000 -/
def jZ (ad : Nat → Nat) (A : Nat → Prop) (U : State) (H : Heap) : Prop := va_Z "RootTowers$Numbers" "TENS" "[I" (.ref (ad 1000)) A U H ∧ va_T .int (ad 1000) 10 (fun j => .int (nI (10 ^ j))) A U H
/-- what stays the same within one call of a method -/
abbrev jK : Type := (Program × Launch × Env × Room × State) × (MethodId × Array Value × List Frame × Method × Code) × (Nat × va_G × List vw_C × (FieldType → ClassId)) × ((Nat → Prop) × (Nat → Nat) × Nat × (State → Prop))
def jX (X : jK) (cc : ByteArray) (nL : Nat) (own : String) (Ts : List Cond) (cl : List vw_C) (fr lo NC NS : Nat) : Prop := match X with
  | ((p, _, _, R, s), (m, args, _, _, c), (nL', D, cl', ty), (A, ad0, _, _)) => CallFix p m c cc nL s args Ts own ∧ va_K D cl (jtys ty) s ∧ (∀ q, s.heap.size ≤ q → A q) ∧ jZ ad0 A s s.heap ∧ R.frames = fr ∧ R.locals = lo ∧ R.cells = NC ∧ R.slots = NS ∧ nL' = nL ∧ cl' = cl
/-- the locals, as far as they are known -/
def jL (ls : Array Slot) (nL : Nat) (ad : Nat → Nat) (lv : Nat → Option Value) : Prop := ls.size = nL ∧ lv_wf ls ∧ ∀ i v, lv i = some v → ls[i]? = some (.val (jv ad v))
/-- from this frame, in this world, the machine comes to the method's end -/
def J (X : jK) (pc : Nat) (lv : Nat → Option Value) (st : List Value) (pw : jW) (nc ns : Nat) : Prop := match X with
  | ((p, l, e, R, s), (m, args, below, meth, c), (nL, D, cl, ty), (A, ad0, n0, Q)) => ∀ (ad : Nat → Nat) (H : Heap) (locs : List Loc) (ls : Array Slot), jag n0 ad0 ad → va_P D cl (jr ty ad pw) H → va_D A (jr ty ad pw) → va_S A s.heap H locs → jL ls nL ad lv → W p l e R s m args below meth c H locs nc ns Q (F0 m pc ls (st.map (jv ad)))
def js1 (lv : Nat → Option Value) (i : Nat) (v : Value) : Nat → Option Value := fun j => if j = i then some v else match lv j with
  | some w => if j + 1 = i ∧ w.category = 2 then none else some w
  | none => none
def js2 (lv : Nat → Option Value) (i : Nat) (v : Value) : Nat → Option Value := fun j => if j = i then some v else if j = i + 1 then none else match lv j with
  | some w => if j + 1 = i ∧ w.category = 2 then none else some w
  | none => none
def jl (nL : Nat) (ad : Nat → Nat) (lv : Nat → Option Value) : List (Nat × Value) := (List.range nL).filterMap (fun j => (lv j).map (fun v => (j, jv ad v)))
theorem jl_mem {nL : Nat} {ad : Nat → Nat} {lv : Nat → Option Value} {j : Nat} {v : Value} (hj : j < nL) (h : lv j = some v) : (j, jv ad v) ∈ jl nL ad lv := by
  refine List.mem_filterMap.mpr ⟨j, List.mem_range.mpr hj, ?_⟩
  rw [h]; rfl
theorem jL.has {ls : Array Slot} {nL : Nat} {ad : Nat → Nat} {lv : Nat → Option Value} (h : jL ls nL ad lv) : lv_has ls nL (jl nL ad lv) := by
  refine ⟨h.1, h.2.1, fun q hq => ?_⟩
  obtain ⟨j, -, hj⟩ := List.mem_filterMap.mp hq
  cases hv : lv j with
  | none => rw [hv] at hj; cases hj
  | some v =>
    rw [hv] at hj
    cases hj
    exact h.2.2 j v hv
theorem jL.lt {ls : Array Slot} {nL : Nat} {ad : Nat → Nat} {lv : Nat → Option Value} (h : jL ls nL ad lv) {j : Nat} {v : Value} (hv : lv j = some v) : j < nL := by
  have h1 := (Array.getElem?_eq_some_iff.mp (h.2.2 j v hv)).1
  rw [h.1] at h1
  exact h1
theorem jL.st1 {ls ls' : Array Slot} {nL : Nat} {ad : Nat → Nat} {lv : Nat → Option Value} {i : Nat} {v : Value} (h : jL ls nL ad lv)
    (h' : lv_has ls' nL ((i, jv ad v) :: (jl nL ad lv).filter (fun q => !(q.1 == i) && !(q.1 + 1 == i && q.2.category == 2)))) : jL ls' nL ad (js1 lv i v) := by
  refine ⟨h'.1, h'.2.1, fun j w hw => ?_⟩
  unfold js1 at hw
  by_cases hj : j = i
  · rw [if_pos hj] at hw
    cases hw
    subst hj
    exact h'.2.2 _ List.mem_cons_self
  · rw [if_neg hj] at hw
    cases hl : lv j with
    | none => rw [hl] at hw; cases hw
    | some x =>
      rw [hl] at hw
      dsimp only at hw
      by_cases hc : j + 1 = i ∧ x.category = 2
      · rw [if_pos hc] at hw; cases hw
      · rw [if_neg hc] at hw
        cases hw
        refine h'.2.2 (j, jv ad w) (List.mem_cons_of_mem _ (List.mem_filter.mpr ⟨jl_mem (h.lt hl) hl, ?_⟩))
        simp only [jv_cat]
        simp only [Bool.and_eq_true, Bool.not_eq_true', beq_eq_false_iff_ne, Bool.and_eq_false_iff]
        refine ⟨hj, ?_⟩
        by_cases h1 : j + 1 = i
        · right
          exact fun h2 => hc ⟨h1, h2⟩
        · left
          exact h1
theorem jL.st2 {ls ls' : Array Slot} {nL : Nat} {ad : Nat → Nat} {lv : Nat → Option Value} {i : Nat} {v : Value} (h : jL ls nL ad lv)
    (h' : lv_has ls' nL ((i, jv ad v) :: (jl nL ad lv).filter (fun q => !(q.1 == i) && (!(q.1 == i + 1) && !(q.1 + 1 == i && q.2.category == 2))))) : jL ls' nL ad (js2 lv i v) := by
  refine ⟨h'.1, h'.2.1, fun j w hw => ?_⟩
  unfold js2 at hw
  by_cases hj : j = i
  · rw [if_pos hj] at hw
    cases hw
    subst hj
    exact h'.2.2 _ List.mem_cons_self
  · rw [if_neg hj] at hw
    by_cases hj2 : j = i + 1
    · rw [if_pos hj2] at hw; cases hw
    · rw [if_neg hj2] at hw
      cases hl : lv j with
      | none => rw [hl] at hw; cases hw
      | some x =>
        rw [hl] at hw
        dsimp only at hw
        by_cases hc : j + 1 = i ∧ x.category = 2
        · rw [if_pos hc] at hw; cases hw
        · rw [if_neg hc] at hw
          cases hw
          refine h'.2.2 (j, jv ad w) (List.mem_cons_of_mem _ (List.mem_filter.mpr ⟨jl_mem (h.lt hl) hl, ?_⟩))
          simp only [jv_cat]
          simp only [Bool.and_eq_true, Bool.not_eq_true', beq_eq_false_iff_ne, Bool.and_eq_false_iff]
          refine ⟨hj, hj2, ?_⟩
          by_cases h1 : j + 1 = i
          · right
            exact fun h2 => hc ⟨h1, h2⟩
          · left
            exact h1

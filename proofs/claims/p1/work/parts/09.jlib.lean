/-! library members in the pure world: arraycopy over int rows, Math.max, Math.min; static calls of another class -/
set_option maxHeartbeats 1000000 in
theorem J_copy {X : jK} {cc : ByteArray} {nL : Nat} {own : String} {Ts : List Cond} {cl : List vw_C} {fr lo NC NS : Nat} (C : jX X cc nL own Ts cl fr lo NC NS) {pc : Nat} {lv : Nat → Option Value} {st : List Value} {pw : jW} {nc ns : Nat} {index i0 i1 n0 n1 a b k : Nat} {f g : Nat → Int32} {x y z : Int32} (hd : decode cc pc = .ok (.invokestatic index, 3)) (hlk : Cond.methodLink own index arraycopyName ∈ Ts) (hnat : Cond.native arraycopyName ∈ Ts) (hst : Cond.static arraycopyName ∈ Ts) (hini : Cond.initialized "java/lang/System" ∈ Ts) (h0 : pw[i0]? = some (.inl (.int, n0, .inl f))) (h1 : pw[i1]? = some (.inl (.int, n1, .inl g))) (hx : x = nI a) (hy : y = nI b) (hz : z = nI k) (ha : a + k ≤ n0) (hb2 : b + k ≤ n1) (hn : n0 < 2 ^ 31 ∧ n1 < 2 ^ 31) (hF : 1 ≤ fr) (hW : (st.map fun v => v.category).sum + (nativeFrameWords "java/lang/System" "arraycopy" 5 + 11) ≤ lo) (kk : J X (pc + 3) lv st (pw.set i1 (.inl (.int, n1, .inl (va_cpy f g a b k)))) nc ns) : J X pc lv (.int z :: .int y :: .ref i1 :: .int x :: .ref i0 :: st) pw nc ns := by
  obtain ⟨⟨p, l, e, R, s⟩, ⟨m, args, below, meth, c⟩, ⟨nL', D, cl', ty⟩, ⟨A, ad0, n0', Q⟩⟩ := X
  obtain ⟨⟨hx', hb, hml, hown, hts⟩, hK, hA, hZ, hfr, hlo, hNC, hNS, rfl, rfl⟩ := C
  intro ad H locs ls g1 g2 g3 g4 g5
  subst hx; subst hy; subst hz
  have ca : (nI a).toNatClampNeg = a := nI_clamp (by omega)
  have cb : (nI b).toNatClampNeg = b := nI_clamp (by omega)
  have ck : (nI k).toNatClampNeg = k := nI_clamp (by omega)
  refine va_copyi hx' hb (by rw [hml]; exact g5.1.symm) hown (hts _ hlk) (hts _ hnat) (hts _ hst) (hts _ hini) hK g2 g3 g4 i0 i1 0 0 (jr_at h0) (jr_at h1) rfl rfl rfl (nI_pos (by omega)) (nI_pos (by omega)) (nI_pos (by omega)) (by rw [ca, ck]; exact ha) (by rw [cb, ck]; exact hb2) (fun _ _ => rfl) (by rw [hfr]; exact hF) (by rw [jcats, hlo]; exact hW) hd (fun H1 locs1 a1 a2 a3 => ?_)
  rw [ca, cb, ck] at a1 a2
  have e1 := jr_set ty ad pw i1 (.inl (.int, n1, .inl (va_cpy f g a b k)))
  exact kk ad H1 locs1 ls g1 (e1 ▸ a1) (e1 ▸ a2) a3 g5
set_option maxHeartbeats 1000000 in
theorem J_mmax {X : jK} {cc : ByteArray} {nL : Nat} {own : String} {Ts : List Cond} {cl : List vw_C} {fr lo NC NS : Nat} (C : jX X cc nL own Ts cl fr lo NC NS) {pc : Nat} {lv : Nat → Option Value} {st : List Value} {pw : jW} {nc ns index : Nat} {x y : Int32} (hd : decode cc pc = .ok (.invokestatic index, 3)) (hlk : Cond.methodLink own index Lib.Math.max.name ∈ Ts) (hst : Cond.static Lib.Math.max.name ∈ Ts) (hini : Cond.initialized "java/lang/Math" ∈ Ts) (hcd : Cond.code Lib.Math.max.name Lib.Math.max.code 2 (some .int) ∈ Ts) (hF : 1 ≤ fr) (hW : (st.map fun v => v.category).sum + 13 ≤ lo) (hc : nc ≤ NC) (hs : ns ≤ NS) (kk : J X (pc + 3) lv (.int (if x < y then y else x) :: st) pw nc ns) : J X pc lv (.int y :: .int x :: st) pw nc ns := by
  obtain ⟨⟨p, l, e, R, s⟩, ⟨m, args, below, meth, c⟩, ⟨nL', D, cl', ty⟩, ⟨A, ad0, n0', Q⟩⟩ := X
  obtain ⟨⟨hx', hb, hml, hown, hts⟩, hK, hA, hZ, hfr, hlo, hNC, hNS, rfl, rfl⟩ := C
  intro ad H locs ls g1 g2 g3 g4 g5
  exact va_mmax hx' hb (by rw [hml]; exact g5.1.symm) hown (hts _ hlk) (hts _ hst) (hts _ hini) (hts _ hcd) (by rw [hfr]; exact hF) (by rw [jcats, hlo]; exact hW) (by rw [hNC]; exact hc) (by rw [hNS]; exact hs) hd (kk ad H locs ls g1 g2 g3 g4 g5)
set_option maxHeartbeats 1000000 in
theorem J_mmin {X : jK} {cc : ByteArray} {nL : Nat} {own : String} {Ts : List Cond} {cl : List vw_C} {fr lo NC NS : Nat} (C : jX X cc nL own Ts cl fr lo NC NS) {pc : Nat} {lv : Nat → Option Value} {st : List Value} {pw : jW} {nc ns index : Nat} {x y : Int32} (hd : decode cc pc = .ok (.invokestatic index, 3)) (hlk : Cond.methodLink own index Lib.Math.min.name ∈ Ts) (hst : Cond.static Lib.Math.min.name ∈ Ts) (hini : Cond.initialized "java/lang/Math" ∈ Ts) (hcd : Cond.code Lib.Math.min.name Lib.Math.min.code 2 (some .int) ∈ Ts) (hF : 1 ≤ fr) (hW : (st.map fun v => v.category).sum + 13 ≤ lo) (hc : nc ≤ NC) (hs : ns ≤ NS) (kk : J X (pc + 3) lv (.int (if y < x then y else x) :: st) pw nc ns) : J X pc lv (.int y :: .int x :: st) pw nc ns := by
  obtain ⟨⟨p, l, e, R, s⟩, ⟨m, args, below, meth, c⟩, ⟨nL', D, cl', ty⟩, ⟨A, ad0, n0', Q⟩⟩ := X
  obtain ⟨⟨hx', hb, hml, hown, hts⟩, hK, hA, hZ, hfr, hlo, hNC, hNS, rfl, rfl⟩ := C
  intro ad H locs ls g1 g2 g3 g4 g5
  exact va_mmin hx' hb (by rw [hml]; exact g5.1.symm) hown (hts _ hlk) (hts _ hst) (hts _ hini) (hts _ hcd) (by rw [hfr]; exact hF) (by rw [jcats, hlo]; exact hW) (by rw [hNC]; exact hc) (by rw [hNS]; exact hs) hd (kk ad H locs ls g1 g2 g3 g4 g5)
theorem J_tens {X : jK} {cc : ByteArray} {nL : Nat} {own : String} {Ts : List Cond} {cl : List vw_C} {fr lo NC NS : Nat} (C : jX X cc nL own Ts cl fr lo NC NS) {pc : Nat} {lv : Nat → Option Value} {st : List Value} {pw : jW} {nc ns : Nat} {index : Nat} (hd : decode cc pc = .ok (.getstatic index, 3)) (hlk : Cond.fieldLink own index "RootTowers$Numbers" "TENS" "[I" ∈ Ts) (kk : J X (pc + 3) lv (.ref 1000 :: st) pw nc ns) : J X pc lv st pw nc ns := by
  obtain ⟨⟨p, l, e, R, s⟩, ⟨m, args, below, meth, c⟩, ⟨nL', D, cl', ty⟩, ⟨A, ad0, n0', Q⟩⟩ := X
  obtain ⟨⟨hx', hb, hml, hown, hts⟩, hK, hA, hZ, hfr, hlo, hNC, hNS, rfl, rfl⟩ := C
  intro ad H locs ls g1 g2 g3 g4 g5
  have e0 : ad 1000 = ad0 1000 := g1 1000 (Or.inr (Nat.le_refl _))
  have k2 : W _ _ _ _ _ _ _ _ _ _ _ _ _ _ _ (F0 m (pc + 3) ls (.ref (ad 1000) :: st.map (jv ad))) := kk ad H locs ls g1 g2 g3 g4 g5
  rw [e0] at k2
  exact va_gets hx' hb hZ.1 g4 hown (hts _ hlk) (fun _ h9 => h9) hd k2
theorem J_tald {X : jK} {cc : ByteArray} {nL : Nat} {own : String} {Ts : List Cond} {cl : List vw_C} {fr lo NC NS : Nat} (C : jX X cc nL own Ts cl fr lo NC NS) {pc : Nat} {lv : Nat → Option Value} {st : List Value} {pw : jW} {nc ns : Nat} {x : Int32} {k : Nat} (hd : decode cc pc = .ok (.iaload, 1)) (hx : x = nI k) (hk : k < 10) (kk : J X (pc + 1) lv (.int (nI (10 ^ k)) :: st) pw nc ns) : J X pc lv (.int x :: .ref 1000 :: st) pw nc ns := by
  obtain ⟨⟨p, l, e, R, s⟩, ⟨m, args, below, meth, c⟩, ⟨nL', D, cl', ty⟩, ⟨A, ad0, n0', Q⟩⟩ := X
  obtain ⟨⟨hx', hb, hml, hown, hts⟩, hK, hA, hZ, hfr, hlo, hNC, hNS, rfl, rfl⟩ := C
  intro ad H locs ls g1 g2 g3 g4 g5
  have e0 : ad 1000 = ad0 1000 := g1 1000 (Or.inr (Nat.le_refl _))
  subst hx
  show W _ _ _ _ _ _ _ _ _ _ _ _ _ _ _ (F0 m pc ls (.int (nI k) :: .ref (ad 1000) :: st.map (jv ad)))
  rw [e0]
  exact va_ti hx' hb hZ.2 g4 (vp_in_nI hk (by decide)) (v := .int (nI (10 ^ k))) (by rw [nI_clamp (by omega)]) hd (kk ad H locs ls g1 g2 g3 g4 g5)

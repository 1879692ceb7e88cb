theorem J_iconst {X : jK} {cc : ByteArray} {nL : Nat} {own : String} {Ts : List Cond} {cl : List vw_C} {fr lo NC NS : Nat} (C : jX X cc nL own Ts cl fr lo NC NS) {pc : Nat} {lv : Nat → Option Value} {st : List Value} {pw : jW} {nc ns : Nat} {n : Int} {v : Int32} (hd : decode cc pc = .ok (.iconst n, 1)) (hv : Int32.ofInt n = v) (k : J X (pc + 1) lv (.int v :: st) pw nc ns) : J X pc lv st pw nc ns := by
  obtain ⟨⟨p, l, e, R, s⟩, ⟨m, args, below, meth, c⟩, ⟨nL', D, cl', ty⟩, ⟨A, ad0, n0, Q⟩⟩ := X
  obtain ⟨⟨hx, hb, hml, hown, hts⟩, hK, hA, hZ, hfr, hlo, hNC, hNS, rfl, rfl⟩ := C
  intro ad H locs ls g1 g2 g3 g4 g5
  exact lv_iconst hx hb hd hv (k ad H locs ls g1 g2 g3 g4 g5)
theorem J_bipush {X : jK} {cc : ByteArray} {nL : Nat} {own : String} {Ts : List Cond} {cl : List vw_C} {fr lo NC NS : Nat} (C : jX X cc nL own Ts cl fr lo NC NS) {pc : Nat} {lv : Nat → Option Value} {st : List Value} {pw : jW} {nc ns : Nat} {n : Int} {v : Int32} (hd : decode cc pc = .ok (.bipush n, 2)) (hv : (Int8.ofInt n).toInt32 = v) (k : J X (pc + 2) lv (.int v :: st) pw nc ns) : J X pc lv st pw nc ns := by
  obtain ⟨⟨p, l, e, R, s⟩, ⟨m, args, below, meth, c⟩, ⟨nL', D, cl', ty⟩, ⟨A, ad0, n0, Q⟩⟩ := X
  obtain ⟨⟨hx, hb, hml, hown, hts⟩, hK, hA, hZ, hfr, hlo, hNC, hNS, rfl, rfl⟩ := C
  intro ad H locs ls g1 g2 g3 g4 g5
  exact lv_bipush hx hb hd hv (k ad H locs ls g1 g2 g3 g4 g5)
theorem J_sipush {X : jK} {cc : ByteArray} {nL : Nat} {own : String} {Ts : List Cond} {cl : List vw_C} {fr lo NC NS : Nat} (C : jX X cc nL own Ts cl fr lo NC NS) {pc : Nat} {lv : Nat → Option Value} {st : List Value} {pw : jW} {nc ns : Nat} {n : Int} {v : Int32} (hd : decode cc pc = .ok (.sipush n, 3)) (hv : (Int16.ofInt n).toInt32 = v) (k : J X (pc + 3) lv (.int v :: st) pw nc ns) : J X pc lv st pw nc ns := by
  obtain ⟨⟨p, l, e, R, s⟩, ⟨m, args, below, meth, c⟩, ⟨nL', D, cl', ty⟩, ⟨A, ad0, n0, Q⟩⟩ := X
  obtain ⟨⟨hx, hb, hml, hown, hts⟩, hK, hA, hZ, hfr, hlo, hNC, hNS, rfl, rfl⟩ := C
  intro ad H locs ls g1 g2 g3 g4 g5
  exact lv_sipush hx hb hd hv (k ad H locs ls g1 g2 g3 g4 g5)
theorem J_lconst {X : jK} {cc : ByteArray} {nL : Nat} {own : String} {Ts : List Cond} {cl : List vw_C} {fr lo NC NS : Nat} (C : jX X cc nL own Ts cl fr lo NC NS) {pc : Nat} {lv : Nat → Option Value} {st : List Value} {pw : jW} {nc ns : Nat} {n : Fin 2} {v : Int64} (hd : decode cc pc = .ok (.lconst n, 1)) (hv : Int64.ofNat (n : Nat) = v) (k : J X (pc + 1) lv (.long v :: st) pw nc ns) : J X pc lv st pw nc ns := by
  obtain ⟨⟨p, l, e, R, s⟩, ⟨m, args, below, meth, c⟩, ⟨nL', D, cl', ty⟩, ⟨A, ad0, n0, Q⟩⟩ := X
  obtain ⟨⟨hx, hb, hml, hown, hts⟩, hK, hA, hZ, hfr, hlo, hNC, hNS, rfl, rfl⟩ := C
  intro ad H locs ls g1 g2 g3 g4 g5
  exact lv_lconst hx hb hd hv (k ad H locs ls g1 g2 g3 g4 g5)
theorem J_ldc {X : jK} {cc : ByteArray} {nL : Nat} {own : String} {Ts : List Cond} {cl : List vw_C} {fr lo NC NS : Nat} (C : jX X cc nL own Ts cl fr lo NC NS) {pc : Nat} {lv : Nat → Option Value} {st : List Value} {pw : jW} {nc ns : Nat} {index : Nat} {v : Int32} (hc : Cond.constant own index v ∈ Ts) (hd : decode cc pc = .ok (.ldc index, 2)) (k : J X (pc + 2) lv (.int v :: st) pw nc ns) : J X pc lv st pw nc ns := by
  obtain ⟨⟨p, l, e, R, s⟩, ⟨m, args, below, meth, c⟩, ⟨nL', D, cl', ty⟩, ⟨A, ad0, n0, Q⟩⟩ := X
  obtain ⟨⟨hx, hb, hml, hown, hts⟩, hK, hA, hZ, hfr, hlo, hNC, hNS, rfl, rfl⟩ := C
  intro ad H locs ls g1 g2 g3 g4 g5
  exact lv_ldc hx hb hown (hts _ hc) hd (k ad H locs ls g1 g2 g3 g4 g5)
theorem J_ldc2 {X : jK} {cc : ByteArray} {nL : Nat} {own : String} {Ts : List Cond} {cl : List vw_C} {fr lo NC NS : Nat} (C : jX X cc nL own Ts cl fr lo NC NS) {pc : Nat} {lv : Nat → Option Value} {st : List Value} {pw : jW} {nc ns : Nat} {index : Nat} {v : Int64} (hc : Cond.constantLong own index v ∈ Ts) (hd : decode cc pc = .ok (.ldc2_w index, 3)) (k : J X (pc + 3) lv (.long v :: st) pw nc ns) : J X pc lv st pw nc ns := by
  obtain ⟨⟨p, l, e, R, s⟩, ⟨m, args, below, meth, c⟩, ⟨nL', D, cl', ty⟩, ⟨A, ad0, n0, Q⟩⟩ := X
  obtain ⟨⟨hx, hb, hml, hown, hts⟩, hK, hA, hZ, hfr, hlo, hNC, hNS, rfl, rfl⟩ := C
  intro ad H locs ls g1 g2 g3 g4 g5
  exact lv_ldc2 hx hb hown (hts _ hc) hd (k ad H locs ls g1 g2 g3 g4 g5)
theorem J_iload_n {X : jK} {cc : ByteArray} {nL : Nat} {own : String} {Ts : List Cond} {cl : List vw_C} {fr lo NC NS : Nat} (C : jX X cc nL own Ts cl fr lo NC NS) {pc : Nat} {lv : Nat → Option Value} {st : List Value} {pw : jW} {nc ns : Nat} {j : Fin 4} {i : Nat} {x : Int32} (hd : decode cc pc = .ok (.iload_n j, 1)) (hi : (j : Nat) = i) (hl : lv i = some (.int x)) (k : J X (pc + 1) lv (.int x :: st) pw nc ns) : J X pc lv st pw nc ns := by
  obtain ⟨⟨p, l, e, R, s⟩, ⟨m, args, below, meth, c⟩, ⟨nL', D, cl', ty⟩, ⟨A, ad0, n0, Q⟩⟩ := X
  obtain ⟨⟨hx, hb, hml, hown, hts⟩, hK, hA, hZ, hfr, hlo, hNC, hNS, rfl, rfl⟩ := C
  intro ad H locs ls g1 g2 g3 g4 g5
  exact lv_iload_n hx hb hd hi (g5.2.2 i _ hl) (k ad H locs ls g1 g2 g3 g4 g5)
theorem J_iload {X : jK} {cc : ByteArray} {nL : Nat} {own : String} {Ts : List Cond} {cl : List vw_C} {fr lo NC NS : Nat} (C : jX X cc nL own Ts cl fr lo NC NS) {pc : Nat} {lv : Nat → Option Value} {st : List Value} {pw : jW} {nc ns : Nat} {i : Nat} {x : Int32} (hd : decode cc pc = .ok (.iload i, 2)) (hl : lv i = some (.int x)) (k : J X (pc + 2) lv (.int x :: st) pw nc ns) : J X pc lv st pw nc ns := by
  obtain ⟨⟨p, l, e, R, s⟩, ⟨m, args, below, meth, c⟩, ⟨nL', D, cl', ty⟩, ⟨A, ad0, n0, Q⟩⟩ := X
  obtain ⟨⟨hx, hb, hml, hown, hts⟩, hK, hA, hZ, hfr, hlo, hNC, hNS, rfl, rfl⟩ := C
  intro ad H locs ls g1 g2 g3 g4 g5
  exact lv_iload hx hb hd (g5.2.2 i _ hl) (k ad H locs ls g1 g2 g3 g4 g5)
theorem J_lload_n {X : jK} {cc : ByteArray} {nL : Nat} {own : String} {Ts : List Cond} {cl : List vw_C} {fr lo NC NS : Nat} (C : jX X cc nL own Ts cl fr lo NC NS) {pc : Nat} {lv : Nat → Option Value} {st : List Value} {pw : jW} {nc ns : Nat} {j : Fin 4} {i : Nat} {x : Int64} (hd : decode cc pc = .ok (.lload_n j, 1)) (hi : (j : Nat) = i) (hl : lv i = some (.long x)) (k : J X (pc + 1) lv (.long x :: st) pw nc ns) : J X pc lv st pw nc ns := by
  obtain ⟨⟨p, l, e, R, s⟩, ⟨m, args, below, meth, c⟩, ⟨nL', D, cl', ty⟩, ⟨A, ad0, n0, Q⟩⟩ := X
  obtain ⟨⟨hx, hb, hml, hown, hts⟩, hK, hA, hZ, hfr, hlo, hNC, hNS, rfl, rfl⟩ := C
  intro ad H locs ls g1 g2 g3 g4 g5
  exact lv_lload_n hx hb hd hi (g5.2.2 i _ hl) (k ad H locs ls g1 g2 g3 g4 g5)
theorem J_lload {X : jK} {cc : ByteArray} {nL : Nat} {own : String} {Ts : List Cond} {cl : List vw_C} {fr lo NC NS : Nat} (C : jX X cc nL own Ts cl fr lo NC NS) {pc : Nat} {lv : Nat → Option Value} {st : List Value} {pw : jW} {nc ns : Nat} {i : Nat} {x : Int64} (hd : decode cc pc = .ok (.lload i, 2)) (hl : lv i = some (.long x)) (k : J X (pc + 2) lv (.long x :: st) pw nc ns) : J X pc lv st pw nc ns := by
  obtain ⟨⟨p, l, e, R, s⟩, ⟨m, args, below, meth, c⟩, ⟨nL', D, cl', ty⟩, ⟨A, ad0, n0, Q⟩⟩ := X
  obtain ⟨⟨hx, hb, hml, hown, hts⟩, hK, hA, hZ, hfr, hlo, hNC, hNS, rfl, rfl⟩ := C
  intro ad H locs ls g1 g2 g3 g4 g5
  exact lv_lload hx hb hd (g5.2.2 i _ hl) (k ad H locs ls g1 g2 g3 g4 g5)
theorem J_aload_n {X : jK} {cc : ByteArray} {nL : Nat} {own : String} {Ts : List Cond} {cl : List vw_C} {fr lo NC NS : Nat} (C : jX X cc nL own Ts cl fr lo NC NS) {pc : Nat} {lv : Nat → Option Value} {st : List Value} {pw : jW} {nc ns : Nat} {j : Fin 4} {i x : Nat} (hd : decode cc pc = .ok (.aload_n j, 1)) (hi : (j : Nat) = i) (hl : lv i = some (.ref x)) (k : J X (pc + 1) lv (.ref x :: st) pw nc ns) : J X pc lv st pw nc ns := by
  obtain ⟨⟨p, l, e, R, s⟩, ⟨m, args, below, meth, c⟩, ⟨nL', D, cl', ty⟩, ⟨A, ad0, n0, Q⟩⟩ := X
  obtain ⟨⟨hx, hb, hml, hown, hts⟩, hK, hA, hZ, hfr, hlo, hNC, hNS, rfl, rfl⟩ := C
  intro ad H locs ls g1 g2 g3 g4 g5
  exact lv_aload_n hx hb hd hi (g5.2.2 i _ hl) (k ad H locs ls g1 g2 g3 g4 g5)
theorem J_aload {X : jK} {cc : ByteArray} {nL : Nat} {own : String} {Ts : List Cond} {cl : List vw_C} {fr lo NC NS : Nat} (C : jX X cc nL own Ts cl fr lo NC NS) {pc : Nat} {lv : Nat → Option Value} {st : List Value} {pw : jW} {nc ns : Nat} {i x : Nat} (hd : decode cc pc = .ok (.aload i, 2)) (hl : lv i = some (.ref x)) (k : J X (pc + 2) lv (.ref x :: st) pw nc ns) : J X pc lv st pw nc ns := by
  obtain ⟨⟨p, l, e, R, s⟩, ⟨m, args, below, meth, c⟩, ⟨nL', D, cl', ty⟩, ⟨A, ad0, n0, Q⟩⟩ := X
  obtain ⟨⟨hx, hb, hml, hown, hts⟩, hK, hA, hZ, hfr, hlo, hNC, hNS, rfl, rfl⟩ := C
  intro ad H locs ls g1 g2 g3 g4 g5
  exact lv_aload hx hb hd (g5.2.2 i _ hl) (k ad H locs ls g1 g2 g3 g4 g5)
theorem J_istore_n {X : jK} {cc : ByteArray} {nL : Nat} {own : String} {Ts : List Cond} {cl : List vw_C} {fr lo NC NS : Nat} (C : jX X cc nL own Ts cl fr lo NC NS) {pc : Nat} {lv : Nat → Option Value} {st : List Value} {pw : jW} {nc ns : Nat} {j : Fin 4} {i : Nat} {x : Int32} (hd : decode cc pc = .ok (.istore_n j, 1)) (hi : (j : Nat) = i) (hn : i < nL) (k : J X (pc + 1) (js1 lv i (.int x)) st pw nc ns) : J X pc lv (.int x :: st) pw nc ns := by
  obtain ⟨⟨p, l, e, R, s⟩, ⟨m, args, below, meth, c⟩, ⟨nL', D, cl', ty⟩, ⟨A, ad0, n0, Q⟩⟩ := X
  obtain ⟨⟨hx, hb, hml, hown, hts⟩, hK, hA, hZ, hfr, hlo, hNC, hNS, rfl, rfl⟩ := C
  intro ad H locs ls g1 g2 g3 g4 g5
  exact lv_istore_n hx hb hd hi g5.has hn rfl (fun ls' h' => k ad H locs ls' g1 g2 g3 g4 (g5.st1 (v := .int x) h'))
theorem J_istore {X : jK} {cc : ByteArray} {nL : Nat} {own : String} {Ts : List Cond} {cl : List vw_C} {fr lo NC NS : Nat} (C : jX X cc nL own Ts cl fr lo NC NS) {pc : Nat} {lv : Nat → Option Value} {st : List Value} {pw : jW} {nc ns : Nat} {i : Nat} {x : Int32} (hd : decode cc pc = .ok (.istore i, 2)) (hn : i < nL) (k : J X (pc + 2) (js1 lv i (.int x)) st pw nc ns) : J X pc lv (.int x :: st) pw nc ns := by
  obtain ⟨⟨p, l, e, R, s⟩, ⟨m, args, below, meth, c⟩, ⟨nL', D, cl', ty⟩, ⟨A, ad0, n0, Q⟩⟩ := X
  obtain ⟨⟨hx, hb, hml, hown, hts⟩, hK, hA, hZ, hfr, hlo, hNC, hNS, rfl, rfl⟩ := C
  intro ad H locs ls g1 g2 g3 g4 g5
  exact lv_istore hx hb hd g5.has hn rfl (fun ls' h' => k ad H locs ls' g1 g2 g3 g4 (g5.st1 (v := .int x) h'))
theorem J_lstore_n {X : jK} {cc : ByteArray} {nL : Nat} {own : String} {Ts : List Cond} {cl : List vw_C} {fr lo NC NS : Nat} (C : jX X cc nL own Ts cl fr lo NC NS) {pc : Nat} {lv : Nat → Option Value} {st : List Value} {pw : jW} {nc ns : Nat} {j : Fin 4} {i : Nat} {x : Int64} (hd : decode cc pc = .ok (.lstore_n j, 1)) (hi : (j : Nat) = i) (hn : i + 1 < nL) (k : J X (pc + 1) (js2 lv i (.long x)) st pw nc ns) : J X pc lv (.long x :: st) pw nc ns := by
  obtain ⟨⟨p, l, e, R, s⟩, ⟨m, args, below, meth, c⟩, ⟨nL', D, cl', ty⟩, ⟨A, ad0, n0, Q⟩⟩ := X
  obtain ⟨⟨hx, hb, hml, hown, hts⟩, hK, hA, hZ, hfr, hlo, hNC, hNS, rfl, rfl⟩ := C
  intro ad H locs ls g1 g2 g3 g4 g5
  exact lv_lstore_n hx hb hd hi g5.has hn rfl (fun ls' h' => k ad H locs ls' g1 g2 g3 g4 (g5.st2 (v := .long x) h'))
theorem J_lstore {X : jK} {cc : ByteArray} {nL : Nat} {own : String} {Ts : List Cond} {cl : List vw_C} {fr lo NC NS : Nat} (C : jX X cc nL own Ts cl fr lo NC NS) {pc : Nat} {lv : Nat → Option Value} {st : List Value} {pw : jW} {nc ns : Nat} {i : Nat} {x : Int64} (hd : decode cc pc = .ok (.lstore i, 2)) (hn : i + 1 < nL) (k : J X (pc + 2) (js2 lv i (.long x)) st pw nc ns) : J X pc lv (.long x :: st) pw nc ns := by
  obtain ⟨⟨p, l, e, R, s⟩, ⟨m, args, below, meth, c⟩, ⟨nL', D, cl', ty⟩, ⟨A, ad0, n0, Q⟩⟩ := X
  obtain ⟨⟨hx, hb, hml, hown, hts⟩, hK, hA, hZ, hfr, hlo, hNC, hNS, rfl, rfl⟩ := C
  intro ad H locs ls g1 g2 g3 g4 g5
  exact lv_lstore hx hb hd g5.has hn rfl (fun ls' h' => k ad H locs ls' g1 g2 g3 g4 (g5.st2 (v := .long x) h'))
theorem J_astore_n {X : jK} {cc : ByteArray} {nL : Nat} {own : String} {Ts : List Cond} {cl : List vw_C} {fr lo NC NS : Nat} (C : jX X cc nL own Ts cl fr lo NC NS) {pc : Nat} {lv : Nat → Option Value} {st : List Value} {pw : jW} {nc ns : Nat} {j : Fin 4} {i : Nat} {x : Nat} (hd : decode cc pc = .ok (.astore_n j, 1)) (hi : (j : Nat) = i) (hn : i < nL) (k : J X (pc + 1) (js1 lv i (.ref x)) st pw nc ns) : J X pc lv (.ref x :: st) pw nc ns := by
  obtain ⟨⟨p, l, e, R, s⟩, ⟨m, args, below, meth, c⟩, ⟨nL', D, cl', ty⟩, ⟨A, ad0, n0, Q⟩⟩ := X
  obtain ⟨⟨hx, hb, hml, hown, hts⟩, hK, hA, hZ, hfr, hlo, hNC, hNS, rfl, rfl⟩ := C
  intro ad H locs ls g1 g2 g3 g4 g5
  exact lv_astore_n hx hb hd hi g5.has hn rfl (fun ls' h' => k ad H locs ls' g1 g2 g3 g4 (g5.st1 (v := .ref x) h'))
theorem J_astore {X : jK} {cc : ByteArray} {nL : Nat} {own : String} {Ts : List Cond} {cl : List vw_C} {fr lo NC NS : Nat} (C : jX X cc nL own Ts cl fr lo NC NS) {pc : Nat} {lv : Nat → Option Value} {st : List Value} {pw : jW} {nc ns : Nat} {i : Nat} {x : Nat} (hd : decode cc pc = .ok (.astore i, 2)) (hn : i < nL) (k : J X (pc + 2) (js1 lv i (.ref x)) st pw nc ns) : J X pc lv (.ref x :: st) pw nc ns := by
  obtain ⟨⟨p, l, e, R, s⟩, ⟨m, args, below, meth, c⟩, ⟨nL', D, cl', ty⟩, ⟨A, ad0, n0, Q⟩⟩ := X
  obtain ⟨⟨hx, hb, hml, hown, hts⟩, hK, hA, hZ, hfr, hlo, hNC, hNS, rfl, rfl⟩ := C
  intro ad H locs ls g1 g2 g3 g4 g5
  exact lv_astore hx hb hd g5.has hn rfl (fun ls' h' => k ad H locs ls' g1 g2 g3 g4 (g5.st1 (v := .ref x) h'))
theorem J_iinc {X : jK} {cc : ByteArray} {nL : Nat} {own : String} {Ts : List Cond} {cl : List vw_C} {fr lo NC NS : Nat} (C : jX X cc nL own Ts cl fr lo NC NS) {pc : Nat} {lv : Nat → Option Value} {st : List Value} {pw : jW} {nc ns : Nat} {i : Nat} {n : Int} {x v : Int32} (hd : decode cc pc = .ok (.iinc i n, 3)) (hl : lv i = some (.int x)) (hv : x + Int32.ofInt n = v) (k : J X (pc + 3) (js1 lv i (.int v)) st pw nc ns) : J X pc lv st pw nc ns := by
  obtain ⟨⟨p, l, e, R, s⟩, ⟨m, args, below, meth, c⟩, ⟨nL', D, cl', ty⟩, ⟨A, ad0, n0, Q⟩⟩ := X
  obtain ⟨⟨hx, hb, hml, hown, hts⟩, hK, hA, hZ, hfr, hlo, hNC, hNS, rfl, rfl⟩ := C
  intro ad H locs ls g1 g2 g3 g4 g5
  obtain ⟨q, hq⟩ := List.getElem?_of_mem (jl_mem (ad := ad) (g5.lt hl) hl)
  exact lv_iinc hx hb hd g5.has hq hv (g5.lt hl) rfl (fun ls' h' => k ad H locs ls' g1 g2 g3 g4 (g5.st1 (v := .int v) h'))
theorem J_iadd {X : jK} {cc : ByteArray} {nL : Nat} {own : String} {Ts : List Cond} {cl : List vw_C} {fr lo NC NS : Nat} (C : jX X cc nL own Ts cl fr lo NC NS) {pc : Nat} {lv : Nat → Option Value} {st : List Value} {pw : jW} {nc ns : Nat} {x y : Int32} (hd : decode cc pc = .ok (.iadd, 1)) (k : J X (pc + 1) lv (.int (x + y) :: st) pw nc ns) : J X pc lv (.int y :: .int x :: st) pw nc ns := by
  obtain ⟨⟨p, l, e, R, s⟩, ⟨m, args, below, meth, c⟩, ⟨nL', D, cl', ty⟩, ⟨A, ad0, n0, Q⟩⟩ := X
  obtain ⟨⟨hx, hb, hml, hown, hts⟩, hK, hA, hZ, hfr, hlo, hNC, hNS, rfl, rfl⟩ := C
  intro ad H locs ls g1 g2 g3 g4 g5
  exact lv_iadd hx hb hd (k ad H locs ls g1 g2 g3 g4 g5)
theorem J_isub {X : jK} {cc : ByteArray} {nL : Nat} {own : String} {Ts : List Cond} {cl : List vw_C} {fr lo NC NS : Nat} (C : jX X cc nL own Ts cl fr lo NC NS) {pc : Nat} {lv : Nat → Option Value} {st : List Value} {pw : jW} {nc ns : Nat} {x y : Int32} (hd : decode cc pc = .ok (.isub, 1)) (k : J X (pc + 1) lv (.int (x - y) :: st) pw nc ns) : J X pc lv (.int y :: .int x :: st) pw nc ns := by
  obtain ⟨⟨p, l, e, R, s⟩, ⟨m, args, below, meth, c⟩, ⟨nL', D, cl', ty⟩, ⟨A, ad0, n0, Q⟩⟩ := X
  obtain ⟨⟨hx, hb, hml, hown, hts⟩, hK, hA, hZ, hfr, hlo, hNC, hNS, rfl, rfl⟩ := C
  intro ad H locs ls g1 g2 g3 g4 g5
  exact lv_isub hx hb hd (k ad H locs ls g1 g2 g3 g4 g5)
theorem J_imul {X : jK} {cc : ByteArray} {nL : Nat} {own : String} {Ts : List Cond} {cl : List vw_C} {fr lo NC NS : Nat} (C : jX X cc nL own Ts cl fr lo NC NS) {pc : Nat} {lv : Nat → Option Value} {st : List Value} {pw : jW} {nc ns : Nat} {x y : Int32} (hd : decode cc pc = .ok (.imul, 1)) (k : J X (pc + 1) lv (.int (x * y) :: st) pw nc ns) : J X pc lv (.int y :: .int x :: st) pw nc ns := by
  obtain ⟨⟨p, l, e, R, s⟩, ⟨m, args, below, meth, c⟩, ⟨nL', D, cl', ty⟩, ⟨A, ad0, n0, Q⟩⟩ := X
  obtain ⟨⟨hx, hb, hml, hown, hts⟩, hK, hA, hZ, hfr, hlo, hNC, hNS, rfl, rfl⟩ := C
  intro ad H locs ls g1 g2 g3 g4 g5
  exact lv_imul hx hb hd (k ad H locs ls g1 g2 g3 g4 g5)
theorem J_iand {X : jK} {cc : ByteArray} {nL : Nat} {own : String} {Ts : List Cond} {cl : List vw_C} {fr lo NC NS : Nat} (C : jX X cc nL own Ts cl fr lo NC NS) {pc : Nat} {lv : Nat → Option Value} {st : List Value} {pw : jW} {nc ns : Nat} {x y : Int32} (hd : decode cc pc = .ok (.iand, 1)) (k : J X (pc + 1) lv (.int (x &&& y) :: st) pw nc ns) : J X pc lv (.int y :: .int x :: st) pw nc ns := by
  obtain ⟨⟨p, l, e, R, s⟩, ⟨m, args, below, meth, c⟩, ⟨nL', D, cl', ty⟩, ⟨A, ad0, n0, Q⟩⟩ := X
  obtain ⟨⟨hx, hb, hml, hown, hts⟩, hK, hA, hZ, hfr, hlo, hNC, hNS, rfl, rfl⟩ := C
  intro ad H locs ls g1 g2 g3 g4 g5
  exact lv_iand hx hb hd (k ad H locs ls g1 g2 g3 g4 g5)
theorem J_ior {X : jK} {cc : ByteArray} {nL : Nat} {own : String} {Ts : List Cond} {cl : List vw_C} {fr lo NC NS : Nat} (C : jX X cc nL own Ts cl fr lo NC NS) {pc : Nat} {lv : Nat → Option Value} {st : List Value} {pw : jW} {nc ns : Nat} {x y : Int32} (hd : decode cc pc = .ok (.ior, 1)) (k : J X (pc + 1) lv (.int (x ||| y) :: st) pw nc ns) : J X pc lv (.int y :: .int x :: st) pw nc ns := by
  obtain ⟨⟨p, l, e, R, s⟩, ⟨m, args, below, meth, c⟩, ⟨nL', D, cl', ty⟩, ⟨A, ad0, n0, Q⟩⟩ := X
  obtain ⟨⟨hx, hb, hml, hown, hts⟩, hK, hA, hZ, hfr, hlo, hNC, hNS, rfl, rfl⟩ := C
  intro ad H locs ls g1 g2 g3 g4 g5
  exact lv_ior hx hb hd (k ad H locs ls g1 g2 g3 g4 g5)
theorem J_ixor {X : jK} {cc : ByteArray} {nL : Nat} {own : String} {Ts : List Cond} {cl : List vw_C} {fr lo NC NS : Nat} (C : jX X cc nL own Ts cl fr lo NC NS) {pc : Nat} {lv : Nat → Option Value} {st : List Value} {pw : jW} {nc ns : Nat} {x y : Int32} (hd : decode cc pc = .ok (.ixor, 1)) (k : J X (pc + 1) lv (.int (x ^^^ y) :: st) pw nc ns) : J X pc lv (.int y :: .int x :: st) pw nc ns := by
  obtain ⟨⟨p, l, e, R, s⟩, ⟨m, args, below, meth, c⟩, ⟨nL', D, cl', ty⟩, ⟨A, ad0, n0, Q⟩⟩ := X
  obtain ⟨⟨hx, hb, hml, hown, hts⟩, hK, hA, hZ, hfr, hlo, hNC, hNS, rfl, rfl⟩ := C
  intro ad H locs ls g1 g2 g3 g4 g5
  exact lv_ixor hx hb hd (k ad H locs ls g1 g2 g3 g4 g5)
theorem J_ladd {X : jK} {cc : ByteArray} {nL : Nat} {own : String} {Ts : List Cond} {cl : List vw_C} {fr lo NC NS : Nat} (C : jX X cc nL own Ts cl fr lo NC NS) {pc : Nat} {lv : Nat → Option Value} {st : List Value} {pw : jW} {nc ns : Nat} {x y : Int64} (hd : decode cc pc = .ok (.ladd, 1)) (k : J X (pc + 1) lv (.long (x + y) :: st) pw nc ns) : J X pc lv (.long y :: .long x :: st) pw nc ns := by
  obtain ⟨⟨p, l, e, R, s⟩, ⟨m, args, below, meth, c⟩, ⟨nL', D, cl', ty⟩, ⟨A, ad0, n0, Q⟩⟩ := X
  obtain ⟨⟨hx, hb, hml, hown, hts⟩, hK, hA, hZ, hfr, hlo, hNC, hNS, rfl, rfl⟩ := C
  intro ad H locs ls g1 g2 g3 g4 g5
  exact lv_ladd hx hb hd (k ad H locs ls g1 g2 g3 g4 g5)
theorem J_lsub {X : jK} {cc : ByteArray} {nL : Nat} {own : String} {Ts : List Cond} {cl : List vw_C} {fr lo NC NS : Nat} (C : jX X cc nL own Ts cl fr lo NC NS) {pc : Nat} {lv : Nat → Option Value} {st : List Value} {pw : jW} {nc ns : Nat} {x y : Int64} (hd : decode cc pc = .ok (.lsub, 1)) (k : J X (pc + 1) lv (.long (x - y) :: st) pw nc ns) : J X pc lv (.long y :: .long x :: st) pw nc ns := by
  obtain ⟨⟨p, l, e, R, s⟩, ⟨m, args, below, meth, c⟩, ⟨nL', D, cl', ty⟩, ⟨A, ad0, n0, Q⟩⟩ := X
  obtain ⟨⟨hx, hb, hml, hown, hts⟩, hK, hA, hZ, hfr, hlo, hNC, hNS, rfl, rfl⟩ := C
  intro ad H locs ls g1 g2 g3 g4 g5
  exact lv_lsub hx hb hd (k ad H locs ls g1 g2 g3 g4 g5)
theorem J_lmul {X : jK} {cc : ByteArray} {nL : Nat} {own : String} {Ts : List Cond} {cl : List vw_C} {fr lo NC NS : Nat} (C : jX X cc nL own Ts cl fr lo NC NS) {pc : Nat} {lv : Nat → Option Value} {st : List Value} {pw : jW} {nc ns : Nat} {x y : Int64} (hd : decode cc pc = .ok (.lmul, 1)) (k : J X (pc + 1) lv (.long (x * y) :: st) pw nc ns) : J X pc lv (.long y :: .long x :: st) pw nc ns := by
  obtain ⟨⟨p, l, e, R, s⟩, ⟨m, args, below, meth, c⟩, ⟨nL', D, cl', ty⟩, ⟨A, ad0, n0, Q⟩⟩ := X
  obtain ⟨⟨hx, hb, hml, hown, hts⟩, hK, hA, hZ, hfr, hlo, hNC, hNS, rfl, rfl⟩ := C
  intro ad H locs ls g1 g2 g3 g4 g5
  exact lv_lmul hx hb hd (k ad H locs ls g1 g2 g3 g4 g5)
theorem J_land {X : jK} {cc : ByteArray} {nL : Nat} {own : String} {Ts : List Cond} {cl : List vw_C} {fr lo NC NS : Nat} (C : jX X cc nL own Ts cl fr lo NC NS) {pc : Nat} {lv : Nat → Option Value} {st : List Value} {pw : jW} {nc ns : Nat} {x y : Int64} (hd : decode cc pc = .ok (.land, 1)) (k : J X (pc + 1) lv (.long (x &&& y) :: st) pw nc ns) : J X pc lv (.long y :: .long x :: st) pw nc ns := by
  obtain ⟨⟨p, l, e, R, s⟩, ⟨m, args, below, meth, c⟩, ⟨nL', D, cl', ty⟩, ⟨A, ad0, n0, Q⟩⟩ := X
  obtain ⟨⟨hx, hb, hml, hown, hts⟩, hK, hA, hZ, hfr, hlo, hNC, hNS, rfl, rfl⟩ := C
  intro ad H locs ls g1 g2 g3 g4 g5
  exact lv_land hx hb hd (k ad H locs ls g1 g2 g3 g4 g5)
theorem J_lor {X : jK} {cc : ByteArray} {nL : Nat} {own : String} {Ts : List Cond} {cl : List vw_C} {fr lo NC NS : Nat} (C : jX X cc nL own Ts cl fr lo NC NS) {pc : Nat} {lv : Nat → Option Value} {st : List Value} {pw : jW} {nc ns : Nat} {x y : Int64} (hd : decode cc pc = .ok (.lor, 1)) (k : J X (pc + 1) lv (.long (x ||| y) :: st) pw nc ns) : J X pc lv (.long y :: .long x :: st) pw nc ns := by
  obtain ⟨⟨p, l, e, R, s⟩, ⟨m, args, below, meth, c⟩, ⟨nL', D, cl', ty⟩, ⟨A, ad0, n0, Q⟩⟩ := X
  obtain ⟨⟨hx, hb, hml, hown, hts⟩, hK, hA, hZ, hfr, hlo, hNC, hNS, rfl, rfl⟩ := C
  intro ad H locs ls g1 g2 g3 g4 g5
  exact lv_lor hx hb hd (k ad H locs ls g1 g2 g3 g4 g5)
theorem J_lxor {X : jK} {cc : ByteArray} {nL : Nat} {own : String} {Ts : List Cond} {cl : List vw_C} {fr lo NC NS : Nat} (C : jX X cc nL own Ts cl fr lo NC NS) {pc : Nat} {lv : Nat → Option Value} {st : List Value} {pw : jW} {nc ns : Nat} {x y : Int64} (hd : decode cc pc = .ok (.lxor, 1)) (k : J X (pc + 1) lv (.long (x ^^^ y) :: st) pw nc ns) : J X pc lv (.long y :: .long x :: st) pw nc ns := by
  obtain ⟨⟨p, l, e, R, s⟩, ⟨m, args, below, meth, c⟩, ⟨nL', D, cl', ty⟩, ⟨A, ad0, n0, Q⟩⟩ := X
  obtain ⟨⟨hx, hb, hml, hown, hts⟩, hK, hA, hZ, hfr, hlo, hNC, hNS, rfl, rfl⟩ := C
  intro ad H locs ls g1 g2 g3 g4 g5
  exact lv_lxor hx hb hd (k ad H locs ls g1 g2 g3 g4 g5)
theorem J_idiv {X : jK} {cc : ByteArray} {nL : Nat} {own : String} {Ts : List Cond} {cl : List vw_C} {fr lo NC NS : Nat} (C : jX X cc nL own Ts cl fr lo NC NS) {pc : Nat} {lv : Nat → Option Value} {st : List Value} {pw : jW} {nc ns : Nat} {x y : Int32} (hd : decode cc pc = .ok (.idiv, 1)) (hne : ¬ y = 0) (k : J X (pc + 1) lv (.int (x / y) :: st) pw nc ns) : J X pc lv (.int y :: .int x :: st) pw nc ns := by
  obtain ⟨⟨p, l, e, R, s⟩, ⟨m, args, below, meth, c⟩, ⟨nL', D, cl', ty⟩, ⟨A, ad0, n0, Q⟩⟩ := X
  obtain ⟨⟨hx, hb, hml, hown, hts⟩, hK, hA, hZ, hfr, hlo, hNC, hNS, rfl, rfl⟩ := C
  intro ad H locs ls g1 g2 g3 g4 g5
  exact lv_idiv hx hb hd hne (k ad H locs ls g1 g2 g3 g4 g5)
theorem J_irem {X : jK} {cc : ByteArray} {nL : Nat} {own : String} {Ts : List Cond} {cl : List vw_C} {fr lo NC NS : Nat} (C : jX X cc nL own Ts cl fr lo NC NS) {pc : Nat} {lv : Nat → Option Value} {st : List Value} {pw : jW} {nc ns : Nat} {x y : Int32} (hd : decode cc pc = .ok (.irem, 1)) (hne : ¬ y = 0) (k : J X (pc + 1) lv (.int (x - x / y * y) :: st) pw nc ns) : J X pc lv (.int y :: .int x :: st) pw nc ns := by
  obtain ⟨⟨p, l, e, R, s⟩, ⟨m, args, below, meth, c⟩, ⟨nL', D, cl', ty⟩, ⟨A, ad0, n0, Q⟩⟩ := X
  obtain ⟨⟨hx, hb, hml, hown, hts⟩, hK, hA, hZ, hfr, hlo, hNC, hNS, rfl, rfl⟩ := C
  intro ad H locs ls g1 g2 g3 g4 g5
  exact lv_irem hx hb hd hne (k ad H locs ls g1 g2 g3 g4 g5)
theorem J_ldiv {X : jK} {cc : ByteArray} {nL : Nat} {own : String} {Ts : List Cond} {cl : List vw_C} {fr lo NC NS : Nat} (C : jX X cc nL own Ts cl fr lo NC NS) {pc : Nat} {lv : Nat → Option Value} {st : List Value} {pw : jW} {nc ns : Nat} {x y : Int64} (hd : decode cc pc = .ok (.ldiv, 1)) (hne : ¬ y = 0) (k : J X (pc + 1) lv (.long (x / y) :: st) pw nc ns) : J X pc lv (.long y :: .long x :: st) pw nc ns := by
  obtain ⟨⟨p, l, e, R, s⟩, ⟨m, args, below, meth, c⟩, ⟨nL', D, cl', ty⟩, ⟨A, ad0, n0, Q⟩⟩ := X
  obtain ⟨⟨hx, hb, hml, hown, hts⟩, hK, hA, hZ, hfr, hlo, hNC, hNS, rfl, rfl⟩ := C
  intro ad H locs ls g1 g2 g3 g4 g5
  exact lv_ldiv hx hb hd hne (k ad H locs ls g1 g2 g3 g4 g5)
theorem J_lrem {X : jK} {cc : ByteArray} {nL : Nat} {own : String} {Ts : List Cond} {cl : List vw_C} {fr lo NC NS : Nat} (C : jX X cc nL own Ts cl fr lo NC NS) {pc : Nat} {lv : Nat → Option Value} {st : List Value} {pw : jW} {nc ns : Nat} {x y : Int64} (hd : decode cc pc = .ok (.lrem, 1)) (hne : ¬ y = 0) (k : J X (pc + 1) lv (.long (x - x / y * y) :: st) pw nc ns) : J X pc lv (.long y :: .long x :: st) pw nc ns := by
  obtain ⟨⟨p, l, e, R, s⟩, ⟨m, args, below, meth, c⟩, ⟨nL', D, cl', ty⟩, ⟨A, ad0, n0, Q⟩⟩ := X
  obtain ⟨⟨hx, hb, hml, hown, hts⟩, hK, hA, hZ, hfr, hlo, hNC, hNS, rfl, rfl⟩ := C
  intro ad H locs ls g1 g2 g3 g4 g5
  exact lv_lrem hx hb hd hne (k ad H locs ls g1 g2 g3 g4 g5)
theorem J_ineg {X : jK} {cc : ByteArray} {nL : Nat} {own : String} {Ts : List Cond} {cl : List vw_C} {fr lo NC NS : Nat} (C : jX X cc nL own Ts cl fr lo NC NS) {pc : Nat} {lv : Nat → Option Value} {st : List Value} {pw : jW} {nc ns : Nat} {x : Int32} (hd : decode cc pc = .ok (.ineg, 1)) (k : J X (pc + 1) lv (.int (-x) :: st) pw nc ns) : J X pc lv (.int x :: st) pw nc ns := by
  obtain ⟨⟨p, l, e, R, s⟩, ⟨m, args, below, meth, c⟩, ⟨nL', D, cl', ty⟩, ⟨A, ad0, n0, Q⟩⟩ := X
  obtain ⟨⟨hx, hb, hml, hown, hts⟩, hK, hA, hZ, hfr, hlo, hNC, hNS, rfl, rfl⟩ := C
  intro ad H locs ls g1 g2 g3 g4 g5
  exact lv_ineg hx hb hd (k ad H locs ls g1 g2 g3 g4 g5)
theorem J_lneg {X : jK} {cc : ByteArray} {nL : Nat} {own : String} {Ts : List Cond} {cl : List vw_C} {fr lo NC NS : Nat} (C : jX X cc nL own Ts cl fr lo NC NS) {pc : Nat} {lv : Nat → Option Value} {st : List Value} {pw : jW} {nc ns : Nat} {x : Int64} (hd : decode cc pc = .ok (.lneg, 1)) (k : J X (pc + 1) lv (.long (-x) :: st) pw nc ns) : J X pc lv (.long x :: st) pw nc ns := by
  obtain ⟨⟨p, l, e, R, s⟩, ⟨m, args, below, meth, c⟩, ⟨nL', D, cl', ty⟩, ⟨A, ad0, n0, Q⟩⟩ := X
  obtain ⟨⟨hx, hb, hml, hown, hts⟩, hK, hA, hZ, hfr, hlo, hNC, hNS, rfl, rfl⟩ := C
  intro ad H locs ls g1 g2 g3 g4 g5
  exact lv_lneg hx hb hd (k ad H locs ls g1 g2 g3 g4 g5)
theorem J_lcmp {X : jK} {cc : ByteArray} {nL : Nat} {own : String} {Ts : List Cond} {cl : List vw_C} {fr lo NC NS : Nat} (C : jX X cc nL own Ts cl fr lo NC NS) {pc : Nat} {lv : Nat → Option Value} {st : List Value} {pw : jW} {nc ns : Nat} {x y : Int64} (hd : decode cc pc = .ok (.lcmp, 1)) (k : J X (pc + 1) lv (.int (lg_cmp x y) :: st) pw nc ns) : J X pc lv (.long y :: .long x :: st) pw nc ns := by
  obtain ⟨⟨p, l, e, R, s⟩, ⟨m, args, below, meth, c⟩, ⟨nL', D, cl', ty⟩, ⟨A, ad0, n0, Q⟩⟩ := X
  obtain ⟨⟨hx, hb, hml, hown, hts⟩, hK, hA, hZ, hfr, hlo, hNC, hNS, rfl, rfl⟩ := C
  intro ad H locs ls g1 g2 g3 g4 g5
  exact W.lcmp hx hb hd (k ad H locs ls g1 g2 g3 g4 g5)
theorem J_i2l {X : jK} {cc : ByteArray} {nL : Nat} {own : String} {Ts : List Cond} {cl : List vw_C} {fr lo NC NS : Nat} (C : jX X cc nL own Ts cl fr lo NC NS) {pc : Nat} {lv : Nat → Option Value} {st : List Value} {pw : jW} {nc ns : Nat} {x : Int32} {v : Int64} (hd : decode cc pc = .ok (.i2l, 1)) (hv : x.toInt64 = v) (k : J X (pc + 1) lv (.long v :: st) pw nc ns) : J X pc lv (.int x :: st) pw nc ns := by
  obtain ⟨⟨p, l, e, R, s⟩, ⟨m, args, below, meth, c⟩, ⟨nL', D, cl', ty⟩, ⟨A, ad0, n0, Q⟩⟩ := X
  obtain ⟨⟨hx, hb, hml, hown, hts⟩, hK, hA, hZ, hfr, hlo, hNC, hNS, rfl, rfl⟩ := C
  intro ad H locs ls g1 g2 g3 g4 g5
  exact lv_i2l hx hb hd hv (k ad H locs ls g1 g2 g3 g4 g5)
theorem J_l2i {X : jK} {cc : ByteArray} {nL : Nat} {own : String} {Ts : List Cond} {cl : List vw_C} {fr lo NC NS : Nat} (C : jX X cc nL own Ts cl fr lo NC NS) {pc : Nat} {lv : Nat → Option Value} {st : List Value} {pw : jW} {nc ns : Nat} {x : Int64} {v : Int32} (hd : decode cc pc = .ok (.l2i, 1)) (hv : x.toInt32 = v) (k : J X (pc + 1) lv (.int v :: st) pw nc ns) : J X pc lv (.long x :: st) pw nc ns := by
  obtain ⟨⟨p, l, e, R, s⟩, ⟨m, args, below, meth, c⟩, ⟨nL', D, cl', ty⟩, ⟨A, ad0, n0, Q⟩⟩ := X
  obtain ⟨⟨hx, hb, hml, hown, hts⟩, hK, hA, hZ, hfr, hlo, hNC, hNS, rfl, rfl⟩ := C
  intro ad H locs ls g1 g2 g3 g4 g5
  exact lv_l2i hx hb hd hv (k ad H locs ls g1 g2 g3 g4 g5)
theorem J_i2b {X : jK} {cc : ByteArray} {nL : Nat} {own : String} {Ts : List Cond} {cl : List vw_C} {fr lo NC NS : Nat} (C : jX X cc nL own Ts cl fr lo NC NS) {pc : Nat} {lv : Nat → Option Value} {st : List Value} {pw : jW} {nc ns : Nat} {x v : Int32} (hd : decode cc pc = .ok (.i2b, 1)) (hv : x.toInt8.toInt32 = v) (k : J X (pc + 1) lv (.int v :: st) pw nc ns) : J X pc lv (.int x :: st) pw nc ns := by
  obtain ⟨⟨p, l, e, R, s⟩, ⟨m, args, below, meth, c⟩, ⟨nL', D, cl', ty⟩, ⟨A, ad0, n0, Q⟩⟩ := X
  obtain ⟨⟨hx, hb, hml, hown, hts⟩, hK, hA, hZ, hfr, hlo, hNC, hNS, rfl, rfl⟩ := C
  intro ad H locs ls g1 g2 g3 g4 g5
  exact lv_i2b hx hb hd hv (k ad H locs ls g1 g2 g3 g4 g5)
theorem J_lshl {X : jK} {cc : ByteArray} {nL : Nat} {own : String} {Ts : List Cond} {cl : List vw_C} {fr lo NC NS : Nat} (C : jX X cc nL own Ts cl fr lo NC NS) {pc : Nat} {lv : Nat → Option Value} {st : List Value} {pw : jW} {nc ns : Nat} {x v : Int64} {y : Int32} (hd : decode cc pc = .ok (.lshl, 1)) (hv : x <<< (y.toInt64 &&& 63) = v) (k : J X (pc + 1) lv (.long v :: st) pw nc ns) : J X pc lv (.int y :: .long x :: st) pw nc ns := by
  obtain ⟨⟨p, l, e, R, s⟩, ⟨m, args, below, meth, c⟩, ⟨nL', D, cl', ty⟩, ⟨A, ad0, n0, Q⟩⟩ := X
  obtain ⟨⟨hx, hb, hml, hown, hts⟩, hK, hA, hZ, hfr, hlo, hNC, hNS, rfl, rfl⟩ := C
  intro ad H locs ls g1 g2 g3 g4 g5
  exact lv_lshl hx hb hd hv (k ad H locs ls g1 g2 g3 g4 g5)
theorem J_iushr {X : jK} {cc : ByteArray} {nL : Nat} {own : String} {Ts : List Cond} {cl : List vw_C} {fr lo NC NS : Nat} (C : jX X cc nL own Ts cl fr lo NC NS) {pc : Nat} {lv : Nat → Option Value} {st : List Value} {pw : jW} {nc ns : Nat} {x y v : Int32} (hd : decode cc pc = .ok (.iushr, 1)) (hv : (x.toUInt32 >>> (y.toUInt32 &&& Int32.toUInt32 31)).toInt32 = v) (k : J X (pc + 1) lv (.int v :: st) pw nc ns) : J X pc lv (.int y :: .int x :: st) pw nc ns := by
  obtain ⟨⟨p, l, e, R, s⟩, ⟨m, args, below, meth, c⟩, ⟨nL', D, cl', ty⟩, ⟨A, ad0, n0, Q⟩⟩ := X
  obtain ⟨⟨hx, hb, hml, hown, hts⟩, hK, hA, hZ, hfr, hlo, hNC, hNS, rfl, rfl⟩ := C
  intro ad H locs ls g1 g2 g3 g4 g5
  exact lv_iushr hx hb hd hv (k ad H locs ls g1 g2 g3 g4 g5)
theorem J_ishl {X : jK} {cc : ByteArray} {nL : Nat} {own : String} {Ts : List Cond} {cl : List vw_C} {fr lo NC NS : Nat} (C : jX X cc nL own Ts cl fr lo NC NS) {pc : Nat} {lv : Nat → Option Value} {st : List Value} {pw : jW} {nc ns : Nat} {x y : Int32} (hd : decode cc pc = .ok (.ishl, 1)) (k : J X (pc + 1) lv (.int (x <<< (y &&& 31)) :: st) pw nc ns) : J X pc lv (.int y :: .int x :: st) pw nc ns := by
  obtain ⟨⟨p, l, e, R, s⟩, ⟨m, args, below, meth, c⟩, ⟨nL', D, cl', ty⟩, ⟨A, ad0, n0, Q⟩⟩ := X
  obtain ⟨⟨hx, hb, hml, hown, hts⟩, hK, hA, hZ, hfr, hlo, hNC, hNS, rfl, rfl⟩ := C
  intro ad H locs ls g1 g2 g3 g4 g5
  exact lv_ishl hx hb hd (k ad H locs ls g1 g2 g3 g4 g5)
theorem J_ishr {X : jK} {cc : ByteArray} {nL : Nat} {own : String} {Ts : List Cond} {cl : List vw_C} {fr lo NC NS : Nat} (C : jX X cc nL own Ts cl fr lo NC NS) {pc : Nat} {lv : Nat → Option Value} {st : List Value} {pw : jW} {nc ns : Nat} {x y : Int32} (hd : decode cc pc = .ok (.ishr, 1)) (k : J X (pc + 1) lv (.int (x >>> (y &&& 31)) :: st) pw nc ns) : J X pc lv (.int y :: .int x :: st) pw nc ns := by
  obtain ⟨⟨p, l, e, R, s⟩, ⟨m, args, below, meth, c⟩, ⟨nL', D, cl', ty⟩, ⟨A, ad0, n0, Q⟩⟩ := X
  obtain ⟨⟨hx, hb, hml, hown, hts⟩, hK, hA, hZ, hfr, hlo, hNC, hNS, rfl, rfl⟩ := C
  intro ad H locs ls g1 g2 g3 g4 g5
  exact lv_ishr hx hb hd (k ad H locs ls g1 g2 g3 g4 g5)
theorem J_dup {X : jK} {cc : ByteArray} {nL : Nat} {own : String} {Ts : List Cond} {cl : List vw_C} {fr lo NC NS : Nat} (C : jX X cc nL own Ts cl fr lo NC NS) {pc : Nat} {lv : Nat → Option Value} {st : List Value} {pw : jW} {nc ns : Nat} {v : Value} (hd : decode cc pc = .ok (.dup, 1)) (hv : v.category = 1) (k : J X (pc + 1) lv (v :: v :: st) pw nc ns) : J X pc lv (v :: st) pw nc ns := by
  obtain ⟨⟨p, l, e, R, s⟩, ⟨m, args, below, meth, c⟩, ⟨nL', D, cl', ty⟩, ⟨A, ad0, n0, Q⟩⟩ := X
  obtain ⟨⟨hx, hb, hml, hown, hts⟩, hK, hA, hZ, hfr, hlo, hNC, hNS, rfl, rfl⟩ := C
  intro ad H locs ls g1 g2 g3 g4 g5
  exact lv_dup hx hb hd ((jv_cat ad v).trans hv) (k ad H locs ls g1 g2 g3 g4 g5)
theorem J_pop {X : jK} {cc : ByteArray} {nL : Nat} {own : String} {Ts : List Cond} {cl : List vw_C} {fr lo NC NS : Nat} (C : jX X cc nL own Ts cl fr lo NC NS) {pc : Nat} {lv : Nat → Option Value} {st : List Value} {pw : jW} {nc ns : Nat} {v : Value} (hd : decode cc pc = .ok (.pop, 1)) (hv : v.category = 1) (k : J X (pc + 1) lv st pw nc ns) : J X pc lv (v :: st) pw nc ns := by
  obtain ⟨⟨p, l, e, R, s⟩, ⟨m, args, below, meth, c⟩, ⟨nL', D, cl', ty⟩, ⟨A, ad0, n0, Q⟩⟩ := X
  obtain ⟨⟨hx, hb, hml, hown, hts⟩, hK, hA, hZ, hfr, hlo, hNC, hNS, rfl, rfl⟩ := C
  intro ad H locs ls g1 g2 g3 g4 g5
  exact lv_pop hx hb hd ((jv_cat ad v).trans hv) (k ad H locs ls g1 g2 g3 g4 g5)
theorem J_dup2 {X : jK} {cc : ByteArray} {nL : Nat} {own : String} {Ts : List Cond} {cl : List vw_C} {fr lo NC NS : Nat} (C : jX X cc nL own Ts cl fr lo NC NS) {pc : Nat} {lv : Nat → Option Value} {st : List Value} {pw : jW} {nc ns : Nat} {v w : Value} (hd : decode cc pc = .ok (.dup2, 1)) (hv : v.category = 1) (hw : w.category = 1) (k : J X (pc + 1) lv (v :: w :: v :: w :: st) pw nc ns) : J X pc lv (v :: w :: st) pw nc ns := by
  obtain ⟨⟨p, l, e, R, s⟩, ⟨m, args, below, meth, c⟩, ⟨nL', D, cl', ty⟩, ⟨A, ad0, n0, Q⟩⟩ := X
  obtain ⟨⟨hx, hb, hml, hown, hts⟩, hK, hA, hZ, hfr, hlo, hNC, hNS, rfl, rfl⟩ := C
  intro ad H locs ls g1 g2 g3 g4 g5
  exact lv_dup2_11 hx hb hd ((jv_cat ad v).trans hv) ((jv_cat ad w).trans hw) (k ad H locs ls g1 g2 g3 g4 g5)
theorem J_goto {X : jK} {cc : ByteArray} {nL : Nat} {own : String} {Ts : List Cond} {cl : List vw_C} {fr lo NC NS : Nat} (C : jX X cc nL own Ts cl fr lo NC NS) {pc : Nat} {lv : Nat → Option Value} {st : List Value} {pw : jW} {nc ns : Nat} {off : Int} {tgt : Nat} (hd : decode cc pc = .ok (.goto off, 3)) (ht : (pc : Int) + off = (tgt : Int)) (k : J X tgt lv st pw nc ns) : J X pc lv st pw nc ns := by
  obtain ⟨⟨p, l, e, R, s⟩, ⟨m, args, below, meth, c⟩, ⟨nL', D, cl', ty⟩, ⟨A, ad0, n0, Q⟩⟩ := X
  obtain ⟨⟨hx, hb, hml, hown, hts⟩, hK, hA, hZ, hfr, hlo, hNC, hNS, rfl, rfl⟩ := C
  intro ad H locs ls g1 g2 g3 g4 g5
  exact lv_goto hx hb hd ht (k ad H locs ls g1 g2 g3 g4 g5)
theorem J_if_eq {X : jK} {cc : ByteArray} {nL : Nat} {own : String} {Ts : List Cond} {cl : List vw_C} {fr lo NC NS : Nat} (C : jX X cc nL own Ts cl fr lo NC NS) {pc : Nat} {lv : Nat → Option Value} {st : List Value} {pw : jW} {nc ns : Nat} {x : Int32} {off : Int} {tgt : Nat} (hd : decode cc pc = .ok (.ifCond .eq off, 3)) (ht : (pc : Int) + off = (tgt : Int)) (kt : x = 0 → J X tgt lv st pw nc ns) (kf : ¬ x = 0 → J X (pc + 3) lv st pw nc ns) : J X pc lv (.int x :: st) pw nc ns := by
  obtain ⟨⟨p, l, e, R, s⟩, ⟨m, args, below, meth, c⟩, ⟨nL', D, cl', ty⟩, ⟨A, ad0, n0, Q⟩⟩ := X
  obtain ⟨⟨hx, hb, hml, hown, hts⟩, hK, hA, hZ, hfr, hlo, hNC, hNS, rfl, rfl⟩ := C
  intro ad H locs ls g1 g2 g3 g4 g5
  exact lv_if_eq hx hb hd ht (fun h => kt h ad H locs ls g1 g2 g3 g4 g5) (fun h => kf h ad H locs ls g1 g2 g3 g4 g5)
theorem J_icmp_eq {X : jK} {cc : ByteArray} {nL : Nat} {own : String} {Ts : List Cond} {cl : List vw_C} {fr lo NC NS : Nat} (C : jX X cc nL own Ts cl fr lo NC NS) {pc : Nat} {lv : Nat → Option Value} {st : List Value} {pw : jW} {nc ns : Nat} {x y : Int32} {off : Int} {tgt : Nat} (hd : decode cc pc = .ok (.if_icmp .eq off, 3)) (ht : (pc : Int) + off = (tgt : Int)) (kt : x = y → J X tgt lv st pw nc ns) (kf : ¬ x = y → J X (pc + 3) lv st pw nc ns) : J X pc lv (.int y :: .int x :: st) pw nc ns := by
  obtain ⟨⟨p, l, e, R, s⟩, ⟨m, args, below, meth, c⟩, ⟨nL', D, cl', ty⟩, ⟨A, ad0, n0, Q⟩⟩ := X
  obtain ⟨⟨hx, hb, hml, hown, hts⟩, hK, hA, hZ, hfr, hlo, hNC, hNS, rfl, rfl⟩ := C
  intro ad H locs ls g1 g2 g3 g4 g5
  exact lv_icmp_eq hx hb hd ht (fun h => kt h ad H locs ls g1 g2 g3 g4 g5) (fun h => kf h ad H locs ls g1 g2 g3 g4 g5)
theorem J_if_ne {X : jK} {cc : ByteArray} {nL : Nat} {own : String} {Ts : List Cond} {cl : List vw_C} {fr lo NC NS : Nat} (C : jX X cc nL own Ts cl fr lo NC NS) {pc : Nat} {lv : Nat → Option Value} {st : List Value} {pw : jW} {nc ns : Nat} {x : Int32} {off : Int} {tgt : Nat} (hd : decode cc pc = .ok (.ifCond .ne off, 3)) (ht : (pc : Int) + off = (tgt : Int)) (kt : ¬ x = 0 → J X tgt lv st pw nc ns) (kf : x = 0 → J X (pc + 3) lv st pw nc ns) : J X pc lv (.int x :: st) pw nc ns := by
  obtain ⟨⟨p, l, e, R, s⟩, ⟨m, args, below, meth, c⟩, ⟨nL', D, cl', ty⟩, ⟨A, ad0, n0, Q⟩⟩ := X
  obtain ⟨⟨hx, hb, hml, hown, hts⟩, hK, hA, hZ, hfr, hlo, hNC, hNS, rfl, rfl⟩ := C
  intro ad H locs ls g1 g2 g3 g4 g5
  exact lv_if_ne hx hb hd ht (fun h => kt h ad H locs ls g1 g2 g3 g4 g5) (fun h => kf h ad H locs ls g1 g2 g3 g4 g5)
theorem J_icmp_ne {X : jK} {cc : ByteArray} {nL : Nat} {own : String} {Ts : List Cond} {cl : List vw_C} {fr lo NC NS : Nat} (C : jX X cc nL own Ts cl fr lo NC NS) {pc : Nat} {lv : Nat → Option Value} {st : List Value} {pw : jW} {nc ns : Nat} {x y : Int32} {off : Int} {tgt : Nat} (hd : decode cc pc = .ok (.if_icmp .ne off, 3)) (ht : (pc : Int) + off = (tgt : Int)) (kt : ¬ x = y → J X tgt lv st pw nc ns) (kf : x = y → J X (pc + 3) lv st pw nc ns) : J X pc lv (.int y :: .int x :: st) pw nc ns := by
  obtain ⟨⟨p, l, e, R, s⟩, ⟨m, args, below, meth, c⟩, ⟨nL', D, cl', ty⟩, ⟨A, ad0, n0, Q⟩⟩ := X
  obtain ⟨⟨hx, hb, hml, hown, hts⟩, hK, hA, hZ, hfr, hlo, hNC, hNS, rfl, rfl⟩ := C
  intro ad H locs ls g1 g2 g3 g4 g5
  exact lv_icmp_ne hx hb hd ht (fun h => kt h ad H locs ls g1 g2 g3 g4 g5) (fun h => kf h ad H locs ls g1 g2 g3 g4 g5)
theorem J_if_lt {X : jK} {cc : ByteArray} {nL : Nat} {own : String} {Ts : List Cond} {cl : List vw_C} {fr lo NC NS : Nat} (C : jX X cc nL own Ts cl fr lo NC NS) {pc : Nat} {lv : Nat → Option Value} {st : List Value} {pw : jW} {nc ns : Nat} {x : Int32} {off : Int} {tgt : Nat} (hd : decode cc pc = .ok (.ifCond .lt off, 3)) (ht : (pc : Int) + off = (tgt : Int)) (kt : x < 0 → J X tgt lv st pw nc ns) (kf : ¬ x < 0 → J X (pc + 3) lv st pw nc ns) : J X pc lv (.int x :: st) pw nc ns := by
  obtain ⟨⟨p, l, e, R, s⟩, ⟨m, args, below, meth, c⟩, ⟨nL', D, cl', ty⟩, ⟨A, ad0, n0, Q⟩⟩ := X
  obtain ⟨⟨hx, hb, hml, hown, hts⟩, hK, hA, hZ, hfr, hlo, hNC, hNS, rfl, rfl⟩ := C
  intro ad H locs ls g1 g2 g3 g4 g5
  exact lv_if_lt hx hb hd ht (fun h => kt h ad H locs ls g1 g2 g3 g4 g5) (fun h => kf h ad H locs ls g1 g2 g3 g4 g5)
theorem J_icmp_lt {X : jK} {cc : ByteArray} {nL : Nat} {own : String} {Ts : List Cond} {cl : List vw_C} {fr lo NC NS : Nat} (C : jX X cc nL own Ts cl fr lo NC NS) {pc : Nat} {lv : Nat → Option Value} {st : List Value} {pw : jW} {nc ns : Nat} {x y : Int32} {off : Int} {tgt : Nat} (hd : decode cc pc = .ok (.if_icmp .lt off, 3)) (ht : (pc : Int) + off = (tgt : Int)) (kt : x < y → J X tgt lv st pw nc ns) (kf : ¬ x < y → J X (pc + 3) lv st pw nc ns) : J X pc lv (.int y :: .int x :: st) pw nc ns := by
  obtain ⟨⟨p, l, e, R, s⟩, ⟨m, args, below, meth, c⟩, ⟨nL', D, cl', ty⟩, ⟨A, ad0, n0, Q⟩⟩ := X
  obtain ⟨⟨hx, hb, hml, hown, hts⟩, hK, hA, hZ, hfr, hlo, hNC, hNS, rfl, rfl⟩ := C
  intro ad H locs ls g1 g2 g3 g4 g5
  exact lv_icmp_lt hx hb hd ht (fun h => kt h ad H locs ls g1 g2 g3 g4 g5) (fun h => kf h ad H locs ls g1 g2 g3 g4 g5)
theorem J_if_ge {X : jK} {cc : ByteArray} {nL : Nat} {own : String} {Ts : List Cond} {cl : List vw_C} {fr lo NC NS : Nat} (C : jX X cc nL own Ts cl fr lo NC NS) {pc : Nat} {lv : Nat → Option Value} {st : List Value} {pw : jW} {nc ns : Nat} {x : Int32} {off : Int} {tgt : Nat} (hd : decode cc pc = .ok (.ifCond .ge off, 3)) (ht : (pc : Int) + off = (tgt : Int)) (kt : 0 ≤ x → J X tgt lv st pw nc ns) (kf : ¬ 0 ≤ x → J X (pc + 3) lv st pw nc ns) : J X pc lv (.int x :: st) pw nc ns := by
  obtain ⟨⟨p, l, e, R, s⟩, ⟨m, args, below, meth, c⟩, ⟨nL', D, cl', ty⟩, ⟨A, ad0, n0, Q⟩⟩ := X
  obtain ⟨⟨hx, hb, hml, hown, hts⟩, hK, hA, hZ, hfr, hlo, hNC, hNS, rfl, rfl⟩ := C
  intro ad H locs ls g1 g2 g3 g4 g5
  exact lv_if_ge hx hb hd ht (fun h => kt h ad H locs ls g1 g2 g3 g4 g5) (fun h => kf h ad H locs ls g1 g2 g3 g4 g5)
theorem J_icmp_ge {X : jK} {cc : ByteArray} {nL : Nat} {own : String} {Ts : List Cond} {cl : List vw_C} {fr lo NC NS : Nat} (C : jX X cc nL own Ts cl fr lo NC NS) {pc : Nat} {lv : Nat → Option Value} {st : List Value} {pw : jW} {nc ns : Nat} {x y : Int32} {off : Int} {tgt : Nat} (hd : decode cc pc = .ok (.if_icmp .ge off, 3)) (ht : (pc : Int) + off = (tgt : Int)) (kt : y ≤ x → J X tgt lv st pw nc ns) (kf : ¬ y ≤ x → J X (pc + 3) lv st pw nc ns) : J X pc lv (.int y :: .int x :: st) pw nc ns := by
  obtain ⟨⟨p, l, e, R, s⟩, ⟨m, args, below, meth, c⟩, ⟨nL', D, cl', ty⟩, ⟨A, ad0, n0, Q⟩⟩ := X
  obtain ⟨⟨hx, hb, hml, hown, hts⟩, hK, hA, hZ, hfr, hlo, hNC, hNS, rfl, rfl⟩ := C
  intro ad H locs ls g1 g2 g3 g4 g5
  exact lv_icmp_ge hx hb hd ht (fun h => kt h ad H locs ls g1 g2 g3 g4 g5) (fun h => kf h ad H locs ls g1 g2 g3 g4 g5)
theorem J_if_gt {X : jK} {cc : ByteArray} {nL : Nat} {own : String} {Ts : List Cond} {cl : List vw_C} {fr lo NC NS : Nat} (C : jX X cc nL own Ts cl fr lo NC NS) {pc : Nat} {lv : Nat → Option Value} {st : List Value} {pw : jW} {nc ns : Nat} {x : Int32} {off : Int} {tgt : Nat} (hd : decode cc pc = .ok (.ifCond .gt off, 3)) (ht : (pc : Int) + off = (tgt : Int)) (kt : 0 < x → J X tgt lv st pw nc ns) (kf : ¬ 0 < x → J X (pc + 3) lv st pw nc ns) : J X pc lv (.int x :: st) pw nc ns := by
  obtain ⟨⟨p, l, e, R, s⟩, ⟨m, args, below, meth, c⟩, ⟨nL', D, cl', ty⟩, ⟨A, ad0, n0, Q⟩⟩ := X
  obtain ⟨⟨hx, hb, hml, hown, hts⟩, hK, hA, hZ, hfr, hlo, hNC, hNS, rfl, rfl⟩ := C
  intro ad H locs ls g1 g2 g3 g4 g5
  exact lv_if_gt hx hb hd ht (fun h => kt h ad H locs ls g1 g2 g3 g4 g5) (fun h => kf h ad H locs ls g1 g2 g3 g4 g5)
theorem J_icmp_gt {X : jK} {cc : ByteArray} {nL : Nat} {own : String} {Ts : List Cond} {cl : List vw_C} {fr lo NC NS : Nat} (C : jX X cc nL own Ts cl fr lo NC NS) {pc : Nat} {lv : Nat → Option Value} {st : List Value} {pw : jW} {nc ns : Nat} {x y : Int32} {off : Int} {tgt : Nat} (hd : decode cc pc = .ok (.if_icmp .gt off, 3)) (ht : (pc : Int) + off = (tgt : Int)) (kt : y < x → J X tgt lv st pw nc ns) (kf : ¬ y < x → J X (pc + 3) lv st pw nc ns) : J X pc lv (.int y :: .int x :: st) pw nc ns := by
  obtain ⟨⟨p, l, e, R, s⟩, ⟨m, args, below, meth, c⟩, ⟨nL', D, cl', ty⟩, ⟨A, ad0, n0, Q⟩⟩ := X
  obtain ⟨⟨hx, hb, hml, hown, hts⟩, hK, hA, hZ, hfr, hlo, hNC, hNS, rfl, rfl⟩ := C
  intro ad H locs ls g1 g2 g3 g4 g5
  exact lv_icmp_gt hx hb hd ht (fun h => kt h ad H locs ls g1 g2 g3 g4 g5) (fun h => kf h ad H locs ls g1 g2 g3 g4 g5)
theorem J_if_le {X : jK} {cc : ByteArray} {nL : Nat} {own : String} {Ts : List Cond} {cl : List vw_C} {fr lo NC NS : Nat} (C : jX X cc nL own Ts cl fr lo NC NS) {pc : Nat} {lv : Nat → Option Value} {st : List Value} {pw : jW} {nc ns : Nat} {x : Int32} {off : Int} {tgt : Nat} (hd : decode cc pc = .ok (.ifCond .le off, 3)) (ht : (pc : Int) + off = (tgt : Int)) (kt : x ≤ 0 → J X tgt lv st pw nc ns) (kf : ¬ x ≤ 0 → J X (pc + 3) lv st pw nc ns) : J X pc lv (.int x :: st) pw nc ns := by
  obtain ⟨⟨p, l, e, R, s⟩, ⟨m, args, below, meth, c⟩, ⟨nL', D, cl', ty⟩, ⟨A, ad0, n0, Q⟩⟩ := X
  obtain ⟨⟨hx, hb, hml, hown, hts⟩, hK, hA, hZ, hfr, hlo, hNC, hNS, rfl, rfl⟩ := C
  intro ad H locs ls g1 g2 g3 g4 g5
  exact lv_if_le hx hb hd ht (fun h => kt h ad H locs ls g1 g2 g3 g4 g5) (fun h => kf h ad H locs ls g1 g2 g3 g4 g5)
theorem J_icmp_le {X : jK} {cc : ByteArray} {nL : Nat} {own : String} {Ts : List Cond} {cl : List vw_C} {fr lo NC NS : Nat} (C : jX X cc nL own Ts cl fr lo NC NS) {pc : Nat} {lv : Nat → Option Value} {st : List Value} {pw : jW} {nc ns : Nat} {x y : Int32} {off : Int} {tgt : Nat} (hd : decode cc pc = .ok (.if_icmp .le off, 3)) (ht : (pc : Int) + off = (tgt : Int)) (kt : x ≤ y → J X tgt lv st pw nc ns) (kf : ¬ x ≤ y → J X (pc + 3) lv st pw nc ns) : J X pc lv (.int y :: .int x :: st) pw nc ns := by
  obtain ⟨⟨p, l, e, R, s⟩, ⟨m, args, below, meth, c⟩, ⟨nL', D, cl', ty⟩, ⟨A, ad0, n0, Q⟩⟩ := X
  obtain ⟨⟨hx, hb, hml, hown, hts⟩, hK, hA, hZ, hfr, hlo, hNC, hNS, rfl, rfl⟩ := C
  intro ad H locs ls g1 g2 g3 g4 g5
  exact lv_icmp_le hx hb hd ht (fun h => kt h ad H locs ls g1 g2 g3 g4 g5) (fun h => kf h ad H locs ls g1 g2 g3 g4 g5)
theorem J_get {X : jK} {cc : ByteArray} {nL : Nat} {own : String} {Ts : List Cond} {cl : List vw_C} {fr lo NC NS : Nat} (C : jX X cc nL own Ts cl fr lo NC NS) {pc : Nat} {lv : Nat → Option Value} {st : List Value} {pw : jW} {nc ns : Nat} {index ci i k N : Nat} {K : String} {T : u_T} {fs : List Value} {v : Value} (hd : decode cc pc = .ok (.getfield index, 3)) (hin : ∀ w ∈ u_ws K T N, w ∈ Ts) (hc : cl[ci]? = some (K, T, N)) (hlink : Cond.fieldLink own index (T k).1 (T k).2.1 (T k).2.2.1 ∈ Ts) (hk : k < N) (hw : pw[i]? = some (.inr (ci, fs))) (hv : fs[k]? = some v) (kk : J X (pc + 3) lv (v :: st) pw nc ns) : J X pc lv (.ref i :: st) pw nc ns := by
  obtain ⟨⟨p, l, e, R, s⟩, ⟨m, args, below, meth, c⟩, ⟨nL', D, cl', ty⟩, ⟨A, ad0, n0, Q⟩⟩ := X
  obtain ⟨⟨hx, hb, hml, hown, hts⟩, hK, hA, hZ, hfr, hlo, hNC, hNS, rfl, rfl⟩ := C
  intro ad H locs ls g1 g2 g3 g4 g5
  exact va_get hx hb hts hin hown hK g2 i (jr_at hw) hc k hk (hts _ hlink) (fun _ h9 => h9) (v := jv ad v) (by rw [List.getElem?_map, hv]; rfl) hd (kk ad H locs ls g1 g2 g3 g4 g5)
theorem J_put {X : jK} {cc : ByteArray} {nL : Nat} {own : String} {Ts : List Cond} {cl : List vw_C} {fr lo NC NS : Nat} (C : jX X cc nL own Ts cl fr lo NC NS) {pc : Nat} {lv : Nat → Option Value} {st : List Value} {pw : jW} {nc ns : Nat} {index ci i N : Nat} {K : String} {T : u_T} {fs : List Value} {v : Value} {t : FieldType} (k : Nat) (ty0 : Nat → FieldType) (hty : ∀ k, k < N → parseFieldDescriptor (T k).2.2.1 = some (ty0 k)) (hnm : ∀ a, a < N → ∀ b, b < N → a ≠ b → (T a).2.1 ≠ (T b).2.1) (hd : decode cc pc = .ok (.putfield index, 3)) (hin : ∀ w ∈ u_ws K T N, w ∈ Ts) (hc : cl[ci]? = some (K, T, N)) (hlink : Cond.fieldLink own index (T k).1 (T k).2.1 (T k).2.2.1 ∈ Ts) (hk : k < N) (hfin : (T k).2.2.2 = false) (hdt : parseFieldDescriptor (T k).2.2.1 = some t) (hn : ∀ ad, narrow t (jv ad v) = jv ad v) (hfit : ∀ ad, fits t (jv ad v) = true) (hw : pw[i]? = some (.inr (ci, fs))) (hl : k < fs.length) (kk : J X (pc + 3) lv st (pw.set i (.inr (ci, fs.set k v))) nc ns) : J X pc lv (v :: .ref i :: st) pw nc ns := by
  obtain ⟨⟨p, l, e, R, s⟩, ⟨m, args, below, meth, c⟩, ⟨nL', D, cl', ty⟩, ⟨A, ad0, n0, Q⟩⟩ := X
  obtain ⟨⟨hx, hb, hml, hown, hts⟩, hK, hA, hZ, hfr, hlo, hNC, hNS, rfl, rfl⟩ := C
  intro ad H locs ls g1 g2 g3 g4 g5
  refine va_put hx hb hts hin ty0 hty hnm hown hK g2 g3 g4 i (jr_at hw) hc k hk (hts _ hlink) (fun _ h9 => h9) hfin hdt (v := jv ad v) (hn ad) (hfit ad) (by rw [List.length_map]; exact hl) hd (fun H1 locs1 a1 a2 a3 => ?_)
  have e1 : (ad i, (Sum.inr (ci, (fs.map (jv ad)).set k (jv ad v)) : va_E)) = (ad i, jc ty ad (.inr (ci, fs.set k v))) := by rw [← List.map_set]; rfl
  rw [e1, jr_set] at a1 a2
  exact kk ad H1 locs1 ls g1 a1 a2 a3 g5
theorem J_iald {X : jK} {cc : ByteArray} {nL : Nat} {own : String} {Ts : List Cond} {cl : List vw_C} {fr lo NC NS : Nat} (C : jX X cc nL own Ts cl fr lo NC NS) {pc : Nat} {lv : Nat → Option Value} {st : List Value} {pw : jW} {nc ns : Nat} {i n : Nat} {f : Nat → Int32} {x : Int32} (hd : decode cc pc = .ok (.iaload, 1)) (hw : pw[i]? = some (.inl (.int, n, .inl f))) (hi : vp_in x n) (kk : J X (pc + 1) lv (.int (f x.toNatClampNeg) :: st) pw nc ns) : J X pc lv (.int x :: .ref i :: st) pw nc ns := by
  obtain ⟨⟨p, l, e, R, s⟩, ⟨m, args, below, meth, c⟩, ⟨nL', D, cl', ty⟩, ⟨A, ad0, n0, Q⟩⟩ := X
  obtain ⟨⟨hx, hb, hml, hown, hts⟩, hK, hA, hZ, hfr, hlo, hNC, hNS, rfl, rfl⟩ := C
  intro ad H locs ls g1 g2 g3 g4 g5
  exact va_iald hx hb hK g2 i 0 (jr_at hw) rfl hi hd (kk ad H locs ls g1 g2 g3 g4 g5)
theorem J_iast {X : jK} {cc : ByteArray} {nL : Nat} {own : String} {Ts : List Cond} {cl : List vw_C} {fr lo NC NS : Nat} (C : jX X cc nL own Ts cl fr lo NC NS) {pc : Nat} {lv : Nat → Option Value} {st : List Value} {pw : jW} {nc ns : Nat} {i n : Nat} {f : Nat → Int32} {j : Int32} {x : Int32} (hd : decode cc pc = .ok (.iastore, 1)) (hw : pw[i]? = some (.inl (.int, n, .inl f))) (hi : vp_in j n) (kk : J X (pc + 1) lv st (pw.set i (.inl (.int, n, .inl (upd f j.toNatClampNeg x)))) nc ns) : J X pc lv (.int x :: .int j :: .ref i :: st) pw nc ns := by
  obtain ⟨⟨p, l, e, R, s⟩, ⟨m, args, below, meth, c⟩, ⟨nL', D, cl', ty⟩, ⟨A, ad0, n0, Q⟩⟩ := X
  obtain ⟨⟨hx, hb, hml, hown, hts⟩, hK, hA, hZ, hfr, hlo, hNC, hNS, rfl, rfl⟩ := C
  intro ad H locs ls g1 g2 g3 g4 g5
  refine va_iast hx hb hK g2 g3 g4 i 0 (jr_at hw) rfl hi hd (fun H1 locs1 a1 a2 a3 => ?_)
  have e1 := jr_set ty ad pw i (.inl (.int, n, .inl (upd f j.toNatClampNeg x)))
  exact kk ad H1 locs1 ls g1 (e1 ▸ a1) (e1 ▸ a2) a3 g5
theorem J_bald {X : jK} {cc : ByteArray} {nL : Nat} {own : String} {Ts : List Cond} {cl : List vw_C} {fr lo NC NS : Nat} (C : jX X cc nL own Ts cl fr lo NC NS) {pc : Nat} {lv : Nat → Option Value} {st : List Value} {pw : jW} {nc ns : Nat} {i n : Nat} {f : Nat → Int32} {x : Int32} (hd : decode cc pc = .ok (.baload, 1)) (hw : pw[i]? = some (.inl (.byte, n, .inl f))) (hi : vp_in x n) (kk : J X (pc + 1) lv (.int (f x.toNatClampNeg) :: st) pw nc ns) : J X pc lv (.int x :: .ref i :: st) pw nc ns := by
  obtain ⟨⟨p, l, e, R, s⟩, ⟨m, args, below, meth, c⟩, ⟨nL', D, cl', ty⟩, ⟨A, ad0, n0, Q⟩⟩ := X
  obtain ⟨⟨hx, hb, hml, hown, hts⟩, hK, hA, hZ, hfr, hlo, hNC, hNS, rfl, rfl⟩ := C
  intro ad H locs ls g1 g2 g3 g4 g5
  exact va_bald hx hb hK g2 i 2 (jr_at hw) rfl hi hd (kk ad H locs ls g1 g2 g3 g4 g5)
theorem J_bast {X : jK} {cc : ByteArray} {nL : Nat} {own : String} {Ts : List Cond} {cl : List vw_C} {fr lo NC NS : Nat} (C : jX X cc nL own Ts cl fr lo NC NS) {pc : Nat} {lv : Nat → Option Value} {st : List Value} {pw : jW} {nc ns : Nat} {i n : Nat} {f : Nat → Int32} {j : Int32} {x : Int32} (hd : decode cc pc = .ok (.bastore, 1)) (hw : pw[i]? = some (.inl (.byte, n, .inl f))) (hi : vp_in j n) (kk : J X (pc + 1) lv st (pw.set i (.inl (.byte, n, .inl (upd f j.toNatClampNeg (vp_nar .byte x))))) nc ns) : J X pc lv (.int x :: .int j :: .ref i :: st) pw nc ns := by
  obtain ⟨⟨p, l, e, R, s⟩, ⟨m, args, below, meth, c⟩, ⟨nL', D, cl', ty⟩, ⟨A, ad0, n0, Q⟩⟩ := X
  obtain ⟨⟨hx, hb, hml, hown, hts⟩, hK, hA, hZ, hfr, hlo, hNC, hNS, rfl, rfl⟩ := C
  intro ad H locs ls g1 g2 g3 g4 g5
  refine va_bast hx hb hK g2 g3 g4 i 2 (jr_at hw) rfl hi hd (fun H1 locs1 a1 a2 a3 => ?_)
  have e1 := jr_set ty ad pw i (.inl (.byte, n, .inl (upd f j.toNatClampNeg (vp_nar .byte x))))
  exact kk ad H1 locs1 ls g1 (e1 ▸ a1) (e1 ▸ a2) a3 g5
theorem J_lald {X : jK} {cc : ByteArray} {nL : Nat} {own : String} {Ts : List Cond} {cl : List vw_C} {fr lo NC NS : Nat} (C : jX X cc nL own Ts cl fr lo NC NS) {pc : Nat} {lv : Nat → Option Value} {st : List Value} {pw : jW} {nc ns : Nat} {i n : Nat} {f : Nat → Int64} {x : Int32} (hd : decode cc pc = .ok (.laload, 1)) (hw : pw[i]? = some (.inl (.long, n, .inr (.inl f)))) (hi : vp_in x n) (kk : J X (pc + 1) lv (.long (f x.toNatClampNeg) :: st) pw nc ns) : J X pc lv (.int x :: .ref i :: st) pw nc ns := by
  obtain ⟨⟨p, l, e, R, s⟩, ⟨m, args, below, meth, c⟩, ⟨nL', D, cl', ty⟩, ⟨A, ad0, n0, Q⟩⟩ := X
  obtain ⟨⟨hx, hb, hml, hown, hts⟩, hK, hA, hZ, hfr, hlo, hNC, hNS, rfl, rfl⟩ := C
  intro ad H locs ls g1 g2 g3 g4 g5
  exact va_lald hx hb hK g2 i 1 (jr_at hw) rfl hi hd (kk ad H locs ls g1 g2 g3 g4 g5)
theorem J_last {X : jK} {cc : ByteArray} {nL : Nat} {own : String} {Ts : List Cond} {cl : List vw_C} {fr lo NC NS : Nat} (C : jX X cc nL own Ts cl fr lo NC NS) {pc : Nat} {lv : Nat → Option Value} {st : List Value} {pw : jW} {nc ns : Nat} {i n : Nat} {f : Nat → Int64} {j : Int32} {x : Int64} (hd : decode cc pc = .ok (.lastore, 1)) (hw : pw[i]? = some (.inl (.long, n, .inr (.inl f)))) (hi : vp_in j n) (kk : J X (pc + 1) lv st (pw.set i (.inl (.long, n, .inr (.inl (vp_updL f j.toNatClampNeg x))))) nc ns) : J X pc lv (.long x :: .int j :: .ref i :: st) pw nc ns := by
  obtain ⟨⟨p, l, e, R, s⟩, ⟨m, args, below, meth, c⟩, ⟨nL', D, cl', ty⟩, ⟨A, ad0, n0, Q⟩⟩ := X
  obtain ⟨⟨hx, hb, hml, hown, hts⟩, hK, hA, hZ, hfr, hlo, hNC, hNS, rfl, rfl⟩ := C
  intro ad H locs ls g1 g2 g3 g4 g5
  refine va_last hx hb hK g2 g3 g4 i 1 (jr_at hw) rfl hi hd (fun H1 locs1 a1 a2 a3 => ?_)
  have e1 := jr_set ty ad pw i (.inl (.long, n, .inr (.inl (vp_updL f j.toNatClampNeg x))))
  exact kk ad H1 locs1 ls g1 (e1 ▸ a1) (e1 ▸ a2) a3 g5
theorem J_alen {X : jK} {cc : ByteArray} {nL : Nat} {own : String} {Ts : List Cond} {cl : List vw_C} {fr lo NC NS : Nat} (C : jX X cc nL own Ts cl fr lo NC NS) {pc : Nat} {lv : Nat → Option Value} {st : List Value} {pw : jW} {nc ns : Nat} {i n : Nat} {f : Nat → Int32} {v : Int32} (hd : decode cc pc = .ok (.arraylength, 1)) (hw : pw[i]? = some (.inl (.int, n, .inl f))) (hv : Int32.ofNat n = v) (kk : J X (pc + 1) lv (.int v :: st) pw nc ns) : J X pc lv (.ref i :: st) pw nc ns := by
  obtain ⟨⟨p, l, e, R, s⟩, ⟨m, args, below, meth, c⟩, ⟨nL', D, cl', ty⟩, ⟨A, ad0, n0, Q⟩⟩ := X
  obtain ⟨⟨hx, hb, hml, hown, hts⟩, hK, hA, hZ, hfr, hlo, hNC, hNS, rfl, rfl⟩ := C
  intro ad H locs ls g1 g2 g3 g4 g5
  exact va_alen hx hb hK g2 i 0 (jr_at hw) rfl hv hd (kk ad H locs ls g1 g2 g3 g4 g5)
theorem J_topi {X : jK} {pc : Nat} {lv : Nat → Option Value} {st : List Value} {pw : jW} {nc ns : Nat} {x : Int32} (k : ∀ y : Int32, y = x → J X pc lv (.int y :: st) pw nc ns) : J X pc lv (.int x :: st) pw nc ns := k x rfl
theorem J_topl {X : jK} {pc : Nat} {lv : Nat → Option Value} {st : List Value} {pw : jW} {nc ns : Nat} {x : Int64} (k : ∀ y : Int64, y = x → J X pc lv (.long y :: st) pw nc ns) : J X pc lv (.long x :: st) pw nc ns := k x rfl
theorem J_widen {X : jK} {pc : Nat} {lv : Nat → Option Value} {st : List Value} {pw : jW} {nc ns nc' ns' : Nat} (h1 : nc ≤ nc') (h2 : ns ≤ ns') (k : J X pc lv st pw nc' ns') : J X pc lv st pw nc ns := by
  obtain ⟨⟨p, l, e, R, s⟩, ⟨m, args, below, meth, c⟩, ⟨nL', D, cl', ty⟩, ⟨A, ad0, n0, Q⟩⟩ := X
  intro ad H locs ls g1 g2 g3 g4 g5
  exact W.widen h1 h2 (k ad H locs ls g1 g2 g3 g4 g5)
theorem J_lv {X : jK} {pc : Nat} {lv lv' : Nat → Option Value} {st : List Value} {pw : jW} {nc ns : Nat} (h : ∀ i v, lv' i = some v → lv i = some v) (k : J X pc lv' st pw nc ns) : J X pc lv st pw nc ns := by
  obtain ⟨⟨p, l, e, R, s⟩, ⟨m, args, below, meth, c⟩, ⟨nL', D, cl', ty⟩, ⟨A, ad0, n0, Q⟩⟩ := X
  intro ad H locs ls g1 g2 g3 g4 g5
  exact k ad H locs ls g1 g2 g3 g4 ⟨g5.1, g5.2.1, fun i v hv => g5.2.2 i v (h i v hv)⟩

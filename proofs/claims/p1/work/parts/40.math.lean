theorem kn_L1 {b W top v1 vl u2 u1 u0 ul : Nat} (h1 : u0 < b) (h2 : ul < W) (ht : 0 < top) :
    ul + u0 * W + (u2 * b + u1) * (b * W) < ((u2 * b + u1) / top + 1) * (vl + v1 * W + top * (b * W)) := by
  generalize u2 * b + u1 = high
  generalize hg : high / top = g
  have a1 : high + 1 ≤ (g + 1) * top := by
    have := Nat.lt_mul_div_succ high ht
    rw [hg] at this
    rw [Nat.mul_comm]; omega
  have a2 : (high + 1) * (b * W) ≤ (g + 1) * top * (b * W) := Nat.mul_le_mul_right _ a1
  have a3 : (u0 + 1) * W ≤ b * W := Nat.mul_le_mul_right _ h1
  rw [Nat.mul_add, Nat.mul_add, ← Nat.mul_assoc (g + 1) top (b * W)]
  rw [Nat.add_mul, Nat.one_mul] at a2 a3
  generalize (g + 1) * top * (b * W) = q1 at *
  generalize (g + 1) * vl = q2 at *
  generalize (g + 1) * (v1 * W) = q3 at *
  generalize b * W = q4 at *
  generalize u0 * W = q5 at *
  generalize high * q4 = q6 at *
  omega
theorem kn_L2 {b W top v1 vl u0 ul high g left : Nat} (h2 : ul < W) (hl : left + g * top = high) (h : left * b + u0 < g * v1) :
    ul + u0 * W + high * (b * W) < g * (vl + v1 * W + top * (b * W)) := by
  have a1 : (left * b + u0 + 1) * W ≤ g * v1 * W := Nat.mul_le_mul_right _ h
  subst hl
  rw [Nat.mul_add, Nat.mul_add, ← Nat.mul_assoc g top (b * W), ← Nat.mul_assoc g v1 W, Nat.add_mul left]
  rw [Nat.add_mul, Nat.add_mul, Nat.one_mul, Nat.mul_assoc left b W] at a1
  generalize g * top * (b * W) = q1 at *
  generalize g * vl = q2 at *
  generalize g * v1 * W = q3 at *
  generalize left * (b * W) = q4 at *
  generalize u0 * W = q5 at *
  omega
theorem kn_L4 {b W top v1 vl u0 ul high g left : Nat} (hv : v1 < b) (hvl : vl < W) (ht : 0 < top) (hg : g < b) (hl : left + g * top = high) (h : g * v1 ≤ left * b + u0 ∨ b ≤ left) :
    g * (vl + v1 * W + top * (b * W)) < (ul + u0 * W + high * (b * W)) + (vl + v1 * W + top * (b * W)) := by
  have h' : g * v1 ≤ left * b + u0 := by
    rcases h with h | h
    · exact h
    · have a1 : g * v1 ≤ b * b := Nat.mul_le_mul (Nat.le_of_lt hg) (Nat.le_of_lt hv)
      have a2 : b * b ≤ left * b := Nat.mul_le_mul_right _ h
      omega
  have a1 : g * v1 * W ≤ (left * b + u0) * W := Nat.mul_le_mul_right _ h'
  have a2 : g * vl ≤ g * W := Nat.mul_le_mul_left _ (Nat.le_of_lt hvl)
  have a3 : (g + 1) * W ≤ b * W := Nat.mul_le_mul_right _ hg
  have a4 : 1 * (b * W) ≤ top * (b * W) := Nat.mul_le_mul_right _ ht
  subst hl
  rw [Nat.mul_add, Nat.mul_add, ← Nat.mul_assoc g top (b * W), ← Nat.mul_assoc g v1 W, Nat.add_mul left]
  rw [Nat.add_mul, Nat.mul_assoc left b W] at a1
  rw [Nat.add_mul, Nat.one_mul] at a3
  rw [Nat.one_mul] at a4
  have hW : 0 < W := by omega
  generalize g * top * (b * W) = q1 at *
  generalize g * vl = q2 at *
  generalize g * v1 * W = q3 at *
  generalize left * (b * W) = q4 at *
  generalize u0 * W = q5 at *
  generalize g * W = q6 at *
  generalize top * (b * W) = q7 at *
  generalize b * W = q8 at *
  generalize v1 * W = q9 at *
  omega
theorem kn_L5a {X V U Ul un g cr R : Nat} (hV : V < X) (h1 : U < (g + 1) * V) (hU : U = Ul + un * X) (hR : R + g * V = Ul + cr * X) (h : cr ≤ un) : cr = un ∧ R < V ∧ U = g * V + R := by
  obtain ⟨d, rfl⟩ := Nat.exists_eq_add_of_le h
  rw [Nat.add_mul, Nat.one_mul] at h1
  rw [Nat.add_mul] at hU
  have hd : d = 0 := by
    rcases Nat.eq_zero_or_pos d with e | e
    · exact e
    · have : 1 * X ≤ d * X := Nat.mul_le_mul_right _ e
      rw [Nat.one_mul] at this
      generalize d * X = q1 at *
      generalize cr * X = q2 at *
      generalize g * V = q3 at *
      omega
  subst hd
  rw [Nat.zero_mul] at hU
  generalize cr * X = q2 at *
  generalize g * V = q3 at *
  omega
theorem kn_L5b {X V U Ul un g cr R : Nat} (hV : V < X) (hRX : R < X) (h1 : g * V < U + V) (hU : U = Ul + un * X) (hR : R + g * V = Ul + cr * X) (h : un < cr) : cr = un + 1 ∧ X ≤ R + V ∧ R + V - X < V ∧ 1 ≤ g ∧ U + X = g * V + R := by
  obtain ⟨d, rfl⟩ := Nat.exists_eq_add_of_lt h
  have e : (un + d + 1) * X = un * X + d * X + X := by rw [Nat.add_mul, Nat.add_mul, Nat.one_mul]
  rw [e] at hR
  have hd : d = 0 := by
    rcases Nat.eq_zero_or_pos d with e | e
    · exact e
    · have : 1 * X ≤ d * X := Nat.mul_le_mul_right _ e
      rw [Nat.one_mul] at this
      generalize d * X = q1 at *
      generalize un * X = q2 at *
      generalize g * V = q3 at *
      omega
  subst hd
  rw [Nat.zero_mul] at hR
  have hg : 1 ≤ g := by
    rcases Nat.eq_zero_or_pos g with e | e
    · subst e
      rw [Nat.zero_mul] at hR
      generalize un * X = q2 at *
      omega
    · exact e
  generalize un * X = q2 at *
  generalize g * V = q3 at *
  omega
-- the factor
theorem kn_fac {b t : Nat} (hb : 2 * (b / 2) = b) (ht : 0 < t) (htb : t < b) : 0 < b / (t + 1) ∧ b / (t + 1) * (t + 1) ≤ b ∧ b ≤ 2 * (t * (b / (t + 1))) := by
  have h1 : b / (t + 1) * (t + 1) ≤ b := Nat.div_mul_le_self _ _
  have h2 : b < (t + 1) * (b / (t + 1) + 1) := Nat.lt_mul_div_succ b (by omega)
  have h3 : 0 < b / (t + 1) := Nat.div_pos (by omega) (by omega)
  refine ⟨h3, h1, ?_⟩
  generalize b / (t + 1) = f at *
  obtain ⟨t', rfl⟩ := Nat.exists_eq_add_of_lt ht
  obtain ⟨f', rfl⟩ := Nat.exists_eq_add_of_lt h3
  simp only [Nat.zero_add] at *
  have e1 : (t' + 1) * (f' + 1) = t' * f' + t' + f' + 1 := by
    rw [Nat.add_mul, Nat.mul_add]; omega
  have e2 : (t' + 1 + 1) * (f' + 1 + 1) = t' * f' + 2 * t' + 2 * f' + 4 := by
    rw [Nat.add_mul, Nat.mul_add, Nat.add_mul, Nat.mul_add]; omega
  rw [e1]
  rw [e2] at h2
  generalize t' * f' = q at *
  omega
/-! ROWS IN THE NORMAL FORM: ints are nI .., longs lN .. -/
theorem lN_ne0 {n : Nat} (h0 : 0 < n) (h : n < 2 ^ 63) : ¬ lN n = 0 := fun e => by
  have := (pk_lEQ h (show 0 < 2 ^ 63 by decide)).mp (e.trans (show (0 : Int64) = lN 0 from rfl))
  omega
theorem nI_shr1N {k : Nat} (h : k < 2 ^ 31) : nI k >>> (nI 1 &&& 31) = nI (k / 2) := nI_shr1 h
theorem nI_z {a : Nat} (h : a < 2 ^ 31) : nI a = 0 ↔ a = 0 := nI_eq (b := 0) h (by decide)
theorem nI_lt0 {a : Nat} (h : a < 2 ^ 31) : nI a < 0 ↔ False := ⟨fun q => nI_pos h q, False.elim⟩
theorem nI_ge0 {a : Nat} (h : a < 2 ^ 31) : 0 ≤ nI a ↔ True := ⟨fun _ => trivial, fun _ => nI_pos' h⟩
theorem nI_gt0 {a : Nat} (h : a < 2 ^ 31) : 0 < nI a ↔ 0 < a := nI_ltI (a := 0) (by decide) h
theorem nI_le0 {a : Nat} (h : a < 2 ^ 31) : nI a ≤ 0 ↔ a = 0 := (nI_leI (b := 0) h (by decide)).trans ⟨fun q => by omega, fun q => by omega⟩
theorem J_ialdN {X : jK} {cc : ByteArray} {nL : Nat} {own : String} {Ts : List Cond} {cl : List vw_C} {fr lo NC NS : Nat} (C : jX X cc nL own Ts cl fr lo NC NS) {pc : Nat} {lv : Nat → Option Value} {st : List Value} {pw : jW} {nc ns : Nat} {i n k : Nat} {f : Nat → Int32} {y : Int32} (hd : decode cc pc = .ok (.iaload, 1)) (hw : pw[i]? = some (.inl (.int, n, .inl f))) (hk : k < n) (hn : n < 2 ^ 31) (hy : f k = y) (kk : J X (pc + 1) lv (.int y :: st) pw nc ns) : J X pc lv (.int (nI k) :: .ref i :: st) pw nc ns :=
  J_iald C hd hw (vp_in_nI hk hn) (by rw [nI_clamp (by omega), hy]; exact kk)
theorem J_iastN {X : jK} {cc : ByteArray} {nL : Nat} {own : String} {Ts : List Cond} {cl : List vw_C} {fr lo NC NS : Nat} (C : jX X cc nL own Ts cl fr lo NC NS) {pc : Nat} {lv : Nat → Option Value} {st : List Value} {pw : jW} {nc ns : Nat} {i n k : Nat} {f : Nat → Int32} {x : Int32} (hd : decode cc pc = .ok (.iastore, 1)) (hw : pw[i]? = some (.inl (.int, n, .inl f))) (hk : k < n) (hn : n < 2 ^ 31) (kk : J X (pc + 1) lv st (pw.set i (.inl (.int, n, .inl (upd f k x)))) nc ns) : J X pc lv (.int x :: .int (nI k) :: .ref i :: st) pw nc ns :=
  J_iast C hd hw (vp_in_nI hk hn) (by rw [nI_clamp (by omega)]; exact kk)
/-! LIMBS -/
def dg (f : Nat → Int32) (j : Nat) : Nat := (f j).toNatClampNeg
/-- the n cells from p on are limbs -/
def lm (f : Nat → Int32) (p n : Nat) : Prop := ∀ k, k < n → f (p + k) = nI (dg f (p + k)) ∧ dg f (p + k) < 1000000000
/-- what they are worth -/
def vN (f : Nat → Int32) (p : Nat) : Nat → Nat
  | 0 => 0
  | n + 1 => vN f p n + dg f (p + n) * 1000000000 ^ n
theorem dg_of {f : Nat → Int32} {j d : Nat} (h : f j = nI d) (hd : d < 2 ^ 31) : dg f j = d := by
  unfold dg; rw [h, nI_clamp hd]
theorem lm_of {f : Nat → Int32} {j d : Nat} (h : f j = nI d) (hd : d < 1000000000) : f j = nI (dg f j) ∧ dg f j < 1000000000 := by
  rw [dg_of h (by omega)]; exact ⟨h, hd⟩
theorem dg_eq {f g : Nat → Int32} {j : Nat} (h : g j = f j) : dg g j = dg f j := by unfold dg; rw [h]
theorem vN_lt {f : Nat → Int32} {p : Nat} : ∀ {n : Nat}, lm f p n → vN f p n < 1000000000 ^ n
  | 0, _ => Nat.zero_lt_one
  | n + 1, h => by
    have h1 := vN_lt (n := n) (fun k hk => h k (by omega))
    have h2 := (h n (by omega)).2
    have h3 : (dg f (p + n) + 1) * 1000000000 ^ n ≤ 1000000000 * 1000000000 ^ n := Nat.mul_le_mul_right _ h2
    show vN f p n + dg f (p + n) * 1000000000 ^ n < _
    rw [Nat.pow_succ, Nat.mul_comm (1000000000 ^ n)]
    rw [Nat.add_mul, Nat.one_mul] at h3
    omega
theorem vN_eq {f g : Nat → Int32} {p : Nat} : ∀ {n : Nat}, (∀ k, k < n → g (p + k) = f (p + k)) → vN g p n = vN f p n
  | 0, _ => rfl
  | n + 1, h => by
    show vN g p n + dg g (p + n) * 1000000000 ^ n = vN f p n + dg f (p + n) * 1000000000 ^ n
    rw [vN_eq (n := n) (fun k hk => h k (by omega)), dg_eq (h n (by omega))]
theorem lm_eq {f g : Nat → Int32} {p n : Nat} (h : ∀ k, k < n → g (p + k) = f (p + k)) (hl : lm f p n) : lm g p n := fun k hk => by
  rw [dg_eq (h k hk), h k hk]; exact hl k hk
theorem lm_le {f : Nat → Int32} {p n m : Nat} (h : lm f p n) (hm : m ≤ n) : lm f p m := fun k hk => h k (by omega)
theorem lm_from {f : Nat → Int32} {p n a m : Nat} (h : lm f p n) (hm : a + m ≤ n) : lm f (p + a) m := fun k hk => by
  have := h (a + k) (by omega)
  rw [Nat.add_assoc]; exact this
/-- one limb more -/
theorem lm_up {f : Nat → Int32} {p n d : Nat} (h : lm f p n) (hd : d < 1000000000) : lm (upd f (p + n) (nI d)) p (n + 1) := fun k hk => by
  by_cases e : k = n
  · subst e
    exact lm_of pk_us hd
  · have := h k (by omega)
    have e2 : upd f (p + n) (nI d) (p + k) = f (p + k) := pk_un (by omega)
    rw [dg_eq e2, e2]; exact this
theorem vN_up {f : Nat → Int32} {p n d : Nat} (hd : d < 1000000000) : vN (upd f (p + n) (nI d)) p (n + 1) = vN f p n + d * 1000000000 ^ n := by
  show vN (upd f (p + n) (nI d)) p n + dg (upd f (p + n) (nI d)) (p + n) * 1000000000 ^ n = _
  rw [vN_eq (f := f) (fun k hk => pk_un (by omega)), dg_of pk_us (by omega)]
theorem lm_un {f : Nat → Int32} {p n j : Nat} {x : Int32} (h : lm f p n) (hj : j < p ∨ p + n ≤ j) : lm (upd f j x) p n := lm_eq (fun k hk => pk_un (by omega)) h
theorem vN_un {f : Nat → Int32} {p n j : Nat} {x : Int32} (hj : j < p ∨ p + n ≤ j) : vN (upd f j x) p n = vN f p n := vN_eq (fun k hk => pk_un (by omega))
/-- vN with its two highest limbs apart -/
theorem vN_2 (f : Nat → Int32) (p n : Nat) : vN f p (n + 2) = vN f p n + dg f (p + n) * 1000000000 ^ n + dg f (p + (n + 1)) * (1000000000 * 1000000000 ^ n) := by
  show vN f p n + dg f (p + n) * 1000000000 ^ n + dg f (p + (n + 1)) * 1000000000 ^ (n + 1) = _
  rw [Nat.pow_succ, Nat.mul_comm (1000000000 ^ n)]
/-- vN with its three highest limbs apart, the two first together -/
theorem vN_3 (f : Nat → Int32) (p n : Nat) : vN f p (n + 3) = vN f p n + dg f (p + n) * 1000000000 ^ n + (dg f (p + (n + 2)) * 1000000000 + dg f (p + (n + 1))) * (1000000000 * 1000000000 ^ n) := by
  show vN f p (n + 2) + dg f (p + (n + 2)) * 1000000000 ^ (n + 2) = _
  rw [vN_2, Nat.pow_succ, Nat.pow_succ, Nat.add_mul, Nat.mul_assoc (dg f (p + (n + 2))), show 1000000000 ^ n * 1000000000 * 1000000000 = 1000000000 * (1000000000 * 1000000000 ^ n) by omega]
  omega
/-! a NUMBER: its first cell is nI k (twice its limbs, and the sign), at most three limbs; of two or more the highest is not 0 -/
def sh (f : Nat → Int32) (p k : Nat) : Prop := f p = nI k ∧ k < 8 ∧ (k / 2 = 0 → k = 0) ∧ lm f (p + 1) (k / 2) ∧ (1 < k / 2 → 0 < dg f (p + k / 2))
theorem sh_eq {f g : Nat → Int32} {p k : Nat} (h : sh f p k) (he : ∀ j, p ≤ j → j ≤ p + k / 2 → g j = f j) : sh g p k := by
  obtain ⟨h1, h2, h3, h4, h5⟩ := h
  refine ⟨by rw [he p (by omega) (by omega)]; exact h1, h2, h3, lm_eq (fun i hi => he _ (by omega) (by omega)) h4, fun q => ?_⟩
  rw [dg_eq (he _ (by omega) (by omega))]; exact h5 q
/-- what closed() leaves -/
theorem trimN_ne {f : Nat → Int32} {p : Nat} : ∀ {n : Nat}, 0 < trimN f p n → f (p + trimN f p n) ≠ 0
  | 0, h => absurd h (Nat.lt_irrefl 0)
  | n + 1, h => by
    unfold trimN at h ⊢
    by_cases e : f (p + (n + 1)) = 0
    · rw [if_pos e] at h ⊢; exact trimN_ne h
    · rw [if_neg e]; exact e
theorem headN_nI {k b : Nat} (hb : b < 2) (hk : k < 4) : ∃ h : Nat, headN k (nI b) = nI h ∧ h / 2 = k ∧ h < 8 ∧ (k = 0 → h = 0) ∧ (0 < k → h = 2 * k + b) := by
  unfold headN
  by_cases e : k = 0
  · exact ⟨0, by rw [if_pos e]; rfl, by omega, by omega, fun _ => rfl, fun q => by omega⟩
  · exact ⟨2 * k + b, by rw [if_neg e, nI_add], by omega, by omega, fun q => absurd q e, fun _ => rfl⟩
theorem sh_closed {f : Nat → Int32} {p n b : Nat} (hl : lm f (p + 1) n) (hn : trimN f p n < 4) (hb : b < 2) : ∃ k : Nat, sh (upd f p (headN (trimN f p n) (nI b))) p k ∧ k / 2 = trimN f p n ∧ (0 < k / 2 → k = 2 * (k / 2) + b) := by
  have ht := trimN_le f p n
  obtain ⟨k, e1, e2, e3, e4, e5⟩ := headN_nI (k := trimN f p n) hb hn
  refine ⟨k, ⟨by rw [pk_us, e1], e3, fun q => e4 (by omega), ?_, fun q => ?_⟩, e2, fun q => by rw [e2] at q ⊢; exact e5 q⟩
  · rw [e2]
    exact lm_un (lm_le hl ht) (by omega)
  · rw [e2] at q ⊢
    have h1 := trimN_ne (f := f) (p := p) (n := n) (by omega)
    have h2 := hl (trimN f p n - 1) (by omega)
    rw [show p + 1 + (trimN f p n - 1) = p + trimN f p n by omega] at h2
    rw [dg_eq (f := f) (pk_un (by omega))]
    rcases Nat.eq_zero_or_pos (dg f (p + trimN f p n)) with z | z
    · rw [z] at h2
      exact absurd h2.1 h1
    · exact z
/-- a number, copied from f at p to g at a -/
theorem sh_copy {f g : Nat → Int32} {p a k : Nat} (h : sh f p k) (he : ∀ j, a ≤ j → j ≤ a + k / 2 → g j = f (p + (j - a))) : sh g a k := by
  obtain ⟨h1, h2, h3, h4, h5⟩ := h
  have e : ∀ i, i ≤ k / 2 → g (a + i) = f (p + i) := fun i hi => by
    rw [he (a + i) (by omega) (by omega)]; congr 1; omega
  refine ⟨(e 0 (by omega)).trans h1, h2, h3, fun i hi => ?_, fun q => ?_⟩
  · have w := h4 i hi
    have w2 : g (a + 1 + i) = f (p + 1 + i) := by
      rw [show a + 1 + i = a + (1 + i) by omega, e _ (by omega), show p + (1 + i) = p + 1 + i by omega]
    exact lm_of (w2.trans w.1) w.2
  · have : dg g (a + k / 2) = dg f (p + k / 2) := by unfold dg; rw [e _ (Nat.le_refl _)]
    rw [this]; exact h5 q

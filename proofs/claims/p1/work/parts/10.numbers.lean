/-! NUMBERS. The world: the owner (place 0), the object (1), its row of cells (2), anything behind. -/
abbrev nW (x0 : jE) (tp fm kp : Int32) (n : Nat) (f : Nat → Int32) (rest : jW) : jW := x0 :: .inr (6, [.ref 2, .int tp, .int fm, .int kp]) :: .inl (.int, n, .inl f) :: rest
abbrev wc (y : MethodName) (c : ByteArray) (n : Nat) (r : Option FieldType) : List Cond := .code y c n r :: gT
theorem inT {l : List Cond} {c0 : Cond} (h : ∀ w ∈ l, w ∈ gT) : ∀ w ∈ l, w ∈ c0 :: gT := fun w hw => gc (h w hw)
theorem nI_shr1 {k : Nat} (h : k < 2 ^ 31) : nI k >>> ((1 : Int32) &&& 31) = nI (k / 2) := by
  have e := pk_shrN (n := k) h ((1 : Int32) &&& 31) 1 (by decide)
  rw [e]
set_option maxHeartbeats 1000000 in
/-- next(p): behind the number at p -/
theorem c_next {x0 : jE} {rest : jW} {tp fm kp : Int32} {n : Nat} {f : Nat → Int32} {p k : Nat} (hp : p < n) (hn : n < 2 ^ 31) (hk : f p = nI k) (hk2 : k < 2 ^ 31) :
    jI vwCl yX3_next (wc yX3_next cX3_next 2 (some .int)) 0 0 [.ref 1, .int (nI p)] (nW x0 tp fm kp n f rest) 0 0 (fun r pw => r = nI (p + 1 + k / 2) ∧ pw = nW x0 tp fm kp n f rest) := by
  refine jI_of (cc := cX3_next) (nL := 2) .int (by decide) rfl (Nat.le_of_ble_eq_true rfl) (fun _ _ _ => rfl) ?_
  intro X C hX hR
  refine J_iload_n C dX3_next_0 rfl rfl ?_
  refine J_iconst (v := 1) C dX3_next_1 (by decide) ?_
  refine J_iadd C dX3_next_2 ?_
  refine J_aload_n C dX3_next_3 rfl rfl ?_
  refine J_get (ci := 6) (k := 0) C dX3_next_4 (inT inX3) rfl (gc flX3_X3_cell) (by decide) rfl rfl ?_
  refine J_iload_n C dX3_next_7 rfl rfl ?_
  refine J_iald C dX3_next_8 rfl (vp_in_nI hp hn) ?_
  refine J_iconst (v := 1) C dX3_next_9 (by decide) ?_
  refine J_ishr C dX3_next_10 ?_
  refine J_iadd C dX3_next_11 ?_
  refine hR _ _ _ _ _ _ dX3_next_12 ⟨?_, rfl⟩ (Nat.le_of_eq hX) (Nat.le_refl _) (Nat.le_refl _)
  rw [nI_clamp (by omega), hk, nI_shr1 hk2, nI_1, nI_add]
/-! locals behind a store or a call, where they are known by hypotheses -/
theorem js1_at {lv : Nat → Option Value} {i : Nat} {v : Value} : js1 lv i v i = some v := by simp [js1]
theorem js1_int {lv : Nat → Option Value} {i j : Nat} {v : Value} {x : Int32} (h : lv j = some (.int x)) (hj : j ≠ i) : js1 lv i v j = some (.int x) := by
  simp [js1, hj, h, Value.category]
theorem js1_ref {lv : Nat → Option Value} {i j : Nat} {v : Value} {x : Nat} (h : lv j = some (.ref x)) (hj : j ≠ i) : js1 lv i v j = some (.ref x) := by
  simp [js1, hj, h, Value.category]
theorem js1_long {lv : Nat → Option Value} {i j : Nat} {v : Value} {x : Int64} (h : lv j = some (.long x)) (hj : j ≠ i) (hj2 : j + 1 ≠ i) : js1 lv i v j = some (.long x) := by
  simp [js1, hj, hj2, h]
theorem js2_at {lv : Nat → Option Value} {i : Nat} {v : Value} : js2 lv i v i = some v := by simp [js2]
theorem js2_int {lv : Nat → Option Value} {i j : Nat} {v : Value} {x : Int32} (h : lv j = some (.int x)) (hj : j ≠ i) (hj2 : j ≠ i + 1) : js2 lv i v j = some (.int x) := by
  simp [js2, hj, hj2, h, Value.category]
theorem js2_ref {lv : Nat → Option Value} {i j : Nat} {v : Value} {x : Nat} (h : lv j = some (.ref x)) (hj : j ≠ i) (hj2 : j ≠ i + 1) : js2 lv i v j = some (.ref x) := by
  simp [js2, hj, hj2, h, Value.category]
theorem js2_long {lv : Nat → Option Value} {i j : Nat} {v : Value} {x : Int64} (h : lv j = some (.long x)) (hj : j ≠ i) (hj2 : j ≠ i + 1) (hj3 : j + 1 ≠ i) : js2 lv i v j = some (.long x) := by
  simp [js2, hj, hj2, hj3, h]
theorem jdrop_of {lv : Nat → Option Value} {n j : Nat} {v : Value} (h : lv j = some v) (hg : jgood n v = true) : jdrop n lv j = some v := by
  simp [jdrop, h, hg]
/-- the top of the stack, named anew -/
theorem J_eqi {X : jK} {pc : Nat} {lv : Nat → Option Value} {st : List Value} {pw : jW} {nc ns : Nat} {x y : Int32} (h : x = y) (k : J X pc lv (.int y :: st) pw nc ns) : J X pc lv (.int x :: st) pw nc ns := h ▸ k
theorem J_eql {X : jK} {pc : Nat} {lv : Nat → Option Value} {st : List Value} {pw : jW} {nc ns : Nat} {x y : Int64} (h : x = y) (k : J X pc lv (.long y :: st) pw nc ns) : J X pc lv (.long x :: st) pw nc ns := h ▸ k
theorem J_eqw {X : jK} {pc : Nat} {lv : Nat → Option Value} {st : List Value} {pw pw' : jW} {nc ns : Nat} (h : pw = pw') (k : J X pc lv st pw' nc ns) : J X pc lv st pw nc ns := h ▸ k
/-- how many of the n limbs at p are left without noughts in front -/
def trimN (f : Nat → Int32) (p : Nat) : Nat → Nat
  | 0 => 0
  | n + 1 => if f (p + (n + 1)) = 0 then trimN f p n else n + 1
theorem trimN_le (f : Nat → Int32) (p : Nat) : ∀ n, trimN f p n ≤ n
  | 0 => Nat.le_refl 0
  | n + 1 => by
    unfold trimN
    by_cases h : f (p + (n + 1)) = 0
    · rw [if_pos h]; exact Nat.le_succ_of_le (trimN_le f p n)
    · rw [if_neg h]; exact Nat.le_refl _
def headN (k : Nat) (b : Int32) : Int32 := if k = 0 then 0 else nI (2 * k) + b
set_option maxHeartbeats 2000000 in
/-- closed(p, n, below) -/
theorem c_closed {x0 : jE} {rest : jW} {tp fm kp b : Int32} {N : Nat} {f : Nat → Int32} {p n : Nat} (hp : p + n < N) (hN : N < 2 ^ 30) (hb : b = 0 ∨ b = 1) :
    jI vwCl yX3_closed (wc yX3_closed cX3_closed 5 (some .int)) 0 0 [.ref 1, .int (nI p), .int (nI n), .int b] (nW x0 tp fm kp N f rest) 0 0
      (fun r pw => r = nI p ∧ pw = nW x0 (nI (p + 1 + trimN f p n)) fm kp N (upd f p (headN (trimN f p n) b)) rest) := by
  refine jI_of (cc := cX3_closed) (nL := 5) .int (by decide) rfl (Nat.le_of_ble_eq_true rfl) (fun _ _ _ => rfl) ?_
  intro X C hX hR
  -- behind the loop
  have hE : ∀ (k : Nat) (lv : Nat → Option Value), k = trimN f p n → lv 0 = some (.ref 1) → lv 1 = some (.int (nI p)) → lv 3 = some (.int b) → lv 4 = some (.int (nI k)) → J X 26 lv [] (nW x0 tp fm kp N f rest) 0 0 := by
    intro k lv hk h0 h1 h3 h4
    have hkn : k ≤ n := by rw [hk]; exact trimN_le f p n
    -- what is stored, and the end
    have hF : ∀ v : Int32, v = headN k b → J X 54 lv [.int v, .int (nI p), .ref 2] (nW x0 tp fm kp N f rest) 0 0 := by
      intro v hv
      refine J_iast C dX3_closed_54 rfl (vp_in_nI (by omega) (by omega)) ?_
      refine J_aload_n C dX3_closed_55 rfl h0 ?_
      refine J_iload_n C dX3_closed_56 rfl h1 ?_
      refine J_iconst (v := 1) C dX3_closed_57 (by decide) ?_
      refine J_iadd C dX3_closed_58 ?_
      refine J_iload C dX3_closed_59 h4 ?_
      refine J_iadd C dX3_closed_61 ?_
      refine J_eqi (y := nI (p + 1 + k)) (by rw [nI_1, nI_add]) ?_
      refine J_put (ci := 6) C 1 tyX3 tyX3_ok nmX3 dX3_closed_62 (inT inX3) rfl (gc flX3_X3_top) (by decide) rfl (tyX3_ok 1 (by decide)) (fun _ => rfl) (fun _ => rfl) rfl (Nat.le_of_ble_eq_true rfl) ?_
      refine J_iload_n C dX3_closed_65 rfl h1 ?_
      refine hR _ _ _ _ _ _ dX3_closed_66 ⟨rfl, ?_⟩ (Nat.le_of_eq hX) (Nat.le_refl _) (Nat.le_refl _)
      rw [nI_clamp (by omega), hv, ← hk]
      rfl
    refine J_aload_n C dX3_closed_26 rfl h0 ?_
    refine J_get (ci := 6) (k := 0) C dX3_closed_27 (inT inX3) rfl (gc flX3_X3_cell) (by decide) rfl rfl ?_
    refine J_iload_n C dX3_closed_30 rfl h1 ?_
    refine J_iload C dX3_closed_31 h4 ?_
    refine J_if_ne (tgt := 40) C dX3_closed_33 (by decide) (fun h33 => ?_) (fun h33 => ?_)
    · have hk0 : ¬ k = 0 := fun e => h33 (by rw [e]; rfl)
      refine J_iconst (v := 2) C dX3_closed_40 (by decide) ?_
      refine J_iload C dX3_closed_41 h4 ?_
      refine J_imul C dX3_closed_43 ?_
      refine J_eqi (y := nI (2 * k)) (show nI 2 * nI k = _ from pk_mul 2 k) ?_
      refine J_iload_n C dX3_closed_44 rfl h3 ?_
      refine J_if_eq (tgt := 52) C dX3_closed_45 (by decide) (fun h45 => ?_) (fun h45 => ?_)
      · refine J_iconst (v := 0) C dX3_closed_52 (by decide) ?_
        refine J_iadd C dX3_closed_53 ?_
        refine hF _ ?_
        rw [headN, if_neg hk0, h45]
      · refine J_iconst (v := 1) C dX3_closed_48 (by decide) ?_
        refine J_goto (tgt := 53) C dX3_closed_49 (by decide) ?_
        refine J_iadd C dX3_closed_53 ?_
        refine hF _ ?_
        rw [headN, if_neg hk0]
        rcases hb with e | e
        · exact absurd e h45
        · rw [e]
    · have hk0 : k = 0 := by
        rcases Nat.eq_zero_or_pos k with e | e
        · exact e
        · exact absurd h33 (nI_ne0 e (by omega))
      refine J_iconst (v := 0) C dX3_closed_36 (by decide) ?_
      refine J_goto (tgt := 54) C dX3_closed_37 (by decide) ?_
      exact hF _ (by rw [headN, if_pos hk0])
  -- the loop
  have hL : ∀ (j : Nat) (lv : Nat → Option Value), j ≤ n → trimN f p j = trimN f p n → lv 0 = some (.ref 1) → lv 1 = some (.int (nI p)) → lv 3 = some (.int b) → lv 4 = some (.int (nI j)) → J X 3 lv [] (nW x0 tp fm kp N f rest) 0 0 := by
    intro j
    induction j with
    | zero =>
      intro lv hj ht h0 h1 h3 h4
      refine J_iload C dX3_closed_3 h4 ?_
      refine J_if_le (tgt := 26) C dX3_closed_5 (by decide) (fun h5 => ?_) (fun h5 => ?_)
      · exact hE 0 lv (by rw [← ht]; rfl) h0 h1 h3 h4
      · exact absurd (by decide) h5
    | succ j ih =>
      intro lv hj ht h0 h1 h3 h4
      refine J_iload C dX3_closed_3 h4 ?_
      refine J_if_le (tgt := 26) C dX3_closed_5 (by decide) (fun h5 => ?_) (fun h5 => ?_)
      · exact absurd h5 (nI_nle (by omega) (by omega))
      · refine J_aload_n C dX3_closed_8 rfl h0 ?_
        refine J_get (ci := 6) (k := 0) C dX3_closed_9 (inT inX3) rfl (gc flX3_X3_cell) (by decide) rfl rfl ?_
        refine J_iload_n C dX3_closed_12 rfl h1 ?_
        refine J_iload C dX3_closed_13 h4 ?_
        refine J_iadd C dX3_closed_15 ?_
        refine J_eqi (y := nI (p + (j + 1))) (nI_add _ _) ?_
        refine J_iald C dX3_closed_16 rfl (vp_in_nI (by omega) (by omega)) ?_
        refine J_eqi (y := f (p + (j + 1))) (by rw [nI_clamp (by omega)]) ?_
        refine J_if_ne (tgt := 26) C dX3_closed_17 (by decide) (fun h17 => ?_) (fun h17 => ?_)
        · refine hE (j + 1) lv ?_ h0 h1 h3 h4
          rw [← ht, trimN, if_neg h17]
        · refine J_iinc (v := nI j) C dX3_closed_20 h4 (pk_m1 j) ?_
          refine J_goto (tgt := 3) C dX3_closed_23 (by decide) ?_
          refine ih _ (by omega) ?_ (js1_ref h0 (by decide)) (js1_int h1 (by decide)) (js1_int h3 (by decide)) js1_at
          rw [← ht, trimN, if_pos h17]
  refine J_iload_n C dX3_closed_0 rfl rfl ?_
  refine J_istore C dX3_closed_1 (by decide) ?_
  exact hL n _ (Nat.le_refl n) rfl rfl rfl rfl rfl

/-! NUMBERS. The world: the owner (place 0), the object (1), its row of cells (2), anything behind. -/
abbrev nW (x0 : jE) (tp fm kp : Int32) (n : Nat) (f : Nat → Int32) (rest : jW) : jW := x0 :: .inr (6, [.ref 2, .int tp, .int fm, .int kp]) :: .inl (.int, n, .inl f) :: rest
abbrev wc (y : MethodName) (c : ByteArray) (n : Nat) (r : Option FieldType) : List Cond := .code y c n r :: gT
theorem inT {l : List Cond} {c0 : Cond} (h : ∀ w ∈ l, w ∈ gT) : ∀ w ∈ l, w ∈ c0 :: gT := fun w hw => gc (h w hw)
theorem nI_shr1 {k : Nat} (h : k < 2 ^ 31) : nI k >>> ((1 : Int32) &&& 31) = nI (k / 2) := by
  have e := pk_shrN (n := k) h ((1 : Int32) &&& 31) 1 (by decide)
  rw [e]
set_option maxHeartbeats 1000000 in
/-- next(p): behind the number at p -/
theorem c_next {x0 : jE} {rest : jW} {tp fm kp : Int32} {n : Nat} {f : Nat → Int32} {p k : Nat} (hp : p < n) (hn : n < 2 ^ 31) (hk : f p = nI k) (hk2 : k < 2 ^ 31) :
    jI vwCl yX3_next (wc yX3_next cX3_next 2 (some .int)) 0 0 [.ref 1, .int (nI p)] (nW x0 tp fm kp n f rest) 0 0 (fun r pw => r = nI (p + 1 + k / 2) ∧ pw = nW x0 tp fm kp n f rest) := by
  refine jI_of (cc := cX3_next) (nL := 2) .int (by decide) rfl (Nat.le_of_ble_eq_true rfl) (fun _ _ _ => rfl) ?_
  intro X C hX hR
  refine J_iload_n C dX3_next_0 rfl rfl ?_
  refine J_iconst (v := 1) C dX3_next_1 (by decide) ?_
  refine J_iadd C dX3_next_2 ?_
  refine J_aload_n C dX3_next_3 rfl rfl ?_
  refine J_get (ci := 6) (k := 0) C dX3_next_4 (inT inX3) rfl (gc flX3_X3_cell) (by decide) rfl rfl ?_
  refine J_iload_n C dX3_next_7 rfl rfl ?_
  refine J_iald C dX3_next_8 rfl (vp_in_nI hp hn) ?_
  refine J_iconst (v := 1) C dX3_next_9 (by decide) ?_
  refine J_ishr C dX3_next_10 ?_
  refine J_iadd C dX3_next_11 ?_
  refine hR _ _ _ _ _ _ dX3_next_12 ⟨?_, rfl⟩ (Nat.le_of_eq hX) (Nat.le_refl _) (Nat.le_refl _)
  rw [nI_clamp (by omega), hk, nI_shr1 hk2, nI_1, nI_add]

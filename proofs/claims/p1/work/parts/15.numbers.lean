set_option maxHeartbeats 2000000 in
/-- sizeOrder(p, q): which has more limbs, at the least -/
theorem c_sizeOrder {x0 : jE} {rest : jW} {tp fm kp : Int32} {N : Nat} {f : Nat → Int32} {p q a b : Nat} (hp : p + a / 2 < N) (hq : q + b / 2 < N) (hN : N < 2 ^ 30) (ha : f p = nI a) (hb : f q = nI b) (ha2 : a < 2 ^ 30) (hb2 : b < 2 ^ 30) :
    jI vwCl yX3_sizeOrder (wc yX3_sizeOrder cX3_sizeOrder 7 (some .int)) 0 0 [.ref 1, .int (nI p), .int (nI q)] (nW x0 tp fm kp N f rest) 0 0 (fun r pw => ((r = -1 ∧ a / 2 ≤ b / 2) ∨ ((r = 0 ∨ r = 1) ∧ b / 2 ≤ a / 2)) ∧ pw = nW x0 tp fm kp N f rest) := by
  refine jI_of (cc := cX3_sizeOrder) (nL := 7) .int (by decide) rfl (Nat.le_of_ble_eq_true rfl) (fun _ _ _ => rfl) ?_
  intro X C hX hR
  have hL : a / 2 = b / 2 → ∀ (j : Nat) (lv : Nat → Option Value), j ≤ b / 2 → lv 0 = some (.ref 1) → lv 1 = some (.int (nI p)) → lv 2 = some (.int (nI q)) → lv 5 = some (.int (nI j)) → J X 41 lv [] (nW x0 tp fm kp N f rest) 0 0 := by
    intro hab j
    induction j with
    | zero =>
      intro lv hj h0 h1 h2 h5
      refine J_iload C dX3_sizeOrder_41 h5 ?_
      refine J_if_le (tgt := 89) C dX3_sizeOrder_43 (by decide) (fun h43q => ?_) (fun h43q => ?_)
      · refine J_iconst (v := 0) C dX3_sizeOrder_89 (by decide) ?_
        refine hR _ _ _ _ _ _ dX3_sizeOrder_90 ⟨Or.inr ⟨Or.inl rfl,Nat.le_of_eq hab.symm⟩,rfl⟩ (Nat.le_of_eq hX) (Nat.le_refl _) (Nat.le_refl _)
      · exact absurd (by decide) h43q
    | succ j ih =>
      intro lv hj h0 h1 h2 h5
      refine J_iload C dX3_sizeOrder_41 h5 ?_
      refine J_if_le (tgt := 89) C dX3_sizeOrder_43 (by decide) (fun h43q => ?_) (fun h43q => ?_)
      · exact absurd h43q (nI_nle (by omega) (by omega))
      · refine J_aload_n (i := 0) C dX3_sizeOrder_46 rfl h0 ?_
        refine J_get (ci := 6) (k := 0) C dX3_sizeOrder_47 (inT inX3) rfl (gc flX3_X3_cell) (by decide) rfl rfl ?_
        refine J_iload_n (i := 1) C dX3_sizeOrder_50 rfl h1 ?_
        refine J_iload C dX3_sizeOrder_51 h5 ?_
        refine J_iadd C dX3_sizeOrder_53 ?_
        refine J_eqi (nI_add _ _) ?_
        refine J_iald C dX3_sizeOrder_54 rfl (vp_in_nI (show p + (j + 1) < N by omega) (by omega)) ?_
        refine J_aload_n (i := 0) C dX3_sizeOrder_55 rfl h0 ?_
        refine J_get (ci := 6) (k := 0) C dX3_sizeOrder_56 (inT inX3) rfl (gc flX3_X3_cell) (by decide) rfl rfl ?_
        refine J_iload_n (i := 2) C dX3_sizeOrder_59 rfl h2 ?_
        refine J_iload C dX3_sizeOrder_60 h5 ?_
        refine J_iadd C dX3_sizeOrder_62 ?_
        refine J_eqi (nI_add _ _) ?_
        refine J_iald C dX3_sizeOrder_63 rfl (vp_in_nI (show q + (j + 1) < N by omega) (by omega)) ?_
        refine J_isub C dX3_sizeOrder_64 ?_
        refine J_istore C dX3_sizeOrder_65 (by decide) ?_
        refine J_iload C dX3_sizeOrder_67 js1_at ?_
        refine J_if_eq (tgt := 83) C dX3_sizeOrder_69 (by decide) (fun h69q => ?_) (fun h69q => ?_)
        · refine J_iinc C dX3_sizeOrder_83 (js1_int h5 (by decide)) (pk_m1 j) ?_
          refine J_goto (tgt := 41) C dX3_sizeOrder_86 (by decide) ?_
          exact ih _ (by omega) (js1_ref (js1_ref h0 (by decide)) (by decide)) (js1_int (js1_int h1 (by decide)) (by decide)) (js1_int (js1_int h2 (by decide)) (by decide)) js1_at
        · refine J_iload C dX3_sizeOrder_72 js1_at ?_
          refine J_if_ge (tgt := 81) C dX3_sizeOrder_74 (by decide) (fun h74q => ?_) (fun h74q => ?_)
          · refine J_iconst (v := 1) C dX3_sizeOrder_81 (by decide) ?_
            refine hR _ _ _ _ _ _ dX3_sizeOrder_82 ⟨Or.inr ⟨Or.inr rfl,Nat.le_of_eq hab.symm⟩,rfl⟩ (Nat.le_of_eq hX) (Nat.le_refl _) (Nat.le_refl _)
          · refine J_iconst (v := -1) C dX3_sizeOrder_77 (by decide) ?_
            refine J_goto (tgt := 82) C dX3_sizeOrder_78 (by decide) ?_
            refine hR _ _ _ _ _ _ dX3_sizeOrder_82 ⟨Or.inl ⟨rfl,Nat.le_of_eq hab⟩,rfl⟩ (Nat.le_of_eq hX) (Nat.le_refl _) (Nat.le_refl _)
  refine J_aload_n (i := 0) C dX3_sizeOrder_0 rfl rfl ?_
  refine J_get (ci := 6) (k := 0) C dX3_sizeOrder_1 (inT inX3) rfl (gc flX3_X3_cell) (by decide) rfl rfl ?_
  refine J_iload_n (i := 1) C dX3_sizeOrder_4 rfl rfl ?_
  refine J_iald C dX3_sizeOrder_5 rfl (vp_in_nI (show p < N by omega) (by omega)) ?_
  refine J_eqi (y := nI a) (by rw [nI_clamp (by omega), ha]) ?_
  refine J_iconst (v := 1) C dX3_sizeOrder_6 (by decide) ?_
  refine J_ishr C dX3_sizeOrder_7 ?_
  refine J_eqi (nI_shr1 (by omega)) ?_
  refine J_istore_n (i := 3) C dX3_sizeOrder_8 rfl (by decide) ?_
  refine J_aload_n (i := 0) C dX3_sizeOrder_9 rfl rfl ?_
  refine J_get (ci := 6) (k := 0) C dX3_sizeOrder_10 (inT inX3) rfl (gc flX3_X3_cell) (by decide) rfl rfl ?_
  refine J_iload_n (i := 2) C dX3_sizeOrder_13 rfl rfl ?_
  refine J_iald C dX3_sizeOrder_14 rfl (vp_in_nI (show q < N by omega) (by omega)) ?_
  refine J_eqi (y := nI b) (by rw [nI_clamp (by omega), hb]) ?_
  refine J_iconst (v := 1) C dX3_sizeOrder_15 (by decide) ?_
  refine J_ishr C dX3_sizeOrder_16 ?_
  refine J_eqi (nI_shr1 (by omega)) ?_
  refine J_istore C dX3_sizeOrder_17 (by decide) ?_
  refine J_iload_n (i := 3) C dX3_sizeOrder_19 rfl rfl ?_
  refine J_iload C dX3_sizeOrder_20 rfl ?_
  refine J_icmp_eq (tgt := 37) C dX3_sizeOrder_22 (by decide) (fun h22q => ?_) (fun h22q => ?_)
  · have hab : a / 2 = b / 2 := (nI_eq (by omega) (by omega)).mp h22q
    refine J_iload C dX3_sizeOrder_37 rfl ?_
    refine J_istore C dX3_sizeOrder_39 (by decide) ?_
    exact hL hab (b / 2) _ (Nat.le_refl _) rfl rfl rfl rfl
  · refine J_iload_n (i := 3) C dX3_sizeOrder_25 rfl rfl ?_
    refine J_iload C dX3_sizeOrder_26 rfl ?_
    refine J_icmp_ge (tgt := 35) C dX3_sizeOrder_28 (by decide) (fun h28q => ?_) (fun h28q => ?_)
    · have hab : b / 2 ≤ a / 2 := (nI_leI (by omega) (by omega)).mp h28q
      refine J_iconst (v := 1) C dX3_sizeOrder_35 (by decide) ?_
      refine hR _ _ _ _ _ _ dX3_sizeOrder_36 ⟨Or.inr ⟨Or.inr rfl,hab⟩,rfl⟩ (Nat.le_of_eq hX) (Nat.le_refl _) (Nat.le_refl _)
    · have hab : a / 2 ≤ b / 2 := by
        rcases Nat.le_total (b / 2) (a / 2) with w | w
        · exact absurd (nI_le w (by omega)) h28q
        · exact w
      refine J_iconst (v := -1) C dX3_sizeOrder_31 (by decide) ?_
      refine J_goto (tgt := 36) C dX3_sizeOrder_32 (by decide) ?_
      refine hR _ _ _ _ _ _ dX3_sizeOrder_36 ⟨Or.inl ⟨rfl,hab⟩,rfl⟩ (Nat.le_of_eq hX) (Nat.le_refl _) (Nat.le_refl _)
/-- a number's first cell with the sign turned -/
def twN (x : Int32) : Int32 := if x = 0 then x else x ^^^ 1

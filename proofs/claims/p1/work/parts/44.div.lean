theorem nW_top {x0 : jE} {fm kp : Int32} {N : Nat} {g : Nat → Int32} {rest : jW} {a b : Nat} (h : a = b) : nW x0 (nI a) fm kp N g rest = nW x0 (nI b) fm kp N g rest := by rw [h]
theorem bl_nI (x : Int32) : ∃ b : Nat, b < 2 ∧ (if x &&& 1 = 1 then (1 : Int32) else 0) = nI b := by
  by_cases h : x &&& 1 = 1
  · exact ⟨1, by decide, by rw [if_pos h]; rfl⟩
  · exact ⟨0, by decide, by rw [if_neg h]; rfl⟩
theorem b01 {b : Nat} (h : b < 2) : nI b = 0 ∨ nI b = 1 := by
  rcases (show b = 0 ∨ b = 1 by omega) with z | z <;> subst z
  · exact Or.inl rfl
  · exact Or.inr rfl
/-- two numbers closed one behind the other -/
theorem pN2_closed {x0 : jE} {fm kp : Int32} {N : Nat} {f g g2 : Nat → Int32} {rest : jW} {t n b n2 b2 T : Nat} (hl : lm g (t + 1) n) (hn : trimN g t n < 4) (hb : b < 2) (he : ∀ j, j < t → g j = f j) (hT : T = t + 1 + trimN g t n) (h2 : ∀ j, j < T → g2 j = upd g t (headN (trimN g t n) (nI b)) j) (hl2 : lm g2 (T + 1) n2) (hn2 : n2 < 4) (hb2 : b2 < 2) : pN2 x0 fm kp N f rest t (nW x0 (nI (T + 1 + trimN g2 T n2)) fm kp N (upd g2 T (headN (trimN g2 T n2) (nI b2))) rest) := by
  obtain ⟨k, c1, c2, c3⟩ := sh_closed hl hn hb
  have hn3 : trimN g2 T n2 < 4 := Nat.lt_of_le_of_lt (trimN_le _ _ _) hn2
  obtain ⟨k2, d1, d2, d3⟩ := sh_closed hl2 hn3 hb2
  have eT : t + 1 + k / 2 = T := by omega
  refine ⟨k, k2, _, nW_top (by omega), sh_eq c1 (fun j h1 h3 => ?_), ?_, fun j hj => ?_⟩
  · rw [pk_un (by omega), h2 j (by omega)]
  · rw [eT]; exact d1
  · rw [pk_un (by omega), h2 j (by omega), pk_un (by omega)]; exact he j hj
theorem div_step {l B x b : Nat} (hl : l < b) (hx : x < B) : (l * B + x) / b < B ∧ (l * B + x) / b * b ≤ l * B + x ∧ l * B + x - (l * B + x) / b * b < b ∧ l * B + x < b * B := by
  have h1 : (l + 1) * B ≤ b * B := Nat.mul_le_mul_right _ hl
  rw [Nat.add_mul, Nat.one_mul] at h1
  have h2 : l * B + x < b * B := by omega
  refine ⟨Nat.div_lt_of_lt_mul h2, Nat.div_mul_le_self _ _, ?_, h2⟩
  have h3 := Nat.mod_lt (l * B + x) (show b > 0 by omega)
  have h4 := Nat.div_add_mod' (l * B + x) b
  omega
set_option maxHeartbeats 4000000 in
/-- dividedByLimb(p, q) -/
theorem c_dividedByLimb {x0 : jE} {rest : jW} {fm kp : Int32} {N : Nat} {f : Nat → Int32} {t p q k y : Nat} (hs : sh f p k) (hq1 : f (q + 1) = nI y) (hy : y < 1000000000) (hp : p + k / 2 < t) (hqt : q + 1 < t) (ht : t + 6 ≤ N) (hN : N < 2 ^ 30) :
    jI vwCl yX3_dividedByLimb (wc yX3_dividedByLimb cX3_dividedByLimb 14 (some .int)) 1 60 [.ref 1, .int (nI p), .int (nI q)] (nW x0 (nI t) fm kp N f rest) 0 0 (fun r pw => r = nI t ∧ pN2 x0 fm kp N f rest t pw) := by
  refine jI_of (cc := cX3_dividedByLimb) (nL := 14) .int (by decide) rfl (Nat.le_of_ble_eq_true rfl) (fun _ _ _ => rfl) ?_
  intro X C hX hR
  obtain ⟨e1, e2, e3, e4, e5⟩ := hs
  obtain ⟨b, hb0, hbB, hb⟩ : ∃ b : Nat, 0 < b ∧ b < 1000000000 ∧ (if nI y < nI 1 then nI 1 else nI y) = nI b := by
    by_cases w : nI y < nI 1
    · exact ⟨1, by decide, by decide, if_pos w⟩
    · refine ⟨y, ?_, hy, if_neg w⟩
      have := mt (nI_ltI (a := y) (b := 1) (by omega) (by decide)).mpr w
      omega
  have hL : ∀ (i l : Nat) (g : Nat → Int32) (lv : Nat → Option Value), i ≤ k / 2 → l < b → (∀ j, i < j → j ≤ k / 2 → g (t + j) = nI (dg g (t + j)) ∧ dg g (t + j) < 1000000000) → (∀ j, j < t + 1 → g j = f j) → lv 0 = some (.ref 1) → lv 1 = some (.int (nI p)) → lv 2 = some (.int (nI q)) → lv 3 = some (.int (nI (k / 2))) → lv 4 = some (.int (nI t)) → lv 5 = some (.long (lN b)) → lv 7 = some (.long (lN l)) → lv 9 = some (.int (nI i)) → J X 43 lv [] (nW x0 (nI t) fm kp N g rest) 0 0 := by
    intro i
    induction i with
    | zero =>
      intro l g lv hi hl hg he h0 h1 h2 h3 h4 h5 h7 h9
      have hm : lm g (t + 1) (k / 2) := fun j hj => by
        have := hg (1 + j) (by omega) (by omega)
        rw [Nat.add_assoc]; exact this
      have hK := trimN_le g t (k / 2)
      refine J_iload C dX3_dividedByLimb_43 h9 ?_
      refine J_if_le (tgt := 103) C dX3_dividedByLimb_45 (by decide) (fun h45q => have h45 := (nI_le0 (by omega)).mp h45q; ?_) (fun h45q => have h45 := (not_congr (nI_le0 (by omega))).mp h45q; ?_)
      · have hC : ∀ c : Nat, c < 2 → J X 131 lv [.int (nI c), .int (nI (k / 2)), .int (nI t), .ref 1] (nW x0 (nI t) fm kp N g rest) 0 0 := by
          intro c hc
          refine J_callVi C [.int (nI t), .int (nI (k / 2)), .int (nI c)] rfl rfl 3 (c_closed (by omega) hN (b01 hc)) (gV mlX3_X3_closed imX3_closed slX3_closed iniX3 cdX3_closed) rfl dsX3_closed ⟨by decide, by decide⟩ dX3_dividedByLimb_131 rfl (Nat.le_of_ble_eq_true rfl) rfl (Nat.le_of_ble_eq_true rfl) (Nat.le_of_eq hX) (Nat.le_of_ble_eq_true rfl) (Nat.le_of_ble_eq_true rfl) (fun r pw h hl => ?_)
          obtain ⟨rfl, rfl⟩ := h
          refine J_pop C dX3_dividedByLimb_134 rfl ?_
          refine J_aload_n (i := 0) C dX3_dividedByLimb_135 rfl (jdrop_of h0 rfl) ?_
          refine J_get (ci := 6) (k := 1) C dX3_dividedByLimb_136 (inT inX3) rfl (gc flX3_X3_top) (by decide) rfl rfl ?_
          refine J_istore C dX3_dividedByLimb_139 (by decide) ?_
          refine J_aload_n (i := 0) C dX3_dividedByLimb_141 rfl (js1_ref (jdrop_of h0 rfl) (by decide)) ?_
          refine J_get (ci := 6) (k := 0) C dX3_dividedByLimb_142 (inT inX3) rfl (gc flX3_X3_cell) (by decide) rfl rfl ?_
          refine J_iload C dX3_dividedByLimb_145 js1_at ?_
          refine J_iconst (v := nI 1) C dX3_dividedByLimb_147 (by decide) ?_
          refine J_iadd C dX3_dividedByLimb_148 ?_
          refine J_eqi (nI_add _ _) ?_
          refine J_lload C dX3_dividedByLimb_149 (js1_long (jdrop_of h7 rfl) (by decide) (by decide)) ?_
          refine J_l2i C dX3_dividedByLimb_151 (lN_i _) ?_
          refine J_iastN C dX3_dividedByLimb_152 rfl (by omega) (by omega) ?_
          generalize hG : upd (upd g t (headN (trimN g t (k / 2)) (nI c))) (t + 1 + trimN g t (k / 2) + 1) (nI l) = G
          obtain ⟨b2, hb2, eb⟩ := bl_nI (G p)
          refine J_aload_n (i := 0) C dX3_dividedByLimb_153 rfl (js1_ref (jdrop_of h0 rfl) (by decide)) ?_
          refine J_iload C dX3_dividedByLimb_154 js1_at ?_
          refine J_iconst (v := nI 1) C dX3_dividedByLimb_156 (by decide) ?_
          refine J_aload_n (i := 0) C dX3_dividedByLimb_157 rfl (js1_ref (jdrop_of h0 rfl) (by decide)) ?_
          refine J_iload_n (i := 1) C dX3_dividedByLimb_158 rfl (js1_int (jdrop_of h1 rfl) (by decide)) ?_
          refine J_callVi C [.int (nI p)] rfl rfl 3 (c_isBelow (f := G) (show p < N by omega) hN) (gV mlX3_X3_isBelow imX3_isBelow slX3_isBelow iniX3 cdX3_isBelow) rfl dsX3_isBelow ⟨by decide, by decide⟩ dX3_dividedByLimb_159 rfl (Nat.le_of_ble_eq_true rfl) rfl (Nat.le_of_ble_eq_true rfl) (Nat.le_of_eq hX) (Nat.le_of_ble_eq_true rfl) (Nat.le_of_ble_eq_true rfl) (fun r pw h hl => ?_)
          obtain ⟨rfl, rfl⟩ := h
          refine J_eqi eb ?_
          refine J_callVi C [.int (nI (t + 1 + trimN g t (k / 2))), .int (nI 1), .int (nI b2)] rfl rfl 3 (c_closed (by omega) hN (b01 hb2)) (gV mlX3_X3_closed imX3_closed slX3_closed iniX3 cdX3_closed) rfl dsX3_closed ⟨by decide, by decide⟩ dX3_dividedByLimb_162 rfl (Nat.le_of_ble_eq_true rfl) rfl (Nat.le_of_ble_eq_true rfl) (Nat.le_of_eq hX) (Nat.le_of_ble_eq_true rfl) (Nat.le_of_ble_eq_true rfl) (fun r pw h hl => ?_)
          obtain ⟨rfl, rfl⟩ := h
          refine J_pop C dX3_dividedByLimb_165 rfl ?_
          refine J_iload C dX3_dividedByLimb_166 (jdrop_of (jdrop_of (js1_int (jdrop_of h4 rfl) (by decide)) rfl) rfl) ?_
          refine hR _ _ _ _ _ _ dX3_dividedByLimb_168 ⟨rfl,?_⟩ (Nat.le_of_eq hX) (Nat.le_refl _) (Nat.le_refl _)
          subst hG
          refine pN2_closed hm (by omega) hc (fun j hj => he j (by omega)) rfl (fun j hj => pk_un (by omega)) (fun j hj => ?_) (by decide) hb2
          have hj0 : j = 0 := by omega
          subst hj0
          exact lm_of pk_us (by omega)
        refine J_aload_n (i := 0) C dX3_dividedByLimb_103 rfl h0 ?_
        refine J_iload C dX3_dividedByLimb_104 h4 ?_
        refine J_iload_n (i := 3) C dX3_dividedByLimb_106 rfl h3 ?_
        refine J_aload_n (i := 0) C dX3_dividedByLimb_107 rfl h0 ?_
        refine J_get (ci := 6) (k := 0) C dX3_dividedByLimb_108 (inT inX3) rfl (gc flX3_X3_cell) (by decide) rfl rfl ?_
        refine J_iload_n (i := 1) C dX3_dividedByLimb_111 rfl h1 ?_
        refine J_ialdN C dX3_dividedByLimb_112 rfl (show p < N by omega) (by omega) rfl ?_
        refine J_aload_n (i := 0) C dX3_dividedByLimb_113 rfl h0 ?_
        refine J_get (ci := 6) (k := 0) C dX3_dividedByLimb_114 (inT inX3) rfl (gc flX3_X3_cell) (by decide) rfl rfl ?_
        refine J_iload_n (i := 2) C dX3_dividedByLimb_117 rfl h2 ?_
        refine J_ialdN C dX3_dividedByLimb_118 rfl (show q < N by omega) (by omega) rfl ?_
        refine J_ixor C dX3_dividedByLimb_119 ?_
        refine J_iconst (v := nI 1) C dX3_dividedByLimb_120 (by decide) ?_
        refine J_iand C dX3_dividedByLimb_121 ?_
        refine J_iconst (v := nI 1) C dX3_dividedByLimb_122 (by decide) ?_
        refine J_icmp_ne (tgt := 130) C dX3_dividedByLimb_123 (by decide) (fun h123q => ?_) (fun h123q => ?_)
        · refine J_iconst (v := nI 0) C dX3_dividedByLimb_130 (by decide) ?_
          exact hC 0 (by decide)
        · refine J_iconst (v := nI 1) C dX3_dividedByLimb_126 (by decide) ?_
          refine J_goto (tgt := 131) C dX3_dividedByLimb_127 (by decide) ?_
          exact hC 1 (by decide)
      · exact absurd rfl h45
    | succ i ih =>
      intro l g lv hi hl hg he h0 h1 h2 h3 h4 h5 h7 h9
      obtain ⟨a1, a2⟩ := e4 i (by omega)
      have c1 : g (p + (i + 1)) = nI (dg f (p + 1 + i)) := by rw [he _ (by omega), show p + (i + 1) = p + 1 + i by omega]; exact a1
      generalize dg f (p + 1 + i) = x at a1 a2 c1
      obtain ⟨n1, n2, n3, n4⟩ := div_step (x := x) (B := 1000000000) hl a2
      refine J_iload C dX3_dividedByLimb_43 h9 ?_
      refine J_if_le (tgt := 103) C dX3_dividedByLimb_45 (by decide) (fun h45q => have h45 := (nI_le0 (by omega)).mp h45q; ?_) (fun h45q => have h45 := (not_congr (nI_le0 (by omega))).mp h45q; ?_)
      · exact absurd h45 (by omega)
      · refine J_lload C dX3_dividedByLimb_48 h7 ?_
        refine J_ldc2 C (gc clX3_1000000000) dX3_dividedByLimb_50 ?_
        refine J_eql (y := lN 1000000000) (by decide) ?_
        refine J_lmul C dX3_dividedByLimb_53 ?_
        refine J_eql (lN_mul _ _) ?_
        refine J_aload_n (i := 0) C dX3_dividedByLimb_54 rfl h0 ?_
        refine J_get (ci := 6) (k := 0) C dX3_dividedByLimb_55 (inT inX3) rfl (gc flX3_X3_cell) (by decide) rfl rfl ?_
        refine J_iload_n (i := 1) C dX3_dividedByLimb_58 rfl h1 ?_
        refine J_iload C dX3_dividedByLimb_59 h9 ?_
        refine J_iadd C dX3_dividedByLimb_61 ?_
        refine J_eqi (nI_add _ _) ?_
        refine J_ialdN C dX3_dividedByLimb_62 rfl (by omega) (by omega) c1 ?_
        refine J_i2l C dX3_dividedByLimb_63 (nI_l (by omega)) ?_
        refine J_ladd C dX3_dividedByLimb_64 ?_
        refine J_eql (lN_add _ _) ?_
        refine J_lstore C dX3_dividedByLimb_65 (by decide) ?_
        refine J_lload C dX3_dividedByLimb_67 js2_at ?_
        refine J_lload C dX3_dividedByLimb_69 (js2_long h5 (by decide) (by decide) (by decide)) ?_
        refine J_ldiv C dX3_dividedByLimb_71 (lN_ne0 (by omega) (by omega)) ?_
        refine J_eql (pk_lDiv (by omega) (by omega) (by omega)) ?_
        refine J_lstore C dX3_dividedByLimb_72 (by decide) ?_
        refine J_aload_n (i := 0) C dX3_dividedByLimb_74 rfl (js2_ref (js2_ref h0 (by decide) (by decide)) (by decide) (by decide)) ?_
        refine J_get (ci := 6) (k := 0) C dX3_dividedByLimb_75 (inT inX3) rfl (gc flX3_X3_cell) (by decide) rfl rfl ?_
        refine J_iload C dX3_dividedByLimb_78 (js2_int (js2_int h4 (by decide) (by decide)) (by decide) (by decide)) ?_
        refine J_iload C dX3_dividedByLimb_80 (js2_int (js2_int h9 (by decide) (by decide)) (by decide) (by decide)) ?_
        refine J_iadd C dX3_dividedByLimb_82 ?_
        refine J_eqi (nI_add _ _) ?_
        refine J_lload C dX3_dividedByLimb_83 js2_at ?_
        refine J_l2i C dX3_dividedByLimb_85 (lN_i _) ?_
        refine J_iastN C dX3_dividedByLimb_86 rfl (by omega) (by omega) ?_
        refine J_lload C dX3_dividedByLimb_87 (js2_long js2_at (by decide) (by decide) (by decide)) ?_
        refine J_lload C dX3_dividedByLimb_89 js2_at ?_
        refine J_lload C dX3_dividedByLimb_91 (js2_long (js2_long h5 (by decide) (by decide) (by decide)) (by decide) (by decide) (by decide)) ?_
        refine J_lmul C dX3_dividedByLimb_93 ?_
        refine J_eql (lN_mul _ _) ?_
        refine J_lsub C dX3_dividedByLimb_94 ?_
        refine J_eql (lN_sub (by omega)) ?_
        refine J_lstore C dX3_dividedByLimb_95 (by decide) ?_
        refine J_iinc C dX3_dividedByLimb_97 (js2_int (js2_int (js2_int h9 (by decide) (by decide)) (by decide) (by decide)) (by decide) (by decide)) (pk_m1 _) ?_
        refine J_goto (tgt := 43) C dX3_dividedByLimb_100 (by decide) ?_
        refine ih _ _ _ (by omega) n3 (fun j h1 h2 => ?_) (fun j hj => ?_) (js1_ref (js2_ref (js2_ref (js2_ref h0 (by decide) (by decide)) (by decide) (by decide)) (by decide) (by decide)) (by decide)) (js1_int (js2_int (js2_int (js2_int h1 (by decide) (by decide)) (by decide) (by decide)) (by decide) (by decide)) (by decide)) (js1_int (js2_int (js2_int (js2_int h2 (by decide) (by decide)) (by decide) (by decide)) (by decide) (by decide)) (by decide)) (js1_int (js2_int (js2_int (js2_int h3 (by decide) (by decide)) (by decide) (by decide)) (by decide) (by decide)) (by decide)) (js1_int (js2_int (js2_int (js2_int h4 (by decide) (by decide)) (by decide) (by decide)) (by decide) (by decide)) (by decide)) (js1_long (js2_long (js2_long (js2_long h5 (by decide) (by decide) (by decide)) (by decide) (by decide) (by decide)) (by decide) (by decide) (by decide)) (by decide) (by decide)) (js1_long js2_at (by decide) (by decide)) js1_at
        · by_cases w : j = i + 1
          · subst w
            exact lm_of pk_us n1
          · have w2 := hg j (by omega) h2
            have w3 : upd g (t + (i + 1)) (nI ((l * 1000000000 + x) / b)) (t + j) = g (t + j) := pk_un (by omega)
            rw [dg_eq w3, w3]; exact w2
        · rw [pk_un (by omega)]; exact he j hj
  refine J_aload_n (i := 0) C dX3_dividedByLimb_0 rfl rfl ?_
  refine J_get (ci := 6) (k := 0) C dX3_dividedByLimb_1 (inT inX3) rfl (gc flX3_X3_cell) (by decide) rfl rfl ?_
  refine J_iload_n (i := 1) C dX3_dividedByLimb_4 rfl rfl ?_
  refine J_ialdN C dX3_dividedByLimb_5 rfl (by omega) (by omega) e1 ?_
  refine J_iconst (v := nI 1) C dX3_dividedByLimb_6 (by decide) ?_
  refine J_ishr C dX3_dividedByLimb_7 ?_
  refine J_eqi (nI_shr1N (by omega)) ?_
  refine J_istore_n (i := 3) C dX3_dividedByLimb_8 rfl (by decide) ?_
  refine J_aload_n (i := 0) C dX3_dividedByLimb_9 rfl rfl ?_
  refine J_iload_n (i := 3) C dX3_dividedByLimb_10 rfl rfl ?_
  refine J_iconst (v := nI 3) C dX3_dividedByLimb_11 (by decide) ?_
  refine J_iadd C dX3_dividedByLimb_12 ?_
  refine J_eqi (nI_add _ _) ?_
  refine J_callVn C [.int (nI (k / 2 + 3))] rfl rfl 3 (c_room (by omega) hN) (gV mlX3_X3_room imX3_room slX3_room iniX3 cdX3_room) rfl dsX3_room ⟨by decide, by decide⟩ dX3_dividedByLimb_13 rfl (Nat.le_of_ble_eq_true rfl) rfl (Nat.le_of_ble_eq_true rfl) (Nat.le_of_eq hX) (Nat.le_of_ble_eq_true rfl) (Nat.le_of_ble_eq_true rfl) (fun pw h hl => ?_)
  subst h
  refine J_aload_n (i := 0) C dX3_dividedByLimb_16 rfl rfl ?_
  refine J_get (ci := 6) (k := 1) C dX3_dividedByLimb_17 (inT inX3) rfl (gc flX3_X3_top) (by decide) rfl rfl ?_
  refine J_istore C dX3_dividedByLimb_20 (by decide) ?_
  refine J_aload_n (i := 0) C dX3_dividedByLimb_22 rfl rfl ?_
  refine J_get (ci := 6) (k := 0) C dX3_dividedByLimb_23 (inT inX3) rfl (gc flX3_X3_cell) (by decide) rfl rfl ?_
  refine J_iload_n (i := 2) C dX3_dividedByLimb_26 rfl rfl ?_
  refine J_iconst (v := nI 1) C dX3_dividedByLimb_27 (by decide) ?_
  refine J_iadd C dX3_dividedByLimb_28 ?_
  refine J_eqi (nI_add _ _) ?_
  refine J_ialdN C dX3_dividedByLimb_29 rfl (by omega) (by omega) hq1 ?_
  refine J_iconst (v := nI 1) C dX3_dividedByLimb_30 (by decide) ?_
  refine J_mmax C dX3_dividedByLimb_31 (gc mlX3_max) (gc stMax) (gc iniMath) (gc cdMax) (by decide) (Nat.le_of_ble_eq_true rfl) (Nat.le_refl _) (Nat.le_refl _) ?_
  refine J_eqi hb ?_
  refine J_i2l C dX3_dividedByLimb_34 (nI_l (by omega)) ?_
  refine J_lstore C dX3_dividedByLimb_35 (by decide) ?_
  refine J_lconst (v := lN 0) C dX3_dividedByLimb_37 (by decide) ?_
  refine J_lstore C dX3_dividedByLimb_38 (by decide) ?_
  refine J_iload_n (i := 3) C dX3_dividedByLimb_40 rfl rfl ?_
  refine J_istore C dX3_dividedByLimb_41 (by decide) ?_
  exact hL (k / 2) 0 f _ (Nat.le_refl _) hb0 (fun j h1 h2 => absurd h1 (by omega)) (fun _ _ => rfl) rfl rfl rfl rfl rfl rfl rfl rfl
/-- a counter that goes down to -1 -/
def jm : Nat → Int32
  | 0 => -1
  | s + 1 => nI s
theorem jm_dec : ∀ s : Nat, nI s + (-1) = jm s
  | 0 => by decide
  | s + 1 => pk_m1 s
theorem vN_low (f : Nat → Int32) (p : Nat) : ∀ n : Nat, vN f p (n + 1) = dg f p + 1000000000 * vN f (p + 1) n
  | 0 => by simp [vN]
  | n + 1 => by
    show vN f p (n + 1) + dg f (p + (n + 1)) * 1000000000 ^ (n + 1) = dg f p + 1000000000 * (vN f (p + 1) n + dg f (p + 1 + n) * 1000000000 ^ n)
    rw [vN_low f p n, Nat.mul_add, show p + (n + 1) = p + 1 + n by omega, Nat.pow_succ, ← Nat.mul_assoc 1000000000, Nat.mul_comm 1000000000 (dg f (p + 1 + n)), Nat.mul_assoc (dg f (p + 1 + n)) 1000000000, Nat.mul_comm 1000000000 (1000000000 ^ n)]
    omega
theorem vN_ge {f : Nat → Int32} {p n : Nat} (h : 0 < dg f (p + n)) : 1000000000 ^ n ≤ vN f p (n + 1) := by
  show _ ≤ vN f p n + dg f (p + n) * 1000000000 ^ n
  have : 1 * 1000000000 ^ n ≤ dg f (p + n) * 1000000000 ^ n := Nat.mul_le_mul_right _ h
  omega
/-- the upper part of a row of limbs -/
theorem vN_hi (f : Nat → Int32) (p a : Nat) : ∀ n : Nat, vN f p (a + n) = vN f p a + vN f (p + a) n * 1000000000 ^ a
  | 0 => by simp [vN]
  | n + 1 => by
    show vN f p (a + n) + dg f (p + (a + n)) * 1000000000 ^ (a + n) = vN f p a + (vN f (p + a) n + dg f (p + a + n) * 1000000000 ^ n) * 1000000000 ^ a
    rw [vN_hi f p a n, Nat.add_mul, Nat.pow_add, Nat.mul_assoc (dg f (p + a + n)), Nat.mul_comm (1000000000 ^ n), Nat.add_assoc p a n]
    omega
set_option maxHeartbeats 8000000 in
/-- dividedByLimbs(p, q) -/
theorem c_dividedByLimbs {x0 : jE} {rest : jW} {fm kp : Int32} {N : Nat} {f : Nat → Int32} {t p q k kq m n d : Nat} (hs : sh f p k) (hsq : sh f q kq) (hm : k / 2 = m) (hn : kq / 2 = n + 2) (hmn : m = n + 2 + d) (hp : p + m < t) (hqt : q + (n + 2) < t) (ht : t + 14 ≤ N) (hN : N < 2 ^ 30) :
    jI vwCl yX3_dividedByLimbs (wc yX3_dividedByLimbs cX3_dividedByLimbs 14 (some .int)) 2 120 [.ref 1, .int (nI p), .int (nI q)] (nW x0 (nI t) fm kp N f rest) 0 0 (fun r pw => r = nI t ∧ pN2 x0 fm kp N f rest t pw) := by
  refine jI_of (cc := cX3_dividedByLimbs) (nL := 14) .int (by decide) rfl (Nat.le_of_ble_eq_true rfl) (fun _ _ _ => rfl) ?_
  intro X C hX hR
  obtain ⟨e1, e2, e3, e4, e5⟩ := hs
  obtain ⟨q1, q2, q3, q4, q5⟩ := hsq
  rw [hm] at e4
  rw [hn] at q4 q5
  have hy0 := q5 (by omega)
  obtain ⟨y1, y2⟩ := q4 (n + 1) (by omega)
  rw [show q + 1 + (n + 1) = q + (n + 2) by omega] at y1 y2
  have hV0 : 1000000000 ^ (n + 1) ≤ vN f (q + 1) (n + 2) := vN_ge (by rw [show q + 1 + (n + 1) = q + (n + 2) by omega]; exact hy0)
  obtain ⟨w1, w2, w3⟩ := kn_fac (b := 1000000000) (by decide) hy0 y2
  have hVt : ∀ fa : Nat, fa * (dg f (q + (n + 2)) + 1) ≤ 1000000000 → 0 < fa → fa * vN f (q + 1) (n + 2) < 1000000000 ^ (n + 2) ∧ dg f (q + (n + 2)) * fa * 1000000000 ^ (n + 1) ≤ fa * vN f (q + 1) (n + 2) := by
    intro fa hfa hf0
    have g1 : vN f (q + 1) (n + 2) = vN f (q + 1) (n + 1) + dg f (q + (n + 2)) * 1000000000 ^ (n + 1) := by rw [show q + (n + 2) = q + 1 + (n + 1) by omega]; rfl
    have g2 := vN_lt (lm_le q4 (show n + 1 ≤ n + 2 by omega))
    constructor
    · have g3 : fa * vN f (q + 1) (n + 2) < fa * ((dg f (q + (n + 2)) + 1) * 1000000000 ^ (n + 1)) := by
        refine Nat.mul_lt_mul_of_pos_left ?_ hf0
        rw [g1, Nat.add_mul, Nat.one_mul]; omega
      have g4 : fa * (dg f (q + (n + 2)) + 1) * 1000000000 ^ (n + 1) ≤ 1000000000 * 1000000000 ^ (n + 1) := Nat.mul_le_mul_right _ hfa
      rw [Nat.mul_assoc] at g4
      rw [Nat.pow_succ, Nat.mul_comm (1000000000 ^ (n + 1))]
      omega
    · rw [g1, Nat.mul_add, ← Nat.mul_assoc, Nat.mul_comm fa (dg f (q + (n + 2)))]
      omega
  generalize dg f (q + (n + 2)) = y at *
  generalize hfa : 1000000000 / (y + 1) = fa at *
  have hfaB : fa ≤ 1000000000 := by rw [← hfa]; exact Nat.div_le_self _ _
  obtain ⟨v1, v2⟩ := hVt fa w2 w1
  -- behind the division: the rest is brought back
  have hE : ∀ (g : Nat → Int32), lm g (t + 1) (d + 1) → (∀ j, j < t + 1 → g j = f j) → ∀ (s l : Nat) (z : Nat → Int32) (lv : Nat → Option Value), s ≤ n + 2 → l < fa → lm z (t + d + 3) (n + 2) → (∀ j, j < t + d + 3 → z j = g j) → lv 0 = some (.ref 1) → lv 1 = some (.int (nI p)) → lv 2 = some (.int (nI q)) → lv 3 = some (.int (nI m)) → lv 4 = some (.int (nI (n + 2))) → lv 5 = some (.int (nI t)) → lv 6 = some (.int (nI (t + d + 3))) → lv 8 = some (.int (nI fa)) → lv 9 = some (.long (lN l)) → lv 11 = some (.int (jm s)) → J X 142 lv [] (nW x0 (nI t) fm kp N z rest) 0 0 := by
    intro g hg hgf s
    induction s with
    | zero =>
      intro l z lv hs hl hh he h0 h1 h2 h3 h4 h5 h6 h8 h9 h11
      have hK := trimN_le z t (d + 1)
      have hm2 : lm z (t + 1) (d + 1) := lm_eq (fun k hk => he _ (by omega)) hg
      refine J_iload C dX3_dividedByLimbs_142 h11 ?_
      refine J_if_lt (tgt := 198) C dX3_dividedByLimbs_144 (by decide) (fun h144q => ?_) (fun h144q => ?_)
      · have hC : ∀ c : Nat, c < 2 → J X 231 lv [.int (nI c), .int (nI (d + 1)), .int (nI t), .ref 1] (nW x0 (nI t) fm kp N z rest) 0 0 := by
          intro c hc
          refine J_callVi C [.int (nI t), .int (nI (d + 1)), .int (nI c)] rfl rfl 3 (c_closed (by omega) hN (b01 hc)) (gV mlX3_X3_closed imX3_closed slX3_closed iniX3 cdX3_closed) rfl dsX3_closed ⟨by decide, by decide⟩ dX3_dividedByLimbs_231 rfl (Nat.le_of_ble_eq_true rfl) rfl (Nat.le_of_ble_eq_true rfl) (Nat.le_of_eq hX) (Nat.le_of_ble_eq_true rfl) (Nat.le_of_ble_eq_true rfl) (fun r pw h hl => ?_)
          obtain ⟨rfl, rfl⟩ := h
          refine J_pop C dX3_dividedByLimbs_234 rfl ?_
          refine J_aload_n (i := 0) C dX3_dividedByLimbs_235 rfl (jdrop_of h0 rfl) ?_
          refine J_get (ci := 6) (k := 1) C dX3_dividedByLimbs_236 (inT inX3) rfl (gc flX3_X3_top) (by decide) rfl rfl ?_
          refine J_istore C dX3_dividedByLimbs_239 (by decide) ?_
          refine J_aload_n (i := 0) C dX3_dividedByLimbs_241 rfl (js1_ref (jdrop_of h0 rfl) (by decide)) ?_
          refine J_get (ci := 6) (k := 0) C dX3_dividedByLimbs_242 (inT inX3) rfl (gc flX3_X3_cell) (by decide) rfl rfl ?_
          refine J_iload C dX3_dividedByLimbs_245 (js1_int (jdrop_of h6 rfl) (by decide)) ?_
          refine J_aload_n (i := 0) C dX3_dividedByLimbs_247 rfl (js1_ref (jdrop_of h0 rfl) (by decide)) ?_
          refine J_get (ci := 6) (k := 0) C dX3_dividedByLimbs_248 (inT inX3) rfl (gc flX3_X3_cell) (by decide) rfl rfl ?_
          refine J_iload C dX3_dividedByLimbs_251 js1_at ?_
          refine J_iconst (v := nI 1) C dX3_dividedByLimbs_253 (by decide) ?_
          refine J_iadd C dX3_dividedByLimbs_254 ?_
          refine J_eqi (nI_add _ _) ?_
          refine J_iload C dX3_dividedByLimbs_255 (js1_int (jdrop_of h4 rfl) (by decide)) ?_
          refine J_copy C dX3_dividedByLimbs_257 (gc mlX3_ac) (gc acNat) (gc acSt) (gc iniSys) rfl rfl rfl rfl rfl (by omega) (by omega) ⟨by omega,by omega⟩ (by decide) (Nat.le_of_ble_eq_true rfl) ?_
          generalize hG : va_cpy (upd z t (headN (trimN z t (d + 1)) (nI c))) (upd z t (headN (trimN z t (d + 1)) (nI c))) (t + d + 3) (t + 1 + trimN z t (d + 1) + 1) (n + 2) = G
          obtain ⟨b2, hb2, eb⟩ := bl_nI (G p)
          refine J_aload_n (i := 0) C dX3_dividedByLimbs_260 rfl (js1_ref (jdrop_of h0 rfl) (by decide)) ?_
          refine J_iload C dX3_dividedByLimbs_261 js1_at ?_
          refine J_iload C dX3_dividedByLimbs_263 (js1_int (jdrop_of h4 rfl) (by decide)) ?_
          refine J_aload_n (i := 0) C dX3_dividedByLimbs_265 rfl (js1_ref (jdrop_of h0 rfl) (by decide)) ?_
          refine J_iload_n (i := 1) C dX3_dividedByLimbs_266 rfl (js1_int (jdrop_of h1 rfl) (by decide)) ?_
          refine J_callVi C [.int (nI p)] rfl rfl 3 (c_isBelow (f := G) (show p < N by omega) hN) (gV mlX3_X3_isBelow imX3_isBelow slX3_isBelow iniX3 cdX3_isBelow) rfl dsX3_isBelow ⟨by decide, by decide⟩ dX3_dividedByLimbs_267 rfl (Nat.le_of_ble_eq_true rfl) rfl (Nat.le_of_ble_eq_true rfl) (Nat.le_of_eq hX) (Nat.le_of_ble_eq_true rfl) (Nat.le_of_ble_eq_true rfl) (fun r pw h hl => ?_)
          obtain ⟨rfl, rfl⟩ := h
          refine J_eqi eb ?_
          refine J_callVi C [.int (nI (t + 1 + trimN z t (d + 1))), .int (nI (n + 2)), .int (nI b2)] rfl rfl 3 (c_closed (by omega) hN (b01 hb2)) (gV mlX3_X3_closed imX3_closed slX3_closed iniX3 cdX3_closed) rfl dsX3_closed ⟨by decide, by decide⟩ dX3_dividedByLimbs_270 rfl (Nat.le_of_ble_eq_true rfl) rfl (Nat.le_of_ble_eq_true rfl) (Nat.le_of_eq hX) (Nat.le_of_ble_eq_true rfl) (Nat.le_of_ble_eq_true rfl) (fun r pw h hl => ?_)
          obtain ⟨rfl, rfl⟩ := h
          refine J_pop C dX3_dividedByLimbs_273 rfl ?_
          refine J_iload C dX3_dividedByLimbs_274 (jdrop_of (jdrop_of (js1_int (jdrop_of h5 rfl) (by decide)) rfl) rfl) ?_
          refine hR _ _ _ _ _ _ dX3_dividedByLimbs_276 ⟨rfl,?_⟩ (Nat.le_of_eq hX) (Nat.le_refl _) (Nat.le_refl _)
          subst hG
          refine pN2_closed hm2 (by omega) hc (fun j hj => by rw [he j (by omega)]; exact hgf j (by omega)) rfl (fun j hj => pk_cpy_out (by omega)) (fun j hj => ?_) (by omega) hb2
          have w := hh j hj
          rw [dg_eq (f := z) (j := t + d + 3 + j) rfl] at w
          have w4 : va_cpy (upd z t (headN (trimN z t (d + 1)) (nI c))) (upd z t (headN (trimN z t (d + 1)) (nI c))) (t + d + 3) (t + 1 + trimN z t (d + 1) + 1) (n + 2) (t + 1 + trimN z t (d + 1) + 1 + j) = z (t + d + 3 + j) := by
            rw [pk_cpy_in (by omega) (by omega), pk_un (by omega)]
            congr 1; omega
          exact lm_of (w4.trans w.1) w.2
        refine J_aload_n (i := 0) C dX3_dividedByLimbs_198 rfl h0 ?_
        refine J_iload C dX3_dividedByLimbs_199 h5 ?_
        refine J_iload_n (i := 3) C dX3_dividedByLimbs_201 rfl h3 ?_
        refine J_iload C dX3_dividedByLimbs_202 h4 ?_
        refine J_isub C dX3_dividedByLimbs_204 ?_
        refine J_eqi (pk_sub (by omega)) ?_
        refine J_iconst (v := nI 1) C dX3_dividedByLimbs_205 (by decide) ?_
        refine J_iadd C dX3_dividedByLimbs_206 ?_
        refine J_eqi (y := nI (d + 1)) ((nI_add _ _).trans (congrArg nI (by omega))) ?_
        refine J_aload_n (i := 0) C dX3_dividedByLimbs_207 rfl h0 ?_
        refine J_get (ci := 6) (k := 0) C dX3_dividedByLimbs_208 (inT inX3) rfl (gc flX3_X3_cell) (by decide) rfl rfl ?_
        refine J_iload_n (i := 1) C dX3_dividedByLimbs_211 rfl h1 ?_
        refine J_ialdN C dX3_dividedByLimbs_212 rfl (show p < N by omega) (by omega) rfl ?_
        refine J_aload_n (i := 0) C dX3_dividedByLimbs_213 rfl h0 ?_
        refine J_get (ci := 6) (k := 0) C dX3_dividedByLimbs_214 (inT inX3) rfl (gc flX3_X3_cell) (by decide) rfl rfl ?_
        refine J_iload_n (i := 2) C dX3_dividedByLimbs_217 rfl h2 ?_
        refine J_ialdN C dX3_dividedByLimbs_218 rfl (show q < N by omega) (by omega) rfl ?_
        refine J_ixor C dX3_dividedByLimbs_219 ?_
        refine J_iconst (v := nI 1) C dX3_dividedByLimbs_220 (by decide) ?_
        refine J_iand C dX3_dividedByLimbs_221 ?_
        refine J_iconst (v := nI 1) C dX3_dividedByLimbs_222 (by decide) ?_
        refine J_icmp_ne (tgt := 230) C dX3_dividedByLimbs_223 (by decide) (fun h223q => ?_) (fun h223q => ?_)
        · refine J_iconst (v := nI 0) C dX3_dividedByLimbs_230 (by decide) ?_
          exact hC 0 (by decide)
        · refine J_iconst (v := nI 1) C dX3_dividedByLimbs_226 (by decide) ?_
          refine J_goto (tgt := 231) C dX3_dividedByLimbs_227 (by decide) ?_
          exact hC 1 (by decide)
      · exact absurd (by decide) h144q
    | succ s ih =>
      intro l z lv hs hl hh he h0 h1 h2 h3 h4 h5 h6 h8 h9 h11
      obtain ⟨a1, a2⟩ := hh s (by omega)
      generalize dg z (t + d + 3 + s) = x at a1 a2
      obtain ⟨n1, n2, n3, n4⟩ := div_step (x := x) (B := 1000000000) hl a2
      have h11 : lv 11 = some (.int (nI s)) := h11
      refine J_iload C dX3_dividedByLimbs_142 h11 ?_
      refine J_if_lt (tgt := 198) C dX3_dividedByLimbs_144 (by decide) (fun h144q => have h144 := (nI_lt0 (by omega)).mp h144q; ?_) (fun h144q => have h144 := (not_congr (nI_lt0 (by omega))).mp h144q; ?_)
      · exact h144.elim
      · refine J_lload C dX3_dividedByLimbs_147 h9 ?_
        refine J_ldc2 C (gc clX3_1000000000) dX3_dividedByLimbs_149 ?_
        refine J_eql (y := lN 1000000000) (by decide) ?_
        refine J_lmul C dX3_dividedByLimbs_152 ?_
        refine J_eql (lN_mul _ _) ?_
        refine J_aload_n (i := 0) C dX3_dividedByLimbs_153 rfl h0 ?_
        refine J_get (ci := 6) (k := 0) C dX3_dividedByLimbs_154 (inT inX3) rfl (gc flX3_X3_cell) (by decide) rfl rfl ?_
        refine J_iload C dX3_dividedByLimbs_157 h6 ?_
        refine J_iload C dX3_dividedByLimbs_159 h11 ?_
        refine J_iadd C dX3_dividedByLimbs_161 ?_
        refine J_eqi (nI_add _ _) ?_
        refine J_ialdN C dX3_dividedByLimbs_162 rfl (by omega) (by omega) a1 ?_
        refine J_i2l C dX3_dividedByLimbs_163 (nI_l (by omega)) ?_
        refine J_ladd C dX3_dividedByLimbs_164 ?_
        refine J_eql (lN_add _ _) ?_
        refine J_lstore C dX3_dividedByLimbs_165 (by decide) ?_
        refine J_aload_n (i := 0) C dX3_dividedByLimbs_167 rfl (js2_ref h0 (by decide) (by decide)) ?_
        refine J_get (ci := 6) (k := 0) C dX3_dividedByLimbs_168 (inT inX3) rfl (gc flX3_X3_cell) (by decide) rfl rfl ?_
        refine J_iload C dX3_dividedByLimbs_171 (js2_int h6 (by decide) (by decide)) ?_
        refine J_iload C dX3_dividedByLimbs_173 (js2_int h11 (by decide) (by decide)) ?_
        refine J_iadd C dX3_dividedByLimbs_175 ?_
        refine J_eqi (nI_add _ _) ?_
        refine J_lload C dX3_dividedByLimbs_176 js2_at ?_
        refine J_iload C dX3_dividedByLimbs_178 (js2_int h8 (by decide) (by decide)) ?_
        refine J_i2l C dX3_dividedByLimbs_180 (nI_l (by omega)) ?_
        refine J_ldiv C dX3_dividedByLimbs_181 (lN_ne0 (by omega) (by omega)) ?_
        refine J_eql (pk_lDiv (by omega) (by omega) (by omega)) ?_
        refine J_l2i C dX3_dividedByLimbs_182 (lN_i _) ?_
        refine J_iastN C dX3_dividedByLimbs_183 rfl (by omega) (by omega) ?_
        refine J_lload C dX3_dividedByLimbs_184 js2_at ?_
        refine J_iload C dX3_dividedByLimbs_186 (js2_int h8 (by decide) (by decide)) ?_
        refine J_i2l C dX3_dividedByLimbs_188 (nI_l (by omega)) ?_
        refine J_lrem C dX3_dividedByLimbs_189 (lN_ne0 (by omega) (by omega)) ?_
        refine J_eql (pk_lRem (by omega) (by omega) (by omega)) ?_
        refine J_lstore C dX3_dividedByLimbs_190 (by decide) ?_
        refine J_iinc C dX3_dividedByLimbs_192 (js2_int (js2_int h11 (by decide) (by decide)) (by decide) (by decide)) (jm_dec _) ?_
        refine J_goto (tgt := 142) C dX3_dividedByLimbs_195 (by decide) ?_
        refine ih _ _ _ (by omega) (Nat.mod_lt _ w1) (fun j hj => ?_) (fun j hj => ?_) (js1_ref (js2_ref (js2_ref h0 (by decide) (by decide)) (by decide) (by decide)) (by decide)) (js1_int (js2_int (js2_int h1 (by decide) (by decide)) (by decide) (by decide)) (by decide)) (js1_int (js2_int (js2_int h2 (by decide) (by decide)) (by decide) (by decide)) (by decide)) (js1_int (js2_int (js2_int h3 (by decide) (by decide)) (by decide) (by decide)) (by decide)) (js1_int (js2_int (js2_int h4 (by decide) (by decide)) (by decide) (by decide)) (by decide)) (js1_int (js2_int (js2_int h5 (by decide) (by decide)) (by decide) (by decide)) (by decide)) (js1_int (js2_int (js2_int h6 (by decide) (by decide)) (by decide) (by decide)) (by decide)) (js1_int (js2_int (js2_int h8 (by decide) (by decide)) (by decide) (by decide)) (by decide)) (js1_long js2_at (by decide) (by decide)) js1_at
        · by_cases w : j = s
          · subst w
            exact lm_of pk_us n1
          · have w2 := hh j hj
            have w3 : upd z (t + d + 3 + s) (nI ((l * 1000000000 + x) / fa)) (t + d + 3 + j) = z (t + d + 3 + j) := pk_un (by omega)
            rw [dg_eq w3, w3]; exact w2
        · rw [pk_un (by omega)]; exact he j hj
  -- the division
  have hD : ∀ (g2 : Nat → Int32), lm g2 (t + d + 3 + m + 1) (n + 2) → vN g2 (t + d + 3 + m + 1) (n + 2) = fa * vN f (q + 1) (n + 2) → ∀ (s : Nat) (g : Nat → Int32) (lv : Nat → Option Value), s ≤ d + 1 → lm g (t + d + 3) (n + 2 + s) → (0 < s → vN g (t + d + 3 + (s - 1)) (n + 3) < fa * vN f (q + 1) (n + 2) * 1000000000) → (∀ j, s ≤ j → j ≤ d → g (t + 1 + j) = nI (dg g (t + 1 + j)) ∧ dg g (t + 1 + j) < 1000000000) → (∀ j, j < t + 1 → g j = f j) → (∀ j, t + d + 3 + m + 1 ≤ j → g j = g2 j) → lv 0 = some (.ref 1) → lv 1 = some (.int (nI p)) → lv 2 = some (.int (nI q)) → lv 3 = some (.int (nI m)) → lv 4 = some (.int (nI (n + 2))) → lv 5 = some (.int (nI t)) → lv 6 = some (.int (nI (t + d + 3))) → lv 7 = some (.int (nI (t + d + 3 + m + 1))) → lv 8 = some (.int (nI fa)) → lv 9 = some (.int (jm s)) → J X 97 lv [] (nW x0 (nI t) fm kp N g rest) 0 0 := by
    intro g2 hg2 hV2 s
    induction s with
    | zero =>
      intro g lv hs hg hU hq he hv h0 h1 h2 h3 h4 h5 h6 h7 h8 h9
      have hm2 : lm g (t + 1) (d + 1) := fun j hj => hq j (by omega) (by omega)
      refine J_iload C dX3_dividedByLimbs_97 h9 ?_
      refine J_if_lt (tgt := 133) C dX3_dividedByLimbs_99 (by decide) (fun h99q => ?_) (fun h99q => ?_)
      · refine J_lconst (v := lN 0) C dX3_dividedByLimbs_133 (by decide) ?_
        refine J_lstore C dX3_dividedByLimbs_134 (by decide) ?_
        refine J_iload C dX3_dividedByLimbs_136 (js2_int h4 (by decide) (by decide)) ?_
        refine J_iconst (v := nI 1) C dX3_dividedByLimbs_138 (by decide) ?_
        refine J_isub C dX3_dividedByLimbs_139 ?_
        refine J_eqi (y := jm (n + 2)) ((pk_sub (by omega)).trans (congrArg nI (by omega))) ?_
        refine J_istore C dX3_dividedByLimbs_140 (by decide) ?_
        exact hE g hm2 he (n + 2) 0 g _ (Nat.le_refl _) w1 hg (fun _ _ => rfl) (js1_ref (js2_ref h0 (by decide) (by decide)) (by decide)) (js1_int (js2_int h1 (by decide) (by decide)) (by decide)) (js1_int (js2_int h2 (by decide) (by decide)) (by decide)) (js1_int (js2_int h3 (by decide) (by decide)) (by decide)) (js1_int (js2_int h4 (by decide) (by decide)) (by decide)) (js1_int (js2_int h5 (by decide) (by decide)) (by decide)) (js1_int (js2_int h6 (by decide) (by decide)) (by decide)) (js1_int (js2_int h8 (by decide) (by decide)) (by decide)) (js1_long js2_at (by decide) (by decide)) js1_at
      · exact absurd (by decide) h99q
    | succ s ih =>
      intro g lv hs hg hU hq he hv h0 h1 h2 h3 h4 h5 h6 h7 h8 h9
      have h9 : lv 9 = some (.int (nI s)) := h9
      have hv2 : lm g (t + d + 3 + m + 1) (n + 2) := lm_eq (fun k hk => hv _ (by omega)) hg2
      have hV3 : vN g (t + d + 3 + m + 1) (n + 2) = fa * vN f (q + 1) (n + 2) := (vN_eq (fun k hk => hv _ (by omega))).trans hV2
      have htop : 1000000000 ≤ 2 * dg g (t + d + 3 + m + 1 + (n + 1)) := by
        have r1 := vN_lt (lm_le hv2 (show n + 1 ≤ n + 2 by omega))
        have r2 : vN g (t + d + 3 + m + 1) (n + 2) = vN g (t + d + 3 + m + 1) (n + 1) + dg g (t + d + 3 + m + 1 + (n + 1)) * 1000000000 ^ (n + 1) := rfl
        rw [hV3] at r2
        have r3 : y * fa < dg g (t + d + 3 + m + 1 + (n + 1)) + 1 := by
          refine Nat.lt_of_mul_lt_mul_right (a := 1000000000 ^ (n + 1)) ?_
          rw [Nat.add_mul, Nat.one_mul]
          omega
        omega
      have hUV : vN g (t + d + 3 + s) (n + 3) < vN g (t + d + 3 + m + 1) (n + 2) * 1000000000 := by rw [hV3]; exact hU (by omega)
      have hU3 : lm g (t + d + 3 + s) (n + 3) := lm_from hg (by omega)
      refine J_iload C dX3_dividedByLimbs_97 h9 ?_
      refine J_if_lt (tgt := 133) C dX3_dividedByLimbs_99 (by decide) (fun h99q => have h99 := (nI_lt0 (by omega)).mp h99q; ?_) (fun h99q => have h99 := (not_congr (nI_lt0 (by omega))).mp h99q; ?_)
      · exact h99.elim
      · refine J_aload_n (i := 0) C dX3_dividedByLimbs_102 rfl h0 ?_
        refine J_get (ci := 6) (k := 0) C dX3_dividedByLimbs_103 (inT inX3) rfl (gc flX3_X3_cell) (by decide) rfl rfl ?_
        refine J_iload C dX3_dividedByLimbs_106 h5 ?_
        refine J_iconst (v := nI 1) C dX3_dividedByLimbs_108 (by decide) ?_
        refine J_iadd C dX3_dividedByLimbs_109 ?_
        refine J_eqi (nI_add _ _) ?_
        refine J_iload C dX3_dividedByLimbs_110 h9 ?_
        refine J_iadd C dX3_dividedByLimbs_112 ?_
        refine J_eqi (nI_add _ _) ?_
        refine J_aload_n (i := 0) C dX3_dividedByLimbs_113 rfl h0 ?_
        refine J_iload C dX3_dividedByLimbs_114 h6 ?_
        refine J_iload C dX3_dividedByLimbs_116 h9 ?_
        refine J_iadd C dX3_dividedByLimbs_118 ?_
        refine J_eqi (nI_add _ _) ?_
        refine J_iload C dX3_dividedByLimbs_119 h7 ?_
        refine J_iload C dX3_dividedByLimbs_121 h4 ?_
        refine J_callVi C [.int (nI (t + d + 3 + s)), .int (nI (t + d + 3 + m + 1)), .int (nI (n + 2))] rfl rfl 3 (c_quotientLimb hU3 hv2 (by omega) (by omega) hN htop hUV) (gV mlX3_X3_quotientLimb imX3_quotientLimb slX3_quotientLimb iniX3 cdX3_quotientLimb) rfl dsX3_quotientLimb ⟨by decide, by decide⟩ dX3_dividedByLimbs_123 rfl (Nat.le_of_ble_eq_true rfl) rfl (Nat.le_of_ble_eq_true rfl) (Nat.le_of_eq hX) (Nat.le_of_ble_eq_true rfl) (Nat.le_of_ble_eq_true rfl) (fun r pw h hl => ?_)
        obtain ⟨x, g3, rfl, c2, rfl, c4, c5, c6, c7⟩ := h
        refine J_iastN C dX3_dividedByLimbs_126 rfl (by omega) (by omega) ?_
        refine J_iinc C dX3_dividedByLimbs_127 (jdrop_of h9 rfl) (jm_dec _) ?_
        refine J_goto (tgt := 97) C dX3_dividedByLimbs_130 (by decide) ?_
        refine ih _ _ (by omega) ?_ ?_ (fun j h1 h2 => ?_) (fun j hj => ?_) (fun j hj => ?_) (js1_ref (jdrop_of h0 rfl) (by decide)) (js1_int (jdrop_of h1 rfl) (by decide)) (js1_int (jdrop_of h2 rfl) (by decide)) (js1_int (jdrop_of h3 rfl) (by decide)) (js1_int (jdrop_of h4 rfl) (by decide)) (js1_int (jdrop_of h5 rfl) (by decide)) (js1_int (jdrop_of h6 rfl) (by decide)) (js1_int (jdrop_of h7 rfl) (by decide)) (js1_int (jdrop_of h8 rfl) (by decide)) js1_at
        · refine lm_un (fun j hj => ?_) (by omega)
          by_cases w : j < s
          · have w2 := hg j (by omega)
            rw [dg_eq (c7 (t + d + 3 + j) (by omega)), c7 (t + d + 3 + j) (by omega)]; exact w2
          · have w2 := c4 (j - s) (by omega)
            rw [show t + d + 3 + s + (j - s) = t + d + 3 + j by omega] at w2
            exact w2
        · intro hs0
          rw [vN_un (by omega), vN_low, show t + d + 3 + (s - 1) + 1 = t + d + 3 + s by omega]
          rw [hV3] at c6
          have w2 := (hg (s - 1) (by omega)).2
          rw [dg_eq (c7 (t + d + 3 + (s - 1)) (by omega))]
          omega
        · by_cases w : j = s
          · subst w
            exact lm_of pk_us c2
          · have w2 := hq j (by omega) h2
            have w3 : upd g3 (t + 1 + s) (nI x) (t + 1 + j) = g (t + 1 + j) := by rw [pk_un (by omega)]; exact c7 _ (by omega)
            rw [dg_eq w3, w3]; exact w2
        · rw [pk_un (by omega), c7 j (by omega)]; exact he j hj
        · rw [pk_un (by omega), c7 j (by omega)]; exact hv j hj
  refine J_aload_n (i := 0) C dX3_dividedByLimbs_0 rfl rfl ?_
  refine J_get (ci := 6) (k := 0) C dX3_dividedByLimbs_1 (inT inX3) rfl (gc flX3_X3_cell) (by decide) rfl rfl ?_
  refine J_iload_n (i := 1) C dX3_dividedByLimbs_4 rfl rfl ?_
  refine J_ialdN C dX3_dividedByLimbs_5 rfl (by omega) (by omega) e1 ?_
  refine J_iconst (v := nI 1) C dX3_dividedByLimbs_6 (by decide) ?_
  refine J_ishr C dX3_dividedByLimbs_7 ?_
  refine J_eqi (y := nI m) ((nI_shr1N (by omega)).trans (congrArg nI hm)) ?_
  refine J_istore_n (i := 3) C dX3_dividedByLimbs_8 rfl (by decide) ?_
  refine J_aload_n (i := 0) C dX3_dividedByLimbs_9 rfl rfl ?_
  refine J_get (ci := 6) (k := 0) C dX3_dividedByLimbs_10 (inT inX3) rfl (gc flX3_X3_cell) (by decide) rfl rfl ?_
  refine J_iload_n (i := 2) C dX3_dividedByLimbs_13 rfl rfl ?_
  refine J_ialdN C dX3_dividedByLimbs_14 rfl (by omega) (by omega) q1 ?_
  refine J_iconst (v := nI 1) C dX3_dividedByLimbs_15 (by decide) ?_
  refine J_ishr C dX3_dividedByLimbs_16 ?_
  refine J_eqi (y := nI (n + 2)) ((nI_shr1N (by omega)).trans (congrArg nI hn)) ?_
  refine J_istore C dX3_dividedByLimbs_17 (by decide) ?_
  refine J_aload_n (i := 0) C dX3_dividedByLimbs_19 rfl rfl ?_
  refine J_iconst (v := nI 2) C dX3_dividedByLimbs_20 (by decide) ?_
  refine J_iload_n (i := 3) C dX3_dividedByLimbs_21 rfl rfl ?_
  refine J_imul C dX3_dividedByLimbs_22 ?_
  refine J_eqi (pk_mul _ _) ?_
  refine J_bipush (v := nI 8) C dX3_dividedByLimbs_23 (by decide) ?_
  refine J_iadd C dX3_dividedByLimbs_25 ?_
  refine J_eqi (nI_add _ _) ?_
  refine J_callVn C [.int (nI (2 * m + 8))] rfl rfl 3 (c_room (by omega) hN) (gV mlX3_X3_room imX3_room slX3_room iniX3 cdX3_room) rfl dsX3_room ⟨by decide, by decide⟩ dX3_dividedByLimbs_26 rfl (Nat.le_of_ble_eq_true rfl) rfl (Nat.le_of_ble_eq_true rfl) (Nat.le_of_eq hX) (Nat.le_of_ble_eq_true rfl) (Nat.le_of_ble_eq_true rfl) (fun pw h hl => ?_)
  subst h
  refine J_aload_n (i := 0) C dX3_dividedByLimbs_29 rfl rfl ?_
  refine J_get (ci := 6) (k := 1) C dX3_dividedByLimbs_30 (inT inX3) rfl (gc flX3_X3_top) (by decide) rfl rfl ?_
  refine J_istore C dX3_dividedByLimbs_33 (by decide) ?_
  refine J_iload C dX3_dividedByLimbs_35 rfl ?_
  refine J_iload_n (i := 3) C dX3_dividedByLimbs_37 rfl rfl ?_
  refine J_iadd C dX3_dividedByLimbs_38 ?_
  refine J_eqi (nI_add _ _) ?_
  refine J_iload C dX3_dividedByLimbs_39 rfl ?_
  refine J_isub C dX3_dividedByLimbs_41 ?_
  refine J_eqi (pk_sub (by omega)) ?_
  refine J_iconst (v := nI 3) C dX3_dividedByLimbs_42 (by decide) ?_
  refine J_iadd C dX3_dividedByLimbs_43 ?_
  refine J_eqi (y := nI (t + d + 3)) ((nI_add _ _).trans (congrArg nI (by omega))) ?_
  refine J_istore C dX3_dividedByLimbs_44 (by decide) ?_
  refine J_iload C dX3_dividedByLimbs_46 rfl ?_
  refine J_iload_n (i := 3) C dX3_dividedByLimbs_48 rfl rfl ?_
  refine J_iadd C dX3_dividedByLimbs_49 ?_
  refine J_eqi (nI_add _ _) ?_
  refine J_iconst (v := nI 1) C dX3_dividedByLimbs_50 (by decide) ?_
  refine J_iadd C dX3_dividedByLimbs_51 ?_
  refine J_eqi (nI_add _ _) ?_
  refine J_istore C dX3_dividedByLimbs_52 (by decide) ?_
  refine J_ldc C (gc coX3_1000000000) dX3_dividedByLimbs_54 ?_
  refine J_eqi (y := nI 1000000000) (by decide) ?_
  refine J_aload_n (i := 0) C dX3_dividedByLimbs_56 rfl rfl ?_
  refine J_get (ci := 6) (k := 0) C dX3_dividedByLimbs_57 (inT inX3) rfl (gc flX3_X3_cell) (by decide) rfl rfl ?_
  refine J_iload_n (i := 2) C dX3_dividedByLimbs_60 rfl rfl ?_
  refine J_iload C dX3_dividedByLimbs_61 rfl ?_
  refine J_iadd C dX3_dividedByLimbs_63 ?_
  refine J_eqi (nI_add _ _) ?_
  refine J_ialdN C dX3_dividedByLimbs_64 rfl (by omega) (by omega) y1 ?_
  refine J_iconst (v := nI 1) C dX3_dividedByLimbs_65 (by decide) ?_
  refine J_iadd C dX3_dividedByLimbs_66 ?_
  refine J_eqi (nI_add _ _) ?_
  refine J_idiv C dX3_dividedByLimbs_67 (nI_ne0 (by omega) (by omega)) ?_
  refine J_eqi (y := nI fa) ((pk_div (by omega) (by omega) (by omega)).trans (congrArg nI hfa)) ?_
  refine J_istore C dX3_dividedByLimbs_68 (by decide) ?_
  refine J_aload_n (i := 0) C dX3_dividedByLimbs_70 rfl rfl ?_
  refine J_iload_n (i := 1) C dX3_dividedByLimbs_71 rfl rfl ?_
  refine J_iload_n (i := 3) C dX3_dividedByLimbs_72 rfl rfl ?_
  refine J_iload C dX3_dividedByLimbs_73 rfl ?_
  refine J_iload C dX3_dividedByLimbs_75 rfl ?_
  refine J_callVn C [.int (nI p), .int (nI m), .int (nI fa), .int (nI (t + d + 3))] rfl rfl 3 (c_multiply e4 (by omega) (by omega) hN w1 hfaB) (gV mlX3_X3_multiply imX3_multiply slX3_multiply iniX3 cdX3_multiply) rfl dsX3_multiply ⟨by decide, by decide⟩ dX3_dividedByLimbs_77 rfl (Nat.le_of_ble_eq_true rfl) rfl (Nat.le_of_ble_eq_true rfl) (Nat.le_of_eq hX) (Nat.le_of_ble_eq_true rfl) (Nat.le_of_ble_eq_true rfl) (fun pw h hl => ?_)
  obtain ⟨g1, rfl, a1, a2, a3⟩ := h
  have q4' : lm g1 (q + 1) (n + 2) := lm_eq (fun k hk => a3 _ (by omega)) q4
  refine J_aload_n (i := 0) C dX3_dividedByLimbs_80 rfl rfl ?_
  refine J_iload_n (i := 2) C dX3_dividedByLimbs_81 rfl rfl ?_
  refine J_iload C dX3_dividedByLimbs_82 rfl ?_
  refine J_iload C dX3_dividedByLimbs_84 rfl ?_
  refine J_iload C dX3_dividedByLimbs_86 rfl ?_
  refine J_callVn C [.int (nI q), .int (nI (n + 2)), .int (nI fa), .int (nI (t + d + 3 + m + 1))] rfl rfl 3 (c_multiply q4' (by omega) (by omega) hN w1 hfaB) (gV mlX3_X3_multiply imX3_multiply slX3_multiply iniX3 cdX3_multiply) rfl dsX3_multiply ⟨by decide, by decide⟩ dX3_dividedByLimbs_88 rfl (Nat.le_of_ble_eq_true rfl) rfl (Nat.le_of_ble_eq_true rfl) (Nat.le_of_eq hX) (Nat.le_of_ble_eq_true rfl) (Nat.le_of_ble_eq_true rfl) (fun pw h hl => ?_)
  obtain ⟨g2, rfl, b1, b2, b3⟩ := h
  have eq : vN g1 (q + 1) (n + 2) = vN f (q + 1) (n + 2) := vN_eq (fun k hk => a3 _ (by omega))
  rw [eq] at b2
  have top0 : dg g2 (t + d + 3 + m + 1 + (n + 2)) = 0 := by
    have r2 : vN g2 (t + d + 3 + m + 1) (n + 2 + 1) = vN g2 (t + d + 3 + m + 1) (n + 2) + dg g2 (t + d + 3 + m + 1 + (n + 2)) * 1000000000 ^ (n + 2) := rfl
    rcases Nat.eq_zero_or_pos (dg g2 (t + d + 3 + m + 1 + (n + 2))) with z | z
    · exact z
    · have : 1 * 1000000000 ^ (n + 2) ≤ dg g2 (t + d + 3 + m + 1 + (n + 2)) * 1000000000 ^ (n + 2) := Nat.mul_le_mul_right _ z
      omega
  have b4 : vN g2 (t + d + 3 + m + 1) (n + 2) = fa * vN f (q + 1) (n + 2) := by
    have r2 : vN g2 (t + d + 3 + m + 1) (n + 2 + 1) = vN g2 (t + d + 3 + m + 1) (n + 2) + dg g2 (t + d + 3 + m + 1 + (n + 2)) * 1000000000 ^ (n + 2) := rfl
    rw [top0, Nat.zero_mul] at r2
    omega
  refine J_iload_n (i := 3) C dX3_dividedByLimbs_91 rfl rfl ?_
  refine J_iload C dX3_dividedByLimbs_92 rfl ?_
  refine J_isub C dX3_dividedByLimbs_94 ?_
  refine J_eqi (y := jm (d + 1)) ((pk_sub (by omega)).trans (congrArg nI (by omega))) ?_
  refine J_istore C dX3_dividedByLimbs_95 (by decide) ?_
  refine hD g2 (lm_le b1 (by omega)) b4 (d + 1) g2 _ (Nat.le_refl _) ?_ (fun _ => ?_) (fun j h1 h2 => absurd h1 (by omega)) (fun j hj => ?_) (fun _ _ => rfl) rfl rfl rfl rfl rfl rfl rfl rfl rfl rfl
  · rw [show n + 2 + (d + 1) = m + 1 by omega]
    exact lm_eq (fun k hk => b3 _ (by omega)) a1
  · have r1 : vN g2 (t + d + 3) (m + 1) = fa * vN f (p + 1) m := (vN_eq (fun k hk => b3 _ (by omega))).trans a2
    have r2 := vN_hi g2 (t + d + 3) d (n + 3)
    rw [show d + (n + 3) = m + 1 by omega, r1] at r2
    have r3 := vN_lt e4
    have r4 : fa * vN f (p + 1) m < fa * 1000000000 ^ m := Nat.mul_lt_mul_of_pos_left r3 w1
    have r5 : fa * 1000000000 ^ (n + 1) ≤ fa * vN f (q + 1) (n + 2) := Nat.mul_le_mul_left _ hV0
    have r6 : fa * 1000000000 ^ (n + 1) * 1000000000 * 1000000000 ^ d ≤ fa * vN f (q + 1) (n + 2) * 1000000000 * 1000000000 ^ d := Nat.mul_le_mul_right _ (Nat.mul_le_mul_right _ r5)
    have r7 : fa * 1000000000 ^ (n + 1) * 1000000000 * 1000000000 ^ d = fa * 1000000000 ^ m := by rw [hmn, Nat.pow_add 1000000000 (n + 2) d, Nat.pow_succ 1000000000 (n + 1), Nat.mul_assoc fa, Nat.mul_assoc fa]
    refine Nat.lt_of_mul_lt_mul_right (a := 1000000000 ^ d) ?_
    show vN g2 (t + d + 3 + (d + 1 - 1)) (n + 3) * 1000000000 ^ d < _
    rw [show t + d + 3 + (d + 1 - 1) = t + d + 3 + d by omega]
    omega
  · rw [b3 j (by omega), a3 j (by omega)]
set_option maxHeartbeats 2000000 in
/-- divided(p, q) -/
theorem c_divided {x0 : jE} {rest : jW} {fm kp : Int32} {N : Nat} {f : Nat → Int32} {t p q k kq : Nat} (hs : sh f p k) (hsq : sh f q kq) (hp : p + k / 2 < t) (hqt : q + kq / 2 < t) (ht : t + 14 ≤ N) (hN : N < 2 ^ 30) :
    jI vwCl yX3_divided (wc yX3_divided cX3_divided 4 (some .int)) 3 180 [.ref 1, .int (nI p), .int (nI q)] (nW x0 (nI t) fm kp N f rest) 0 0 (fun r pw => r = nI t ∧ pN2 x0 fm kp N f rest t pw) := by
  refine jI_of (cc := cX3_divided) (nL := 4) .int (by decide) rfl (Nat.le_of_ble_eq_true rfl) (fun _ _ _ => rfl) ?_
  intro X C hX hR
  have hs' := hs
  have hsq' := hsq
  obtain ⟨e1, e2, e3, e4, e5⟩ := hs
  obtain ⟨q1, q2, q3, q4, q5⟩ := hsq
  have hZ : ∀ lv : Nat → Option Value, lv 0 = some (.ref 1) → lv 1 = some (.int (nI p)) → lv 2 = some (.int (nI q)) → J X 18 lv [] (nW x0 (nI t) fm kp N f rest) 0 0 := by
    intro lv h0 h1 h2
    refine J_aload_n (i := 0) C dX3_divided_18 rfl h0 ?_
    refine J_get (ci := 6) (k := 1) C dX3_divided_19 (inT inX3) rfl (gc flX3_X3_top) (by decide) rfl rfl ?_
    refine J_istore_n (i := 3) C dX3_divided_22 rfl (by decide) ?_
    refine J_aload_n (i := 0) C dX3_divided_23 rfl (js1_ref h0 (by decide)) ?_
    refine J_iconst (v := nI 1) C dX3_divided_24 (by decide) ?_
    refine J_callVn C [.int (nI 1)] rfl rfl 3 (c_noughts (by omega) hN) (gV mlX3_X3_noughts imX3_noughts slX3_noughts iniX3 cdX3_noughts) rfl dsX3_noughts ⟨by decide, by decide⟩ dX3_divided_25 rfl (Nat.le_of_ble_eq_true rfl) rfl (Nat.le_of_ble_eq_true rfl) (Nat.le_of_eq hX) (Nat.le_of_ble_eq_true rfl) (Nat.le_of_ble_eq_true rfl) (fun pw h hl => ?_)
    subst h
    refine J_aload_n (i := 0) C dX3_divided_28 rfl (jdrop_of (js1_ref h0 (by decide)) rfl) ?_
    refine J_iload_n (i := 1) C dX3_divided_29 rfl (jdrop_of (js1_int h1 (by decide)) rfl) ?_
    refine J_iconst (v := nI 1) C dX3_divided_30 (by decide) ?_
    refine J_callVi C [.int (nI p), .int (nI 1)] rfl rfl 3 (c_copied1 (f := fillN f t (t + 1) 0) (k := k) (by omega) (by omega) hN (by unfold fillN; rw [if_neg (by omega)]; exact e1) (by omega)) (gV mlX3_X3_copied imX3_copied slX3_copied iniX3 cdX3_copied) rfl dsX3_copied ⟨by decide, by decide⟩ dX3_divided_31 rfl (Nat.le_of_ble_eq_true rfl) rfl (Nat.le_of_ble_eq_true rfl) (Nat.le_of_eq hX) (Nat.le_of_ble_eq_true rfl) (Nat.le_of_ble_eq_true rfl) (fun r pw h hl => ?_)
    obtain ⟨rfl, rfl⟩ := h
    refine J_pop C dX3_divided_34 rfl ?_
    refine J_iload_n (i := 3) C dX3_divided_35 rfl (jdrop_of (jdrop_of js1_at rfl) rfl) ?_
    refine hR _ _ _ _ _ _ dX3_divided_36 ⟨rfl,0,k,_,nW_top (by omega),⟨?_,by decide,fun _ => rfl,fun k hk => absurd hk (by omega),fun h => absurd h (by decide)⟩,sh_copy (f := f) hs' (fun j h1 h2 => ?_),fun j hj => ?_⟩ (Nat.le_of_eq hX) (Nat.le_refl _) (Nat.le_refl _)
    · rw [pk_cpy_out (by omega)]
      unfold fillN
      rw [if_pos (by omega)]; rfl
    · rw [pk_cpy_in (by omega) (by omega)]
      unfold fillN
      rw [if_neg (by omega)]
    · rw [pk_cpy_out (by omega)]
      unfold fillN
      rw [if_neg (by omega)]
  refine J_aload_n (i := 0) C dX3_divided_0 rfl rfl ?_
  refine J_get (ci := 6) (k := 0) C dX3_divided_1 (inT inX3) rfl (gc flX3_X3_cell) (by decide) rfl rfl ?_
  refine J_iload_n (i := 2) C dX3_divided_4 rfl rfl ?_
  refine J_ialdN C dX3_divided_5 rfl (by omega) (by omega) q1 ?_
  refine J_if_eq (tgt := 18) C dX3_divided_6 (by decide) (fun h6q => have h6 := (nI_z (by omega)).mp h6q; ?_) (fun h6q => have h6 := (not_congr (nI_z (by omega))).mp h6q; ?_)
  · exact hZ _ rfl rfl rfl
  · refine J_aload_n (i := 0) C dX3_divided_9 rfl rfl ?_
    refine J_iload_n (i := 1) C dX3_divided_10 rfl rfl ?_
    refine J_iload_n (i := 2) C dX3_divided_11 rfl rfl ?_
    refine J_callVi C [.int (nI p), .int (nI q)] rfl rfl 3 (c_sizeOrder (by omega) (by omega) hN e1 q1 (by omega) (by omega)) (gV mlX3_X3_sizeOrder imX3_sizeOrder slX3_sizeOrder iniX3 cdX3_sizeOrder) rfl dsX3_sizeOrder ⟨by decide, by decide⟩ dX3_divided_12 rfl (Nat.le_of_ble_eq_true rfl) rfl (Nat.le_of_ble_eq_true rfl) (Nat.le_of_eq hX) (Nat.le_of_ble_eq_true rfl) (Nat.le_of_ble_eq_true rfl) (fun r pw h hl => ?_)
    obtain ⟨hr, rfl⟩ := h
    refine J_if_ge (tgt := 37) C dX3_divided_15 (by decide) (fun h15q => ?_) (fun h15q => ?_)
    · have hle : kq / 2 ≤ k / 2 := by
        rcases hr with z | z
        · rw [z.1] at h15q
          exact absurd h15q (by decide)
        · exact z.2
      refine J_aload_n (i := 0) C dX3_divided_37 rfl rfl ?_
      refine J_get (ci := 6) (k := 0) C dX3_divided_38 (inT inX3) rfl (gc flX3_X3_cell) (by decide) rfl rfl ?_
      refine J_iload_n (i := 2) C dX3_divided_41 rfl rfl ?_
      refine J_ialdN C dX3_divided_42 rfl (by omega) (by omega) q1 ?_
      refine J_iconst (v := nI 1) C dX3_divided_43 (by decide) ?_
      refine J_ishr C dX3_divided_44 ?_
      refine J_eqi (nI_shr1N (by omega)) ?_
      refine J_iconst (v := nI 1) C dX3_divided_45 (by decide) ?_
      refine J_icmp_ne (tgt := 58) C dX3_divided_46 (by decide) (fun h46q => have h46 := (not_congr (nI_eq (by omega) (by omega))).mp h46q; ?_) (fun h46q => have h46 := (nI_eq (by omega) (by omega)).mp h46q; ?_)
      · refine J_aload_n (i := 0) C dX3_divided_58 rfl rfl ?_
        refine J_iload_n (i := 1) C dX3_divided_59 rfl rfl ?_
        refine J_iload_n (i := 2) C dX3_divided_60 rfl rfl ?_
        refine J_callVi C [.int (nI p), .int (nI q)] rfl rfl 3 (c_dividedByLimbs hs' hsq' rfl (n := kq / 2 - 2) (d := k / 2 - kq / 2) (by omega) (by omega) hp (by omega) ht hN) (gV mlX3_X3_dividedByLimbs imX3_dividedByLimbs slX3_dividedByLimbs iniX3 cdX3_dividedByLimbs) rfl dsX3_dividedByLimbs ⟨by decide, by decide⟩ dX3_divided_61 rfl (Nat.le_of_ble_eq_true rfl) rfl (Nat.le_of_ble_eq_true rfl) (Nat.le_of_eq hX) (Nat.le_of_ble_eq_true rfl) (Nat.le_of_ble_eq_true rfl) (fun r pw h hl => ?_)
        obtain ⟨rfl, hp2⟩ := h
        refine hR _ _ _ _ _ _ dX3_divided_64 ⟨rfl,hp2⟩ (Nat.le_trans (Nat.le_of_eq hX) hl) (Nat.le_refl _) (Nat.le_refl _)
      · obtain ⟨y1, y2⟩ := q4 0 (by omega)
        refine J_aload_n (i := 0) C dX3_divided_49 rfl rfl ?_
        refine J_iload_n (i := 1) C dX3_divided_50 rfl rfl ?_
        refine J_iload_n (i := 2) C dX3_divided_51 rfl rfl ?_
        refine J_callVi C [.int (nI p), .int (nI q)] rfl rfl 3 (c_dividedByLimb hs' y1 y2 hp (by omega) (by omega) hN) (gV mlX3_X3_dividedByLimb imX3_dividedByLimb slX3_dividedByLimb iniX3 cdX3_dividedByLimb) rfl dsX3_dividedByLimb ⟨by decide, by decide⟩ dX3_divided_52 rfl (Nat.le_of_ble_eq_true rfl) rfl (Nat.le_of_ble_eq_true rfl) (Nat.le_of_eq hX) (Nat.le_of_ble_eq_true rfl) (Nat.le_of_ble_eq_true rfl) (fun r pw h hl => ?_)
        obtain ⟨rfl, hp2⟩ := h
        refine J_goto (tgt := 64) C dX3_divided_55 (by decide) ?_
        refine hR _ _ _ _ _ _ dX3_divided_64 ⟨rfl,hp2⟩ (Nat.le_trans (Nat.le_of_eq hX) hl) (Nat.le_refl _) (Nat.le_refl _)
    · exact hZ _ rfl rfl rfl

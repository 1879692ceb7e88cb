theorem jm_sub : ∀ k : Nat, nI k - nI 1 = jm k
  | 0 => by decide
  | k + 1 => (pk_sub (by omega)).trans (congrArg nI (by omega))
theorem trimR_top {z : Nat → Int32} {p m : Nat} (h0 : z (p + (m + 1)) = 0) (h1 : ¬ z (p + m) = 0) : trimR z p (m + 2) = m + 1 := by
  unfold trimR
  rw [if_pos h0]
  unfold trimR
  rw [if_neg h1]
theorem resc_step {H Q fa l x d l' : Nat} (h : H = fa * Q + l) (hx : l * 1000000000 + x = fa * d + l') : x + 1000000000 * H = fa * (d + 1000000000 * Q) + l' := by
  rw [h, Nat.mul_add, Nat.mul_add, ← Nat.mul_assoc, ← Nat.mul_assoc, Nat.mul_comm 1000000000 fa, Nat.mul_assoc fa 1000000000 Q]
  generalize fa * (1000000000 * Q) = q1 at *
  generalize fa * d = q2 at *
  omega
section MV
variable {c0 c1 c2 c3 c4 c5 c6 c7 c8 c9 c10 c11 c12 c13 c14 c15 c16 c17 c18 c19 : jE} {th : Int32} {z sz sg : Nat → Int32} {tk : Int32} {st ss sn : Nat → Int32} {el ro : Int32} {kt ks kn : Nat → Int32} {le : Int32} {lr : Nat → Int32} {pl : Int32} {rest : jW}
set_option maxHeartbeats 16000000 in
/-- divideSizes(a, b, q, rr): the rest is below b -/
theorem m_divideSizes {a b q rr t n m : Nat} (na : nm z sz a n) (nb : nm z sz b m) (hm0 : 0 < m) (haq : a ≠ q) (har : a ≠ rr) (hbq : b ≠ q) (hbr : b ≠ rr) (hqr : q ≠ rr) (hat : a < t) (hbt : b < t) (hqt : q < t) (hrt : rr < t) (ht : t < 499) :
    jN vwCl yX7_divideSizes (wc yX7_divideSizes cX7_divideSizes 15 none) 1 60 [.ref 20, .int (nI a), .int (nI b), .int (nI q), .int (nI rr)] (mW c0 c1 c2 c3 c4 c5 c6 c7 c8 c9 c10 c11 c12 c13 c14 c15 c16 c17 c18 c19 th z sz sg (nI t) st ss sn el ro kt ks kn le lr pl rest) 0 0 (fun pw => ∃ (z' s' g' : Nat → Int32) (n' nq : Nat), pw = (mW c0 c1 c2 c3 c4 c5 c6 c7 c8 c9 c10 c11 c12 c13 c14 c15 c16 c17 c18 c19 th z' s' g' (nI t) st ss sn el ro kt ks kn le lr pl rest) ∧ nm z' s' rr n' ∧ vN z' (2500 * rr) n' < vN z (2500 * b) m ∧ s' q = nI nq ∧ nq < 4 ∧ fR z sz z' s' (fun c => c = q ∨ c = rr ∨ c = t)) := by
  refine jN_of (cc := cX7_divideSizes) (nL := 15) (by decide) rfl (Nat.le_of_ble_eq_true rfl) ?_
  intro X C hX hR
  have na' := na
  have nb' := nb
  obtain ⟨a1, a2, a3, a4⟩ := na
  obtain ⟨b1, b2, b3, b4⟩ := nb
  have b4 := b4 hm0
  have bV0 := nm_pos nb' hm0
  -- b of one limb
  have hOne : m = 1 → 1 ≤ n → ∀ (lv : Nat → Option Value), lv 0 = some (.ref 20) → lv 1 = some (.int (nI a)) → lv 2 = some (.int (nI b)) → lv 3 = some (.int (nI q)) → lv 4 = some (.int (nI rr)) → J X 55 lv [] (mW c0 c1 c2 c3 c4 c5 c6 c7 c8 c9 c10 c11 c12 c13 c14 c15 c16 c17 c18 c19 th z sz sg (nI t) st ss sn el ro kt ks kn le lr pl rest) 0 0 := by
    intro hm1 hn1 lv h0 h1 h2 h3 h4
    subst hm1
    obtain ⟨y1, y2⟩ := b3 0 (by omega)
    have b4 : 0 < dg z (2500 * b + 0) := b4
    have bV : vN z (2500 * b) 1 = dg z (2500 * b + 0) := by
      show 0 + dg z (2500 * b + 0) * 1000000000 ^ 0 = _
      rw [Nat.pow_zero]; omega
    rw [Nat.add_zero] at y1 y2 b4 bV
    generalize dg z (2500 * b) = y at *
    have hL : ∀ (s l : Nat) (zz : Nat → Int32) (lv : Nat → Option Value), s ≤ n → l < y → (∀ c i, c ≠ q → i < 8 → zz (2500 * c + i) = z (2500 * c + i)) → lv 0 = some (.ref 20) → lv 1 = some (.int (nI a)) → lv 3 = some (.int (nI q)) → lv 4 = some (.int (nI rr)) → lv 5 = some (.long (lN l)) → lv 7 = some (.long (lN y)) → lv 9 = some (.int (jm s)) → J X 81 lv [] (mW c0 c1 c2 c3 c4 c5 c6 c7 c8 c9 c10 c11 c12 c13 c14 c15 c16 c17 c18 c19 th zz sz sg (nI t) st ss sn el ro kt ks kn le lr pl rest) 0 0 := by
      intro s
      induction s with
      | zero =>
        intro l zz lv hs hl hz h0 h1 h3 h4 h5 h7 h9
        refine J_iload C dX7_divideSizes_81 h9 ?_
        refine J_if_lt (tgt := 141) C dX7_divideSizes_83 (by decide) (fun h83q => ?_) (fun h83q => ?_)
        · have k1 : upd sz q (nI n) q = nI n := pk_us
          refine J_aload_n (i := 0) C dX7_divideSizes_141 rfl h0 ?_
          refine J_get (ci := 10) (k := 2) C dX7_divideSizes_142 (inT inX7) rfl (gc flX7_X7_size) (by decide) rfl rfl ?_
          refine J_iload_n (i := 3) C dX7_divideSizes_145 rfl h3 ?_
          refine J_aload_n (i := 0) C dX7_divideSizes_146 rfl h0 ?_
          refine J_get (ci := 10) (k := 2) C dX7_divideSizes_147 (inT inX7) rfl (gc flX7_X7_size) (by decide) rfl rfl ?_
          refine J_iload_n (i := 1) C dX7_divideSizes_150 rfl h1 ?_
          refine J_ialdN C dX7_divideSizes_151 rfl (by omega) (by omega) a1 ?_
          refine J_st22 C dX7_divideSizes_152 (by omega) ?_
          refine J_aload_n (i := 0) C dX7_divideSizes_153 rfl h0 ?_
          refine J_get (ci := 10) (k := 3) C dX7_divideSizes_154 (inT inX7) rfl (gc flX7_X7_sign) (by decide) rfl rfl ?_
          refine J_iload_n (i := 3) C dX7_divideSizes_157 rfl h3 ?_
          refine J_iconst (v := nI 1) C dX7_divideSizes_158 (by decide) ?_
          refine J_st23 C dX7_divideSizes_159 (by omega) ?_
          refine J_aload_n (i := 0) C dX7_divideSizes_160 rfl h0 ?_
          refine J_iload_n (i := 3) C dX7_divideSizes_161 rfl h3 ?_
          refine J_callVn C [.int (nI q)] rfl rfl 31 (m_trim (by omega) k1 (by omega)) (gV mlX7_X7_trim imX7_trim slX7_trim iniX7 cdX7_trim) rfl dsX7_trim ⟨by decide, by decide⟩ dX7_divideSizes_162 rfl (Nat.le_of_ble_eq_true rfl) rfl (Nat.le_of_ble_eq_true rfl) (Nat.le_of_eq hX) (Nat.le_of_ble_eq_true rfl) (Nat.le_of_ble_eq_true rfl) (fun pw h hl => ?_)
          obtain ⟨s2, g2, rfl, c1, c2⟩ := h
          refine J_aload_n (i := 0) C dX7_divideSizes_165 rfl (jdrop_of h0 rfl) ?_
          refine J_iload C dX7_divideSizes_166 (jdrop_of h4 rfl) ?_
          refine J_lload C dX7_divideSizes_168 (jdrop_of h5 rfl) ?_
          refine J_callVn C [.int (nI rr), .long (lN l)] rfl rfl 31 (m_put (by omega)) (gV mlX7_X7_put imX7_put slX7_put iniX7 cdX7_put) rfl dsX7_put ⟨by decide, by decide⟩ dX7_divideSizes_170 rfl (Nat.le_of_ble_eq_true rfl) rfl (Nat.le_of_ble_eq_true rfl) (Nat.le_of_eq hX) (Nat.le_of_ble_eq_true rfl) (Nat.le_of_ble_eq_true rfl) (fun pw h hl => ?_)
          obtain ⟨z3, s3, g3, n3, rfl, d1, d2, d3⟩ := h
          have k2 := trimR_le zz (2500 * q) n
          have k3 := (d3 q hqr).1
          refine hR _ _ _ _ _ dX7_divideSizes_173 ⟨z3,s3,g3,n3,_,rfl,d1,?_,k3.trans c1,by omega,fun c hc => ⟨?_,fun i hi => ?_⟩⟩ (Nat.le_of_eq hX) (Nat.le_refl _) (Nat.le_refl _)
          · rw [d2, pk_lT (by omega), bV]; omega
          · rw [(d3 c (fun w => hc (Or.inr (Or.inl w)))).1, c2 c (fun w => hc (Or.inl w)), pk_un (fun w => hc (Or.inl w))]
          · rw [(d3 c (fun w => hc (Or.inr (Or.inl w)))).2 i hi]; exact hz c i (fun w => hc (Or.inl w)) hi
        · exact absurd (by decide) h83q
      | succ s ih =>
        intro l zz lv hs hl hz h0 h1 h3 h4 h5 h7 h9
        have h9 : lv 9 = some (.int (nI s)) := h9
        obtain ⟨x1, x2⟩ := a3 s (by omega)
        have x3 : zz (2500 * a + s) = nI (dg z (2500 * a + s)) := by rw [hz a s haq (by omega)]; exact x1
        generalize dg z (2500 * a + s) = x at *
        obtain ⟨n1, n2, n3, n4⟩ := div_step (x := x) (B := 1000000000) hl x2
        have n5 : (l * 1000000000 + x) % y < y := Nat.mod_lt _ b4
        refine J_iload C dX7_divideSizes_81 h9 ?_
        refine J_if_lt (tgt := 141) C dX7_divideSizes_83 (by decide) (fun h83q => have h83 := (nI_lt0 (by omega)).mp h83q; ?_) (fun h83q => have h83 := (not_congr (nI_lt0 (by omega))).mp h83q; ?_)
        · exact h83.elim
        · refine J_lload C dX7_divideSizes_86 h5 ?_
          refine J_ldc2 C (gc clX7_1000000000) dX7_divideSizes_88 ?_
          refine J_eql (y := lN 1000000000) (by decide) ?_
          refine J_lmul C dX7_divideSizes_91 ?_
          refine J_eql (lN_mul _ _) ?_
          refine J_aload_n (i := 0) C dX7_divideSizes_92 rfl h0 ?_
          refine J_get (ci := 10) (k := 1) C dX7_divideSizes_93 (inT inX7) rfl (gc flX7_X7_z) (by decide) rfl rfl ?_
          refine J_sipush (v := nI 2500) C dX7_divideSizes_96 (by decide) ?_
          refine J_iload_n (i := 1) C dX7_divideSizes_99 rfl h1 ?_
          refine J_imul C dX7_divideSizes_100 ?_
          refine J_eqi (pk_mul _ _) ?_
          refine J_iload C dX7_divideSizes_101 h9 ?_
          refine J_iadd C dX7_divideSizes_103 ?_
          refine J_eqi (nI_add _ _) ?_
          refine J_ialdN C dX7_divideSizes_104 rfl (by omega) (by omega) x3 ?_
          refine J_i2l C dX7_divideSizes_105 (nI_l (by omega)) ?_
          refine J_ladd C dX7_divideSizes_106 ?_
          refine J_eql (lN_add _ _) ?_
          refine J_lstore C dX7_divideSizes_107 (by decide) ?_
          refine J_aload_n (i := 0) C dX7_divideSizes_109 rfl (js2_ref h0 (by decide) (by decide)) ?_
          refine J_get (ci := 10) (k := 1) C dX7_divideSizes_110 (inT inX7) rfl (gc flX7_X7_z) (by decide) rfl rfl ?_
          refine J_sipush (v := nI 2500) C dX7_divideSizes_113 (by decide) ?_
          refine J_iload_n (i := 3) C dX7_divideSizes_116 rfl (js2_int h3 (by decide) (by decide)) ?_
          refine J_imul C dX7_divideSizes_117 ?_
          refine J_eqi (pk_mul _ _) ?_
          refine J_iload C dX7_divideSizes_118 (js2_int h9 (by decide) (by decide)) ?_
          refine J_iadd C dX7_divideSizes_120 ?_
          refine J_eqi (nI_add _ _) ?_
          refine J_lload C dX7_divideSizes_121 js2_at ?_
          refine J_lload C dX7_divideSizes_123 (js2_long h7 (by decide) (by decide) (by decide)) ?_
          refine J_ldiv C dX7_divideSizes_125 (lN_ne0 (by omega) (by omega)) ?_
          refine J_eql (pk_lDiv (by omega) (by omega) (by omega)) ?_
          refine J_l2i C dX7_divideSizes_126 (lN_i _) ?_
          refine J_st21 C dX7_divideSizes_127 (by omega) ?_
          refine J_lload C dX7_divideSizes_128 js2_at ?_
          refine J_lload C dX7_divideSizes_130 (js2_long h7 (by decide) (by decide) (by decide)) ?_
          refine J_lrem C dX7_divideSizes_132 (lN_ne0 (by omega) (by omega)) ?_
          refine J_eql (pk_lRem (by omega) (by omega) (by omega)) ?_
          refine J_lstore C dX7_divideSizes_133 (by decide) ?_
          refine J_iinc C dX7_divideSizes_135 (js2_int (js2_int h9 (by decide) (by decide)) (by decide) (by decide)) (jm_dec _) ?_
          refine J_goto (tgt := 81) C dX7_divideSizes_138 (by decide) ?_
          exact ih _ _ _ (by omega) n5 (fun c i hc hi => by rw [pk_un (by omega)]; exact hz c i hc hi) (js1_ref (js2_ref (js2_ref h0 (by decide) (by decide)) (by decide) (by decide)) (by decide)) (js1_int (js2_int (js2_int h1 (by decide) (by decide)) (by decide) (by decide)) (by decide)) (js1_int (js2_int (js2_int h3 (by decide) (by decide)) (by decide) (by decide)) (by decide)) (js1_int (js2_int (js2_int h4 (by decide) (by decide)) (by decide) (by decide)) (by decide)) (js1_long js2_at (by decide) (by decide)) (js1_long (js2_long (js2_long h7 (by decide) (by decide) (by decide)) (by decide) (by decide) (by decide)) (by decide) (by decide)) js1_at
    refine J_lconst (v := lN 0) C dX7_divideSizes_55 (by decide) ?_
    refine J_lstore C dX7_divideSizes_56 (by decide) ?_
    refine J_aload_n (i := 0) C dX7_divideSizes_58 rfl (js2_ref h0 (by decide) (by decide)) ?_
    refine J_get (ci := 10) (k := 1) C dX7_divideSizes_59 (inT inX7) rfl (gc flX7_X7_z) (by decide) rfl rfl ?_
    refine J_sipush (v := nI 2500) C dX7_divideSizes_62 (by decide) ?_
    refine J_iload_n (i := 2) C dX7_divideSizes_65 rfl (js2_int h2 (by decide) (by decide)) ?_
    refine J_imul C dX7_divideSizes_66 ?_
    refine J_eqi (pk_mul _ _) ?_
    refine J_ialdN C dX7_divideSizes_67 rfl (by omega) (by omega) y1 ?_
    refine J_i2l C dX7_divideSizes_68 (nI_l (by omega)) ?_
    refine J_lstore C dX7_divideSizes_69 (by decide) ?_
    refine J_aload_n (i := 0) C dX7_divideSizes_71 rfl (js2_ref (js2_ref h0 (by decide) (by decide)) (by decide) (by decide)) ?_
    refine J_get (ci := 10) (k := 2) C dX7_divideSizes_72 (inT inX7) rfl (gc flX7_X7_size) (by decide) rfl rfl ?_
    refine J_iload_n (i := 1) C dX7_divideSizes_75 rfl (js2_int (js2_int h1 (by decide) (by decide)) (by decide) (by decide)) ?_
    refine J_ialdN C dX7_divideSizes_76 rfl (by omega) (by omega) a1 ?_
    refine J_iconst (v := nI 1) C dX7_divideSizes_77 (by decide) ?_
    refine J_isub C dX7_divideSizes_78 ?_
    refine J_eqi (jm_sub _) ?_
    refine J_istore C dX7_divideSizes_79 (by decide) ?_
    exact hL n 0 z _ (Nat.le_refl _) b4 (fun _ _ _ _ => rfl) (js1_ref (js2_ref (js2_ref h0 (by decide) (by decide)) (by decide) (by decide)) (by decide)) (js1_int (js2_int (js2_int h1 (by decide) (by decide)) (by decide) (by decide)) (by decide)) (js1_int (js2_int (js2_int h3 (by decide) (by decide)) (by decide) (by decide)) (by decide)) (js1_int (js2_int (js2_int h4 (by decide) (by decide)) (by decide) (by decide)) (by decide)) (js1_long (js2_long js2_at (by decide) (by decide) (by decide)) (by decide) (by decide)) (js1_long js2_at (by decide) (by decide)) js1_at
  -- b of more limbs
  have hMore : ∀ (w d : Nat), m = w + 2 → n = w + 2 + d → ∀ (lv : Nat → Option Value), lv 0 = some (.ref 20) → lv 1 = some (.int (nI a)) → lv 2 = some (.int (nI b)) → lv 3 = some (.int (nI q)) → lv 4 = some (.int (nI rr)) → J X 174 lv [] (mW c0 c1 c2 c3 c4 c5 c6 c7 c8 c9 c10 c11 c12 c13 c14 c15 c16 c17 c18 c19 th z sz sg (nI t) st ss sn el ro kt ks kn le lr pl rest) 0 0 := by
    intro w d hmw hnd lv h0 h1 h2 h3 h4
    subst hmw
    have b4 : 0 < dg z (2500 * b + (w + 1)) := b4
    have bV0 : 1000000000 ^ (w + 1) ≤ vN z (2500 * b) (w + 2) := bV0
    obtain ⟨y1, y2⟩ := b3 (w + 1) (by omega)
    obtain ⟨f1, f2, f3⟩ := kn_fac (b := 1000000000) (by decide) b4 y2
    have hVt : ∀ fa : Nat, fa * (dg z (2500 * b + (w + 1)) + 1) ≤ 1000000000 → 0 < fa → fa * vN z (2500 * b) (w + 2) < 1000000000 ^ (w + 2) := by
      intro fa hfa hf0
      have g1 : vN z (2500 * b) (w + 2) = vN z (2500 * b) (w + 1) + dg z (2500 * b + (w + 1)) * 1000000000 ^ (w + 1) := rfl
      have g2 := vN_lt (lm_le b3 (show w + 1 ≤ w + 2 by omega))
      have g3 : fa * vN z (2500 * b) (w + 2) < fa * ((dg z (2500 * b + (w + 1)) + 1) * 1000000000 ^ (w + 1)) := by
        refine Nat.mul_lt_mul_of_pos_left ?_ hf0
        rw [g1, Nat.add_mul, Nat.one_mul]; omega
      have g4 : fa * (dg z (2500 * b + (w + 1)) + 1) * 1000000000 ^ (w + 1) ≤ 1000000000 * 1000000000 ^ (w + 1) := Nat.mul_le_mul_right _ hfa
      rw [Nat.mul_assoc] at g4
      rw [Nat.pow_succ 1000000000 (w + 1), Nat.mul_comm (1000000000 ^ (w + 1))]
      omega
    have y1' : z (2500 * b + (w + 2) - 1) = nI (dg z (2500 * b + (w + 1))) := by rw [show 2500 * b + (w + 2) - 1 = 2500 * b + (w + 1) by omega]; exact y1
    generalize dg z (2500 * b + (w + 1)) = y at *
    generalize hfa : 1000000000 / (y + 1) = fa at *
    have hfaB : fa ≤ 1000000000 := by rw [← hfa]; exact Nat.div_le_self _ _
    have v1 := hVt fa f2 f1
    -- the rest is brought back
    have hRe : ∀ (R0 sE : Nat → Int32) (k0 : Nat), k0 ≤ w + 2 → lm R0 (2500 * rr) k0 → vN R0 (2500 * rr) k0 < fa * vN z (2500 * b) (w + 2) → sE rr = nI k0 → (∃ nq, nq < 4 ∧ sE q = nI nq) → (∀ c, c ≠ q → c ≠ rr → c ≠ t → sE c = sz c) → ∀ (s l : Nat) (zz gg : Nat → Int32) (lv : Nat → Option Value), s ≤ k0 → l < fa → (∀ i, i < s → zz (2500 * rr + i) = R0 (2500 * rr + i)) → lm zz (2500 * rr + s) (k0 - s) → vN R0 (2500 * rr + s) (k0 - s) = fa * vN zz (2500 * rr + s) (k0 - s) + l → (∀ c i, c ≠ q → c ≠ rr → c ≠ t → i < 8 → zz (2500 * c + i) = z (2500 * c + i)) → lv 0 = some (.ref 20) → lv 4 = some (.int (nI rr)) → lv 5 = some (.int (nI t)) → lv 6 = some (.long (lN fa)) → lv 10 = some (.long (lN l)) → lv 12 = some (.int (jm s)) → J X 348 lv [] (mW c0 c1 c2 c3 c4 c5 c6 c7 c8 c9 c10 c11 c12 c13 c14 c15 c16 c17 c18 c19 th zz sE gg (nI (t + 1)) st ss sn el ro kt ks kn le lr pl rest) 0 0 := by
      intro R0 sE k0 hk0 hR0 hRV hsr hsq hsc s
      induction s with
      | zero =>
        intro l zz gg lv hs hl hlow hhi hval hz h0 h4 h5 h6 h10 h12
        rw [Nat.add_zero, Nat.sub_zero] at hhi hval
        refine J_iload C dX7_divideSizes_348 h12 ?_
        refine J_if_lt (tgt := 410) C dX7_divideSizes_350 (by decide) (fun h350q => ?_) (fun h350q => ?_)
        · refine J_aload_n (i := 0) C dX7_divideSizes_410 rfl h0 ?_
          refine J_get (ci := 10) (k := 3) C dX7_divideSizes_411 (inT inX7) rfl (gc flX7_X7_sign) (by decide) rfl rfl ?_
          refine J_iload C dX7_divideSizes_414 h4 ?_
          refine J_iconst (v := nI 1) C dX7_divideSizes_416 (by decide) ?_
          refine J_st23 C dX7_divideSizes_417 (by omega) ?_
          refine J_aload_n (i := 0) C dX7_divideSizes_418 rfl h0 ?_
          refine J_iload C dX7_divideSizes_419 h4 ?_
          refine J_callVn C [.int (nI rr)] rfl rfl 31 (m_trim (by omega) hsr (by omega)) (gV mlX7_X7_trim imX7_trim slX7_trim iniX7 cdX7_trim) rfl dsX7_trim ⟨by decide, by decide⟩ dX7_divideSizes_421 rfl (Nat.le_of_ble_eq_true rfl) rfl (Nat.le_of_ble_eq_true rfl) (Nat.le_of_eq hX) (Nat.le_of_ble_eq_true rfl) (Nat.le_of_ble_eq_true rfl) (fun pw h hl => ?_)
          obtain ⟨s2, g2, rfl, c1, c2⟩ := h
          obtain ⟨nq, e1, e2⟩ := hsq
          have k1 := trimR_le zz (2500 * rr) k0
          refine J_aload_n (i := 0) C dX7_divideSizes_424 rfl (jdrop_of h0 rfl) ?_
          refine J_iload C dX7_divideSizes_425 (jdrop_of h5 rfl) ?_
          refine J_put (ci := 10) C 4 tyX7 tyX7_ok nmX7 dX7_divideSizes_427 (inT inX7) rfl (gc flX7_X7_taken) (by decide) rfl (tyX7_ok 4 (by decide)) (fun _ => rfl) (fun _ => rfl) rfl (Nat.le_of_ble_eq_true rfl) ?_
          refine hR _ _ _ _ _ dX7_divideSizes_430 ⟨zz,s2,g2,_,nq,rfl,nm_trim hhi c1 (by omega),?_,(c2 q hqr).trans e2,e1,fun c hc => ⟨?_,fun i hi => ?_⟩⟩ (Nat.le_of_eq hX) (Nat.le_refl _) (Nat.le_refl _)
          · rw [trimR_v hhi]
            have k2 : fa * vN zz (2500 * rr) k0 < fa * vN z (2500 * b) (w + 2) := by omega
            exact Nat.lt_of_mul_lt_mul_left k2
          · rw [c2 c (fun w => hc (Or.inr (Or.inl w)))]
            exact hsc c (fun w => hc (Or.inl w)) (fun w => hc (Or.inr (Or.inl w))) (fun w => hc (Or.inr (Or.inr w)))
          · exact hz c i (fun w => hc (Or.inl w)) (fun w => hc (Or.inr (Or.inl w))) (fun w => hc (Or.inr (Or.inr w))) hi
        · exact absurd (by decide) h350q
      | succ s ih =>
        intro l zz gg lv hs hl hlow hhi hval hz h0 h4 h5 h6 h10 h12
        have h12 : lv 12 = some (.int (nI s)) := h12
        obtain ⟨x1, x2⟩ := hR0 s (by omega)
        have x3 : zz (2500 * rr + s) = nI (dg R0 (2500 * rr + s)) := by rw [hlow s (by omega)]; exact x1
        have lo1 := vN_low R0 (2500 * rr + s) (k0 - (s + 1))
        generalize dg R0 (2500 * rr + s) = x at *
        obtain ⟨n1, n2, n3, n4⟩ := div_step (x := x) (B := 1000000000) hl x2
        have n5 : (l * 1000000000 + x) % fa < fa := Nat.mod_lt _ f1
        have n6 : l * 1000000000 + x = fa * ((l * 1000000000 + x) / fa) + (l * 1000000000 + x) % fa := (Nat.div_add_mod _ _).symm
        have n7 : fa * 1000000000 ≤ 1000000000 * 1000000000 := Nat.mul_le_mul_right _ hfaB
        refine J_iload C dX7_divideSizes_348 h12 ?_
        refine J_if_lt (tgt := 410) C dX7_divideSizes_350 (by decide) (fun h350q => have h350 := (nI_lt0 (by omega)).mp h350q; ?_) (fun h350q => have h350 := (not_congr (nI_lt0 (by omega))).mp h350q; ?_)
        · exact h350.elim
        · refine J_lload C dX7_divideSizes_353 h10 ?_
          refine J_ldc2 C (gc clX7_1000000000) dX7_divideSizes_355 ?_
          refine J_eql (y := lN 1000000000) (by decide) ?_
          refine J_lmul C dX7_divideSizes_358 ?_
          refine J_eql (lN_mul _ _) ?_
          refine J_aload_n (i := 0) C dX7_divideSizes_359 rfl h0 ?_
          refine J_get (ci := 10) (k := 1) C dX7_divideSizes_360 (inT inX7) rfl (gc flX7_X7_z) (by decide) rfl rfl ?_
          refine J_sipush (v := nI 2500) C dX7_divideSizes_363 (by decide) ?_
          refine J_iload C dX7_divideSizes_366 h4 ?_
          refine J_imul C dX7_divideSizes_368 ?_
          refine J_eqi (pk_mul _ _) ?_
          refine J_iload C dX7_divideSizes_369 h12 ?_
          refine J_iadd C dX7_divideSizes_371 ?_
          refine J_eqi (nI_add _ _) ?_
          refine J_ialdN C dX7_divideSizes_372 rfl (by omega) (by omega) x3 ?_
          refine J_i2l C dX7_divideSizes_373 (nI_l (by omega)) ?_
          refine J_ladd C dX7_divideSizes_374 ?_
          refine J_eql (lN_add _ _) ?_
          refine J_lstore C dX7_divideSizes_375 (by decide) ?_
          refine J_aload_n (i := 0) C dX7_divideSizes_377 rfl (js2_ref h0 (by decide) (by decide)) ?_
          refine J_get (ci := 10) (k := 1) C dX7_divideSizes_378 (inT inX7) rfl (gc flX7_X7_z) (by decide) rfl rfl ?_
          refine J_sipush (v := nI 2500) C dX7_divideSizes_381 (by decide) ?_
          refine J_iload C dX7_divideSizes_384 (js2_int h4 (by decide) (by decide)) ?_
          refine J_imul C dX7_divideSizes_386 ?_
          refine J_eqi (pk_mul _ _) ?_
          refine J_iload C dX7_divideSizes_387 (js2_int h12 (by decide) (by decide)) ?_
          refine J_iadd C dX7_divideSizes_389 ?_
          refine J_eqi (nI_add _ _) ?_
          refine J_lload C dX7_divideSizes_390 js2_at ?_
          refine J_lload C dX7_divideSizes_392 (js2_long h6 (by decide) (by decide) (by decide)) ?_
          refine J_ldiv C dX7_divideSizes_394 (lN_ne0 (by omega) (by omega)) ?_
          refine J_eql (pk_lDiv (by omega) (by omega) (by omega)) ?_
          refine J_l2i C dX7_divideSizes_395 (lN_i _) ?_
          refine J_st21 C dX7_divideSizes_396 (by omega) ?_
          refine J_lload C dX7_divideSizes_397 js2_at ?_
          refine J_lload C dX7_divideSizes_399 (js2_long h6 (by decide) (by decide) (by decide)) ?_
          refine J_lrem C dX7_divideSizes_401 (lN_ne0 (by omega) (by omega)) ?_
          refine J_eql (pk_lRem (by omega) (by omega) (by omega)) ?_
          refine J_lstore C dX7_divideSizes_402 (by decide) ?_
          refine J_iinc C dX7_divideSizes_404 (js2_int (js2_int h12 (by decide) (by decide)) (by decide) (by decide)) (jm_dec _) ?_
          refine J_goto (tgt := 348) C dX7_divideSizes_407 (by decide) ?_
          generalize hD : (l * 1000000000 + x) / fa = D at *
          have e1 : k0 - s = k0 - (s + 1) + 1 := by omega
          have e2 : ∀ i, i ≠ s → upd zz (2500 * rr + s) (nI D) (2500 * rr + i) = zz (2500 * rr + i) := fun i hi => pk_un (by omega)
          refine ih _ _ _ _ (by omega) n5 (fun i hi => ?_) ?_ ?_ (fun c i h1 h2 h3 hi => ?_) (js1_ref (js2_ref (js2_ref h0 (by decide) (by decide)) (by decide) (by decide)) (by decide)) (js1_int (js2_int (js2_int h4 (by decide) (by decide)) (by decide) (by decide)) (by decide)) (js1_int (js2_int (js2_int h5 (by decide) (by decide)) (by decide) (by decide)) (by decide)) (js1_long (js2_long (js2_long h6 (by decide) (by decide) (by decide)) (by decide) (by decide) (by decide)) (by decide) (by decide)) (js1_long js2_at (by decide) (by decide)) js1_at
          · rw [e2 i (by omega)]; exact hlow i (by omega)
          · rw [e1]
            intro i hi
            by_cases w : i = 0
            · subst w
              exact lm_of pk_us n1
            · have w2 := hhi (i - 1) (by omega)
              rw [show 2500 * rr + (s + 1) + (i - 1) = 2500 * rr + s + i by omega] at w2
              rw [show 2500 * rr + s + i = 2500 * rr + (s + i) by omega] at w2 ⊢
              rw [dg_eq (e2 (s + i) (by omega)), e2 (s + i) (by omega)]; exact w2
          · rw [e1, lo1, vN_low, dg_of pk_us (by omega)]
            rw [show 2500 * rr + s + 1 = 2500 * rr + (s + 1) by omega]
            have e3 : vN (upd zz (2500 * rr + s) (nI D)) (2500 * rr + (s + 1)) (k0 - (s + 1)) = vN zz (2500 * rr + (s + 1)) (k0 - (s + 1)) := vN_un (by omega)
            rw [e3]
            exact resc_step hval n6
          · rw [pk_un (by omega)]; exact hz c i h1 h2 h3 hi
    -- the digits
    have hDi : ∀ (z2 s3 : Nat → Int32), lm z2 (2500 * t) (w + 2) → vN z2 (2500 * t) (w + 2) = fa * vN z (2500 * b) (w + 2) → 0 < dg z2 (2500 * t + (w + 1)) → (∀ c, c ≠ rr → c ≠ t → s3 c = sz c) → ∀ (s : Nat) (zz gg : Nat → Int32) (lv : Nat → Option Value), s ≤ d + 1 → lm zz (2500 * rr) (w + 2 + s) → (0 < s → vN zz (2500 * rr + (s - 1)) (w + 3) < fa * vN z (2500 * b) (w + 2) * 1000000000) → (s = 0 → vN zz (2500 * rr) (w + 2) < fa * vN z (2500 * b) (w + 2)) → (∀ i, i < 8 → zz (2500 * t + i) = z2 (2500 * t + i)) → (∀ c i, c ≠ q → c ≠ rr → c ≠ t → i < 8 → zz (2500 * c + i) = z (2500 * c + i)) → lv 0 = some (.ref 20) → lv 3 = some (.int (nI q)) → lv 4 = some (.int (nI rr)) → lv 5 = some (.int (nI t)) → lv 6 = some (.long (lN fa)) → lv 8 = some (.int (nI (w + 2))) → lv 9 = some (.int (nI d)) → lv 10 = some (.int (jm s)) → J X 261 lv [] (mW c0 c1 c2 c3 c4 c5 c6 c7 c8 c9 c10 c11 c12 c13 c14 c15 c16 c17 c18 c19 th zz s3 gg (nI (t + 1)) st ss sn el ro kt ks kn le lr pl rest) 0 0 := by
      intro z2 s3 hz2 hV2 htop hs3 s
      induction s with
      | zero =>
        intro zz gg lv hs hlm hU hU0 hzt hz h0 h3 h4 h5 h6 h8 h9 h10
        refine J_iload C dX7_divideSizes_261 h10 ?_
        refine J_if_lt (tgt := 297) C dX7_divideSizes_263 (by decide) (fun h263q => ?_) (fun h263q => ?_)
        · have k1 : upd s3 q (nI (d + 1)) q = nI (d + 1) := pk_us
          refine J_aload_n (i := 0) C dX7_divideSizes_297 rfl h0 ?_
          refine J_get (ci := 10) (k := 2) C dX7_divideSizes_298 (inT inX7) rfl (gc flX7_X7_size) (by decide) rfl rfl ?_
          refine J_iload_n (i := 3) C dX7_divideSizes_301 rfl h3 ?_
          refine J_iload C dX7_divideSizes_302 h9 ?_
          refine J_iconst (v := nI 1) C dX7_divideSizes_304 (by decide) ?_
          refine J_iadd C dX7_divideSizes_305 ?_
          refine J_eqi (nI_add _ _) ?_
          refine J_st22 C dX7_divideSizes_306 (by omega) ?_
          refine J_aload_n (i := 0) C dX7_divideSizes_307 rfl h0 ?_
          refine J_get (ci := 10) (k := 3) C dX7_divideSizes_308 (inT inX7) rfl (gc flX7_X7_sign) (by decide) rfl rfl ?_
          refine J_iload_n (i := 3) C dX7_divideSizes_311 rfl h3 ?_
          refine J_iconst (v := nI 1) C dX7_divideSizes_312 (by decide) ?_
          refine J_st23 C dX7_divideSizes_313 (by omega) ?_
          refine J_aload_n (i := 0) C dX7_divideSizes_314 rfl h0 ?_
          refine J_iload_n (i := 3) C dX7_divideSizes_315 rfl h3 ?_
          refine J_callVn C [.int (nI q)] rfl rfl 31 (m_trim (by omega) k1 (by omega)) (gV mlX7_X7_trim imX7_trim slX7_trim iniX7 cdX7_trim) rfl dsX7_trim ⟨by decide, by decide⟩ dX7_divideSizes_316 rfl (Nat.le_of_ble_eq_true rfl) rfl (Nat.le_of_ble_eq_true rfl) (Nat.le_of_eq hX) (Nat.le_of_ble_eq_true rfl) (Nat.le_of_ble_eq_true rfl) (fun pw h hl => ?_)
          obtain ⟨s4, g4, rfl, c1, c2⟩ := h
          have k2 : upd s4 rr (nI (w + 2)) rr = nI (w + 2) := pk_us
          refine J_aload_n (i := 0) C dX7_divideSizes_319 rfl (jdrop_of h0 rfl) ?_
          refine J_get (ci := 10) (k := 2) C dX7_divideSizes_320 (inT inX7) rfl (gc flX7_X7_size) (by decide) rfl rfl ?_
          refine J_iload C dX7_divideSizes_323 (jdrop_of h4 rfl) ?_
          refine J_iload C dX7_divideSizes_325 (jdrop_of h8 rfl) ?_
          refine J_st22 C dX7_divideSizes_327 (by omega) ?_
          refine J_aload_n (i := 0) C dX7_divideSizes_328 rfl (jdrop_of h0 rfl) ?_
          refine J_iload C dX7_divideSizes_329 (jdrop_of h4 rfl) ?_
          refine J_callVn C [.int (nI rr)] rfl rfl 31 (m_trim (by omega) k2 (by omega)) (gV mlX7_X7_trim imX7_trim slX7_trim iniX7 cdX7_trim) rfl dsX7_trim ⟨by decide, by decide⟩ dX7_divideSizes_331 rfl (Nat.le_of_ble_eq_true rfl) rfl (Nat.le_of_ble_eq_true rfl) (Nat.le_of_eq hX) (Nat.le_of_ble_eq_true rfl) (Nat.le_of_ble_eq_true rfl) (fun pw h hl => ?_)
          obtain ⟨s5, g5, rfl, c3, c4⟩ := h
          have k3 := trimR_le zz (2500 * q) (d + 1)
          have k4 := trimR_le zz (2500 * rr) (w + 2)
          have k5 : vN zz (2500 * rr) (trimR zz (2500 * rr) (w + 2)) < fa * vN z (2500 * b) (w + 2) := by rw [trimR_v hlm]; exact hU0 rfl
          refine J_lconst (v := lN 0) C dX7_divideSizes_334 (by decide) ?_
          refine J_lstore C dX7_divideSizes_335 (by decide) ?_
          refine J_aload_n (i := 0) C dX7_divideSizes_337 rfl (js2_ref (jdrop_of (jdrop_of h0 rfl) rfl) (by decide) (by decide)) ?_
          refine J_get (ci := 10) (k := 2) C dX7_divideSizes_338 (inT inX7) rfl (gc flX7_X7_size) (by decide) rfl rfl ?_
          refine J_iload C dX7_divideSizes_341 (js2_int (jdrop_of (jdrop_of h4 rfl) rfl) (by decide) (by decide)) ?_
          refine J_ialdN C dX7_divideSizes_343 rfl (by omega) (by omega) c3 ?_
          refine J_iconst (v := nI 1) C dX7_divideSizes_344 (by decide) ?_
          refine J_isub C dX7_divideSizes_345 ?_
          refine J_eqi (jm_sub _) ?_
          refine J_istore C dX7_divideSizes_346 (by decide) ?_
          refine hRe zz s5 (trimR zz (2500 * rr) (w + 2)) k4 (lm_le hlm k4) k5 c3 ⟨_, ?_, ((c4 q hqr).trans (pk_un hqr)).trans c1⟩ (fun c h1 h2 h3 => ?_) (trimR zz (2500 * rr) (w + 2)) 0 zz _ _ (Nat.le_refl _) f1 (fun _ _ => rfl) ?_ ?_ hz (js1_ref (js2_ref (jdrop_of (jdrop_of h0 rfl) rfl) (by decide) (by decide)) (by decide)) (js1_int (js2_int (jdrop_of (jdrop_of h4 rfl) rfl) (by decide) (by decide)) (by decide)) (js1_int (js2_int (jdrop_of (jdrop_of h5 rfl) rfl) (by decide) (by decide)) (by decide)) (js1_long (js2_long (jdrop_of (jdrop_of h6 rfl) rfl) (by decide) (by decide) (by decide)) (by decide) (by decide)) (js1_long js2_at (by decide) (by decide)) js1_at
          · omega
          · rw [c4 c h2, pk_un h2, c2 c h1, pk_un h1]; exact hs3 c h2 h3
          · rw [Nat.sub_self]; exact fun k hk => absurd hk (by omega)
          · rw [Nat.sub_self]; rfl
        · exact absurd (by decide) h263q
      | succ s ih =>
        intro zz gg lv hs hlm hU hU0 hzt hz h0 h3 h4 h5 h6 h8 h9 h10
        have h10 : lv 10 = some (.int (nI s)) := h10
        have u1 : lm zz (2500 * rr + s) (w + 3) := lm_from hlm (by omega)
        have u2 : lm zz (2500 * t) (w + 2) := lm_eq (fun k hk => hzt k (by omega)) hz2
        have u3 : vN zz (2500 * t) (w + 2) = fa * vN z (2500 * b) (w + 2) := (vN_eq (fun k hk => hzt k (by omega))).trans hV2
        have u4 : 0 < dg zz (2500 * t + (w + 1)) := by rw [dg_eq (hzt (w + 1) (by omega))]; exact htop
        have u5 : vN zz (2500 * rr + s) (w + 3) < vN zz (2500 * t) (w + 2) * 1000000000 := by rw [u3]; exact hU (by omega)
        refine J_iload C dX7_divideSizes_261 h10 ?_
        refine J_if_lt (tgt := 297) C dX7_divideSizes_263 (by decide) (fun h263q => have h263 := (nI_lt0 (by omega)).mp h263q; ?_) (fun h263q => have h263 := (not_congr (nI_lt0 (by omega))).mp h263q; ?_)
        · exact h263.elim
        · refine J_aload_n (i := 0) C dX7_divideSizes_266 rfl h0 ?_
          refine J_get (ci := 10) (k := 1) C dX7_divideSizes_267 (inT inX7) rfl (gc flX7_X7_z) (by decide) rfl rfl ?_
          refine J_sipush (v := nI 2500) C dX7_divideSizes_270 (by decide) ?_
          refine J_iload_n (i := 3) C dX7_divideSizes_273 rfl h3 ?_
          refine J_imul C dX7_divideSizes_274 ?_
          refine J_eqi (pk_mul _ _) ?_
          refine J_iload C dX7_divideSizes_275 h10 ?_
          refine J_iadd C dX7_divideSizes_277 ?_
          refine J_eqi (nI_add _ _) ?_
          refine J_aload_n (i := 0) C dX7_divideSizes_278 rfl h0 ?_
          refine J_iload C dX7_divideSizes_279 h4 ?_
          refine J_iload C dX7_divideSizes_281 h5 ?_
          refine J_iload C dX7_divideSizes_283 h10 ?_
          refine J_iload C dX7_divideSizes_285 h8 ?_
          refine J_callVi C [.int (nI rr), .int (nI t), .int (nI s), .int (nI (w + 2))] rfl rfl 31 (m_digit (by omega) (by omega) (by omega) (by omega) u1 u2 u4 u5) (gV mlX7_X7_digit imX7_digit slX7_digit iniX7 cdX7_digit) rfl dsX7_digit ⟨by decide, by decide⟩ dX7_divideSizes_287 rfl (Nat.le_of_ble_eq_true rfl) rfl (Nat.le_of_ble_eq_true rfl) (Nat.le_of_eq hX) (Nat.le_of_ble_eq_true rfl) (Nat.le_of_ble_eq_true rfl) (fun r pw h hl => ?_)
          obtain ⟨g3, rfl, e1, e2, e3, e4⟩ := h
          refine J_st21 C dX7_divideSizes_290 (by omega) ?_
          refine J_iinc C dX7_divideSizes_291 (jdrop_of h10 rfl) (jm_dec _) ?_
          refine J_goto (tgt := 261) C dX7_divideSizes_294 (by decide) ?_
          rw [u3] at e3
          refine ih _ _ _ (by omega) ?_ ?_ ?_ (fun i hi => ?_) (fun c i h1 h2 h3 hi => ?_) (js1_ref (jdrop_of h0 rfl) (by decide)) (js1_int (jdrop_of h3 rfl) (by decide)) (js1_int (jdrop_of h4 rfl) (by decide)) (js1_int (jdrop_of h5 rfl) (by decide)) (js1_long (jdrop_of h6 rfl) (by decide) (by decide)) (js1_int (jdrop_of h8 rfl) (by decide)) (js1_int (jdrop_of h9 rfl) (by decide)) js1_at
          · refine lm_un (fun j hj => ?_) (by omega)
            by_cases w1 : j < s
            · have w2 := hlm j (by omega)
              rw [dg_eq (e4 (2500 * rr + j) (by omega)), e4 (2500 * rr + j) (by omega)]; exact w2
            · have w2 := e1 (j - s) (by omega)
              rw [show 2500 * rr + s + (j - s) = 2500 * rr + j by omega] at w2
              exact w2
          · intro hs0
            rw [vN_un (by omega), vN_low, show 2500 * rr + (s - 1) + 1 = 2500 * rr + s by omega]
            have w2 := (hlm (s - 1) (by omega)).2
            rw [dg_eq (e4 (2500 * rr + (s - 1)) (by omega))]
            omega
          · intro hs0
            subst hs0
            rw [vN_un (by omega)]; exact e3
          · rw [pk_un (by omega), e4 _ (by omega)]; exact hzt i hi
          · rw [pk_un (by omega), e4 _ (by omega)]; exact hz c i h1 h2 h3 hi
    refine J_aload_n (i := 0) C dX7_divideSizes_174 rfl h0 ?_
    refine J_iconst (v := nI 1) C dX7_divideSizes_175 (by decide) ?_
    refine J_callVi C [.int (nI 1)] rfl rfl 31 (m_take (n := 1)) (gV mlX7_X7_take imX7_take slX7_take iniX7 cdX7_take) rfl dsX7_take ⟨by decide, by decide⟩ dX7_divideSizes_176 rfl (Nat.le_of_ble_eq_true rfl) rfl (Nat.le_of_ble_eq_true rfl) (Nat.le_of_eq hX) (Nat.le_of_ble_eq_true rfl) (Nat.le_of_ble_eq_true rfl) (fun r pw h hl => ?_)
    obtain ⟨rfl, rfl⟩ := h
    refine J_istore C dX7_divideSizes_179 (by decide) ?_
    refine J_ldc2 C (gc clX7_1000000000) dX7_divideSizes_181 ?_
    refine J_eql (y := lN 1000000000) (by decide) ?_
    refine J_aload_n (i := 0) C dX7_divideSizes_184 rfl (js1_ref (jdrop_of h0 rfl) (by decide)) ?_
    refine J_get (ci := 10) (k := 1) C dX7_divideSizes_185 (inT inX7) rfl (gc flX7_X7_z) (by decide) rfl rfl ?_
    refine J_sipush (v := nI 2500) C dX7_divideSizes_188 (by decide) ?_
    refine J_iload_n (i := 2) C dX7_divideSizes_191 rfl (js1_int (jdrop_of h2 rfl) (by decide)) ?_
    refine J_imul C dX7_divideSizes_192 ?_
    refine J_eqi (pk_mul _ _) ?_
    refine J_aload_n (i := 0) C dX7_divideSizes_193 rfl (js1_ref (jdrop_of h0 rfl) (by decide)) ?_
    refine J_get (ci := 10) (k := 2) C dX7_divideSizes_194 (inT inX7) rfl (gc flX7_X7_size) (by decide) rfl rfl ?_
    refine J_iload_n (i := 2) C dX7_divideSizes_197 rfl (js1_int (jdrop_of h2 rfl) (by decide)) ?_
    refine J_ialdN C dX7_divideSizes_198 rfl (by omega) (by omega) b1 ?_
    refine J_iadd C dX7_divideSizes_199 ?_
    refine J_eqi (nI_add _ _) ?_
    refine J_iconst (v := nI 1) C dX7_divideSizes_200 (by decide) ?_
    refine J_isub C dX7_divideSizes_201 ?_
    refine J_eqi (pk_sub (by omega)) ?_
    refine J_ialdN C dX7_divideSizes_202 rfl (by omega) (by omega) y1' ?_
    refine J_i2l C dX7_divideSizes_203 (nI_l (by omega)) ?_
    refine J_lconst (v := lN 1) C dX7_divideSizes_204 (by decide) ?_
    refine J_ladd C dX7_divideSizes_205 ?_
    refine J_eql (lN_add _ _) ?_
    refine J_ldiv C dX7_divideSizes_206 (lN_ne0 (by omega) (by omega)) ?_
    refine J_eql (y := lN fa) ((pk_lDiv (by omega) (by omega) (by omega)).trans (congrArg lN hfa)) ?_
    refine J_lstore C dX7_divideSizes_207 (by decide) ?_
    refine J_aload_n (i := 0) C dX7_divideSizes_209 rfl (js2_ref (js1_ref (jdrop_of h0 rfl) (by decide)) (by decide) (by decide)) ?_
    refine J_iload_n (i := 1) C dX7_divideSizes_210 rfl (js2_int (js1_int (jdrop_of h1 rfl) (by decide)) (by decide) (by decide)) ?_
    refine J_lload C dX7_divideSizes_211 js2_at ?_
    refine J_iload C dX7_divideSizes_213 (js2_int (js1_int (jdrop_of h4 rfl) (by decide)) (by decide) (by decide)) ?_
    refine J_callVn C [.int (nI a), .long (lN fa), .int (nI rr)] rfl rfl 31 (m_scaled (by omega) (by omega) har a1 a2 a3 f1 hfaB) (gV mlX7_X7_scaled imX7_scaled slX7_scaled iniX7 cdX7_scaled) rfl dsX7_scaled ⟨by decide, by decide⟩ dX7_divideSizes_215 rfl (Nat.le_of_ble_eq_true rfl) rfl (Nat.le_of_ble_eq_true rfl) (Nat.le_of_eq hX) (Nat.le_of_ble_eq_true rfl) (Nat.le_of_ble_eq_true rfl) (fun pw h hl => ?_)
    obtain ⟨z1, g1, rfl, c1, c2, c3⟩ := h
    have k1 : upd sz rr (nI (n + 1)) b = nI (w + 2) := (pk_un hbr).trans b1
    have k2 : lm z1 (2500 * b) (w + 2) := lm_eq (fun i hi => c3 b i hbr (by omega)) b3
    have k3 : vN z1 (2500 * b) (w + 2) = vN z (2500 * b) (w + 2) := vN_eq (fun i hi => c3 b i hbr (by omega))
    refine J_aload_n (i := 0) C dX7_divideSizes_218 rfl (jdrop_of (js2_ref (js1_ref (jdrop_of h0 rfl) (by decide)) (by decide) (by decide)) rfl) ?_
    refine J_iload_n (i := 2) C dX7_divideSizes_219 rfl (jdrop_of (js2_int (js1_int (jdrop_of h2 rfl) (by decide)) (by decide) (by decide)) rfl) ?_
    refine J_lload C dX7_divideSizes_220 (jdrop_of js2_at rfl) ?_
    refine J_iload C dX7_divideSizes_222 (jdrop_of (js2_int js1_at (by decide) (by decide)) rfl) ?_
    refine J_callVn C [.int (nI b), .long (lN fa), .int (nI t)] rfl rfl 31 (m_scaled (by omega) (by omega) (by omega) k1 b2 k2 f1 hfaB) (gV mlX7_X7_scaled imX7_scaled slX7_scaled iniX7 cdX7_scaled) rfl dsX7_scaled ⟨by decide, by decide⟩ dX7_divideSizes_224 rfl (Nat.le_of_ble_eq_true rfl) rfl (Nat.le_of_ble_eq_true rfl) (Nat.le_of_eq hX) (Nat.le_of_ble_eq_true rfl) (Nat.le_of_ble_eq_true rfl) (fun pw h hl => ?_)
    obtain ⟨z2, g2, rfl, d1, d2, d3⟩ := h
    rw [k3] at d2
    have r2 : vN z2 (2500 * t) (w + 2 + 1) = vN z2 (2500 * t) (w + 2) + dg z2 (2500 * t + (w + 2)) * 1000000000 ^ (w + 2) := rfl
    have top0 : dg z2 (2500 * t + (w + 2)) = 0 := by
      rcases Nat.eq_zero_or_pos (dg z2 (2500 * t + (w + 2))) with e | e
      · exact e
      · have : 1 * 1000000000 ^ (w + 2) ≤ dg z2 (2500 * t + (w + 2)) * 1000000000 ^ (w + 2) := Nat.mul_le_mul_right _ e
        omega
    have zt0 : z2 (2500 * t + (w + 1 + 1)) = 0 := by
      have := (d1 (w + 2) (by omega)).1
      rw [top0] at this
      exact this
    rw [top0, Nat.zero_mul] at r2
    have d4 : vN z2 (2500 * t) (w + 2) = fa * vN z (2500 * b) (w + 2) := by omega
    have d5 : 0 < dg z2 (2500 * t + (w + 1)) := by
      rcases Nat.eq_zero_or_pos (dg z2 (2500 * t + (w + 1))) with e | e
      · have r3 : vN z2 (2500 * t) (w + 2) = vN z2 (2500 * t) (w + 1) + dg z2 (2500 * t + (w + 1)) * 1000000000 ^ (w + 1) := rfl
        rw [e, Nat.zero_mul] at r3
        have r4 := vN_lt (lm_le d1 (show w + 1 ≤ w + 2 + 1 by omega))
        have r5 : 1 * vN z (2500 * b) (w + 2) ≤ fa * vN z (2500 * b) (w + 2) := Nat.mul_le_mul_right _ f1
        omega
      · exact e
    have zt1 : ¬ z2 (2500 * t + (w + 1)) = 0 := fun e => by
      have : dg z2 (2500 * t + (w + 1)) = 0 := by unfold dg; rw [e]; rfl
      omega
    have k4 : upd (upd sz rr (nI (n + 1))) t (nI (w + 2 + 1)) t = nI (w + 2 + 1) := pk_us
    refine J_aload_n (i := 0) C dX7_divideSizes_227 rfl (jdrop_of (jdrop_of (js2_ref (js1_ref (jdrop_of h0 rfl) (by decide)) (by decide) (by decide)) rfl) rfl) ?_
    refine J_iload C dX7_divideSizes_228 (jdrop_of (jdrop_of (js2_int js1_at (by decide) (by decide)) rfl) rfl) ?_
    refine J_callVn C [.int (nI t)] rfl rfl 31 (m_trim (by omega) k4 (by omega)) (gV mlX7_X7_trim imX7_trim slX7_trim iniX7 cdX7_trim) rfl dsX7_trim ⟨by decide, by decide⟩ dX7_divideSizes_230 rfl (Nat.le_of_ble_eq_true rfl) rfl (Nat.le_of_ble_eq_true rfl) (Nat.le_of_eq hX) (Nat.le_of_ble_eq_true rfl) (Nat.le_of_ble_eq_true rfl) (fun pw h hl => ?_)
    obtain ⟨s3, g3, rfl, e1, e2⟩ := h
    rw [trimR_top zt0 zt1] at e1
    have k5 : ∀ c, c ≠ rr → c ≠ t → s3 c = sz c := fun c h1 h2 => by rw [e2 c h2, pk_un h2, pk_un h1]
    have k6 : s3 a = nI n := (k5 a har (by omega)).trans a1
    have k7 : s3 b = nI (w + 2) := (k5 b hbr (by omega)).trans b1
    refine J_aload_n (i := 0) C dX7_divideSizes_233 rfl (jdrop_of (jdrop_of (jdrop_of (js2_ref (js1_ref (jdrop_of h0 rfl) (by decide)) (by decide) (by decide)) rfl) rfl) rfl) ?_
    refine J_get (ci := 10) (k := 2) C dX7_divideSizes_234 (inT inX7) rfl (gc flX7_X7_size) (by decide) rfl rfl ?_
    refine J_iload C dX7_divideSizes_237 (jdrop_of (jdrop_of (jdrop_of (js2_int js1_at (by decide) (by decide)) rfl) rfl) rfl) ?_
    refine J_ialdN C dX7_divideSizes_239 rfl (by omega) (by omega) e1 ?_
    refine J_istore C dX7_divideSizes_240 (by decide) ?_
    refine J_aload_n (i := 0) C dX7_divideSizes_242 rfl (js1_ref (jdrop_of (jdrop_of (jdrop_of (js2_ref (js1_ref (jdrop_of h0 rfl) (by decide)) (by decide) (by decide)) rfl) rfl) rfl) (by decide)) ?_
    refine J_get (ci := 10) (k := 2) C dX7_divideSizes_243 (inT inX7) rfl (gc flX7_X7_size) (by decide) rfl rfl ?_
    refine J_iload_n (i := 1) C dX7_divideSizes_246 rfl (js1_int (jdrop_of (jdrop_of (jdrop_of (js2_int (js1_int (jdrop_of h1 rfl) (by decide)) (by decide) (by decide)) rfl) rfl) rfl) (by decide)) ?_
    refine J_ialdN C dX7_divideSizes_247 rfl (by omega) (by omega) k6 ?_
    refine J_aload_n (i := 0) C dX7_divideSizes_248 rfl (js1_ref (jdrop_of (jdrop_of (jdrop_of (js2_ref (js1_ref (jdrop_of h0 rfl) (by decide)) (by decide) (by decide)) rfl) rfl) rfl) (by decide)) ?_
    refine J_get (ci := 10) (k := 2) C dX7_divideSizes_249 (inT inX7) rfl (gc flX7_X7_size) (by decide) rfl rfl ?_
    refine J_iload_n (i := 2) C dX7_divideSizes_252 rfl (js1_int (jdrop_of (jdrop_of (jdrop_of (js2_int (js1_int (jdrop_of h2 rfl) (by decide)) (by decide) (by decide)) rfl) rfl) rfl) (by decide)) ?_
    refine J_ialdN C dX7_divideSizes_253 rfl (by omega) (by omega) k7 ?_
    refine J_isub C dX7_divideSizes_254 ?_
    refine J_eqi (y := nI d) ((pk_sub (by omega)).trans (congrArg nI (by omega))) ?_
    refine J_istore C dX7_divideSizes_255 (by decide) ?_
    refine J_iload C dX7_divideSizes_257 js1_at ?_
    refine J_istore C dX7_divideSizes_259 (by decide) ?_
    refine hDi z2 s3 (lm_le d1 (by omega)) d4 d5 k5 (d + 1) z2 _ _ (Nat.le_refl _) ?_ (fun _ => ?_) (fun q => absurd q (by omega)) (fun _ _ => rfl) (fun c i h1 h2 h3 hi => ?_) (js1_ref (js1_ref (js1_ref (jdrop_of (jdrop_of (jdrop_of (js2_ref (js1_ref (jdrop_of h0 rfl) (by decide)) (by decide) (by decide)) rfl) rfl) rfl) (by decide)) (by decide)) (by decide)) (js1_int (js1_int (js1_int (jdrop_of (jdrop_of (jdrop_of (js2_int (js1_int (jdrop_of h3 rfl) (by decide)) (by decide) (by decide)) rfl) rfl) rfl) (by decide)) (by decide)) (by decide)) (js1_int (js1_int (js1_int (jdrop_of (jdrop_of (jdrop_of (js2_int (js1_int (jdrop_of h4 rfl) (by decide)) (by decide) (by decide)) rfl) rfl) rfl) (by decide)) (by decide)) (by decide)) (js1_int (js1_int (js1_int (jdrop_of (jdrop_of (jdrop_of (js2_int js1_at (by decide) (by decide)) rfl) rfl) rfl) (by decide)) (by decide)) (by decide)) (js1_long (js1_long (js1_long (jdrop_of (jdrop_of (jdrop_of js2_at rfl) rfl) rfl) (by decide) (by decide)) (by decide) (by decide)) (by decide) (by decide)) (js1_int (js1_int js1_at (by decide)) (by decide)) (js1_int js1_at (by decide)) js1_at
    · rw [show w + 2 + (d + 1) = n + 1 by omega]
      exact lm_eq (fun i hi => d3 rr i (by omega) (by omega)) c1
    · have r1 : vN z2 (2500 * rr) (n + 1) = fa * vN z (2500 * a) n := (vN_eq (fun i hi => d3 rr i (by omega) (by omega))).trans c2
      have r2 := vN_hi z2 (2500 * rr) d (w + 3)
      rw [show d + (w + 3) = n + 1 by omega, r1] at r2
      have r3 := vN_lt a3
      have r4 : fa * vN z (2500 * a) n < fa * 1000000000 ^ n := Nat.mul_lt_mul_of_pos_left r3 f1
      have r5 : fa * 1000000000 ^ (w + 1) ≤ fa * vN z (2500 * b) (w + 2) := Nat.mul_le_mul_left _ bV0
      have r6 : fa * 1000000000 ^ (w + 1) * 1000000000 * 1000000000 ^ d ≤ fa * vN z (2500 * b) (w + 2) * 1000000000 * 1000000000 ^ d := Nat.mul_le_mul_right _ (Nat.mul_le_mul_right _ r5)
      have r7 : fa * 1000000000 ^ (w + 1) * 1000000000 * 1000000000 ^ d = fa * 1000000000 ^ n := by rw [hnd, Nat.pow_add 1000000000 (w + 2) d, Nat.pow_succ 1000000000 (w + 1), Nat.mul_assoc fa, Nat.mul_assoc fa]
      refine Nat.lt_of_mul_lt_mul_right (a := 1000000000 ^ d) ?_
      show vN z2 (2500 * rr + (d + 1 - 1)) (w + 3) * 1000000000 ^ d < _
      rw [show 2500 * rr + (d + 1 - 1) = 2500 * rr + d by omega]
      omega
    · rw [d3 c i h3 hi]; exact c3 c i h2 hi
  -- a is the smaller one
  have hTail : vN z (2500 * a) n < vN z (2500 * b) m → ∀ (lv : Nat → Option Value), lv 0 = some (.ref 20) → lv 1 = some (.int (nI a)) → lv 3 = some (.int (nI q)) → lv 4 = some (.int (nI rr)) → J X 9 lv [] (mW c0 c1 c2 c3 c4 c5 c6 c7 c8 c9 c10 c11 c12 c13 c14 c15 c16 c17 c18 c19 th z sz sg (nI t) st ss sn el ro kt ks kn le lr pl rest) 0 0 := by
    intro hlt lv h0 h1 h3 h4
    refine J_aload_n (i := 0) C dX7_divideSizes_9 rfl h0 ?_
    refine J_iload_n (i := 1) C dX7_divideSizes_10 rfl h1 ?_
    refine J_iload C dX7_divideSizes_11 h4 ?_
    refine J_callVn C [.int (nI a), .int (nI rr)] rfl rfl 31 (m_copy (by omega) (by omega) har a1 (by omega)) (gV mlX7_X7_copy imX7_copy slX7_copy iniX7 cdX7_copy) rfl dsX7_copy ⟨by decide, by decide⟩ dX7_divideSizes_13 rfl (Nat.le_of_ble_eq_true rfl) rfl (Nat.le_of_ble_eq_true rfl) (Nat.le_of_eq hX) (Nat.le_of_ble_eq_true rfl) (Nat.le_of_ble_eq_true rfl) (fun pw h hl => ?_)
    obtain ⟨z1, g1, rfl, x1, x2⟩ := h
    obtain ⟨x3, x4⟩ := nm_copy na' x1
    have k1 : upd sz rr (nI n) rr = nI n := pk_us
    have hE : ∀ (y : Int32) (lv : Nat → Option Value), lv 0 = some (.ref 20) → lv 3 = some (.int (nI q)) → J X 37 lv [.int y, .int (nI rr), .ref 23] (mW c0 c1 c2 c3 c4 c5 c6 c7 c8 c9 c10 c11 c12 c13 c14 c15 c16 c17 c18 c19 th z1 (upd sz rr (nI n)) g1 (nI t) st ss sn el ro kt ks kn le lr pl rest) 0 0 := by
      intro y lv h0 h3
      refine J_st23 C dX7_divideSizes_37 (by omega) ?_
      refine J_aload_n (i := 0) C dX7_divideSizes_38 rfl h0 ?_
      refine J_iload_n (i := 3) C dX7_divideSizes_39 rfl h3 ?_
      refine J_lconst (v := lN 0) C dX7_divideSizes_40 (by decide) ?_
      refine J_callVn C [.int (nI q), .long (lN 0)] rfl rfl 31 (m_put (by omega)) (gV mlX7_X7_put imX7_put slX7_put iniX7 cdX7_put) rfl dsX7_put ⟨by decide, by decide⟩ dX7_divideSizes_41 rfl (Nat.le_of_ble_eq_true rfl) rfl (Nat.le_of_ble_eq_true rfl) (Nat.le_of_eq hX) (Nat.le_of_ble_eq_true rfl) (Nat.le_of_ble_eq_true rfl) (fun pw h hl => ?_)
      obtain ⟨z2, s2, g2, nq, rfl, d1, d2, d3⟩ := h
      obtain ⟨d4, d5⟩ := nm_fR x3 d3 (fun w => hqr w.symm)
      refine hR _ _ _ _ _ dX7_divideSizes_44 ⟨z2,s2,g2,n,nq,rfl,d4,?_,d1.1,d1.2.1,fR_trans (fR_copy x2) d3 (fun c w => Or.inr (Or.inl w)) (fun c w => Or.inl w)⟩ (Nat.le_of_eq hX) (Nat.le_refl _) (Nat.le_refl _)
      rw [d5, x4]; exact hlt
    refine J_aload_n (i := 0) C dX7_divideSizes_16 rfl (jdrop_of h0 rfl) ?_
    refine J_get (ci := 10) (k := 3) C dX7_divideSizes_17 (inT inX7) rfl (gc flX7_X7_sign) (by decide) rfl rfl ?_
    refine J_iload C dX7_divideSizes_20 (jdrop_of h4 rfl) ?_
    refine J_aload_n (i := 0) C dX7_divideSizes_22 rfl (jdrop_of h0 rfl) ?_
    refine J_get (ci := 10) (k := 2) C dX7_divideSizes_23 (inT inX7) rfl (gc flX7_X7_size) (by decide) rfl rfl ?_
    refine J_iload C dX7_divideSizes_26 (jdrop_of h4 rfl) ?_
    refine J_ialdN C dX7_divideSizes_28 rfl (by omega) (by omega) k1 ?_
    refine J_if_ne (tgt := 36) C dX7_divideSizes_29 (by decide) (fun h29q => have h29 := (not_congr (nI_z (by omega))).mp h29q; ?_) (fun h29q => have h29 := (nI_z (by omega)).mp h29q; ?_)
    · refine J_iconst (v := nI 1) C dX7_divideSizes_36 (by decide) ?_
      exact hE (nI 1) _ (jdrop_of h0 rfl) (jdrop_of h3 rfl)
    · refine J_iconst (v := nI 0) C dX7_divideSizes_32 (by decide) ?_
      refine J_goto (tgt := 37) C dX7_divideSizes_33 (by decide) ?_
      exact hE (nI 0) _ (jdrop_of h0 rfl) (jdrop_of h3 rfl)
  refine J_aload_n (i := 0) C dX7_divideSizes_0 rfl rfl ?_
  refine J_iload_n (i := 1) C dX7_divideSizes_1 rfl rfl ?_
  refine J_iload_n (i := 2) C dX7_divideSizes_2 rfl rfl ?_
  refine J_callVi C [.int (nI a), .int (nI b)] rfl rfl 31 (m_compareSizes (by omega) (by omega) na' nb') (gV mlX7_X7_compareSizes imX7_compareSizes slX7_compareSizes iniX7 cdX7_compareSizes) rfl dsX7_compareSizes ⟨by decide, by decide⟩ dX7_divideSizes_3 rfl (Nat.le_of_ble_eq_true rfl) rfl (Nat.le_of_ble_eq_true rfl) (Nat.le_of_eq hX) (Nat.le_of_ble_eq_true rfl) (Nat.le_of_ble_eq_true rfl) (fun r pw h hl => ?_)
  obtain ⟨hr, rfl⟩ := h
  refine J_if_ge (tgt := 45) C dX7_divideSizes_6 (by decide) (fun h6q => ?_) (fun h6q => ?_)
  · obtain ⟨hnm, -⟩ : m ≤ n ∧ True := by
      rcases hr with w | w
      · rw [w.1] at h6q
        exact absurd h6q (by decide)
      · exact ⟨w.2.1, trivial⟩
    refine J_aload_n (i := 0) C dX7_divideSizes_45 rfl rfl ?_
    refine J_get (ci := 10) (k := 2) C dX7_divideSizes_46 (inT inX7) rfl (gc flX7_X7_size) (by decide) rfl rfl ?_
    refine J_iload_n (i := 2) C dX7_divideSizes_49 rfl rfl ?_
    refine J_ialdN C dX7_divideSizes_50 rfl (by omega) (by omega) b1 ?_
    refine J_iconst (v := nI 1) C dX7_divideSizes_51 (by decide) ?_
    refine J_icmp_ne (tgt := 174) C dX7_divideSizes_52 (by decide) (fun h52q => have h52 := (not_congr (nI_eq (by omega) (by omega))).mp h52q; ?_) (fun h52q => have h52 := (nI_eq (by omega) (by omega)).mp h52q; ?_)
    · exact hMore (m - 2) (n - m) (by omega) (by omega) _ rfl rfl rfl rfl rfl
    · exact hOne (by omega) (by omega) _ rfl rfl rfl rfl rfl
  · have hlt : vN z (2500 * a) n < vN z (2500 * b) m := by
      rcases hr with w | w
      · exact w.2
      · rcases w.1 with e | e
        · rw [e] at h6q
          exact absurd (by decide) h6q
        · rw [e] at h6q
          exact absurd (by decide) h6q
    exact hTail hlt _ rfl rfl rfl rfl
end MV

set_option maxHeartbeats 8000000 in
/-- divisor(p, q): some number on top -/
theorem c_divisor {x0 : jE} {rest : jW} {fm kp : Int32} {N : Nat} {f : Nat → Int32} {t p q k1 k2 : Nat} (hp : sh f p k1) (hq : sh f q k2) (hpt : p + k1 / 2 < t) (hqt : q + k2 / 2 < t) (ht : t + 24 ≤ N) (hN : N < 2 ^ 30) :
    jI vwCl yX3_divisor (wc yX3_divisor cX3_divisor 12 (some .int)) 3 180 [.ref 1, .int (nI p), .int (nI q)] (nW x0 (nI t) fm kp N f rest) 0 0 (fun r pw => r = nI t ∧ pN x0 fm kp N f rest t pw) := by
  refine jI_of (cc := cX3_divisor) (nL := 12) .int (by decide) rfl (Nat.le_of_ble_eq_true rfl) (fun _ _ _ => rfl) ?_
  intro X C hX hR
  have hp' := hp
  have hq' := hq
  obtain ⟨e1, e2, e3, e4, e5⟩ := hp
  obtain ⟨q1, q2, q3, q4, q5⟩ := hq
  obtain ⟨n, hn1, hn2, hn3, hn⟩ : ∃ n : Nat, n < 4 ∧ k1 / 2 ≤ n ∧ k2 / 2 ≤ n ∧ (if nI (k1 / 2) < nI (k2 / 2) then nI (k2 / 2) else nI (k1 / 2)) = nI n := by
    by_cases w : nI (k1 / 2) < nI (k2 / 2)
    · have w2 := (nI_ltI (by omega) (by omega)).mp w
      exact ⟨k2 / 2, by omega, by omega, by omega, if_pos w⟩
    · have w2 := mt (nI_ltI (by omega) (by omega)).mpr w
      exact ⟨k1 / 2, by omega, by omega, by omega, if_neg w⟩
  -- the end
  have hF : ∀ (T a ka : Nat) (g : Nat → Int32) (lv : Nat → Option Value), sh g a ka → t ≤ a → a + 4 ≤ t + 20 → (∀ j, j < t → g j = f j) → lv 0 = some (.ref 1) → lv 5 = some (.int (nI t)) → lv 6 = some (.int (nI a)) → J X 247 lv [] (nW x0 (nI T) fm kp N g rest) 0 0 := by
    intro T a ka g lv s1 ha1 ha2 he h0 h5 h6
    have s1' := s1
    obtain ⟨c1, c2, c3, c4, c5⟩ := s1
    refine J_aload_n (i := 0) C dX3_divisor_247 rfl h0 ?_
    refine J_aload_n (i := 0) C dX3_divisor_248 rfl h0 ?_
    refine J_iload C dX3_divisor_249 h6 ?_
    refine J_callVi C [.int (nI a)] rfl rfl 3 (c_next (by omega) (by omega) c1 (by omega)) (gV mlX3_X3_next imX3_next slX3_next iniX3 cdX3_next) rfl dsX3_next ⟨by decide, by decide⟩ dX3_divisor_251 rfl (Nat.le_of_ble_eq_true rfl) rfl (Nat.le_of_ble_eq_true rfl) (Nat.le_of_eq hX) (Nat.le_of_ble_eq_true rfl) (Nat.le_of_ble_eq_true rfl) (fun r pw h hl => ?_)
    obtain ⟨rfl, rfl⟩ := h
    refine J_put (ci := 6) C 1 tyX3 tyX3_ok nmX3 dX3_divisor_254 (inT inX3) rfl (gc flX3_X3_top) (by decide) rfl (tyX3_ok 1 (by decide)) (fun _ => rfl) (fun _ => rfl) rfl (Nat.le_of_ble_eq_true rfl) ?_
    refine J_aload_n (i := 0) C dX3_divisor_257 rfl (jdrop_of h0 rfl) ?_
    refine J_iload C dX3_divisor_258 (jdrop_of h5 rfl) ?_
    refine J_iload C dX3_divisor_260 (jdrop_of h6 rfl) ?_
    refine J_callVi C [.int (nI t), .int (nI a)] rfl rfl 3 (c_slid (f := g) (t := a + 1 + ka / 2) (by omega) ha1 (by omega) hN) (gV mlX3_X3_slid imX3_slid slX3_slid iniX3 cdX3_slid) rfl dsX3_slid ⟨by decide, by decide⟩ dX3_divisor_262 rfl (Nat.le_of_ble_eq_true rfl) rfl (Nat.le_of_ble_eq_true rfl) (Nat.le_of_eq hX) (Nat.le_of_ble_eq_true rfl) (Nat.le_of_ble_eq_true rfl) (fun r pw h hl => ?_)
    obtain ⟨rfl, rfl⟩ := h
    refine hR _ _ _ _ _ _ dX3_divisor_265 ⟨rfl,ka,_,nW_top (by omega),sh_copy s1' (fun j h1 h2 => pk_cpy_in h1 (by omega)),fun j hj => ?_⟩ (Nat.le_of_eq hX) (Nat.le_refl _) (Nat.le_refl _)
    · rw [pk_cpy_out (by omega)]; exact he j hj
  -- behind the loop
  have hG : ∀ (a b ka kb : Nat) (g : Nat → Int32) (lv : Nat → Option Value), sh g a (2 * ka) → sh g b (2 * kb) → ka ≤ n → kb ≤ n → ((a = t ∧ b = t + n + 2) ∨ (b = t ∧ a = t + n + 2)) → (∀ j, j < t → g j = f j) → lv 0 = some (.ref 1) → lv 5 = some (.int (nI t)) → lv 6 = some (.int (nI a)) → lv 7 = some (.int (nI b)) → J X 229 lv [] (nW x0 (nI (t + n + 2 + n + 2)) fm kp N g rest) 0 0 := by
    intro a b ka kb g lv s1 s2 hka hkb hab he h0 h5 h6 h7
    have c1 := s2.1
    refine J_aload_n (i := 0) C dX3_divisor_229 rfl h0 ?_
    refine J_get (ci := 6) (k := 0) C dX3_divisor_230 (inT inX3) rfl (gc flX3_X3_cell) (by decide) rfl rfl ?_
    refine J_iload C dX3_divisor_233 h7 ?_
    refine J_ialdN C dX3_divisor_235 rfl (by omega) (by omega) c1 ?_
    refine J_if_eq (tgt := 247) C dX3_divisor_236 (by decide) (fun h236q => have h236 := (nI_z (by omega)).mp h236q; ?_) (fun h236q => have h236 := (not_congr (nI_z (by omega))).mp h236q; ?_)
    · exact hF _ a (2 * ka) g lv s1 (by omega) (by omega) he h0 h5 h6
    · refine J_aload_n (i := 0) C dX3_divisor_239 rfl h0 ?_
      refine J_iload C dX3_divisor_240 h6 ?_
      refine J_iload C dX3_divisor_242 h7 ?_
      refine J_callVn C [.int (nI a), .int (nI b)] rfl rfl 3 (c_smallDivisor s1 s2 (by omega) (by omega) hN) (gV mlX3_X3_smallDivisor imX3_smallDivisor slX3_smallDivisor iniX3 cdX3_smallDivisor) rfl dsX3_smallDivisor ⟨by decide, by decide⟩ dX3_divisor_244 rfl (Nat.le_of_ble_eq_true rfl) rfl (Nat.le_of_ble_eq_true rfl) (Nat.le_of_eq hX) (Nat.le_of_ble_eq_true rfl) (Nat.le_of_ble_eq_true rfl) (fun pw h hl => ?_)
      obtain ⟨g2, k, rfl, d1, d2, d3⟩ := h
      exact hF _ a k g2 _ d1 (by omega) (by omega) (fun j hj => (d3 j (by omega)).trans (he j hj)) (jdrop_of h0 rfl) (jdrop_of h5 rfl) (jdrop_of h6 rfl)
  -- the loop
  have hL : ∀ (d i a b ka kb : Nat) (g : Nat → Int32) (lv : Nat → Option Value), i + d = 44 * n + 8 → sh g a (2 * ka) → sh g b (2 * kb) → ka ≤ n → kb ≤ n → ((a = t ∧ b = t + n + 2) ∨ (b = t ∧ a = t + n + 2)) → (∀ j, j < t → g j = f j) → lv 0 = some (.ref 1) → lv 4 = some (.int (nI n)) → lv 5 = some (.int (nI t)) → lv 6 = some (.int (nI a)) → lv 7 = some (.int (nI b)) → lv 8 = some (.int (nI (t + n + 2 + n + 2))) → lv 9 = some (.int (nI i)) → J X 116 lv [] (nW x0 (nI (t + n + 2 + n + 2)) fm kp N g rest) 0 0 := by
    intro d
    induction d with
    | zero =>
      intro i a b ka kb g lv hd s1 s2 hka hkb hab he h0 h4 h5 h6 h7 h8 h9
      refine J_iload C dX3_divisor_116 h9 ?_
      refine J_bipush (v := nI 44) C dX3_divisor_118 (by decide) ?_
      refine J_iload C dX3_divisor_120 h4 ?_
      refine J_imul C dX3_divisor_122 ?_
      refine J_eqi (pk_mul _ _) ?_
      refine J_bipush (v := nI 8) C dX3_divisor_123 (by decide) ?_
      refine J_iadd C dX3_divisor_125 ?_
      refine J_eqi (nI_add _ _) ?_
      refine J_icmp_ge (tgt := 229) C dX3_divisor_126 (by decide) (fun h126q => have h126 := (nI_leI (by omega) (by omega)).mp h126q; ?_) (fun h126q => have h126 := (not_congr (nI_leI (by omega) (by omega))).mp h126q; ?_)
      · exact hG a b ka kb g lv s1 s2 hka hkb hab he h0 h5 h6 h7
      · exact absurd (by omega) h126
    | succ d ih =>
      intro i a b ka kb g lv hd s1 s2 hka hkb hab he h0 h4 h5 h6 h7 h8 h9
      have c1 := s1.1
      have c2 := s2.1
      refine J_iload C dX3_divisor_116 h9 ?_
      refine J_bipush (v := nI 44) C dX3_divisor_118 (by decide) ?_
      refine J_iload C dX3_divisor_120 h4 ?_
      refine J_imul C dX3_divisor_122 ?_
      refine J_eqi (pk_mul _ _) ?_
      refine J_bipush (v := nI 8) C dX3_divisor_123 (by decide) ?_
      refine J_iadd C dX3_divisor_125 ?_
      refine J_eqi (nI_add _ _) ?_
      refine J_icmp_ge (tgt := 229) C dX3_divisor_126 (by decide) (fun h126q => have h126 := (nI_leI (by omega) (by omega)).mp h126q; ?_) (fun h126q => have h126 := (not_congr (nI_leI (by omega) (by omega))).mp h126q; ?_)
      · exact hG a b ka kb g lv s1 s2 hka hkb hab he h0 h5 h6 h7
      · refine J_aload_n (i := 0) C dX3_divisor_129 rfl h0 ?_
        refine J_get (ci := 6) (k := 0) C dX3_divisor_130 (inT inX3) rfl (gc flX3_X3_cell) (by decide) rfl rfl ?_
        refine J_iload C dX3_divisor_133 h7 ?_
        refine J_ialdN C dX3_divisor_135 rfl (by omega) (by omega) c2 ?_
        refine J_if_eq (tgt := 229) C dX3_divisor_136 (by decide) (fun h136q => have h136 := (nI_z (by omega)).mp h136q; ?_) (fun h136q => have h136 := (not_congr (nI_z (by omega))).mp h136q; ?_)
        · exact hG a b ka kb g lv s1 s2 hka hkb hab he h0 h5 h6 h7
        · refine J_aload_n (i := 0) C dX3_divisor_139 rfl h0 ?_
          refine J_get (ci := 6) (k := 0) C dX3_divisor_140 (inT inX3) rfl (gc flX3_X3_cell) (by decide) rfl rfl ?_
          refine J_iload C dX3_divisor_143 h6 ?_
          refine J_ialdN C dX3_divisor_145 rfl (by omega) (by omega) c1 ?_
          refine J_iconst (v := nI 4) C dX3_divisor_146 (by decide) ?_
          refine J_icmp_le (tgt := 229) C dX3_divisor_147 (by decide) (fun h147q => have h147 := (nI_leI (by omega) (by omega)).mp h147q; ?_) (fun h147q => have h147 := (not_congr (nI_leI (by omega) (by omega))).mp h147q; ?_)
          · exact hG a b ka kb g lv s1 s2 hka hkb hab he h0 h5 h6 h7
          · have hk3 : ka = 3 := by omega
            subst hk3
            have hn4 : n = 3 := by omega
            subst hn4
            refine J_aload_n (i := 0) C dX3_divisor_150 rfl h0 ?_
            refine J_iload C dX3_divisor_151 h6 ?_
            refine J_iload C dX3_divisor_153 h7 ?_
            refine J_callVi C [.int (nI a), .int (nI b)] rfl rfl 3 (c_leaped s1 s2 (by omega) (by omega) (by omega) hN) (gV mlX3_X3_leaped imX3_leaped slX3_leaped iniX3 cdX3_leaped) rfl dsX3_leaped ⟨by decide, by decide⟩ dX3_divisor_155 rfl (Nat.le_of_ble_eq_true rfl) rfl (Nat.le_of_ble_eq_true rfl) (Nat.le_of_eq hX) (Nat.le_of_ble_eq_true rfl) (Nat.le_of_ble_eq_true rfl) (fun r pw h hl => ?_)
            obtain ⟨g2, rfl, d1, d2 | d2⟩ := h
            · obtain ⟨rfl, d3, d4⟩ := d2
              have c3 := d4.1
              -- behind the division
              have hD : ∀ lw : Nat → Option Value, ∀ pw2 : jW, pN2 x0 fm kp N g2 rest (t + 3 + 2 + 3 + 2) pw2 → lw 0 = some (.ref 1) → lw 4 = some (.int (nI 3)) → lw 5 = some (.int (nI t)) → lw 6 = some (.int (nI a)) → lw 7 = some (.int (nI b)) → lw 8 = some (.int (nI (t + 3 + 2 + 3 + 2))) → lw 9 = some (.int (nI i)) → J X 192 lw [.int (nI (t + 3 + 2 + 3 + 2)), .ref 1] pw2 0 0 := by
                intro lw pw2 hw h0 h4 h5 h6 h7 h8 h9
                obtain ⟨m1, m2, g3, rfl, w1, w2, w3⟩ := hw
                have w2' := w2
                obtain ⟨y1, y2, y3, y4, y5⟩ := w2
                have y6 := w1.2.1
                refine J_callVi C [.int (nI (t + 3 + 2 + 3 + 2))] rfl rfl 3 (c_next (by omega) (by omega) w1.1 (by omega)) (gV mlX3_X3_next imX3_next slX3_next iniX3 cdX3_next) rfl dsX3_next ⟨by decide, by decide⟩ dX3_divisor_192 rfl (Nat.le_of_ble_eq_true rfl) rfl (Nat.le_of_ble_eq_true rfl) (Nat.le_of_eq hX) (Nat.le_of_ble_eq_true rfl) (Nat.le_of_ble_eq_true rfl) (fun r pw h hl => ?_)
                obtain ⟨rfl, rfl⟩ := h
                refine J_istore C dX3_divisor_195 (by decide) ?_
                refine J_aload_n (i := 0) C dX3_divisor_197 rfl (js1_ref (jdrop_of h0 rfl) (by decide)) ?_
                refine J_iload C dX3_divisor_198 js1_at ?_
                refine J_iload C dX3_divisor_200 (js1_int (jdrop_of h6 rfl) (by decide)) ?_
                refine J_callVn C [.int (nI (t + 3 + 2 + 3 + 2 + 1 + m1 / 2)), .int (nI a)] rfl rfl 3 (c_place (by omega) (by omega) hN y1 (by omega)) (gV mlX3_X3_place imX3_place slX3_place iniX3 cdX3_place) rfl dsX3_place ⟨by decide, by decide⟩ dX3_divisor_202 rfl (Nat.le_of_ble_eq_true rfl) rfl (Nat.le_of_ble_eq_true rfl) (Nat.le_of_eq hX) (Nat.le_of_ble_eq_true rfl) (Nat.le_of_ble_eq_true rfl) (fun pw h hl => ?_)
                subst h
                refine J_iload C dX3_divisor_205 (jdrop_of (js1_int (jdrop_of h6 rfl) (by decide)) rfl) ?_
                refine J_istore C dX3_divisor_207 (by decide) ?_
                refine J_iload C dX3_divisor_209 (js1_int (jdrop_of (js1_int (jdrop_of h7 rfl) (by decide)) rfl) (by decide)) ?_
                refine J_istore C dX3_divisor_211 (by decide) ?_
                refine J_iload C dX3_divisor_213 (js1_int js1_at (by decide)) ?_
                refine J_istore C dX3_divisor_215 (by decide) ?_
                refine J_aload_n (i := 0) C dX3_divisor_217 rfl (js1_ref (js1_ref (js1_ref (jdrop_of (js1_ref (jdrop_of h0 rfl) (by decide)) rfl) (by decide)) (by decide)) (by decide)) ?_
                refine J_iload C dX3_divisor_218 (js1_int (js1_int (js1_int (jdrop_of (js1_int (jdrop_of h8 rfl) (by decide)) rfl) (by decide)) (by decide)) (by decide)) ?_
                refine J_put (ci := 6) C 1 tyX3 tyX3_ok nmX3 dX3_divisor_220 (inT inX3) rfl (gc flX3_X3_top) (by decide) rfl (tyX3_ok 1 (by decide)) (fun _ => rfl) (fun _ => rfl) rfl (Nat.le_of_ble_eq_true rfl) ?_
                refine J_iinc C dX3_divisor_223 (js1_int (js1_int (js1_int (jdrop_of (js1_int (jdrop_of h9 rfl) (by decide)) rfl) (by decide)) (by decide)) (by decide)) (nI_1 _) ?_
                refine J_goto (tgt := 116) C dX3_divisor_226 (by decide) ?_
                refine ih (i + 1) b a kb (m2 / 2) _ _ (by omega) (sh_eq d4 (fun j z1 z2 => ?_)) (sh_place w2') hkb (by omega) (by omega) (fun j hj => ?_) (js1_ref (js1_ref (js1_ref (js1_ref (jdrop_of (js1_ref (jdrop_of h0 rfl) (by decide)) rfl) (by decide)) (by decide)) (by decide)) (by decide)) (js1_int (js1_int (js1_int (js1_int (jdrop_of (js1_int (jdrop_of h4 rfl) (by decide)) rfl) (by decide)) (by decide)) (by decide)) (by decide)) (js1_int (js1_int (js1_int (js1_int (jdrop_of (js1_int (jdrop_of h5 rfl) (by decide)) rfl) (by decide)) (by decide)) (by decide)) (by decide)) (js1_int (js1_int js1_at (by decide)) (by decide)) (js1_int js1_at (by decide)) (js1_int (js1_int (js1_int (js1_int (jdrop_of (js1_int (jdrop_of h8 rfl) (by decide)) rfl) (by decide)) (by decide)) (by decide)) (by decide)) js1_at
                · rw [pk_un (by omega), pk_cpy_out (by omega)]; exact w3 j (by omega)
                · rw [pk_un (by omega), pk_cpy_out (by omega), w3 j (by omega), d1 j (by omega) (by omega)]; exact he j hj
              refine J_if_ne (tgt := 223) C dX3_divisor_158 (by decide) (fun h158q => ?_) (fun h158q => ?_)
              · exact absurd rfl h158q
              · refine J_aload_n (i := 0) C dX3_divisor_161 rfl (jdrop_of h0 rfl) ?_
                refine J_aload_n (i := 0) C dX3_divisor_162 rfl (jdrop_of h0 rfl) ?_
                refine J_get (ci := 6) (k := 0) C dX3_divisor_163 (inT inX3) rfl (gc flX3_X3_cell) (by decide) rfl rfl ?_
                refine J_iload C dX3_divisor_166 (jdrop_of h7 rfl) ?_
                refine J_ialdN C dX3_divisor_168 rfl (by omega) (by omega) c3 ?_
                refine J_iconst (v := nI 2) C dX3_divisor_169 (by decide) ?_
                refine J_icmp_ne (tgt := 184) C dX3_divisor_170 (by decide) (fun h170q => have h170 := (not_congr (nI_eq (by omega) (by omega))).mp h170q; ?_) (fun h170q => have h170 := (nI_eq (by omega) (by omega)).mp h170q; ?_)
                · refine J_aload_n (i := 0) C dX3_divisor_184 rfl (jdrop_of h0 rfl) ?_
                  refine J_iload C dX3_divisor_185 (jdrop_of h6 rfl) ?_
                  refine J_iload C dX3_divisor_187 (jdrop_of h7 rfl) ?_
                  refine J_callVi C [.int (nI a), .int (nI b)] rfl rfl 3 (c_dividedByLimbs d3 d4 rfl (n := kb - 2) (d := 3 - kb) (by omega) (by omega) (by omega) (by omega) (by omega) hN) (gV mlX3_X3_dividedByLimbs imX3_dividedByLimbs slX3_dividedByLimbs iniX3 cdX3_dividedByLimbs) rfl dsX3_dividedByLimbs ⟨by decide, by decide⟩ dX3_divisor_189 rfl (Nat.le_of_ble_eq_true rfl) rfl (Nat.le_of_ble_eq_true rfl) (Nat.le_of_eq hX) (Nat.le_of_ble_eq_true rfl) (Nat.le_of_ble_eq_true rfl) (fun r pw h hl => ?_)
                  obtain ⟨rfl, hw⟩ := h
                  exact hD _ _ hw (jdrop_of (jdrop_of h0 rfl) rfl) (jdrop_of (jdrop_of h4 rfl) rfl) (jdrop_of (jdrop_of h5 rfl) rfl) (jdrop_of (jdrop_of h6 rfl) rfl) (jdrop_of (jdrop_of h7 rfl) rfl) (jdrop_of (jdrop_of h8 rfl) rfl) (jdrop_of (jdrop_of h9 rfl) rfl)
                · have z1 := d4.2.2.2.1 0 (by omega)
                  refine J_aload_n (i := 0) C dX3_divisor_173 rfl (jdrop_of h0 rfl) ?_
                  refine J_iload C dX3_divisor_174 (jdrop_of h6 rfl) ?_
                  refine J_iload C dX3_divisor_176 (jdrop_of h7 rfl) ?_
                  refine J_callVi C [.int (nI a), .int (nI b)] rfl rfl 3 (c_dividedByLimb d3 z1.1 z1.2 (by omega) (by omega) (by omega) hN) (gV mlX3_X3_dividedByLimb imX3_dividedByLimb slX3_dividedByLimb iniX3 cdX3_dividedByLimb) rfl dsX3_dividedByLimb ⟨by decide, by decide⟩ dX3_divisor_178 rfl (Nat.le_of_ble_eq_true rfl) rfl (Nat.le_of_ble_eq_true rfl) (Nat.le_of_eq hX) (Nat.le_of_ble_eq_true rfl) (Nat.le_of_ble_eq_true rfl) (fun r pw h hl => ?_)
                  obtain ⟨rfl, hw⟩ := h
                  refine J_goto (tgt := 192) C dX3_divisor_181 (by decide) ?_
                  exact hD _ _ hw (jdrop_of (jdrop_of h0 rfl) rfl) (jdrop_of (jdrop_of h4 rfl) rfl) (jdrop_of (jdrop_of h5 rfl) rfl) (jdrop_of (jdrop_of h6 rfl) rfl) (jdrop_of (jdrop_of h7 rfl) rfl) (jdrop_of (jdrop_of h8 rfl) rfl) (jdrop_of (jdrop_of h9 rfl) rfl)
            · obtain ⟨rfl, ka2, kb2, d3, d4, d5, d6⟩ := d2
              refine J_if_ne (tgt := 223) C dX3_divisor_158 (by decide) (fun h158q => ?_) (fun h158q => ?_)
              · refine J_iinc C dX3_divisor_223 (jdrop_of h9 rfl) (nI_1 _) ?_
                refine J_goto (tgt := 116) C dX3_divisor_226 (by decide) ?_
                exact ih (i + 1) a b ka2 kb2 _ _ (by omega) d5 d6 (by omega) (by omega) hab (fun j hj => (d1 j (by omega) (by omega)).trans (he j hj)) (js1_ref (jdrop_of h0 rfl) (by decide)) (js1_int (jdrop_of h4 rfl) (by decide)) (js1_int (jdrop_of h5 rfl) (by decide)) (js1_int (jdrop_of h6 rfl) (by decide)) (js1_int (jdrop_of h7 rfl) (by decide)) (js1_int (jdrop_of h8 rfl) (by decide)) js1_at
              · exact absurd h158q (by decide)
  have hM : ∀ (ka kb : Nat) (g : Nat → Int32) (lv : Nat → Option Value), sh g t (2 * ka) → sh g (t + n + 2) (2 * kb) → ka ≤ n → kb ≤ n → (∀ j, j < t → g j = f j) → lv 0 = some (.ref 1) → lv 4 = some (.int (nI n)) → lv 5 = some (.int (nI t)) → lv 6 = some (.int (nI t)) → lv 7 = some (.int (nI (t + n + 2))) → J X 96 lv [] (nW x0 (nI t) fm kp N g rest) 0 0 := by
    intro ka kb g lv s1 s2 hka hkb he h0 h4 h5 h6 h7
    refine J_aload_n (i := 0) C dX3_divisor_96 rfl h0 ?_
    refine J_iload C dX3_divisor_97 h7 ?_
    refine J_iload C dX3_divisor_99 h4 ?_
    refine J_iadd C dX3_divisor_101 ?_
    refine J_eqi (nI_add _ _) ?_
    refine J_iconst (v := nI 2) C dX3_divisor_102 (by decide) ?_
    refine J_iadd C dX3_divisor_103 ?_
    refine J_eqi (nI_add _ _) ?_
    refine J_put (ci := 6) C 1 tyX3 tyX3_ok nmX3 dX3_divisor_104 (inT inX3) rfl (gc flX3_X3_top) (by decide) rfl (tyX3_ok 1 (by decide)) (fun _ => rfl) (fun _ => rfl) rfl (Nat.le_of_ble_eq_true rfl) ?_
    refine J_aload_n (i := 0) C dX3_divisor_107 rfl h0 ?_
    refine J_get (ci := 6) (k := 1) C dX3_divisor_108 (inT inX3) rfl (gc flX3_X3_top) (by decide) rfl rfl ?_
    refine J_istore C dX3_divisor_111 (by decide) ?_
    refine J_iconst (v := nI 0) C dX3_divisor_113 (by decide) ?_
    refine J_istore C dX3_divisor_114 (by decide) ?_
    exact hL (44 * n + 8) 0 t (t + n + 2) ka kb g _ (by omega) s1 s2 hka hkb (Or.inl ⟨rfl, rfl⟩) he (js1_ref (js1_ref h0 (by decide)) (by decide)) (js1_int (js1_int h4 (by decide)) (by decide)) (js1_int (js1_int h5 (by decide)) (by decide)) (js1_int (js1_int h6 (by decide)) (by decide)) (js1_int (js1_int h7 (by decide)) (by decide)) (js1_int js1_at (by decide)) js1_at
  -- both are placed
  have hB : ∀ (P kP Q kQ : Nat) (lv : Nat → Option Value), sh f P kP → sh f Q kQ → P + kP / 2 < t → Q + kQ / 2 < t → kP / 2 ≤ n → kQ / 2 ≤ n → lv 0 = some (.ref 1) → lv 4 = some (.int (nI n)) → lv 5 = some (.int (nI t)) → lv 6 = some (.int (nI t)) → lv 7 = some (.int (nI (t + n + 2))) → J X 91 lv [.int (nI Q), .ref 1] (nW x0 (nI t) fm kp N (upd (va_cpy f f (P + 1) (t + 1) (kP / 2)) t (nI (2 * (kP / 2)))) rest) 0 0 := by
    intro P kP Q kQ lv s1 s2 h1 h2 h3 h4' h0 h4 h5 h6 h7
    have b0 := s1.2.1
    have b1 := s2.2.1
    have s3 : sh (upd (va_cpy f f (P + 1) (t + 1) (kP / 2)) t (nI (2 * (kP / 2)))) Q kQ := sh_eq s2 (fun j z1 z2 => by rw [pk_un (by omega), pk_cpy_out (by omega)])
    have s4 := sh_place (a := t) s1
    generalize hG : upd (va_cpy f f (P + 1) (t + 1) (kP / 2)) t (nI (2 * (kP / 2))) = g at s3 s4
    have he : ∀ j, j < t → g j = f j := fun j hj => by rw [← hG, pk_un (by omega), pk_cpy_out (by omega)]
    refine J_iload C dX3_divisor_91 h7 ?_
    refine J_callVn C [.int (nI Q), .int (nI (t + n + 2))] rfl rfl 3 (c_place (f := g) (by omega) (by omega) hN s3.1 (by omega)) (gV mlX3_X3_place imX3_place slX3_place iniX3 cdX3_place) rfl dsX3_place ⟨by decide, by decide⟩ dX3_divisor_93 rfl (Nat.le_of_ble_eq_true rfl) rfl (Nat.le_of_ble_eq_true rfl) (Nat.le_of_eq hX) (Nat.le_of_ble_eq_true rfl) (Nat.le_of_ble_eq_true rfl) (fun pw h hl => ?_)
    subst h
    refine hM (kP / 2) (kQ / 2) _ _ (sh_eq s4 (fun j z1 z2 => ?_)) (sh_place s3) h3 h4' (fun j hj => ?_) (jdrop_of h0 rfl) (jdrop_of h4 rfl) (jdrop_of h5 rfl) (jdrop_of h6 rfl) (jdrop_of h7 rfl)
    · rw [pk_un (by omega), pk_cpy_out (by omega)]
    · rw [pk_un (by omega), pk_cpy_out (by omega)]; exact he j hj
  have hP : ∀ (tu : Nat) (lv : Nat → Option Value), tu < 2 → lv 0 = some (.ref 1) → lv 1 = some (.int (nI p)) → lv 2 = some (.int (nI q)) → lv 3 = some (.int (nI tu)) → J X 15 lv [] (nW x0 (nI t) fm kp N f rest) 0 0 := by
    intro tu lv htu h0 h1 h2 h3
    refine J_aload_n (i := 0) C dX3_divisor_15 rfl h0 ?_
    refine J_get (ci := 6) (k := 0) C dX3_divisor_16 (inT inX3) rfl (gc flX3_X3_cell) (by decide) rfl rfl ?_
    refine J_iload_n (i := 1) C dX3_divisor_19 rfl h1 ?_
    refine J_ialdN C dX3_divisor_20 rfl (by omega) (by omega) e1 ?_
    refine J_iconst (v := nI 1) C dX3_divisor_21 (by decide) ?_
    refine J_ishr C dX3_divisor_22 ?_
    refine J_eqi (nI_shr1N (by omega)) ?_
    refine J_aload_n (i := 0) C dX3_divisor_23 rfl h0 ?_
    refine J_get (ci := 6) (k := 0) C dX3_divisor_24 (inT inX3) rfl (gc flX3_X3_cell) (by decide) rfl rfl ?_
    refine J_iload_n (i := 2) C dX3_divisor_27 rfl h2 ?_
    refine J_ialdN C dX3_divisor_28 rfl (by omega) (by omega) q1 ?_
    refine J_iconst (v := nI 1) C dX3_divisor_29 (by decide) ?_
    refine J_ishr C dX3_divisor_30 ?_
    refine J_eqi (nI_shr1N (by omega)) ?_
    refine J_mmax C dX3_divisor_31 (gc mlX3_max) (gc stMax) (gc iniMath) (gc cdMax) (by decide) (Nat.le_of_ble_eq_true rfl) (Nat.le_refl _) (Nat.le_refl _) ?_
    refine J_eqi hn ?_
    refine J_istore C dX3_divisor_34 (by decide) ?_
    refine J_aload_n (i := 0) C dX3_divisor_36 rfl (js1_ref h0 (by decide)) ?_
    refine J_iconst (v := nI 2) C dX3_divisor_37 (by decide) ?_
    refine J_iload C dX3_divisor_38 js1_at ?_
    refine J_imul C dX3_divisor_40 ?_
    refine J_eqi (pk_mul _ _) ?_
    refine J_bipush (v := nI 6) C dX3_divisor_41 (by decide) ?_
    refine J_iadd C dX3_divisor_43 ?_
    refine J_eqi (nI_add _ _) ?_
    refine J_callVn C [.int (nI (2 * n + 6))] rfl rfl 3 (c_room (by omega) hN) (gV mlX3_X3_room imX3_room slX3_room iniX3 cdX3_room) rfl dsX3_room ⟨by decide, by decide⟩ dX3_divisor_44 rfl (Nat.le_of_ble_eq_true rfl) rfl (Nat.le_of_ble_eq_true rfl) (Nat.le_of_eq hX) (Nat.le_of_ble_eq_true rfl) (Nat.le_of_ble_eq_true rfl) (fun pw h hl => ?_)
    subst h
    refine J_aload_n (i := 0) C dX3_divisor_47 rfl (jdrop_of (js1_ref h0 (by decide)) rfl) ?_
    refine J_get (ci := 6) (k := 1) C dX3_divisor_48 (inT inX3) rfl (gc flX3_X3_top) (by decide) rfl rfl ?_
    refine J_istore C dX3_divisor_51 (by decide) ?_
    refine J_iload C dX3_divisor_53 js1_at ?_
    refine J_istore C dX3_divisor_55 (by decide) ?_
    refine J_iload C dX3_divisor_57 (js1_int js1_at (by decide)) ?_
    refine J_iload C dX3_divisor_59 (js1_int (js1_int (jdrop_of js1_at rfl) (by decide)) (by decide)) ?_
    refine J_iadd C dX3_divisor_61 ?_
    refine J_eqi (nI_add _ _) ?_
    refine J_iconst (v := nI 2) C dX3_divisor_62 (by decide) ?_
    refine J_iadd C dX3_divisor_63 ?_
    refine J_eqi (nI_add _ _) ?_
    refine J_istore C dX3_divisor_64 (by decide) ?_
    refine J_aload_n (i := 0) C dX3_divisor_66 rfl (js1_ref (js1_ref (js1_ref (jdrop_of (js1_ref h0 (by decide)) rfl) (by decide)) (by decide)) (by decide)) ?_
    refine J_iload_n (i := 3) C dX3_divisor_67 rfl (js1_int (js1_int (js1_int (jdrop_of (js1_int h3 (by decide)) rfl) (by decide)) (by decide)) (by decide)) ?_
    refine J_if_eq (tgt := 75) C dX3_divisor_68 (by decide) (fun h68q => have h68 := (nI_z (by omega)).mp h68q; ?_) (fun h68q => have h68 := (not_congr (nI_z (by omega))).mp h68q; ?_)
    · refine J_iload_n (i := 1) C dX3_divisor_75 rfl (js1_int (js1_int (js1_int (jdrop_of (js1_int h1 (by decide)) rfl) (by decide)) (by decide)) (by decide)) ?_
      refine J_iload C dX3_divisor_76 (js1_int js1_at (by decide)) ?_
      refine J_callVn C [.int (nI p), .int (nI t)] rfl rfl 3 (c_place (by omega) (by omega) hN e1 (by omega)) (gV mlX3_X3_place imX3_place slX3_place iniX3 cdX3_place) rfl dsX3_place ⟨by decide, by decide⟩ dX3_divisor_78 rfl (Nat.le_of_ble_eq_true rfl) rfl (Nat.le_of_ble_eq_true rfl) (Nat.le_of_eq hX) (Nat.le_of_ble_eq_true rfl) (Nat.le_of_ble_eq_true rfl) (fun pw h hl => ?_)
      subst h
      refine J_aload_n (i := 0) C dX3_divisor_81 rfl (jdrop_of (js1_ref (js1_ref (js1_ref (jdrop_of (js1_ref h0 (by decide)) rfl) (by decide)) (by decide)) (by decide)) rfl) ?_
      refine J_iload_n (i := 3) C dX3_divisor_82 rfl (jdrop_of (js1_int (js1_int (js1_int (jdrop_of (js1_int h3 (by decide)) rfl) (by decide)) (by decide)) (by decide)) rfl) ?_
      refine J_if_eq (tgt := 90) C dX3_divisor_83 (by decide) (fun h83q => have h83 := (nI_z (by omega)).mp h83q; ?_) (fun h83q => have h83 := (not_congr (nI_z (by omega))).mp h83q; ?_)
      · refine J_iload_n (i := 2) C dX3_divisor_90 rfl (jdrop_of (js1_int (js1_int (js1_int (jdrop_of (js1_int h2 (by decide)) rfl) (by decide)) (by decide)) (by decide)) rfl) ?_
        exact hB p k1 q k2 _ hp' hq' hpt hqt hn2 hn3 (jdrop_of (js1_ref (js1_ref (js1_ref (jdrop_of (js1_ref h0 (by decide)) rfl) (by decide)) (by decide)) (by decide)) rfl) (jdrop_of (js1_int (js1_int (js1_int (jdrop_of js1_at rfl) (by decide)) (by decide)) (by decide)) rfl) (jdrop_of (js1_int (js1_int js1_at (by decide)) (by decide)) rfl) (jdrop_of (js1_int js1_at (by decide)) rfl) (jdrop_of js1_at rfl)
      · exact absurd h68 h83
    · refine J_iload_n (i := 2) C dX3_divisor_71 rfl (js1_int (js1_int (js1_int (jdrop_of (js1_int h2 (by decide)) rfl) (by decide)) (by decide)) (by decide)) ?_
      refine J_goto (tgt := 76) C dX3_divisor_72 (by decide) ?_
      refine J_iload C dX3_divisor_76 (js1_int js1_at (by decide)) ?_
      refine J_callVn C [.int (nI q), .int (nI t)] rfl rfl 3 (c_place (by omega) (by omega) hN q1 (by omega)) (gV mlX3_X3_place imX3_place slX3_place iniX3 cdX3_place) rfl dsX3_place ⟨by decide, by decide⟩ dX3_divisor_78 rfl (Nat.le_of_ble_eq_true rfl) rfl (Nat.le_of_ble_eq_true rfl) (Nat.le_of_eq hX) (Nat.le_of_ble_eq_true rfl) (Nat.le_of_ble_eq_true rfl) (fun pw h hl => ?_)
      subst h
      refine J_aload_n (i := 0) C dX3_divisor_81 rfl (jdrop_of (js1_ref (js1_ref (js1_ref (jdrop_of (js1_ref h0 (by decide)) rfl) (by decide)) (by decide)) (by decide)) rfl) ?_
      refine J_iload_n (i := 3) C dX3_divisor_82 rfl (jdrop_of (js1_int (js1_int (js1_int (jdrop_of (js1_int h3 (by decide)) rfl) (by decide)) (by decide)) (by decide)) rfl) ?_
      refine J_if_eq (tgt := 90) C dX3_divisor_83 (by decide) (fun h83q => have h83 := (nI_z (by omega)).mp h83q; ?_) (fun h83q => have h83 := (not_congr (nI_z (by omega))).mp h83q; ?_)
      · exact absurd h83 h68
      · refine J_iload_n (i := 1) C dX3_divisor_86 rfl (jdrop_of (js1_int (js1_int (js1_int (jdrop_of (js1_int h1 (by decide)) rfl) (by decide)) (by decide)) (by decide)) rfl) ?_
        refine J_goto (tgt := 91) C dX3_divisor_87 (by decide) ?_
        exact hB q k2 p k1 _ hq' hp' hqt hpt hn3 hn2 (jdrop_of (js1_ref (js1_ref (js1_ref (jdrop_of (js1_ref h0 (by decide)) rfl) (by decide)) (by decide)) (by decide)) rfl) (jdrop_of (js1_int (js1_int (js1_int (jdrop_of js1_at rfl) (by decide)) (by decide)) (by decide)) rfl) (jdrop_of (js1_int (js1_int js1_at (by decide)) (by decide)) rfl) (jdrop_of (js1_int js1_at (by decide)) rfl) (jdrop_of js1_at rfl)
  refine J_aload_n (i := 0) C dX3_divisor_0 rfl rfl ?_
  refine J_iload_n (i := 1) C dX3_divisor_1 rfl rfl ?_
  refine J_iload_n (i := 2) C dX3_divisor_2 rfl rfl ?_
  refine J_callVi C [.int (nI p), .int (nI q)] rfl rfl 3 (c_sizeOrder (by omega) (by omega) hN e1 q1 (by omega) (by omega)) (gV mlX3_X3_sizeOrder imX3_sizeOrder slX3_sizeOrder iniX3 cdX3_sizeOrder) rfl dsX3_sizeOrder ⟨by decide, by decide⟩ dX3_divisor_3 rfl (Nat.le_of_ble_eq_true rfl) rfl (Nat.le_of_ble_eq_true rfl) (Nat.le_of_eq hX) (Nat.le_of_ble_eq_true rfl) (Nat.le_of_ble_eq_true rfl) (fun r pw h hl => ?_)
  obtain ⟨hr, rfl⟩ := h
  refine J_if_ge (tgt := 13) C dX3_divisor_6 (by decide) (fun h6q => ?_) (fun h6q => ?_)
  · refine J_iconst (v := nI 0) C dX3_divisor_13 (by decide) ?_
    refine J_istore_n (i := 3) C dX3_divisor_14 rfl (by decide) ?_
    exact hP 0 _ (by decide) rfl rfl rfl rfl
  · refine J_iconst (v := nI 1) C dX3_divisor_9 (by decide) ?_
    refine J_goto (tgt := 14) C dX3_divisor_10 (by decide) ?_
    refine J_istore_n (i := 3) C dX3_divisor_14 rfl (by decide) ?_
    exact hP 1 _ (by decide) rfl rfl rfl rfl
set_option maxHeartbeats 4000000 in
/-- lowest(p, q): two numbers on top -/
theorem c_lowest {x0 : jE} {rest : jW} {fm kp : Int32} {N : Nat} {f : Nat → Int32} {t p q k1 k2 : Nat} (hp : sh f p k1) (hq : sh f q k2) (hpt : p + k1 / 2 < t) (hqt : q + k2 / 2 < t) (ht : t + 40 ≤ N) (hN : N < 2 ^ 30) :
    jI vwCl yX3_lowest (wc yX3_lowest cX3_lowest 7 (some .int)) 4 240 [.ref 1, .int (nI p), .int (nI q)] (nW x0 (nI t) fm kp N f rest) 0 0 (fun r pw => r = nI t ∧ pN2 x0 fm kp N f rest t pw) := by
  refine jI_of (cc := cX3_lowest) (nL := 7) .int (by decide) rfl (Nat.le_of_ble_eq_true rfl) (fun _ _ _ => rfl) ?_
  intro X C hX hR
  have bp := hp.2.1
  have bq := hq.2.1
  refine J_aload_n (i := 0) C dX3_lowest_0 rfl rfl ?_
  refine J_get (ci := 6) (k := 1) C dX3_lowest_1 (inT inX3) rfl (gc flX3_X3_top) (by decide) rfl rfl ?_
  refine J_istore_n (i := 3) C dX3_lowest_4 rfl (by decide) ?_
  refine J_aload_n (i := 0) C dX3_lowest_5 rfl rfl ?_
  refine J_iload_n (i := 1) C dX3_lowest_6 rfl rfl ?_
  refine J_iload_n (i := 2) C dX3_lowest_7 rfl rfl ?_
  refine J_callVi C [.int (nI p), .int (nI q)] rfl rfl 3 (c_divisor hp hq hpt hqt (by omega) hN) (gV mlX3_X3_divisor imX3_divisor slX3_divisor iniX3 cdX3_divisor) rfl dsX3_divisor ⟨by decide, by decide⟩ dX3_lowest_8 rfl (Nat.le_of_ble_eq_true rfl) rfl (Nat.le_of_ble_eq_true rfl) (Nat.le_of_eq hX) (Nat.le_of_ble_eq_true rfl) (Nat.le_of_ble_eq_true rfl) (fun r pw h hl => ?_)
  obtain ⟨rfl, k, g, rfl, s1, s2⟩ := h
  have bk := s1.2.1
  refine J_istore C dX3_lowest_11 (by decide) ?_
  refine J_aload_n (i := 0) C dX3_lowest_13 rfl rfl ?_
  refine J_iload_n (i := 1) C dX3_lowest_14 rfl rfl ?_
  refine J_iload C dX3_lowest_15 rfl ?_
  refine J_callVi C [.int (nI p), .int (nI t)] rfl rfl 3 (c_divided (sh_eq hp (fun j z1 z2 => s2 j (by omega))) s1 (by omega) (by omega) (by omega) hN) (gV mlX3_X3_divided imX3_divided slX3_divided iniX3 cdX3_divided) rfl dsX3_divided ⟨by decide, by decide⟩ dX3_lowest_17 rfl (Nat.le_of_ble_eq_true rfl) rfl (Nat.le_of_ble_eq_true rfl) (Nat.le_of_eq hX) (Nat.le_of_ble_eq_true rfl) (Nat.le_of_ble_eq_true rfl) (fun r pw h hl => ?_)
  obtain ⟨rfl, a1, a2, g2, rfl, s3, s4, s5⟩ := h
  have ba := s3.2.1
  refine J_istore C dX3_lowest_20 (by decide) ?_
  refine J_aload_n (i := 0) C dX3_lowest_22 rfl rfl ?_
  refine J_aload_n (i := 0) C dX3_lowest_23 rfl rfl ?_
  refine J_iload C dX3_lowest_24 rfl ?_
  refine J_callVi C [.int (nI (t + 1 + k / 2))] rfl rfl 3 (c_next (by omega) (by omega) s3.1 (by omega)) (gV mlX3_X3_next imX3_next slX3_next iniX3 cdX3_next) rfl dsX3_next ⟨by decide, by decide⟩ dX3_lowest_26 rfl (Nat.le_of_ble_eq_true rfl) rfl (Nat.le_of_ble_eq_true rfl) (Nat.le_of_eq hX) (Nat.le_of_ble_eq_true rfl) (Nat.le_of_ble_eq_true rfl) (fun r pw h hl => ?_)
  obtain ⟨rfl, rfl⟩ := h
  refine J_put (ci := 6) C 1 tyX3 tyX3_ok nmX3 dX3_lowest_29 (inT inX3) rfl (gc flX3_X3_top) (by decide) rfl (tyX3_ok 1 (by decide)) (fun _ => rfl) (fun _ => rfl) rfl (Nat.le_of_ble_eq_true rfl) ?_
  refine J_aload_n (i := 0) C dX3_lowest_32 rfl rfl ?_
  refine J_iload_n (i := 2) C dX3_lowest_33 rfl rfl ?_
  refine J_iload C dX3_lowest_34 rfl ?_
  have hq2 : sh g2 q k2 := sh_eq hq (fun j z1 z2 => (s5 j (by omega)).trans (s2 j (by omega)))
  have hk2 : sh g2 t k := sh_eq s1 (fun j z1 z2 => s5 j (by omega))
  refine J_callVi C [.int (nI q), .int (nI t)] rfl rfl 3 (c_divided (t := t + 1 + k / 2 + 1 + a1 / 2) hq2 hk2 (by omega) (by omega) (by omega) hN) (gV mlX3_X3_divided imX3_divided slX3_divided iniX3 cdX3_divided) rfl dsX3_divided ⟨by decide, by decide⟩ dX3_lowest_36 rfl (Nat.le_of_ble_eq_true rfl) rfl (Nat.le_of_ble_eq_true rfl) (Nat.le_of_eq hX) (Nat.le_of_ble_eq_true rfl) (Nat.le_of_ble_eq_true rfl) (fun r pw h hl => ?_)
  obtain ⟨rfl, b1, b2, g3, rfl, s6, s7, s8⟩ := h
  have bb := s6.2.1
  refine J_istore C dX3_lowest_39 (by decide) ?_
  refine J_aload_n (i := 0) C dX3_lowest_41 rfl rfl ?_
  refine J_aload_n (i := 0) C dX3_lowest_42 rfl rfl ?_
  refine J_iload C dX3_lowest_43 rfl ?_
  refine J_callVi C [.int (nI (t + 1 + k / 2 + 1 + a1 / 2))] rfl rfl 3 (c_next (by omega) (by omega) s6.1 (by omega)) (gV mlX3_X3_next imX3_next slX3_next iniX3 cdX3_next) rfl dsX3_next ⟨by decide, by decide⟩ dX3_lowest_45 rfl (Nat.le_of_ble_eq_true rfl) rfl (Nat.le_of_ble_eq_true rfl) (Nat.le_of_eq hX) (Nat.le_of_ble_eq_true rfl) (Nat.le_of_ble_eq_true rfl) (fun r pw h hl => ?_)
  obtain ⟨rfl, rfl⟩ := h
  refine J_put (ci := 6) C 1 tyX3 tyX3_ok nmX3 dX3_lowest_48 (inT inX3) rfl (gc flX3_X3_top) (by decide) rfl (tyX3_ok 1 (by decide)) (fun _ => rfl) (fun _ => rfl) rfl (Nat.le_of_ble_eq_true rfl) ?_
  refine J_aload_n (i := 0) C dX3_lowest_51 rfl rfl ?_
  refine J_iload C dX3_lowest_52 rfl ?_
  have s9 : sh g3 (t + 1 + k / 2) a1 := sh_eq s3 (fun j z1 z2 => s8 j (by omega))
  -- the end
  have hE : ∀ (g : Nat → Int32) (c1 c2 : Nat) (lv : Nat → Option Value), sh g (t + 1 + k / 2) c1 → sh g (t + 1 + k / 2 + 1 + a1 / 2) c2 → c1 / 2 = a1 / 2 → c2 / 2 = b1 / 2 → (∀ j, j < t → g j = f j) → lv 0 = some (.ref 1) → lv 3 = some (.int (nI t)) → lv 5 = some (.int (nI (t + 1 + k / 2))) → J X 66 lv [] (nW x0 (nI (t + 1 + k / 2 + 1 + a1 / 2 + 1 + b1 / 2)) fm kp N g rest) 0 0 := by
    intro g c1 c2 lv w1 w2 w3 w4 he h0 h3 h5
    have w2b := w2.2.1
    refine J_aload_n (i := 0) C dX3_lowest_66 rfl h0 ?_
    refine J_iload_n (i := 3) C dX3_lowest_67 rfl h3 ?_
    refine J_iload C dX3_lowest_68 h5 ?_
    refine J_callVi C [.int (nI t), .int (nI (t + 1 + k / 2))] rfl rfl 3 (c_slid (f := g) (t := t + 1 + k / 2 + 1 + a1 / 2 + 1 + b1 / 2) (by omega) (by omega) (by omega) hN) (gV mlX3_X3_slid imX3_slid slX3_slid iniX3 cdX3_slid) rfl dsX3_slid ⟨by decide, by decide⟩ dX3_lowest_70 rfl (Nat.le_of_ble_eq_true rfl) rfl (Nat.le_of_ble_eq_true rfl) (Nat.le_of_eq hX) (Nat.le_of_ble_eq_true rfl) (Nat.le_of_ble_eq_true rfl) (fun r pw h hl => ?_)
    obtain ⟨rfl, rfl⟩ := h
    refine hR _ _ _ _ _ _ dX3_lowest_73 ⟨rfl,c1,c2,_,nW_top (by omega),sh_copy w1 (fun j z1 z2 => pk_cpy_in z1 (by omega)),sh_copy w2 (fun j z1 z2 => ?_),fun j hj => ?_⟩ (Nat.le_of_eq hX) (Nat.le_refl _) (Nat.le_refl _)
    · rw [pk_cpy_in (by omega) (by omega)]; congr 1; omega
    · rw [pk_cpy_out (by omega)]; exact he j hj
  have s10 : ∀ j, j < t → g3 j = f j := fun j hj => by rw [s8 j (by omega), s5 j (by omega), s2 j (by omega)]
  refine J_callVi C [.int (nI (t + 1 + k / 2 + 1 + a1 / 2))] rfl rfl 3 (c_isBelow (by omega) hN) (gV mlX3_X3_isBelow imX3_isBelow slX3_isBelow iniX3 cdX3_isBelow) rfl dsX3_isBelow ⟨by decide, by decide⟩ dX3_lowest_54 rfl (Nat.le_of_ble_eq_true rfl) rfl (Nat.le_of_ble_eq_true rfl) (Nat.le_of_eq hX) (Nat.le_of_ble_eq_true rfl) (Nat.le_of_ble_eq_true rfl) (fun r pw h hl => ?_)
  obtain ⟨rfl, rfl⟩ := h
  refine J_if_eq (tgt := 66) C dX3_lowest_57 (by decide) (fun h57q => ?_) (fun h57q => ?_)
  · exact hE g3 a1 b1 _ s9 s6 rfl rfl s10 rfl rfl rfl
  · refine J_aload_n (i := 0) C dX3_lowest_60 rfl rfl ?_
    refine J_iload C dX3_lowest_61 rfl ?_
    refine J_callVn C [.int (nI (t + 1 + k / 2))] rfl rfl 3 (c_turn2 s9 s6 (by omega) (by omega) hN) (gV mlX3_X3_turn imX3_turn slX3_turn iniX3 cdX3_turn) rfl dsX3_turn ⟨by decide, by decide⟩ dX3_lowest_63 rfl (Nat.le_of_ble_eq_true rfl) rfl (Nat.le_of_ble_eq_true rfl) (Nat.le_of_eq hX) (Nat.le_of_ble_eq_true rfl) (Nat.le_of_ble_eq_true rfl) (fun pw h hl => ?_)
    subst h
    have v1 := twK_2 s9.2.2.1
    have v2 := twK_2 s6.2.2.1
    refine hE _ (twK a1) (twK b1) _ (sh_eq (sh_tw s9) (fun j z1 z2 => pk_un (by omega))) (sh_tw (sh_eq s6 (fun j z1 z2 => pk_un (by omega)))) v1 v2 (fun j hj => ?_) rfl rfl rfl
    rw [pk_un (by omega), pk_un (by omega)]; exact s10 j hj

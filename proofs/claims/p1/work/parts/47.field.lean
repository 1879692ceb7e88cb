/-! THE FIELD (place 3), in a world of level 0 -/
abbrev fW (x0 : jE) (tp fm kp : Int32) (N : Nat) (f : Nat → Int32) (ht : Int32) (sq sc : Nat → Int32) (rest : jW) : jW := nW x0 tp fm kp N f (.inr (4, [.ref 1, .int ht, .ref 4, .ref 5]) :: .inl (.int, 5, .inl sq) :: .inl (.int, 16, .inl sc) :: rest)
set_option maxHeartbeats 2000000 in
/-- isOne(p): yes or no -/
theorem c_isOne {x0 : jE} {tp fm kp : Int32} {N : Nat} {f : Nat → Int32} {ht : Int32} {sq sc : Nat → Int32} {rest : jW} {p : Nat} (hp : p + 1 < N) (hN : N < 2 ^ 30) :
    jI vwCl yX1_isOne (wc yX1_isOne cX1_isOne 2 (some .boolean)) 0 0 [.ref 3, .int (nI p)] (fW x0 tp fm kp N f ht sq sc rest) 0 0 (fun r pw => (r = nI 0 ∨ r = nI 1) ∧ pw = fW x0 tp fm kp N f ht sq sc rest) := by
  refine jI_of (cc := cX1_isOne) (nL := 2) .boolean (by decide) rfl (Nat.le_of_ble_eq_true rfl) (fun r pw hq => ?_) ?_
  · obtain ⟨h | h, -⟩ := hq
    · rw [h]; rfl
    · rw [h]; rfl
  intro X C hX hR
  refine J_aload_n (i := 0) C dX1_isOne_0 rfl rfl ?_
  refine J_get (ci := 4) (k := 0) C dX1_isOne_1 (inT inX1) rfl (gc flX1_X1_numbers) (by decide) rfl rfl ?_
  refine J_get (ci := 6) (k := 0) C dX1_isOne_4 (inT inX3) rfl (gc flX1_X3_cell) (by decide) rfl rfl ?_
  refine J_iload_n (i := 1) C dX1_isOne_7 rfl rfl ?_
  refine J_ialdN C dX1_isOne_8 rfl (by omega) (by omega) rfl ?_
  refine J_iconst (v := nI 2) C dX1_isOne_9 (by decide) ?_
  refine J_icmp_ne (tgt := 32) C dX1_isOne_10 (by decide) (fun h10q => ?_) (fun h10q => ?_)
  · refine J_iconst (v := nI 0) C dX1_isOne_32 (by decide) ?_
    refine hR _ _ _ _ _ _ dX1_isOne_33 ⟨Or.inl rfl,rfl⟩ (Nat.le_of_eq hX) (Nat.le_refl _) (Nat.le_refl _)
  · refine J_aload_n (i := 0) C dX1_isOne_13 rfl rfl ?_
    refine J_get (ci := 4) (k := 0) C dX1_isOne_14 (inT inX1) rfl (gc flX1_X1_numbers) (by decide) rfl rfl ?_
    refine J_get (ci := 6) (k := 0) C dX1_isOne_17 (inT inX3) rfl (gc flX1_X3_cell) (by decide) rfl rfl ?_
    refine J_iload_n (i := 1) C dX1_isOne_20 rfl rfl ?_
    refine J_iconst (v := nI 1) C dX1_isOne_21 (by decide) ?_
    refine J_iadd C dX1_isOne_22 ?_
    refine J_eqi (nI_add _ _) ?_
    refine J_ialdN C dX1_isOne_23 rfl (by omega) (by omega) rfl ?_
    refine J_iconst (v := nI 1) C dX1_isOne_24 (by decide) ?_
    refine J_icmp_ne (tgt := 32) C dX1_isOne_25 (by decide) (fun h25q => ?_) (fun h25q => ?_)
    · refine J_iconst (v := nI 0) C dX1_isOne_32 (by decide) ?_
      refine hR _ _ _ _ _ _ dX1_isOne_33 ⟨Or.inl rfl,rfl⟩ (Nat.le_of_eq hX) (Nat.le_refl _) (Nat.le_refl _)
    · refine J_iconst (v := nI 1) C dX1_isOne_28 (by decide) ?_
      refine J_goto (tgt := 33) C dX1_isOne_29 (by decide) ?_
      refine hR _ _ _ _ _ _ dX1_isOne_33 ⟨Or.inr rfl,rfl⟩ (Nat.le_of_eq hX) (Nat.le_refl _) (Nat.le_refl _)
set_option maxHeartbeats 8000000 in
/-- reduced(0, ratio): two numbers again -/
theorem c_reduced0 {x0 : jE} {fm kp : Int32} {N : Nat} {f : Nat → Int32} {ht : Int32} {sq sc : Nat → Int32} {rest : jW} {t ra v k1 k2 : Nat} (u1 : sh f ra k1) (u2 : sh f v k2) (hv : ra + 1 + k1 / 2 = v) (hvt : v + 1 + k2 / 2 = t) (ht' : t + 60 ≤ N) (hN : N < 2 ^ 30) :
    jI vwCl yX1_reduced (wc yX1_reduced cX1_reduced 9 (some .int)) 4 240 [.ref 3, .int (nI 0), .int (nI ra)] (fW x0 (nI t) fm kp N f ht sq sc rest) 0 0 (fun r pw => r = nI ra ∧ pN2 x0 fm kp N f (.inr (4, [.ref 1, .int ht, .ref 4, .ref 5]) :: .inl (.int, 5, .inl sq) :: .inl (.int, 16, .inl sc) :: rest) ra pw) := by
  refine jI_of (cc := cX1_reduced) (nL := 9) .int (by decide) rfl (Nat.le_of_ble_eq_true rfl) (fun _ _ _ => rfl) ?_
  intro X C hX hR
  have b1 := u1.2.1
  have b2 := u2.2.1
  -- the divisions
  have hD : ∀ (g : Nat → Int32) (kc : Nat) (lv : Nat → Option Value), sh g t kc → (∀ j, j < t → g j = f j) → lv 0 = some (.ref 3) → lv 2 = some (.int (nI ra)) → lv 3 = some (.int (nI 1)) → lv 5 = some (.int (nI t)) → J X 171 lv [] (fW x0 (nI (t + 1 + kc / 2)) fm kp N g ht sq sc rest) 0 0 := by
    intro g kc lv s1 he h0 h2 h3 h5
    have bc := s1.2.1
    have g1 : sh g ra k1 := sh_eq u1 (fun j z1 z2 => he j (by omega))
    have g2 : sh g v k2 := sh_eq u2 (fun j z1 z2 => he j (by omega))
    refine J_aload_n (i := 0) C dX1_reduced_171 rfl h0 ?_
    refine J_get (ci := 4) (k := 0) C dX1_reduced_172 (inT inX1) rfl (gc flX1_X1_numbers) (by decide) rfl rfl ?_
    refine J_get (ci := 6) (k := 1) C dX1_reduced_175 (inT inX3) rfl (gc flX1_X3_top) (by decide) rfl rfl ?_
    refine J_istore C dX1_reduced_178 (by decide) ?_
    refine J_iload_n (i := 2) C dX1_reduced_180 rfl (js1_int h2 (by decide)) ?_
    refine J_istore C dX1_reduced_181 (by decide) ?_
    refine J_iconst (v := nI 0) C dX1_reduced_183 (by decide) ?_
    refine J_istore C dX1_reduced_184 (by decide) ?_
    refine J_iload C dX1_reduced_186 js1_at ?_
    refine J_iload_n (i := 3) C dX1_reduced_188 rfl (js1_int (js1_int (js1_int h3 (by decide)) (by decide)) (by decide)) ?_
    refine J_icmp_gt (tgt := 234) C dX1_reduced_189 (by decide) (fun h189q => have h189 := (nI_ltI (by omega) (by omega)).mp h189q; ?_) (fun h189q => have h189 := (not_congr (nI_ltI (by omega) (by omega))).mp h189q; ?_)
    · exact absurd h189 (by decide)
    · refine J_aload_n (i := 0) C dX1_reduced_192 rfl (js1_ref (js1_ref (js1_ref h0 (by decide)) (by decide)) (by decide)) ?_
      refine J_get (ci := 4) (k := 0) C dX1_reduced_193 (inT inX1) rfl (gc flX1_X1_numbers) (by decide) rfl rfl ?_
      refine J_aload_n (i := 0) C dX1_reduced_196 rfl (js1_ref (js1_ref (js1_ref h0 (by decide)) (by decide)) (by decide)) ?_
      refine J_get (ci := 4) (k := 0) C dX1_reduced_197 (inT inX1) rfl (gc flX1_X1_numbers) (by decide) rfl rfl ?_
      refine J_aload_n (i := 0) C dX1_reduced_200 rfl (js1_ref (js1_ref (js1_ref h0 (by decide)) (by decide)) (by decide)) ?_
      refine J_get (ci := 4) (k := 0) C dX1_reduced_201 (inT inX1) rfl (gc flX1_X1_numbers) (by decide) rfl rfl ?_
      refine J_iload C dX1_reduced_204 (js1_int js1_at (by decide)) ?_
      refine J_iload C dX1_reduced_206 (js1_int (js1_int (js1_int h5 (by decide)) (by decide)) (by decide)) ?_
      refine J_callVi C [.int (nI ra), .int (nI t)] rfl rfl 6 (c_divided g1 s1 (by omega) (by omega) (by omega) hN) (gV mlX1_X3_divided imX3_divided slX3_divided iniX3 cdX3_divided) rfl dsX3_divided ⟨by decide, by decide⟩ dX1_reduced_208 rfl (Nat.le_of_ble_eq_true rfl) rfl (Nat.le_of_ble_eq_true rfl) (Nat.le_of_eq hX) (Nat.le_of_ble_eq_true rfl) (Nat.le_of_ble_eq_true rfl) (fun r pw h hl => ?_)
      obtain ⟨rfl, a1, a2, g3, rfl, s3, s4, s5⟩ := h
      have ba := s3.2.1
      refine J_callVi C [.int (nI (t + 1 + kc / 2))] rfl rfl 6 (c_next (by omega) (by omega) s3.1 (by omega)) (gV mlX1_X3_next imX3_next slX3_next iniX3 cdX3_next) rfl dsX3_next ⟨by decide, by decide⟩ dX1_reduced_211 rfl (Nat.le_of_ble_eq_true rfl) rfl (Nat.le_of_ble_eq_true rfl) (Nat.le_of_eq hX) (Nat.le_of_ble_eq_true rfl) (Nat.le_of_ble_eq_true rfl) (fun r pw h hl => ?_)
      obtain ⟨rfl, rfl⟩ := h
      refine J_put (ci := 6) C 1 tyX3 tyX3_ok nmX3 dX1_reduced_214 (inT inX3) rfl (gc flX1_X3_top) (by decide) rfl (tyX3_ok 1 (by decide)) (fun _ => rfl) (fun _ => rfl) rfl (Nat.le_of_ble_eq_true rfl) ?_
      refine J_aload_n (i := 0) C dX1_reduced_217 rfl (jdrop_of (jdrop_of (js1_ref (js1_ref (js1_ref h0 (by decide)) (by decide)) (by decide)) rfl) rfl) ?_
      refine J_get (ci := 4) (k := 0) C dX1_reduced_218 (inT inX1) rfl (gc flX1_X1_numbers) (by decide) rfl rfl ?_
      refine J_iload C dX1_reduced_221 (jdrop_of (jdrop_of (js1_int js1_at (by decide)) rfl) rfl) ?_
      have w1 : g3 ra = nI k1 := by rw [s5 ra (by omega)]; exact g1.1
      refine J_callVi C [.int (nI ra)] rfl rfl 6 (c_next (by omega) (by omega) w1 (by omega)) (gV mlX1_X3_next imX3_next slX3_next iniX3 cdX3_next) rfl dsX3_next ⟨by decide, by decide⟩ dX1_reduced_223 rfl (Nat.le_of_ble_eq_true rfl) rfl (Nat.le_of_ble_eq_true rfl) (Nat.le_of_eq hX) (Nat.le_of_ble_eq_true rfl) (Nat.le_of_ble_eq_true rfl) (fun r pw h hl => ?_)
      obtain ⟨rfl, rfl⟩ := h
      refine J_istore C dX1_reduced_226 (by decide) ?_
      refine J_iinc C dX1_reduced_228 (js1_int (jdrop_of (jdrop_of (jdrop_of js1_at rfl) rfl) rfl) (by decide)) (nI_1 _) ?_
      refine J_goto (tgt := 186) C dX1_reduced_231 (by decide) ?_
      refine J_iload C dX1_reduced_186 js1_at ?_
      refine J_iload_n (i := 3) C dX1_reduced_188 rfl (js1_int (js1_int (jdrop_of (jdrop_of (jdrop_of (js1_int (js1_int (js1_int h3 (by decide)) (by decide)) (by decide)) rfl) rfl) rfl) (by decide)) (by decide)) ?_
      refine J_icmp_gt (tgt := 234) C dX1_reduced_189 (by decide) (fun h189q => have h189 := (nI_ltI (by omega) (by omega)).mp h189q; ?_) (fun h189q => have h189 := (not_congr (nI_ltI (by omega) (by omega))).mp h189q; ?_)
      · exact absurd h189 (by decide)
      · refine J_aload_n (i := 0) C dX1_reduced_192 rfl (js1_ref (js1_ref (jdrop_of (jdrop_of (jdrop_of (js1_ref (js1_ref (js1_ref h0 (by decide)) (by decide)) (by decide)) rfl) rfl) rfl) (by decide)) (by decide)) ?_
        refine J_get (ci := 4) (k := 0) C dX1_reduced_193 (inT inX1) rfl (gc flX1_X1_numbers) (by decide) rfl rfl ?_
        refine J_aload_n (i := 0) C dX1_reduced_196 rfl (js1_ref (js1_ref (jdrop_of (jdrop_of (jdrop_of (js1_ref (js1_ref (js1_ref h0 (by decide)) (by decide)) (by decide)) rfl) rfl) rfl) (by decide)) (by decide)) ?_
        refine J_get (ci := 4) (k := 0) C dX1_reduced_197 (inT inX1) rfl (gc flX1_X1_numbers) (by decide) rfl rfl ?_
        refine J_aload_n (i := 0) C dX1_reduced_200 rfl (js1_ref (js1_ref (jdrop_of (jdrop_of (jdrop_of (js1_ref (js1_ref (js1_ref h0 (by decide)) (by decide)) (by decide)) rfl) rfl) rfl) (by decide)) (by decide)) ?_
        refine J_get (ci := 4) (k := 0) C dX1_reduced_201 (inT inX1) rfl (gc flX1_X1_numbers) (by decide) rfl rfl ?_
        refine J_iload C dX1_reduced_204 (js1_int js1_at (by decide)) ?_
        refine J_iload C dX1_reduced_206 (js1_int (js1_int (jdrop_of (jdrop_of (jdrop_of (js1_int (js1_int (js1_int h5 (by decide)) (by decide)) (by decide)) rfl) rfl) rfl) (by decide)) (by decide)) ?_
        have g4 : sh g3 v k2 := sh_eq g2 (fun j z1 z2 => s5 j (by omega))
        have g5 : sh g3 t kc := sh_eq s1 (fun j z1 z2 => s5 j (by omega))
        rw [hv]
        refine J_callVi C [.int (nI v), .int (nI t)] rfl rfl 6 (c_divided (t := t + 1 + kc / 2 + 1 + a1 / 2) g4 g5 (by omega) (by omega) (by omega) hN) (gV mlX1_X3_divided imX3_divided slX3_divided iniX3 cdX3_divided) rfl dsX3_divided ⟨by decide, by decide⟩ dX1_reduced_208 rfl (Nat.le_of_ble_eq_true rfl) rfl (Nat.le_of_ble_eq_true rfl) (Nat.le_of_eq hX) (Nat.le_of_ble_eq_true rfl) (Nat.le_of_ble_eq_true rfl) (fun r pw h hl => ?_)
        obtain ⟨rfl, c1, c2, g6, rfl, s6, s7, s8⟩ := h
        have bc1 := s6.2.1
        refine J_callVi C [.int (nI (t + 1 + kc / 2 + 1 + a1 / 2))] rfl rfl 6 (c_next (by omega) (by omega) s6.1 (by omega)) (gV mlX1_X3_next imX3_next slX3_next iniX3 cdX3_next) rfl dsX3_next ⟨by decide, by decide⟩ dX1_reduced_211 rfl (Nat.le_of_ble_eq_true rfl) rfl (Nat.le_of_ble_eq_true rfl) (Nat.le_of_eq hX) (Nat.le_of_ble_eq_true rfl) (Nat.le_of_ble_eq_true rfl) (fun r pw h hl => ?_)
        obtain ⟨rfl, rfl⟩ := h
        refine J_put (ci := 6) C 1 tyX3 tyX3_ok nmX3 dX1_reduced_214 (inT inX3) rfl (gc flX1_X3_top) (by decide) rfl (tyX3_ok 1 (by decide)) (fun _ => rfl) (fun _ => rfl) rfl (Nat.le_of_ble_eq_true rfl) ?_
        refine J_aload_n (i := 0) C dX1_reduced_217 rfl (jdrop_of (jdrop_of (js1_ref (js1_ref (jdrop_of (jdrop_of (jdrop_of (js1_ref (js1_ref (js1_ref h0 (by decide)) (by decide)) (by decide)) rfl) rfl) rfl) (by decide)) (by decide)) rfl) rfl) ?_
        refine J_get (ci := 4) (k := 0) C dX1_reduced_218 (inT inX1) rfl (gc flX1_X1_numbers) (by decide) rfl rfl ?_
        refine J_iload C dX1_reduced_221 (jdrop_of (jdrop_of (js1_int js1_at (by decide)) rfl) rfl) ?_
        have w2 : g6 v = nI k2 := by rw [s8 v (by omega)]; exact g4.1
        refine J_callVi C [.int (nI v)] rfl rfl 6 (c_next (by omega) (by omega) w2 (by omega)) (gV mlX1_X3_next imX3_next slX3_next iniX3 cdX3_next) rfl dsX3_next ⟨by decide, by decide⟩ dX1_reduced_223 rfl (Nat.le_of_ble_eq_true rfl) rfl (Nat.le_of_ble_eq_true rfl) (Nat.le_of_eq hX) (Nat.le_of_ble_eq_true rfl) (Nat.le_of_ble_eq_true rfl) (fun r pw h hl => ?_)
        obtain ⟨rfl, rfl⟩ := h
        refine J_istore C dX1_reduced_226 (by decide) ?_
        refine J_iinc C dX1_reduced_228 (js1_int (jdrop_of (jdrop_of (jdrop_of js1_at rfl) rfl) rfl) (by decide)) (nI_1 _) ?_
        refine J_goto (tgt := 186) C dX1_reduced_231 (by decide) ?_
        refine J_iload C dX1_reduced_186 js1_at ?_
        refine J_iload_n (i := 3) C dX1_reduced_188 rfl (js1_int (js1_int (jdrop_of (jdrop_of (jdrop_of (js1_int (js1_int (jdrop_of (jdrop_of (jdrop_of (js1_int (js1_int (js1_int h3 (by decide)) (by decide)) (by decide)) rfl) rfl) rfl) (by decide)) (by decide)) rfl) rfl) rfl) (by decide)) (by decide)) ?_
        refine J_icmp_gt (tgt := 234) C dX1_reduced_189 (by decide) (fun h189q => have h189 := (nI_ltI (by omega) (by omega)).mp h189q; ?_) (fun h189q => have h189 := (not_congr (nI_ltI (by omega) (by omega))).mp h189q; ?_)
        · refine J_aload_n (i := 0) C dX1_reduced_234 rfl (js1_ref (js1_ref (jdrop_of (jdrop_of (jdrop_of (js1_ref (js1_ref (jdrop_of (jdrop_of (jdrop_of (js1_ref (js1_ref (js1_ref h0 (by decide)) (by decide)) (by decide)) rfl) rfl) rfl) (by decide)) (by decide)) rfl) rfl) rfl) (by decide)) (by decide)) ?_
          refine J_get (ci := 4) (k := 0) C dX1_reduced_235 (inT inX1) rfl (gc flX1_X1_numbers) (by decide) rfl rfl ?_
          refine J_iload_n (i := 2) C dX1_reduced_238 rfl (js1_int (js1_int (jdrop_of (jdrop_of (jdrop_of (js1_int (js1_int (jdrop_of (jdrop_of (jdrop_of (js1_int (js1_int (js1_int h2 (by decide)) (by decide)) (by decide)) rfl) rfl) rfl) (by decide)) (by decide)) rfl) rfl) rfl) (by decide)) (by decide)) ?_
          refine J_iload C dX1_reduced_239 (js1_int (js1_int (jdrop_of (jdrop_of (jdrop_of (js1_int (js1_int (jdrop_of (jdrop_of (jdrop_of (js1_int (js1_int js1_at (by decide)) (by decide)) rfl) rfl) rfl) (by decide)) (by decide)) rfl) rfl) rfl) (by decide)) (by decide)) ?_
          refine J_callVi C [.int (nI ra), .int (nI (t + 1 + kc / 2))] rfl rfl 6 (c_slid (f := g6) (t := t + 1 + kc / 2 + 1 + a1 / 2 + 1 + c1 / 2) (by omega) (by omega) (by omega) hN) (gV mlX1_X3_slid imX3_slid slX3_slid iniX3 cdX3_slid) rfl dsX3_slid ⟨by decide, by decide⟩ dX1_reduced_241 rfl (Nat.le_of_ble_eq_true rfl) rfl (Nat.le_of_ble_eq_true rfl) (Nat.le_of_eq hX) (Nat.le_of_ble_eq_true rfl) (Nat.le_of_ble_eq_true rfl) (fun r pw h hl => ?_)
          obtain ⟨rfl, rfl⟩ := h
          have s9 : sh g6 (t + 1 + kc / 2) a1 := sh_eq s3 (fun j z1 z2 => s8 j (by omega))
          refine hR _ _ _ _ _ _ dX1_reduced_244 ⟨rfl,a1,c1,_,nW_top (by omega),sh_copy s9 (fun j z1 z2 => pk_cpy_in z1 (by omega)),sh_copy s6 (fun j z1 z2 => ?_),fun j hj => ?_⟩ (Nat.le_of_eq hX) (Nat.le_refl _) (Nat.le_refl _)
          · rw [pk_cpy_in (by omega) (by omega)]; congr 1; omega
          · rw [pk_cpy_out (by omega), s8 j (by omega), s5 j (by omega)]; exact he j (by omega)
        · exact absurd (by decide) h189
  -- behind the search
  have hC : ∀ (g : Nat → Int32) (kc : Nat) (lv : Nat → Option Value), sh g t kc → (∀ j, j < t → g j = f j) → lv 0 = some (.ref 3) → lv 2 = some (.int (nI ra)) → lv 3 = some (.int (nI 1)) → lv 4 = some (.int (nI t)) → lv 5 = some (.int (nI t)) → J X 103 lv [] (fW x0 (nI (t + 1 + kc / 2)) fm kp N g ht sq sc rest) 0 0 := by
    intro g kc lv s1 he h0 h2 h3 h4 h5
    have bc := s1.2.1
    have g1 : sh g ra k1 := sh_eq u1 (fun j z1 z2 => he j (by omega))
    have g2 : sh g v k2 := sh_eq u2 (fun j z1 z2 => he j (by omega))
    refine J_aload_n (i := 0) C dX1_reduced_103 rfl h0 ?_
    refine J_iload C dX1_reduced_104 h5 ?_
    refine J_callVi C [.int (nI t)] rfl rfl 6 (c_isOne (by omega) hN) (gV mlX1_X1_isOne imX1_isOne slX1_isOne iniX1 cdX1_isOne) rfl dsX1_isOne ⟨by decide, by decide⟩ dX1_reduced_106 rfl (Nat.le_of_ble_eq_true rfl) rfl (Nat.le_of_ble_eq_true rfl) (Nat.le_of_eq hX) (Nat.le_of_ble_eq_true rfl) (Nat.le_of_ble_eq_true rfl) (fun r pw h hl => ?_)
    obtain ⟨rfl | rfl, rfl⟩ := h
    · refine J_if_eq (tgt := 142) C dX1_reduced_109 (by decide) (fun h109q => have h109 := (nI_z (by omega)).mp h109q; ?_) (fun h109q => have h109 := (not_congr (nI_z (by omega))).mp h109q; ?_)
      · refine J_aload_n (i := 0) C dX1_reduced_142 rfl (jdrop_of h0 rfl) ?_
        refine J_get (ci := 4) (k := 0) C dX1_reduced_143 (inT inX1) rfl (gc flX1_X1_numbers) (by decide) rfl rfl ?_
        refine J_iload_n (i := 2) C dX1_reduced_146 rfl (jdrop_of h2 rfl) ?_
        refine J_callVi C [.int (nI ra)] rfl rfl 6 (c_isBelow (by omega) hN) (gV mlX1_X3_isBelow imX3_isBelow slX3_isBelow iniX3 cdX3_isBelow) rfl dsX3_isBelow ⟨by decide, by decide⟩ dX1_reduced_147 rfl (Nat.le_of_ble_eq_true rfl) rfl (Nat.le_of_ble_eq_true rfl) (Nat.le_of_eq hX) (Nat.le_of_ble_eq_true rfl) (Nat.le_of_ble_eq_true rfl) (fun r pw h hl => ?_)
        obtain ⟨rfl, rfl⟩ := h
        refine J_aload_n (i := 0) C dX1_reduced_150 rfl (jdrop_of (jdrop_of h0 rfl) rfl) ?_
        refine J_get (ci := 4) (k := 0) C dX1_reduced_151 (inT inX1) rfl (gc flX1_X1_numbers) (by decide) rfl rfl ?_
        refine J_iload C dX1_reduced_154 (jdrop_of (jdrop_of h5 rfl) rfl) ?_
        refine J_callVi C [.int (nI t)] rfl rfl 6 (c_isBelow (by omega) hN) (gV mlX1_X3_isBelow imX3_isBelow slX3_isBelow iniX3 cdX3_isBelow) rfl dsX3_isBelow ⟨by decide, by decide⟩ dX1_reduced_156 rfl (Nat.le_of_ble_eq_true rfl) rfl (Nat.le_of_ble_eq_true rfl) (Nat.le_of_eq hX) (Nat.le_of_ble_eq_true rfl) (Nat.le_of_ble_eq_true rfl) (fun r pw h hl => ?_)
        obtain ⟨rfl, rfl⟩ := h
        refine J_icmp_eq (tgt := 171) C dX1_reduced_159 (by decide) (fun h159q => ?_) (fun h159q => ?_)
        · exact hD g kc _ s1 he (jdrop_of (jdrop_of (jdrop_of h0 rfl) rfl) rfl) (jdrop_of (jdrop_of (jdrop_of h2 rfl) rfl) rfl) (jdrop_of (jdrop_of (jdrop_of h3 rfl) rfl) rfl) (jdrop_of (jdrop_of (jdrop_of h5 rfl) rfl) rfl)
        · refine J_aload_n (i := 0) C dX1_reduced_162 rfl (jdrop_of (jdrop_of (jdrop_of h0 rfl) rfl) rfl) ?_
          refine J_get (ci := 4) (k := 0) C dX1_reduced_163 (inT inX1) rfl (gc flX1_X1_numbers) (by decide) rfl rfl ?_
          refine J_iload C dX1_reduced_166 (jdrop_of (jdrop_of (jdrop_of h5 rfl) rfl) rfl) ?_
          refine J_callVn C [.int (nI t)] rfl rfl 6 (c_turn1 s1 rfl (by omega) hN) (gV mlX1_X3_turn imX3_turn slX3_turn iniX3 cdX3_turn) rfl dsX3_turn ⟨by decide, by decide⟩ dX1_reduced_168 rfl (Nat.le_of_ble_eq_true rfl) rfl (Nat.le_of_ble_eq_true rfl) (Nat.le_of_eq hX) (Nat.le_of_ble_eq_true rfl) (Nat.le_of_ble_eq_true rfl) (fun pw h hl => ?_)
          subst h
          have w := twK_2 s1.2.2.1
          refine J_eqw (pw' := fW x0 (nI (t + 1 + twK kc / 2)) fm kp N (upd g t (nI (twK kc))) ht sq sc rest) (by rw [w]) ?_
          exact hD _ (twK kc) _ (sh_tw s1) (fun j hj => by rw [pk_un (by omega)]; exact he j hj) (jdrop_of (jdrop_of (jdrop_of (jdrop_of h0 rfl) rfl) rfl) rfl) (jdrop_of (jdrop_of (jdrop_of (jdrop_of h2 rfl) rfl) rfl) rfl) (jdrop_of (jdrop_of (jdrop_of (jdrop_of h3 rfl) rfl) rfl) rfl) (jdrop_of (jdrop_of (jdrop_of (jdrop_of h5 rfl) rfl) rfl) rfl)
      · exact absurd rfl h109
    · refine J_if_eq (tgt := 142) C dX1_reduced_109 (by decide) (fun h109q => have h109 := (nI_z (by omega)).mp h109q; ?_) (fun h109q => have h109 := (not_congr (nI_z (by omega))).mp h109q; ?_)
      · exact absurd h109 (by decide)
      · refine J_aload_n (i := 0) C dX1_reduced_112 rfl (jdrop_of h0 rfl) ?_
        refine J_get (ci := 4) (k := 0) C dX1_reduced_113 (inT inX1) rfl (gc flX1_X1_numbers) (by decide) rfl rfl ?_
        refine J_iload C dX1_reduced_116 (jdrop_of h4 rfl) ?_
        refine J_put (ci := 6) C 1 tyX3 tyX3_ok nmX3 dX1_reduced_118 (inT inX3) rfl (gc flX1_X3_top) (by decide) rfl (tyX3_ok 1 (by decide)) (fun _ => rfl) (fun _ => rfl) rfl (Nat.le_of_ble_eq_true rfl) ?_
        refine J_aload_n (i := 0) C dX1_reduced_121 rfl (jdrop_of h0 rfl) ?_
        refine J_get (ci := 4) (k := 0) C dX1_reduced_122 (inT inX1) rfl (gc flX1_X1_numbers) (by decide) rfl rfl ?_
        refine J_iload_n (i := 2) C dX1_reduced_125 rfl (jdrop_of h2 rfl) ?_
        refine J_callVi C [.int (nI ra)] rfl rfl 6 (c_isBelow (by omega) hN) (gV mlX1_X3_isBelow imX3_isBelow slX3_isBelow iniX3 cdX3_isBelow) rfl dsX3_isBelow ⟨by decide, by decide⟩ dX1_reduced_126 rfl (Nat.le_of_ble_eq_true rfl) rfl (Nat.le_of_ble_eq_true rfl) (Nat.le_of_eq hX) (Nat.le_of_ble_eq_true rfl) (Nat.le_of_ble_eq_true rfl) (fun r pw h hl => ?_)
        obtain ⟨rfl, rfl⟩ := h
        refine J_if_eq (tgt := 140) C dX1_reduced_129 (by decide) (fun h129q => ?_) (fun h129q => ?_)
        · refine J_iload_n (i := 2) C dX1_reduced_140 rfl (jdrop_of (jdrop_of h2 rfl) rfl) ?_
          refine hR _ _ _ _ _ _ dX1_reduced_141 ⟨rfl,k1,k2,g,nW_top (by omega),g1,?_,fun j hj => he j (by omega)⟩ (Nat.le_of_eq hX) (Nat.le_refl _) (Nat.le_refl _)
          · rw [hv]; exact g2
        · refine J_aload_n (i := 0) C dX1_reduced_132 rfl (jdrop_of (jdrop_of h0 rfl) rfl) ?_
          refine J_get (ci := 4) (k := 0) C dX1_reduced_133 (inT inX1) rfl (gc flX1_X1_numbers) (by decide) rfl rfl ?_
          refine J_iload_n (i := 2) C dX1_reduced_136 rfl (jdrop_of (jdrop_of h2 rfl) rfl) ?_
          refine J_callVn C [.int (nI ra)] rfl rfl 6 (c_turn2 (t := t) g1 (by rw [hv]; exact g2) (by omega) (by omega) hN) (gV mlX1_X3_turn imX3_turn slX3_turn iniX3 cdX3_turn) rfl dsX3_turn ⟨by decide, by decide⟩ dX1_reduced_137 rfl (Nat.le_of_ble_eq_true rfl) rfl (Nat.le_of_ble_eq_true rfl) (Nat.le_of_eq hX) (Nat.le_of_ble_eq_true rfl) (Nat.le_of_ble_eq_true rfl) (fun pw h hl => ?_)
          subst h
          have w1 := twK_2 g1.2.2.1
          have w2 := twK_2 g2.2.2.1
          refine J_iload_n (i := 2) C dX1_reduced_140 rfl (jdrop_of (jdrop_of (jdrop_of h2 rfl) rfl) rfl) ?_
          refine hR _ _ _ _ _ _ dX1_reduced_141 ⟨rfl,twK k1,twK k2,_,nW_top (by omega),sh_eq (sh_tw g1) (fun j z1 z2 => pk_un (by omega)),?_,fun j hj => ?_⟩ (Nat.le_of_eq hX) (Nat.le_refl _) (Nat.le_refl _)
          · rw [w1, hv]
            exact sh_tw (sh_eq g2 (fun j z1 z2 => pk_un (by omega)))
          · rw [pk_un (by omega), pk_un (by omega)]; exact he j (by omega)
  refine J_iconst (v := nI 1) C dX1_reduced_0 (by decide) ?_
  refine J_iload_n (i := 1) C dX1_reduced_1 rfl rfl ?_
  refine J_ishl C dX1_reduced_2 ?_
  refine J_eqi (y := nI 1) (by decide) ?_
  refine J_istore_n (i := 3) C dX1_reduced_3 rfl (by decide) ?_
  refine J_aload_n (i := 0) C dX1_reduced_4 rfl rfl ?_
  refine J_get (ci := 4) (k := 0) C dX1_reduced_5 (inT inX1) rfl (gc flX1_X1_numbers) (by decide) rfl rfl ?_
  refine J_get (ci := 6) (k := 1) C dX1_reduced_8 (inT inX3) rfl (gc flX1_X3_top) (by decide) rfl rfl ?_
  refine J_istore C dX1_reduced_11 (by decide) ?_
  refine J_aload_n (i := 0) C dX1_reduced_13 rfl rfl ?_
  refine J_get (ci := 4) (k := 0) C dX1_reduced_14 (inT inX1) rfl (gc flX1_X1_numbers) (by decide) rfl rfl ?_
  refine J_iload_n (i := 2) C dX1_reduced_17 rfl rfl ?_
  refine J_iconst (v := nI 1) C dX1_reduced_18 (by decide) ?_
  refine J_callVi C [.int (nI ra), .int (nI 1)] rfl rfl 6 (c_copied1 (k := k1) (by omega) (by omega) hN u1.1 (by omega)) (gV mlX1_X3_copied imX3_copied slX3_copied iniX3 cdX3_copied) rfl dsX3_copied ⟨by decide, by decide⟩ dX1_reduced_19 rfl (Nat.le_of_ble_eq_true rfl) rfl (Nat.le_of_ble_eq_true rfl) (Nat.le_of_eq hX) (Nat.le_of_ble_eq_true rfl) (Nat.le_of_ble_eq_true rfl) (fun r pw h hl => ?_)
  obtain ⟨rfl, rfl⟩ := h
  generalize hG : va_cpy f f ra t (1 + k1 / 2) = g
  have he : ∀ j, j < t → g j = f j := fun j hj => by rw [← hG]; exact pk_cpy_out (by omega)
  have s1 : sh g t k1 := sh_copy u1 (fun j z1 z2 => by rw [← hG]; exact pk_cpy_in z1 (by omega))
  have g1 : sh g ra k1 := sh_eq u1 (fun j z1 z2 => he j (by omega))
  have g2 : sh g v k2 := sh_eq u2 (fun j z1 z2 => he j (by omega))
  refine J_istore C dX1_reduced_22 (by decide) ?_
  refine J_aload_n (i := 0) C dX1_reduced_24 rfl rfl ?_
  refine J_get (ci := 4) (k := 0) C dX1_reduced_25 (inT inX1) rfl (gc flX1_X1_numbers) (by decide) rfl rfl ?_
  refine J_iload_n (i := 2) C dX1_reduced_28 rfl rfl ?_
  refine J_callVi C [.int (nI ra)] rfl rfl 6 (c_next (by omega) (by omega) g1.1 (by omega)) (gV mlX1_X3_next imX3_next slX3_next iniX3 cdX3_next) rfl dsX3_next ⟨by decide, by decide⟩ dX1_reduced_29 rfl (Nat.le_of_ble_eq_true rfl) rfl (Nat.le_of_ble_eq_true rfl) (Nat.le_of_eq hX) (Nat.le_of_ble_eq_true rfl) (Nat.le_of_ble_eq_true rfl) (fun r pw h hl => ?_)
  obtain ⟨rfl, rfl⟩ := h
  rw [hv]
  refine J_istore C dX1_reduced_32 (by decide) ?_
  refine J_iconst (v := nI 0) C dX1_reduced_34 (by decide) ?_
  refine J_istore C dX1_reduced_35 (by decide) ?_
  refine J_iload C dX1_reduced_37 rfl ?_
  refine J_iload_n (i := 3) C dX1_reduced_39 rfl rfl ?_
  refine J_icmp_ge (tgt := 103) C dX1_reduced_40 (by decide) (fun h40q => have h40 := (nI_leI (by omega) (by omega)).mp h40q; ?_) (fun h40q => have h40 := (not_congr (nI_leI (by omega) (by omega))).mp h40q; ?_)
  · exact absurd h40 (by decide)
  · refine J_aload_n (i := 0) C dX1_reduced_43 rfl rfl ?_
    refine J_iload C dX1_reduced_44 rfl ?_
    refine J_callVi C [.int (nI t)] rfl rfl 6 (c_isOne (by omega) hN) (gV mlX1_X1_isOne imX1_isOne slX1_isOne iniX1 cdX1_isOne) rfl dsX1_isOne ⟨by decide, by decide⟩ dX1_reduced_46 rfl (Nat.le_of_ble_eq_true rfl) rfl (Nat.le_of_ble_eq_true rfl) (Nat.le_of_eq hX) (Nat.le_of_ble_eq_true rfl) (Nat.le_of_ble_eq_true rfl) (fun r pw h hl => ?_)
    obtain ⟨rfl | rfl, rfl⟩ := h
    · refine J_if_ne (tgt := 103) C dX1_reduced_49 (by decide) (fun h49q => have h49 := (not_congr (nI_z (by omega))).mp h49q; ?_) (fun h49q => have h49 := (nI_z (by omega)).mp h49q; ?_)
      · exact absurd rfl h49
      · -- one number more, and on
        have hN1 : ∀ (G : Nat → Int32) (kc : Nat) (lv : Nat → Option Value), sh G t kc → (∀ j, j < t → G j = f j) → lv 0 = some (.ref 3) → lv 2 = some (.int (nI ra)) → lv 3 = some (.int (nI 1)) → lv 4 = some (.int (nI t)) → lv 5 = some (.int (nI t)) → lv 6 = some (.int (nI v)) → lv 7 = some (.int (nI 0)) → J X 86 lv [] (fW x0 (nI (t + 1 + kc / 2)) fm kp N G ht sq sc rest) 0 0 := by
          intro G kc lv c1 c2 h0 h2 h3 h4 h5 h6 h7
          have bc := c1.2.1
          have g3 : G v = nI k2 := by rw [c2 v (by omega)]; exact u2.1
          refine J_aload_n (i := 0) C dX1_reduced_86 rfl h0 ?_
          refine J_get (ci := 4) (k := 0) C dX1_reduced_87 (inT inX1) rfl (gc flX1_X1_numbers) (by decide) rfl rfl ?_
          refine J_iload C dX1_reduced_90 h6 ?_
          refine J_callVi C [.int (nI v)] rfl rfl 6 (c_next (by omega) (by omega) g3 (by omega)) (gV mlX1_X3_next imX3_next slX3_next iniX3 cdX3_next) rfl dsX3_next ⟨by decide, by decide⟩ dX1_reduced_92 rfl (Nat.le_of_ble_eq_true rfl) rfl (Nat.le_of_ble_eq_true rfl) (Nat.le_of_eq hX) (Nat.le_of_ble_eq_true rfl) (Nat.le_of_ble_eq_true rfl) (fun r pw h hl => ?_)
          obtain ⟨rfl, rfl⟩ := h
          refine J_istore C dX1_reduced_95 (by decide) ?_
          refine J_iinc C dX1_reduced_97 (js1_int (jdrop_of h7 rfl) (by decide)) (nI_1 _) ?_
          refine J_goto (tgt := 37) C dX1_reduced_100 (by decide) ?_
          refine J_iload C dX1_reduced_37 js1_at ?_
          refine J_iload_n (i := 3) C dX1_reduced_39 rfl (js1_int (js1_int (jdrop_of h3 rfl) (by decide)) (by decide)) ?_
          refine J_icmp_ge (tgt := 103) C dX1_reduced_40 (by decide) (fun h40q => have h40 := (nI_leI (by omega) (by omega)).mp h40q; ?_) (fun h40q => have h40 := (not_congr (nI_leI (by omega) (by omega))).mp h40q; ?_)
          · exact hC G kc _ c1 c2 (js1_ref (js1_ref (jdrop_of h0 rfl) (by decide)) (by decide)) (js1_int (js1_int (jdrop_of h2 rfl) (by decide)) (by decide)) (js1_int (js1_int (jdrop_of h3 rfl) (by decide)) (by decide)) (js1_int (js1_int (jdrop_of h4 rfl) (by decide)) (by decide)) (js1_int (js1_int (jdrop_of h5 rfl) (by decide)) (by decide))
          · exact absurd (by decide) h40
        refine J_aload_n (i := 0) C dX1_reduced_52 rfl rfl ?_
        refine J_get (ci := 4) (k := 0) C dX1_reduced_53 (inT inX1) rfl (gc flX1_X1_numbers) (by decide) rfl rfl ?_
        refine J_get (ci := 6) (k := 0) C dX1_reduced_56 (inT inX3) rfl (gc flX1_X3_cell) (by decide) rfl rfl ?_
        refine J_iload C dX1_reduced_59 rfl ?_
        refine J_ialdN C dX1_reduced_61 rfl (by omega) (by omega) g2.1 ?_
        refine J_if_eq (tgt := 86) C dX1_reduced_62 (by decide) (fun h62q => have h62 := (nI_z (by omega)).mp h62q; ?_) (fun h62q => have h62 := (not_congr (nI_z (by omega))).mp h62q; ?_)
        · refine J_eqw (pw' := fW x0 (nI (t + 1 + k1 / 2)) fm kp N g ht sq sc rest) (by rw [Nat.add_assoc]) ?_
          exact hN1 g k1 _ s1 he rfl rfl rfl rfl rfl rfl rfl
        · refine J_aload_n (i := 0) C dX1_reduced_65 rfl rfl ?_
          refine J_get (ci := 4) (k := 0) C dX1_reduced_66 (inT inX1) rfl (gc flX1_X1_numbers) (by decide) rfl rfl ?_
          refine J_iload C dX1_reduced_69 rfl ?_
          refine J_aload_n (i := 0) C dX1_reduced_71 rfl rfl ?_
          refine J_get (ci := 4) (k := 0) C dX1_reduced_72 (inT inX1) rfl (gc flX1_X1_numbers) (by decide) rfl rfl ?_
          refine J_iload C dX1_reduced_75 rfl ?_
          refine J_iload C dX1_reduced_77 rfl ?_
          refine J_callVi C [.int (nI v), .int (nI t)] rfl rfl 6 (c_divisor (t := t + (1 + k1 / 2)) g2 s1 (by omega) (by omega) (by omega) hN) (gV mlX1_X3_divisor imX3_divisor slX3_divisor iniX3 cdX3_divisor) rfl dsX3_divisor ⟨by decide, by decide⟩ dX1_reduced_79 rfl (Nat.le_of_ble_eq_true rfl) rfl (Nat.le_of_ble_eq_true rfl) (Nat.le_of_eq hX) (Nat.le_of_ble_eq_true rfl) (Nat.le_of_ble_eq_true rfl) (fun r pw h hl => ?_)
          obtain ⟨rfl, k3, g3, rfl, s3, s4⟩ := h
          have b3 := s3.2.1
          refine J_callVi C [.int (nI t), .int (nI (t + (1 + k1 / 2)))] rfl rfl 6 (c_slid (f := g3) (t := t + (1 + k1 / 2) + 1 + k3 / 2) (by omega) (by omega) (by omega) hN) (gV mlX1_X3_slid imX3_slid slX3_slid iniX3 cdX3_slid) rfl dsX3_slid ⟨by decide, by decide⟩ dX1_reduced_82 rfl (Nat.le_of_ble_eq_true rfl) rfl (Nat.le_of_ble_eq_true rfl) (Nat.le_of_eq hX) (Nat.le_of_ble_eq_true rfl) (Nat.le_of_ble_eq_true rfl) (fun r pw h hl => ?_)
          obtain ⟨rfl, rfl⟩ := h
          refine J_pop C dX1_reduced_85 rfl ?_
          refine J_eqw (pw' := fW x0 (nI (t + 1 + k3 / 2)) fm kp N _ ht sq sc rest) (by rw [show t + (t + (1 + k1 / 2) + 1 + k3 / 2 - (t + (1 + k1 / 2))) = t + 1 + k3 / 2 by omega]) ?_
          refine hN1 _ k3 _ (sh_copy s3 (fun j z1 z2 => pk_cpy_in z1 (by omega))) (fun j hj => ?_) rfl rfl rfl rfl rfl rfl rfl
          rw [pk_cpy_out (by omega), s4 j (by omega)]; exact he j hj
    · refine J_if_ne (tgt := 103) C dX1_reduced_49 (by decide) (fun h49q => have h49 := (not_congr (nI_z (by omega))).mp h49q; ?_) (fun h49q => have h49 := (nI_z (by omega)).mp h49q; ?_)
      · refine J_eqw (pw' := fW x0 (nI (t + 1 + k1 / 2)) fm kp N g ht sq sc rest) (by rw [Nat.add_assoc]) ?_
        exact hC g k1 _ s1 he rfl rfl rfl rfl rfl
      · exact absurd h49 (by decide)
set_option maxHeartbeats 4000000 in
/-- part(number, bottom, 0) -/
theorem c_part0 {x0 : jE} {fm kp : Int32} {N : Nat} {f : Nat → Int32} {ht : Int32} {sq sc : Nat → Int32} {rest : jW} {t p q k1 k2 : Nat} (h1 : sh f p k1) (h2 : sh f q k2) (hp : p + k1 / 2 < t) (hq : q + k2 / 2 < t) (h128 : f 128 = nI 2) (h129 : f 129 = nI 1) (h130 : 130 ≤ t) (hsc : sc 0 = nI 128) (ht' : t + 60 ≤ N) (hN : N < 2 ^ 30) :
    jI vwCl yX1_part (wc yX1_part cX1_part 6 (some .int)) 5 300 [.ref 3, .int (nI p), .int (nI q), .int (nI 0)] (fW x0 (nI t) fm kp N f ht sq sc rest) 0 0 (fun r pw => r = nI t ∧ pN2 x0 fm kp N f (.inr (4, [.ref 1, .int ht, .ref 4, .ref 5]) :: .inl (.int, 5, .inl sq) :: .inl (.int, 16, .inl sc) :: rest) t pw) := by
  refine jI_of (cc := cX1_part) (nL := 6) .int (by decide) rfl (Nat.le_of_ble_eq_true rfl) (fun _ _ _ => rfl) ?_
  intro X C hX hR
  have b1 := h1.2.1
  have b2 := h2.2.1
  refine J_aload_n (i := 0) C dX1_part_0 rfl rfl ?_
  refine J_get (ci := 4) (k := 0) C dX1_part_1 (inT inX1) rfl (gc flX1_X1_numbers) (by decide) rfl rfl ?_
  refine J_get (ci := 6) (k := 1) C dX1_part_4 (inT inX3) rfl (gc flX1_X3_top) (by decide) rfl rfl ?_
  refine J_istore C dX1_part_7 (by decide) ?_
  refine J_aload_n (i := 0) C dX1_part_9 rfl rfl ?_
  refine J_get (ci := 4) (k := 0) C dX1_part_10 (inT inX1) rfl (gc flX1_X1_numbers) (by decide) rfl rfl ?_
  refine J_iload_n (i := 1) C dX1_part_13 rfl rfl ?_
  refine J_aload_n (i := 0) C dX1_part_14 rfl rfl ?_
  refine J_get (ci := 4) (k := 3) C dX1_part_15 (inT inX1) rfl (gc flX1_X1_scale) (by decide) rfl rfl ?_
  refine J_iload_n (i := 3) C dX1_part_18 rfl rfl ?_
  refine J_ialdN C dX1_part_19 rfl (by omega) (by omega) hsc ?_
  refine J_callVi C [.int (nI p), .int (nI 128)] rfl rfl 6 (c_times1 h1 h128 h129 hp (by omega) (by omega) hN) (gV mlX1_X3_times imX3_times slX3_times iniX3 cdX3_times) rfl dsX3_times ⟨by decide, by decide⟩ dX1_part_20 rfl (Nat.le_of_ble_eq_true rfl) rfl (Nat.le_of_ble_eq_true rfl) (Nat.le_of_eq hX) (Nat.le_of_ble_eq_true rfl) (Nat.le_of_ble_eq_true rfl) (fun r pw h hl => ?_)
  obtain ⟨rfl, k3, g, rfl, s1, s2⟩ := h
  have b3 := s1.2.1
  refine J_istore C dX1_part_23 (by decide) ?_
  refine J_aload_n (i := 0) C dX1_part_25 rfl rfl ?_
  refine J_get (ci := 4) (k := 0) C dX1_part_26 (inT inX1) rfl (gc flX1_X1_numbers) (by decide) rfl rfl ?_
  refine J_iload C dX1_part_29 rfl ?_
  refine J_aload_n (i := 0) C dX1_part_31 rfl rfl ?_
  refine J_get (ci := 4) (k := 0) C dX1_part_32 (inT inX1) rfl (gc flX1_X1_numbers) (by decide) rfl rfl ?_
  refine J_iload C dX1_part_35 rfl ?_
  refine J_iload_n (i := 2) C dX1_part_37 rfl rfl ?_
  refine J_callVi C [.int (nI t), .int (nI q)] rfl rfl 6 (c_lowest (t := t + 1 + k3 / 2) s1 (sh_eq h2 (fun j z1 z2 => s2 j (by omega))) (by omega) (by omega) (by omega) hN) (gV mlX1_X3_lowest imX3_lowest slX3_lowest iniX3 cdX3_lowest) rfl dsX3_lowest ⟨by decide, by decide⟩ dX1_part_38 rfl (Nat.le_of_ble_eq_true rfl) rfl (Nat.le_of_ble_eq_true rfl) (Nat.le_of_eq hX) (Nat.le_of_ble_eq_true rfl) (Nat.le_of_ble_eq_true rfl) (fun r pw h hl => ?_)
  obtain ⟨rfl, c1, c2, g2, rfl, s3, s4, s5⟩ := h
  have b4 := s3.2.1
  have b5 := s4.2.1
  refine J_callVi C [.int (nI t), .int (nI (t + 1 + k3 / 2))] rfl rfl 6 (c_slid (f := g2) (t := t + 1 + k3 / 2 + 1 + c1 / 2 + 1 + c2 / 2) (by omega) (by omega) (by omega) hN) (gV mlX1_X3_slid imX3_slid slX3_slid iniX3 cdX3_slid) rfl dsX3_slid ⟨by decide, by decide⟩ dX1_part_41 rfl (Nat.le_of_ble_eq_true rfl) rfl (Nat.le_of_ble_eq_true rfl) (Nat.le_of_eq hX) (Nat.le_of_ble_eq_true rfl) (Nat.le_of_ble_eq_true rfl) (fun r pw h hl => ?_)
  obtain ⟨rfl, rfl⟩ := h
  refine hR _ _ _ _ _ _ dX1_part_44 ⟨rfl,c1,c2,_,nW_top (by omega),sh_copy s3 (fun j z1 z2 => pk_cpy_in z1 (by omega)),sh_copy s4 (fun j z1 z2 => ?_),fun j hj => ?_⟩ (Nat.le_of_eq hX) (Nat.le_refl _) (Nat.le_refl _)
  · rw [pk_cpy_in (by omega) (by omega)]; congr 1; omega
  · rw [pk_cpy_out (by omega), s5 j (by omega)]; exact s2 j (by omega)

theorem nI_sub_ge {a b : Nat} (ha : a < 2 ^ 30) (hb : b < 2 ^ 30) : 0 ≤ nI a - nI b ↔ b ≤ a := by
  rw [Int32.le_iff_toInt_le, pk_sub_toInt ha hb, show (0 : Int32).toInt = 0 from rfl]
  omega
theorem nI_sub_add {a b c : Nat} (h : b ≤ a + c) : nI a - nI b + nI c = nI (a + c - b) := by
  rw [← pk_sub h, ← nI_add, Int32.sub_eq_add_neg, Int32.sub_eq_add_neg, Int32.add_assoc, Int32.add_assoc, Int32.add_comm (-nI b)]
theorem lN_less (u : Nat) : (lN u - lN (u + 1)).toInt32 = -1 := by
  rw [← lN_1, Int64.sub_eq_add_neg, Int64.neg_add, Int64.sub_eq_add_neg, ← Int64.add_assoc, ← Int64.sub_eq_add_neg (lN u), Int64.sub_self]
  decide
theorem kn_top {b P u2 t1 U V : Nat} (hU : u2 * (b * P) ≤ U) (hV : V < (t1 + 1) * P) (h : U < V * b) (hb : 0 < b) : u2 ≤ t1 := by
  rcases Nat.lt_or_ge t1 u2 with q | q
  · have h1 : (t1 + 1) * (b * P) ≤ u2 * (b * P) := Nat.mul_le_mul_right _ q
    have h2 : V * b < (t1 + 1) * P * b := Nat.mul_lt_mul_of_pos_right hV hb
    rw [Nat.mul_assoc, Nat.mul_comm P b] at h2
    omega
  · exact q
/-- one limb of guess times v, taken from u -/
theorem sub_step {A G V c W d y w c' P : Nat} (h : A + G * V = W + c * P) (hx : d + (G * y + c) = w + c' * 1000000000) : (A + d * P) + G * (V + y * P) = (W + w * P) + c' * (P * 1000000000) := by
  have h1 : (d + (G * y + c)) * P = (w + c' * 1000000000) * P := by rw [hx]
  rw [Nat.add_mul, Nat.add_mul, Nat.add_mul, Nat.mul_assoc c', Nat.mul_comm 1000000000 P] at h1
  rw [Nat.mul_add, ← Nat.mul_assoc G y P]
  generalize G * y * P = q1 at *
  generalize d * P = q2 at *
  generalize c * P = q3 at *
  generalize w * P = q4 at *
  generalize c' * (P * 1000000000) = q5 at *
  omega
theorem add_step {A b W V d b' w y P : Nat} (h : A + b * P = W + V) (hx : d + b' * 1000000000 = w + y + b) : (A + d * P) + b' * (P * 1000000000) = (W + w * P) + (V + y * P) := by
  have h1 : (d + b' * 1000000000) * P = (w + y + b) * P := by rw [hx]
  rw [Nat.add_mul, Nat.add_mul, Nat.add_mul, Nat.mul_assoc b', Nat.mul_comm 1000000000 P] at h1
  generalize b' * (P * 1000000000) = q1 at *
  generalize d * P = q2 at *
  generalize b * P = q3 at *
  generalize w * P = q4 at *
  generalize y * P = q5 at *
  omega
theorem add_end {R V X D b : Nat} (h : D + b * X = R + V) (hb : b < 2) (hX : X ≤ R + V) (hD : D < X) (hR : R < X) (hV : V < X) : b = 1 ∧ D = R + V - X := by
  rcases (show b = 0 ∨ b = 1 by omega) with e | e
  · subst e; omega
  · subst e; omega
set_option maxHeartbeats 8000000 in
/-- quotientLimb(u, v, n): Knuth's step -/
theorem c_quotientLimb {x0 : jE} {rest : jW} {tp fm kp : Int32} {N : Nat} {f : Nat → Int32} {u v m : Nat} (hu : lm f u (m + 3)) (hv : lm f v (m + 2)) (huv : u + (m + 2) < v) (hvN : v + (m + 2) ≤ N) (hN : N < 2 ^ 30) (htop : 1000000000 ≤ 2 * dg f (v + (m + 1))) (hUV : vN f u (m + 3) < vN f v (m + 2) * 1000000000) :
    jI vwCl yX3_quotientLimb (wc yX3_quotientLimb cX3_quotientLimb 19 (some .int)) 1 60 [.ref 1, .int (nI u), .int (nI v), .int (nI (m + 2))] (nW x0 tp fm kp N f rest) 0 0 (fun r pw => ∃ (d : Nat) (g : Nat → Int32), r = nI d ∧ d < 1000000000 ∧ pw = nW x0 tp fm kp N g rest ∧ lm g u (m + 2) ∧ g (u + (m + 2)) = nI 0 ∧ vN g u (m + 2) < vN f v (m + 2) ∧ ∀ j, j < u ∨ u + (m + 2) < j → g j = f j) := by
  refine jI_of (cc := cX3_quotientLimb) (nL := 19) .int (by decide) rfl (Nat.le_of_ble_eq_true rfl) (fun _ _ _ => rfl) ?_
  intro X C hX hR
  obtain ⟨a2, b2⟩ := hu (m + 2) (by omega)
  obtain ⟨a1, b1⟩ := hu (m + 1) (by omega)
  obtain ⟨a0, b0⟩ := hu m (by omega)
  obtain ⟨s1, t1⟩ := hv (m + 1) (by omega)
  obtain ⟨s0, t0⟩ := hv m (by omega)
  have eU := vN_3 f u m
  have eV := vN_2 f v m
  have lU := vN_lt (lm_le hu (show m ≤ m + 3 by omega))
  have lV := vN_lt (lm_le hv (show m ≤ m + 2 by omega))
  have lV2 := vN_lt hv
  have eU2 : vN f u (m + 3) = vN f u (m + 2) + dg f (u + (m + 2)) * 1000000000 ^ (m + 2) := rfl
  have hu2 : dg f (u + (m + 2)) ≤ dg f (v + (m + 1)) := by
    have hV : vN f v (m + 2) < (dg f (v + (m + 1)) + 1) * 1000000000 ^ (m + 1) := by
      show vN f v (m + 1) + dg f (v + (m + 1)) * 1000000000 ^ (m + 1) < _
      rw [Nat.add_mul, Nat.one_mul, Nat.add_comm]
      exact Nat.add_lt_add_left (vN_lt (lm_le hv (show m + 1 ≤ m + 2 by omega))) _
    refine kn_top (b := 1000000000) (P := 1000000000 ^ (m + 1)) ?_ hV hUV (by decide)
    rw [eU2, show 1000000000 * 1000000000 ^ (m + 1) = 1000000000 ^ (m + 2) by rw [Nat.pow_succ 1000000000 (m + 1), Nat.mul_comm]]
    omega
  have z1 : f (u + (m + 2) - 1) = nI (dg f (u + (m + 1))) := by rw [show u + (m + 2) - 1 = u + (m + 1) by omega]; exact a1
  have z2 : f (v + (m + 2) - 1) = nI (dg f (v + (m + 1))) := by rw [show v + (m + 2) - 1 = v + (m + 1) by omega]; exact s1
  have z3 : f (v + (m + 2) - 2) = nI (dg f (v + m)) := by rw [show v + (m + 2) - 2 = v + m by omega]; exact s0
  have z4 : f (u + (m + 2) - 2) = nI (dg f (u + m)) := by rw [show u + (m + 2) - 2 = u + m by omega]; exact a0
  generalize dg f (u + (m + 2)) = u2 at *
  generalize dg f (u + (m + 1)) = u1 at *
  generalize dg f (u + m) = u0 at *
  generalize dg f (v + (m + 1)) = v1 at *
  generalize dg f (v + m) = v0 at *
  generalize hU : vN f u (m + 3) = U at *
  generalize hV : vN f v (m + 2) = V at *
  have hVX : V < 1000000000 ^ (m + 2) := lV2
  -- adding back
  have hB : ∀ (G : Nat) (g1 : Nat → Int32), 1 ≤ G → G < 1000000000 → lm g1 u (m + 2) → g1 (u + (m + 2)) = -1 → 1000000000 ^ (m + 2) ≤ vN g1 u (m + 2) + V → (∀ j, j < u ∨ u + (m + 2) < j → g1 j = f j) → ∀ (d i bk : Nat) (h : Nat → Int32) (lv : Nat → Option Value), i + d = m + 2 → bk < 2 → lm h u i → (∀ j, j < u ∨ u + i ≤ j → h j = g1 j) → vN h u i + bk * 1000000000 ^ i = vN g1 u i + vN f v i → lv 0 = some (.ref 1) → lv 1 = some (.int (nI u)) → lv 2 = some (.int (nI v)) → lv 3 = some (.int (nI (m + 2))) → lv 4 = some (.ref 2) → lv 9 = some (.long (lN G)) → lv 15 = some (.int (nI bk)) → lv 16 = some (.int (nI i)) → J X 267 lv [] (nW x0 tp fm kp N h rest) 0 0 := by
    intro G g1 hG1 hG hg1 hgm hge hgf d
    induction d with
    | zero =>
      intro i bk h lv hd hb hh he hs h0 h1 h2 h3 h4 h9 h15 h16
      have hi : i = m + 2 := by omega
      subst hi
      rw [hV] at hs
      obtain ⟨q1, q2⟩ := add_end hs hb hge (vN_lt hh) (vN_lt hg1) hVX
      subst q1
      have c1 : h (u + (m + 2)) = -1 := by rw [he _ (by omega)]; exact hgm
      refine J_iload C dX3_quotientLimb_267 h16 ?_
      refine J_iload_n (i := 3) C dX3_quotientLimb_269 rfl h3 ?_
      refine J_icmp_ge (tgt := 335) C dX3_quotientLimb_270 (by decide) (fun h270q => have h270 := (nI_leI (by omega) (by omega)).mp h270q; ?_) (fun h270q => have h270 := (not_congr (nI_leI (by omega) (by omega))).mp h270q; ?_)
      · refine J_aload C dX3_quotientLimb_335 h4 ?_
        refine J_iload_n (i := 1) C dX3_quotientLimb_337 rfl h1 ?_
        refine J_iload_n (i := 3) C dX3_quotientLimb_338 rfl h3 ?_
        refine J_iadd C dX3_quotientLimb_339 ?_
        refine J_eqi (nI_add _ _) ?_
        refine J_dup2 C dX3_quotientLimb_340 rfl rfl ?_
        refine J_ialdN C dX3_quotientLimb_341 rfl (by omega) (by omega) c1 ?_
        refine J_iload C dX3_quotientLimb_342 h15 ?_
        refine J_iadd C dX3_quotientLimb_344 ?_
        refine J_eqi (y := nI 0) (by decide) ?_
        refine J_iastN C dX3_quotientLimb_345 rfl (by omega) (by omega) ?_
        refine J_lload C dX3_quotientLimb_346 h9 ?_
        refine J_lconst (v := lN 1) C dX3_quotientLimb_348 (by decide) ?_
        refine J_lsub C dX3_quotientLimb_349 ?_
        refine J_eql (lN_sub (by omega)) ?_
        refine J_l2i C dX3_quotientLimb_350 (lN_i _) ?_
        refine hR _ _ _ _ _ _ dX3_quotientLimb_351 ⟨G - 1,upd h (u + (m + 2)) (nI 0),rfl,by omega,rfl,lm_un hh (by omega),pk_us,?_,fun j hj => ?_⟩ (Nat.le_of_eq hX) (Nat.le_refl _) (Nat.le_refl _)
        · rw [vN_un (by omega), q2]
          have := vN_lt hg1
          omega
        · rw [pk_un (by omega), he j (by omega)]
          exact hgf j hj
      · exact absurd (Nat.le_refl _) h270
    | succ d ih =>
      intro i bk h lv hd hb hh he hs h0 h1 h2 h3 h4 h9 h15 h16
      obtain ⟨p1, p2⟩ := hg1 i (by omega)
      obtain ⟨p3, p4⟩ := hv i (by omega)
      have c1 : h (u + i) = nI (dg g1 (u + i)) := by rw [he _ (by omega)]; exact p1
      have c2 : h (v + i) = nI (dg f (v + i)) := by rw [he _ (by omega), hgf _ (by omega)]; exact p3
      have e1 : vN g1 u (i + 1) = vN g1 u i + dg g1 (u + i) * 1000000000 ^ i := rfl
      have e2 : vN f v (i + 1) = vN f v i + dg f (v + i) * 1000000000 ^ i := rfl
      generalize dg g1 (u + i) = w at *
      generalize dg f (v + i) = y at *
      refine J_iload C dX3_quotientLimb_267 h16 ?_
      refine J_iload_n (i := 3) C dX3_quotientLimb_269 rfl h3 ?_
      refine J_icmp_ge (tgt := 335) C dX3_quotientLimb_270 (by decide) (fun h270q => have h270 := (nI_leI (by omega) (by omega)).mp h270q; ?_) (fun h270q => have h270 := (not_congr (nI_leI (by omega) (by omega))).mp h270q; ?_)
      · exact absurd h270 (by omega)
      · refine J_aload C dX3_quotientLimb_273 h4 ?_
        refine J_iload_n (i := 1) C dX3_quotientLimb_275 rfl h1 ?_
        refine J_iload C dX3_quotientLimb_276 h16 ?_
        refine J_iadd C dX3_quotientLimb_278 ?_
        refine J_eqi (nI_add _ _) ?_
        refine J_ialdN C dX3_quotientLimb_279 rfl (by omega) (by omega) c1 ?_
        refine J_aload C dX3_quotientLimb_280 h4 ?_
        refine J_iload_n (i := 2) C dX3_quotientLimb_282 rfl h2 ?_
        refine J_iload C dX3_quotientLimb_283 h16 ?_
        refine J_iadd C dX3_quotientLimb_285 ?_
        refine J_eqi (nI_add _ _) ?_
        refine J_ialdN C dX3_quotientLimb_286 rfl (by omega) (by omega) c2 ?_
        refine J_iadd C dX3_quotientLimb_287 ?_
        refine J_eqi (nI_add _ _) ?_
        refine J_iload C dX3_quotientLimb_288 h15 ?_
        refine J_iadd C dX3_quotientLimb_290 ?_
        refine J_eqi (nI_add _ _) ?_
        refine J_istore C dX3_quotientLimb_291 (by decide) ?_
        refine J_iload C dX3_quotientLimb_293 js1_at ?_
        refine J_ldc C (gc coX3_1000000000) dX3_quotientLimb_295 ?_
        refine J_eqi (y := nI 1000000000) (by decide) ?_
        refine J_icmp_lt (tgt := 304) C dX3_quotientLimb_297 (by decide) (fun h297q => have h297 := (nI_ltI (by omega) (by omega)).mp h297q; ?_) (fun h297q => have h297 := (not_congr (nI_ltI (by omega) (by omega))).mp h297q; ?_)
        · refine J_iconst (v := nI 0) C dX3_quotientLimb_304 (by decide) ?_
          refine J_istore C dX3_quotientLimb_305 (by decide) ?_
          refine J_aload C dX3_quotientLimb_307 (js1_ref (js1_ref h4 (by decide)) (by decide)) ?_
          refine J_iload_n (i := 1) C dX3_quotientLimb_309 rfl (js1_int (js1_int h1 (by decide)) (by decide)) ?_
          refine J_iload C dX3_quotientLimb_310 (js1_int (js1_int h16 (by decide)) (by decide)) ?_
          refine J_iadd C dX3_quotientLimb_312 ?_
          refine J_eqi (nI_add _ _) ?_
          refine J_iload C dX3_quotientLimb_313 js1_at ?_
          refine J_if_ne (tgt := 323) C dX3_quotientLimb_315 (by decide) (fun h315q => have h315 := (not_congr (nI_z (by omega))).mp h315q; ?_) (fun h315q => have h315 := (nI_z (by omega)).mp h315q; ?_)
          · exact absurd rfl h315
          · refine J_iload C dX3_quotientLimb_318 (js1_int js1_at (by decide)) ?_
            refine J_goto (tgt := 328) C dX3_quotientLimb_320 (by decide) ?_
            refine J_iastN C dX3_quotientLimb_328 rfl (by omega) (by omega) ?_
            refine J_iinc C dX3_quotientLimb_329 (js1_int (js1_int h16 (by decide)) (by decide)) (nI_1 _) ?_
            refine J_goto (tgt := 267) C dX3_quotientLimb_332 (by decide) ?_
            refine ih (i + 1) 0 _ _ (by omega) (by decide) (lm_up hh (by omega)) (fun j hj => ?_) ?_ (js1_ref (js1_ref (js1_ref h0 (by decide)) (by decide)) (by decide)) (js1_int (js1_int (js1_int h1 (by decide)) (by decide)) (by decide)) (js1_int (js1_int (js1_int h2 (by decide)) (by decide)) (by decide)) (js1_int (js1_int (js1_int h3 (by decide)) (by decide)) (by decide)) (js1_ref (js1_ref (js1_ref h4 (by decide)) (by decide)) (by decide)) (js1_long (js1_long (js1_long h9 (by decide) (by decide)) (by decide) (by decide)) (by decide) (by decide)) (js1_int js1_at (by decide)) js1_at
            · rw [pk_un (by omega)]; exact he j (by omega)
            · rw [vN_up (by omega), e1, e2, Nat.pow_succ]
              exact add_step hs (by omega)
        · refine J_iconst (v := nI 1) C dX3_quotientLimb_300 (by decide) ?_
          refine J_goto (tgt := 305) C dX3_quotientLimb_301 (by decide) ?_
          refine J_istore C dX3_quotientLimb_305 (by decide) ?_
          refine J_aload C dX3_quotientLimb_307 (js1_ref (js1_ref h4 (by decide)) (by decide)) ?_
          refine J_iload_n (i := 1) C dX3_quotientLimb_309 rfl (js1_int (js1_int h1 (by decide)) (by decide)) ?_
          refine J_iload C dX3_quotientLimb_310 (js1_int (js1_int h16 (by decide)) (by decide)) ?_
          refine J_iadd C dX3_quotientLimb_312 ?_
          refine J_eqi (nI_add _ _) ?_
          refine J_iload C dX3_quotientLimb_313 js1_at ?_
          refine J_if_ne (tgt := 323) C dX3_quotientLimb_315 (by decide) (fun h315q => have h315 := (not_congr (nI_z (by omega))).mp h315q; ?_) (fun h315q => have h315 := (nI_z (by omega)).mp h315q; ?_)
          · refine J_iload C dX3_quotientLimb_323 (js1_int js1_at (by decide)) ?_
            refine J_ldc C (gc coX3_1000000000) dX3_quotientLimb_325 ?_
            refine J_eqi (y := nI 1000000000) (by decide) ?_
            refine J_isub C dX3_quotientLimb_327 ?_
            refine J_eqi (pk_sub (by omega)) ?_
            refine J_iastN C dX3_quotientLimb_328 rfl (by omega) (by omega) ?_
            refine J_iinc C dX3_quotientLimb_329 (js1_int (js1_int h16 (by decide)) (by decide)) (nI_1 _) ?_
            refine J_goto (tgt := 267) C dX3_quotientLimb_332 (by decide) ?_
            refine ih (i + 1) 1 _ _ (by omega) (by decide) (lm_up hh (by omega)) (fun j hj => ?_) ?_ (js1_ref (js1_ref (js1_ref h0 (by decide)) (by decide)) (by decide)) (js1_int (js1_int (js1_int h1 (by decide)) (by decide)) (by decide)) (js1_int (js1_int (js1_int h2 (by decide)) (by decide)) (by decide)) (js1_int (js1_int (js1_int h3 (by decide)) (by decide)) (by decide)) (js1_ref (js1_ref (js1_ref h4 (by decide)) (by decide)) (by decide)) (js1_long (js1_long (js1_long h9 (by decide) (by decide)) (by decide) (by decide)) (by decide) (by decide)) (js1_int js1_at (by decide)) js1_at
            · rw [pk_un (by omega)]; exact he j (by omega)
            · rw [vN_up (by omega), e1, e2, Nat.pow_succ]
              exact add_step hs (by omega)
          · exact absurd h315 (by decide)
  -- taking away
  have hS : ∀ (G : Nat), G < 1000000000 → U < (G + 1) * V → G * V < U + V → ∀ (d i cr : Nat) (g : Nat → Int32) (lv : Nat → Option Value), i + d = m + 2 → cr ≤ 1000000000 → lm g u i → (∀ j, j < u ∨ u + i ≤ j → g j = f j) → vN g u i + G * vN f v i = vN f u i + cr * 1000000000 ^ i → lv 0 = some (.ref 1) → lv 1 = some (.int (nI u)) → lv 2 = some (.int (nI v)) → lv 3 = some (.int (nI (m + 2))) → lv 4 = some (.ref 2) → lv 9 = some (.long (lN G)) → lv 13 = some (.long (lN cr)) → lv 15 = some (.int (nI i)) → J X 148 lv [] (nW x0 tp fm kp N g rest) 0 0 := by
    intro G hG hG1 hG2 d
    induction d with
    | zero =>
      intro i cr g lv hd hc hg he hs h0 h1 h2 h3 h4 h9 h13 h15
      have hi : i = m + 2 := by omega
      subst hi
      rw [hV] at hs
      have c1 : g (u + (m + 2)) = nI u2 := by rw [he _ (by omega)]; exact a2
      have gl := vN_lt hg
      refine J_iload C dX3_quotientLimb_148 h15 ?_
      refine J_iload_n (i := 3) C dX3_quotientLimb_150 rfl h3 ?_
      refine J_icmp_ge (tgt := 231) C dX3_quotientLimb_151 (by decide) (fun h151q => have h151 := (nI_leI (by omega) (by omega)).mp h151q; ?_) (fun h151q => have h151 := (not_congr (nI_leI (by omega) (by omega))).mp h151q; ?_)
      · rcases Nat.lt_or_ge u2 cr with q | q
        · obtain ⟨r1, r2, r3, r4, r5⟩ := kn_L5b hVX gl hG2 eU2 hs q
          subst r1
          have k1 : upd g (u + (m + 2)) (-1) (u + (m + 2)) = -1 := pk_us
          refine J_aload C dX3_quotientLimb_231 h4 ?_
          refine J_iload_n (i := 1) C dX3_quotientLimb_233 rfl h1 ?_
          refine J_iload_n (i := 3) C dX3_quotientLimb_234 rfl h3 ?_
          refine J_iadd C dX3_quotientLimb_235 ?_
          refine J_eqi (nI_add _ _) ?_
          refine J_aload C dX3_quotientLimb_236 h4 ?_
          refine J_iload_n (i := 1) C dX3_quotientLimb_238 rfl h1 ?_
          refine J_iload_n (i := 3) C dX3_quotientLimb_239 rfl h3 ?_
          refine J_iadd C dX3_quotientLimb_240 ?_
          refine J_eqi (nI_add _ _) ?_
          refine J_ialdN C dX3_quotientLimb_241 rfl (by omega) (by omega) c1 ?_
          refine J_i2l C dX3_quotientLimb_242 (nI_l (by omega)) ?_
          refine J_lload C dX3_quotientLimb_243 h13 ?_
          refine J_lsub C dX3_quotientLimb_245 ?_
          refine J_l2i C dX3_quotientLimb_246 rfl ?_
          refine J_eqi (y := -1) (lN_less u2) ?_
          refine J_iastN C dX3_quotientLimb_247 rfl (by omega) (by omega) ?_
          refine J_aload C dX3_quotientLimb_248 h4 ?_
          refine J_iload_n (i := 1) C dX3_quotientLimb_250 rfl h1 ?_
          refine J_iload_n (i := 3) C dX3_quotientLimb_251 rfl h3 ?_
          refine J_iadd C dX3_quotientLimb_252 ?_
          refine J_eqi (nI_add _ _) ?_
          refine J_ialdN C dX3_quotientLimb_253 rfl (by omega) (by omega) k1 ?_
          refine J_if_lt (tgt := 261) C dX3_quotientLimb_254 (by decide) (fun h254q => ?_) (fun h254q => ?_)
          · refine J_iconst (v := nI 0) C dX3_quotientLimb_261 (by decide) ?_
            refine J_istore C dX3_quotientLimb_262 (by decide) ?_
            refine J_iconst (v := nI 0) C dX3_quotientLimb_264 (by decide) ?_
            refine J_istore C dX3_quotientLimb_265 (by decide) ?_
            refine hB G (upd g (u + (m + 2)) (-1)) r4 hG (lm_un hg (by omega)) k1 (by rw [vN_un (by omega)]; exact r2) (fun j hj => by rw [pk_un (by omega)]; exact he j (by omega)) (m + 2) 0 0 _ _ (by omega) (by decide) (fun k hk => absurd hk (by omega)) (fun _ _ => rfl) (by simp [vN]) (js1_ref (js1_ref h0 (by decide)) (by decide)) (js1_int (js1_int h1 (by decide)) (by decide)) (js1_int (js1_int h2 (by decide)) (by decide)) (js1_int (js1_int h3 (by decide)) (by decide)) (js1_ref (js1_ref h4 (by decide)) (by decide)) (js1_long (js1_long h9 (by decide) (by decide)) (by decide) (by decide)) (js1_int js1_at (by decide)) js1_at
          · exact absurd (by decide) h254q
        · obtain ⟨r1, r2, r3⟩ := kn_L5a hVX hG1 eU2 hs q
          subst r1
          have k1 : upd g (u + (m + 2)) (nI 0) (u + (m + 2)) = nI 0 := pk_us
          refine J_aload C dX3_quotientLimb_231 h4 ?_
          refine J_iload_n (i := 1) C dX3_quotientLimb_233 rfl h1 ?_
          refine J_iload_n (i := 3) C dX3_quotientLimb_234 rfl h3 ?_
          refine J_iadd C dX3_quotientLimb_235 ?_
          refine J_eqi (nI_add _ _) ?_
          refine J_aload C dX3_quotientLimb_236 h4 ?_
          refine J_iload_n (i := 1) C dX3_quotientLimb_238 rfl h1 ?_
          refine J_iload_n (i := 3) C dX3_quotientLimb_239 rfl h3 ?_
          refine J_iadd C dX3_quotientLimb_240 ?_
          refine J_eqi (nI_add _ _) ?_
          refine J_ialdN C dX3_quotientLimb_241 rfl (by omega) (by omega) c1 ?_
          refine J_i2l C dX3_quotientLimb_242 (nI_l (by omega)) ?_
          refine J_lload C dX3_quotientLimb_243 h13 ?_
          refine J_lsub C dX3_quotientLimb_245 ?_
          refine J_eql (lN_sub (by omega)) ?_
          refine J_l2i C dX3_quotientLimb_246 (lN_i _) ?_
          refine J_eqi (y := nI 0) (congrArg nI (by omega)) ?_
          refine J_iastN C dX3_quotientLimb_247 rfl (by omega) (by omega) ?_
          refine J_aload C dX3_quotientLimb_248 h4 ?_
          refine J_iload_n (i := 1) C dX3_quotientLimb_250 rfl h1 ?_
          refine J_iload_n (i := 3) C dX3_quotientLimb_251 rfl h3 ?_
          refine J_iadd C dX3_quotientLimb_252 ?_
          refine J_eqi (nI_add _ _) ?_
          refine J_ialdN C dX3_quotientLimb_253 rfl (by omega) (by omega) k1 ?_
          refine J_if_lt (tgt := 261) C dX3_quotientLimb_254 (by decide) (fun h254q => have h254 := (nI_lt0 (by omega)).mp h254q; ?_) (fun h254q => have h254 := (not_congr (nI_lt0 (by omega))).mp h254q; ?_)
          · exact h254.elim
          · refine J_lload C dX3_quotientLimb_257 h9 ?_
            refine J_l2i C dX3_quotientLimb_259 (lN_i _) ?_
            refine hR _ _ _ _ _ _ dX3_quotientLimb_260 ⟨G,_,rfl,hG,rfl,lm_un hg (by omega),k1,?_,fun j hj => ?_⟩ (Nat.le_of_eq hX) (Nat.le_refl _) (Nat.le_refl _)
            · rw [vN_un (by omega)]; exact r2
            · rw [pk_un (by omega)]; exact he j (by omega)
      · exact absurd (Nat.le_refl _) h151
    | succ d ih =>
      intro i cr g lv hd hc hg he hs h0 h1 h2 h3 h4 h9 h13 h15
      obtain ⟨p1, p2⟩ := hu i (by omega)
      obtain ⟨p3, p4⟩ := hv i (by omega)
      have c1 : g (u + i) = nI (dg f (u + i)) := by rw [he _ (by omega)]; exact p1
      have c2 : g (v + i) = nI (dg f (v + i)) := by rw [he _ (by omega)]; exact p3
      have e1 : vN f u (i + 1) = vN f u i + dg f (u + i) * 1000000000 ^ i := rfl
      have e2 : vN f v (i + 1) = vN f v i + dg f (v + i) * 1000000000 ^ i := rfl
      generalize dg f (u + i) = w at *
      generalize dg f (v + i) = y at *
      have n1 : G * y ≤ 999999999 * 999999999 := Nat.mul_le_mul (by omega) (by omega)
      refine J_iload C dX3_quotientLimb_148 h15 ?_
      refine J_iload_n (i := 3) C dX3_quotientLimb_150 rfl h3 ?_
      refine J_icmp_ge (tgt := 231) C dX3_quotientLimb_151 (by decide) (fun h151q => have h151 := (nI_leI (by omega) (by omega)).mp h151q; ?_) (fun h151q => have h151 := (not_congr (nI_leI (by omega) (by omega))).mp h151q; ?_)
      · exact absurd h151 (by omega)
      · refine J_lload C dX3_quotientLimb_154 h9 ?_
        refine J_aload C dX3_quotientLimb_156 h4 ?_
        refine J_iload_n (i := 2) C dX3_quotientLimb_158 rfl h2 ?_
        refine J_iload C dX3_quotientLimb_159 h15 ?_
        refine J_iadd C dX3_quotientLimb_161 ?_
        refine J_eqi (nI_add _ _) ?_
        refine J_ialdN C dX3_quotientLimb_162 rfl (by omega) (by omega) c2 ?_
        refine J_i2l C dX3_quotientLimb_163 (nI_l (by omega)) ?_
        refine J_lmul C dX3_quotientLimb_164 ?_
        refine J_eql (lN_mul _ _) ?_
        refine J_lload C dX3_quotientLimb_165 h13 ?_
        refine J_ladd C dX3_quotientLimb_167 ?_
        refine J_eql (lN_add _ _) ?_
        refine J_lstore C dX3_quotientLimb_168 (by decide) ?_
        refine J_lload C dX3_quotientLimb_170 js2_at ?_
        refine J_ldc2 C (gc clX3_1000000000) dX3_quotientLimb_172 ?_
        refine J_eql (y := lN 1000000000) (by decide) ?_
        refine J_ldiv C dX3_quotientLimb_175 (lN_ne0 (by omega) (by omega)) ?_
        refine J_eql (pk_lDiv (by omega) (by omega) (by omega)) ?_
        refine J_lstore C dX3_quotientLimb_176 (by decide) ?_
        refine J_aload C dX3_quotientLimb_178 (js2_ref (js2_ref h4 (by decide) (by decide)) (by decide) (by decide)) ?_
        refine J_iload_n (i := 1) C dX3_quotientLimb_180 rfl (js2_int (js2_int h1 (by decide) (by decide)) (by decide) (by decide)) ?_
        refine J_iload C dX3_quotientLimb_181 (js2_int (js2_int h15 (by decide) (by decide)) (by decide) (by decide)) ?_
        refine J_iadd C dX3_quotientLimb_183 ?_
        refine J_eqi (nI_add _ _) ?_
        refine J_ialdN C dX3_quotientLimb_184 rfl (by omega) (by omega) c1 ?_
        refine J_lload C dX3_quotientLimb_185 (js2_long js2_at (by decide) (by decide) (by decide)) ?_
        refine J_lload C dX3_quotientLimb_187 js2_at ?_
        refine J_ldc2 C (gc clX3_1000000000) dX3_quotientLimb_189 ?_
        refine J_eql (y := lN 1000000000) (by decide) ?_
        refine J_lmul C dX3_quotientLimb_192 ?_
        refine J_eql (lN_mul _ _) ?_
        refine J_lsub C dX3_quotientLimb_193 ?_
        refine J_eql (lN_sub (by omega)) ?_
        refine J_l2i C dX3_quotientLimb_194 (lN_i _) ?_
        refine J_isub C dX3_quotientLimb_195 ?_
        refine J_istore C dX3_quotientLimb_196 (by decide) ?_
        refine J_iload C dX3_quotientLimb_198 js1_at ?_
        refine J_if_ge (tgt := 216) C dX3_quotientLimb_200 (by decide) (fun h200q => have h200 := ((nI_sub_ge (by omega) (by omega))).mp h200q; ?_) (fun h200q => have h200 := (not_congr ((nI_sub_ge (by omega) (by omega)))).mp h200q; ?_)
        · refine J_aload C dX3_quotientLimb_216 (js1_ref (js2_ref (js2_ref h4 (by decide) (by decide)) (by decide) (by decide)) (by decide)) ?_
          refine J_iload_n (i := 1) C dX3_quotientLimb_218 rfl (js1_int (js2_int (js2_int h1 (by decide) (by decide)) (by decide) (by decide)) (by decide)) ?_
          refine J_iload C dX3_quotientLimb_219 (js1_int (js2_int (js2_int h15 (by decide) (by decide)) (by decide) (by decide)) (by decide)) ?_
          refine J_iadd C dX3_quotientLimb_221 ?_
          refine J_eqi (nI_add _ _) ?_
          refine J_iload C dX3_quotientLimb_222 js1_at ?_
          refine J_eqi (pk_sub h200) ?_
          refine J_iastN C dX3_quotientLimb_224 rfl (by omega) (by omega) ?_
          refine J_iinc C dX3_quotientLimb_225 (js1_int (js2_int (js2_int h15 (by decide) (by decide)) (by decide) (by decide)) (by decide)) (nI_1 _) ?_
          refine J_goto (tgt := 148) C dX3_quotientLimb_228 (by decide) ?_
          refine ih (i + 1) _ _ _ (by omega) (by omega) (lm_up hg (by omega)) (fun j hj => ?_) ?_ (js1_ref (js1_ref (js2_ref (js2_ref h0 (by decide) (by decide)) (by decide) (by decide)) (by decide)) (by decide)) (js1_int (js1_int (js2_int (js2_int h1 (by decide) (by decide)) (by decide) (by decide)) (by decide)) (by decide)) (js1_int (js1_int (js2_int (js2_int h2 (by decide) (by decide)) (by decide) (by decide)) (by decide)) (by decide)) (js1_int (js1_int (js2_int (js2_int h3 (by decide) (by decide)) (by decide) (by decide)) (by decide)) (by decide)) (js1_ref (js1_ref (js2_ref (js2_ref h4 (by decide) (by decide)) (by decide) (by decide)) (by decide)) (by decide)) (js1_long (js1_long (js2_long (js2_long h9 (by decide) (by decide) (by decide)) (by decide) (by decide) (by decide)) (by decide) (by decide)) (by decide) (by decide)) (js1_long (js1_long js2_at (by decide) (by decide)) (by decide) (by decide)) js1_at
          · rw [pk_un (by omega)]; exact he j (by omega)
          · rw [vN_up (by omega), e1, e2, Nat.pow_succ]
            exact sub_step hs (by omega)
        · refine J_iload C dX3_quotientLimb_203 js1_at ?_
          refine J_ldc C (gc coX3_1000000000) dX3_quotientLimb_205 ?_
          refine J_eqi (y := nI 1000000000) (by decide) ?_
          refine J_iadd C dX3_quotientLimb_207 ?_
          refine J_eqi (nI_sub_add (by omega)) ?_
          refine J_istore C dX3_quotientLimb_208 (by decide) ?_
          refine J_lload C dX3_quotientLimb_210 (js1_long (js1_long js2_at (by decide) (by decide)) (by decide) (by decide)) ?_
          refine J_lconst (v := lN 1) C dX3_quotientLimb_212 (by decide) ?_
          refine J_ladd C dX3_quotientLimb_213 ?_
          refine J_eql (lN_add _ _) ?_
          refine J_lstore C dX3_quotientLimb_214 (by decide) ?_
          refine J_aload C dX3_quotientLimb_216 (js2_ref (js1_ref (js1_ref (js2_ref (js2_ref h4 (by decide) (by decide)) (by decide) (by decide)) (by decide)) (by decide)) (by decide) (by decide)) ?_
          refine J_iload_n (i := 1) C dX3_quotientLimb_218 rfl (js2_int (js1_int (js1_int (js2_int (js2_int h1 (by decide) (by decide)) (by decide) (by decide)) (by decide)) (by decide)) (by decide) (by decide)) ?_
          refine J_iload C dX3_quotientLimb_219 (js2_int (js1_int (js1_int (js2_int (js2_int h15 (by decide) (by decide)) (by decide) (by decide)) (by decide)) (by decide)) (by decide) (by decide)) ?_
          refine J_iadd C dX3_quotientLimb_221 ?_
          refine J_eqi (nI_add _ _) ?_
          refine J_iload C dX3_quotientLimb_222 (js2_int js1_at (by decide) (by decide)) ?_
          refine J_iastN C dX3_quotientLimb_224 rfl (by omega) (by omega) ?_
          refine J_iinc C dX3_quotientLimb_225 (js2_int (js1_int (js1_int (js2_int (js2_int h15 (by decide) (by decide)) (by decide) (by decide)) (by decide)) (by decide)) (by decide) (by decide)) (nI_1 _) ?_
          refine J_goto (tgt := 148) C dX3_quotientLimb_228 (by decide) ?_
          refine ih (i + 1) _ _ _ (by omega) (by omega) (lm_up hg (by omega)) (fun j hj => ?_) ?_ (js1_ref (js2_ref (js1_ref (js1_ref (js2_ref (js2_ref h0 (by decide) (by decide)) (by decide) (by decide)) (by decide)) (by decide)) (by decide) (by decide)) (by decide)) (js1_int (js2_int (js1_int (js1_int (js2_int (js2_int h1 (by decide) (by decide)) (by decide) (by decide)) (by decide)) (by decide)) (by decide) (by decide)) (by decide)) (js1_int (js2_int (js1_int (js1_int (js2_int (js2_int h2 (by decide) (by decide)) (by decide) (by decide)) (by decide)) (by decide)) (by decide) (by decide)) (by decide)) (js1_int (js2_int (js1_int (js1_int (js2_int (js2_int h3 (by decide) (by decide)) (by decide) (by decide)) (by decide)) (by decide)) (by decide) (by decide)) (by decide)) (js1_ref (js2_ref (js1_ref (js1_ref (js2_ref (js2_ref h4 (by decide) (by decide)) (by decide) (by decide)) (by decide)) (by decide)) (by decide) (by decide)) (by decide)) (js1_long (js2_long (js1_long (js1_long (js2_long (js2_long h9 (by decide) (by decide) (by decide)) (by decide) (by decide) (by decide)) (by decide) (by decide)) (by decide) (by decide)) (by decide) (by decide) (by decide)) (by decide) (by decide)) (js1_long js2_at (by decide) (by decide)) js1_at
          · rw [pk_un (by omega)]; exact he j (by omega)
          · rw [vN_up (by omega), e1, e2, Nat.pow_succ]
            exact sub_step hs (by omega)
  -- the guess is good
  have hQ : ∀ (G L : Nat) (lv : Nat → Option Value), G < 1000000000 → L + G * v1 = u2 * 1000000000 + u1 → (G * v0 ≤ L * 1000000000 + u0 ∨ 1000000000 ≤ L) → U < (G + 1) * V → lv 0 = some (.ref 1) → lv 1 = some (.int (nI u)) → lv 2 = some (.int (nI v)) → lv 3 = some (.int (nI (m + 2))) → lv 4 = some (.ref 2) → lv 9 = some (.long (lN G)) → J X 142 lv [] (nW x0 tp fm kp N f rest) 0 0 := by
    intro G L lv hG hL hT hG1 h0 h1 h2 h3 h4 h9
    have hG2 : G * V < U + V := by
      rw [eU, eV]
      exact kn_L4 t0 lV (by omega) hG hL hT
    refine J_lconst (v := lN 0) C dX3_quotientLimb_142 (by decide) ?_
    refine J_lstore C dX3_quotientLimb_143 (by decide) ?_
    refine J_iconst (v := nI 0) C dX3_quotientLimb_145 (by decide) ?_
    refine J_istore C dX3_quotientLimb_146 (by decide) ?_
    exact hS G hG hG1 hG2 (m + 2) 0 0 f _ (by omega) (by decide) (fun k hk => absurd hk (by omega)) (fun _ _ => rfl) (by simp [vN]) (js1_ref (js2_ref h0 (by decide) (by decide)) (by decide)) (js1_int (js2_int h1 (by decide) (by decide)) (by decide)) (js1_int (js2_int h2 (by decide) (by decide)) (by decide)) (js1_int (js2_int h3 (by decide) (by decide)) (by decide)) (js1_ref (js2_ref h4 (by decide) (by decide)) (by decide)) (js1_long (js2_long h9 (by decide) (by decide) (by decide)) (by decide) (by decide)) (js1_long js2_at (by decide) (by decide)) js1_at
  -- the guess is brought down
  have hG : ∀ (d i G L : Nat) (lv : Nat → Option Value), i + d = 2 → i * v1 ≤ L → L + G * v1 = u2 * 1000000000 + u1 → U < (G + 1) * V → G < 2 ^ 31 → lv 0 = some (.ref 1) → lv 1 = some (.int (nI u)) → lv 2 = some (.int (nI v)) → lv 3 = some (.int (nI (m + 2))) → lv 4 = some (.ref 2) → lv 7 = some (.long (lN v1)) → lv 9 = some (.long (lN G)) → lv 11 = some (.long (lN L)) → lv 13 = some (.int (nI i)) → J X 64 lv [] (nW x0 tp fm kp N f rest) 0 0 := by
    intro d
    induction d with
    | zero =>
      intro i G L lv hd hi hL hG1 hGb h0 h1 h2 h3 h4 h7 h9 h11 h13
      have hi2 : i = 2 := by omega
      subst hi2
      have hg : G < 1000000000 := by
        rcases Nat.lt_or_ge G 1000000000 with q | q
        · exact q
        · have : 1000000000 * v1 ≤ G * v1 := Nat.mul_le_mul_right _ q
          omega
      refine J_iload C dX3_quotientLimb_64 h13 ?_
      refine J_iconst (v := nI 3) C dX3_quotientLimb_66 (by decide) ?_
      refine J_icmp_ge (tgt := 142) C dX3_quotientLimb_67 (by decide) (fun h67q => have h67 := (nI_leI (by omega) (by omega)).mp h67q; ?_) (fun h67q => have h67 := (not_congr (nI_leI (by omega) (by omega))).mp h67q; ?_)
      · exact absurd h67 (by decide)
      · refine J_lload C dX3_quotientLimb_70 h11 ?_
        refine J_ldc2 C (gc clX3_1000000000) dX3_quotientLimb_72 ?_
        refine J_eql (y := lN 1000000000) (by decide) ?_
        refine J_lcmp C dX3_quotientLimb_75 ?_
        refine J_if_ge (tgt := 142) C dX3_quotientLimb_76 (by decide) (fun h76q => have h76 := ((lg_cmp_ge _ _).trans (pk_lLE (by omega) (by omega))).mp h76q; ?_) (fun h76q => have h76 := (not_congr ((lg_cmp_ge _ _).trans (pk_lLE (by omega) (by omega)))).mp h76q; ?_)
        · exact hQ G L lv hg hL (Or.inr h76) hG1 h0 h1 h2 h3 h4 h9
        · exact absurd (by omega) h76
    | succ d ih =>
      intro i G L lv hd hi hL hG1 hGb h0 h1 h2 h3 h4 h7 h9 h11 h13
      have hgo : 1 ≤ G → U < G * V → J X 123 lv [] (nW x0 tp fm kp N f rest) 0 0 := by
        intro g1 g2
        obtain ⟨G', rfl⟩ := Nat.exists_eq_add_of_le g1
        refine J_lload C dX3_quotientLimb_123 h9 ?_
        refine J_lconst (v := lN 1) C dX3_quotientLimb_125 (by decide) ?_
        refine J_lsub C dX3_quotientLimb_126 ?_
        refine J_eql (lN_sub (by omega)) ?_
        refine J_lstore C dX3_quotientLimb_127 (by decide) ?_
        refine J_lload C dX3_quotientLimb_129 (js2_long h11 (by decide) (by decide) (by decide)) ?_
        refine J_lload C dX3_quotientLimb_131 (js2_long h7 (by decide) (by decide) (by decide)) ?_
        refine J_ladd C dX3_quotientLimb_133 ?_
        refine J_eql (lN_add _ _) ?_
        refine J_lstore C dX3_quotientLimb_134 (by decide) ?_
        refine J_iinc C dX3_quotientLimb_136 (js2_int (js2_int h13 (by decide) (by decide)) (by decide) (by decide)) (nI_1 _) ?_
        refine J_goto (tgt := 64) C dX3_quotientLimb_139 (by decide) ?_
        refine ih (i + 1) (1 + G' - 1) (L + v1) _ (by omega) ?_ ?_ ?_ (by omega) (js1_ref (js2_ref (js2_ref h0 (by decide) (by decide)) (by decide) (by decide)) (by decide)) (js1_int (js2_int (js2_int h1 (by decide) (by decide)) (by decide) (by decide)) (by decide)) (js1_int (js2_int (js2_int h2 (by decide) (by decide)) (by decide) (by decide)) (by decide)) (js1_int (js2_int (js2_int h3 (by decide) (by decide)) (by decide) (by decide)) (by decide)) (js1_ref (js2_ref (js2_ref h4 (by decide) (by decide)) (by decide) (by decide)) (by decide)) (js1_long (js2_long (js2_long h7 (by decide) (by decide) (by decide)) (by decide) (by decide) (by decide)) (by decide) (by decide)) (js1_long (js2_long js2_at (by decide) (by decide) (by decide)) (by decide) (by decide)) (js1_long js2_at (by decide) (by decide)) js1_at
        · rw [Nat.add_mul, Nat.one_mul]; omega
        · rw [Nat.add_mul, Nat.one_mul] at hL
          rw [show 1 + G' - 1 = G' by omega]; omega
        · rw [show 1 + G' - 1 + 1 = 1 + G' by omega]; exact g2
      refine J_iload C dX3_quotientLimb_64 h13 ?_
      refine J_iconst (v := nI 3) C dX3_quotientLimb_66 (by decide) ?_
      refine J_icmp_ge (tgt := 142) C dX3_quotientLimb_67 (by decide) (fun h67q => have h67 := (nI_leI (by omega) (by omega)).mp h67q; ?_) (fun h67q => have h67 := (not_congr (nI_leI (by omega) (by omega))).mp h67q; ?_)
      · exact absurd h67 (by omega)
      · refine J_lload C dX3_quotientLimb_70 h11 ?_
        refine J_ldc2 C (gc clX3_1000000000) dX3_quotientLimb_72 ?_
        refine J_eql (y := lN 1000000000) (by decide) ?_
        refine J_lcmp C dX3_quotientLimb_75 ?_
        refine J_if_ge (tgt := 142) C dX3_quotientLimb_76 (by decide) (fun h76q => have h76 := ((lg_cmp_ge _ _).trans (pk_lLE (by omega) (by omega))).mp h76q; ?_) (fun h76q => have h76 := (not_congr ((lg_cmp_ge _ _).trans (pk_lLE (by omega) (by omega)))).mp h76q; ?_)
        · refine hQ G L lv ?_ hL (Or.inr h76) hG1 h0 h1 h2 h3 h4 h9
          rcases Nat.lt_or_ge G 1000000000 with q | q
          · exact q
          · have : 1000000000 * v1 ≤ G * v1 := Nat.mul_le_mul_right _ q
            omega
        · refine J_lload C dX3_quotientLimb_79 h9 ?_
          refine J_ldc2 C (gc clX3_1000000000) dX3_quotientLimb_81 ?_
          refine J_eql (y := lN 1000000000) (by decide) ?_
          refine J_lcmp C dX3_quotientLimb_84 ?_
          refine J_if_ge (tgt := 123) C dX3_quotientLimb_85 (by decide) (fun h85q => have h85 := ((lg_cmp_ge _ _).trans (pk_lLE (by omega) (by omega))).mp h85q; ?_) (fun h85q => have h85 := (not_congr ((lg_cmp_ge _ _).trans (pk_lLE (by omega) (by omega)))).mp h85q; ?_)
          · refine hgo (by omega) ?_
            have : 1000000000 * V ≤ G * V := Nat.mul_le_mul_right _ h85
            omega
          · have n1 : G * v0 ≤ 999999999 * 999999999 := Nat.mul_le_mul (by omega) (by omega)
            refine J_lload C dX3_quotientLimb_88 h9 ?_
            refine J_aload C dX3_quotientLimb_90 h4 ?_
            refine J_iload_n (i := 2) C dX3_quotientLimb_92 rfl h2 ?_
            refine J_iload_n (i := 3) C dX3_quotientLimb_93 rfl h3 ?_
            refine J_iadd C dX3_quotientLimb_94 ?_
            refine J_eqi (nI_add _ _) ?_
            refine J_iconst (v := nI 2) C dX3_quotientLimb_95 (by decide) ?_
            refine J_isub C dX3_quotientLimb_96 ?_
            refine J_eqi (pk_sub (by omega)) ?_
            refine J_ialdN C dX3_quotientLimb_97 rfl (by omega) (by omega) z3 ?_
            refine J_i2l C dX3_quotientLimb_98 (nI_l (by omega)) ?_
            refine J_lmul C dX3_quotientLimb_99 ?_
            refine J_eql (lN_mul _ _) ?_
            refine J_lload C dX3_quotientLimb_100 h11 ?_
            refine J_ldc2 C (gc clX3_1000000000) dX3_quotientLimb_102 ?_
            refine J_eql (y := lN 1000000000) (by decide) ?_
            refine J_lmul C dX3_quotientLimb_105 ?_
            refine J_eql (lN_mul _ _) ?_
            refine J_aload C dX3_quotientLimb_106 h4 ?_
            refine J_iload_n (i := 1) C dX3_quotientLimb_108 rfl h1 ?_
            refine J_iload_n (i := 3) C dX3_quotientLimb_109 rfl h3 ?_
            refine J_iadd C dX3_quotientLimb_110 ?_
            refine J_eqi (nI_add _ _) ?_
            refine J_iconst (v := nI 2) C dX3_quotientLimb_111 (by decide) ?_
            refine J_isub C dX3_quotientLimb_112 ?_
            refine J_eqi (pk_sub (by omega)) ?_
            refine J_ialdN C dX3_quotientLimb_113 rfl (by omega) (by omega) z4 ?_
            refine J_i2l C dX3_quotientLimb_114 (nI_l (by omega)) ?_
            refine J_ladd C dX3_quotientLimb_115 ?_
            refine J_eql (lN_add _ _) ?_
            refine J_lcmp C dX3_quotientLimb_116 ?_
            refine J_if_gt (tgt := 123) C dX3_quotientLimb_117 (by decide) (fun h117q => have h117 := ((lg_cmp_gt _ _).trans (pk_lLT (by omega) (by omega))).mp h117q; ?_) (fun h117q => have h117 := (not_congr ((lg_cmp_gt _ _).trans (pk_lLT (by omega) (by omega)))).mp h117q; ?_)
            · refine hgo ?_ ?_
              · rcases Nat.eq_zero_or_pos G with q | q
                · subst q; omega
                · exact q
              · rw [eU, eV]
                exact kn_L2 lU hL h117
            · refine J_goto (tgt := 142) C dX3_quotientLimb_120 (by decide) ?_
              exact hQ G L lv (by omega) hL (Or.inl (by omega)) hG1 h0 h1 h2 h3 h4 h9
  -- the beginning
  have n1 : (u2 * 1000000000 + u1) / v1 * v1 ≤ u2 * 1000000000 + u1 := Nat.div_mul_le_self _ _
  have n2 : (u2 * 1000000000 + u1) / v1 < 2 ^ 31 := Nat.div_lt_of_lt_mul (by omega)
  refine J_aload_n (i := 0) C dX3_quotientLimb_0 rfl rfl ?_
  refine J_get (ci := 6) (k := 0) C dX3_quotientLimb_1 (inT inX3) rfl (gc flX3_X3_cell) (by decide) rfl rfl ?_
  refine J_astore C dX3_quotientLimb_4 (by decide) ?_
  refine J_aload C dX3_quotientLimb_6 rfl ?_
  refine J_iload_n (i := 1) C dX3_quotientLimb_8 rfl rfl ?_
  refine J_iload_n (i := 3) C dX3_quotientLimb_9 rfl rfl ?_
  refine J_iadd C dX3_quotientLimb_10 ?_
  refine J_eqi (nI_add _ _) ?_
  refine J_ialdN C dX3_quotientLimb_11 rfl (by omega) (by omega) a2 ?_
  refine J_i2l C dX3_quotientLimb_12 (nI_l (by omega)) ?_
  refine J_ldc2 C (gc clX3_1000000000) dX3_quotientLimb_13 ?_
  refine J_eql (y := lN 1000000000) (by decide) ?_
  refine J_lmul C dX3_quotientLimb_16 ?_
  refine J_eql (lN_mul _ _) ?_
  refine J_aload C dX3_quotientLimb_17 rfl ?_
  refine J_iload_n (i := 1) C dX3_quotientLimb_19 rfl rfl ?_
  refine J_iload_n (i := 3) C dX3_quotientLimb_20 rfl rfl ?_
  refine J_iadd C dX3_quotientLimb_21 ?_
  refine J_eqi (nI_add _ _) ?_
  refine J_iconst (v := nI 1) C dX3_quotientLimb_22 (by decide) ?_
  refine J_isub C dX3_quotientLimb_23 ?_
  refine J_eqi (pk_sub (by omega)) ?_
  refine J_ialdN C dX3_quotientLimb_24 rfl (by omega) (by omega) z1 ?_
  refine J_i2l C dX3_quotientLimb_25 (nI_l (by omega)) ?_
  refine J_ladd C dX3_quotientLimb_26 ?_
  refine J_eql (lN_add _ _) ?_
  refine J_lstore C dX3_quotientLimb_27 (by decide) ?_
  refine J_aload C dX3_quotientLimb_29 rfl ?_
  refine J_iload_n (i := 2) C dX3_quotientLimb_31 rfl rfl ?_
  refine J_iload_n (i := 3) C dX3_quotientLimb_32 rfl rfl ?_
  refine J_iadd C dX3_quotientLimb_33 ?_
  refine J_eqi (nI_add _ _) ?_
  refine J_iconst (v := nI 1) C dX3_quotientLimb_34 (by decide) ?_
  refine J_isub C dX3_quotientLimb_35 ?_
  refine J_eqi (pk_sub (by omega)) ?_
  refine J_ialdN C dX3_quotientLimb_36 rfl (by omega) (by omega) z2 ?_
  refine J_iconst (v := nI 1) C dX3_quotientLimb_37 (by decide) ?_
  refine J_mmax C dX3_quotientLimb_38 (gc mlX3_max) (gc stMax) (gc iniMath) (gc cdMax) (by decide) (Nat.le_of_ble_eq_true rfl) (Nat.le_refl _) (Nat.le_refl _) ?_
  refine J_eqi (y := nI v1) (by by_cases w : nI v1 < nI 1; exact absurd ((nI_ltI (by omega) (by omega)).mp w) (by omega); exact if_neg w) ?_
  refine J_i2l C dX3_quotientLimb_41 (nI_l (by omega)) ?_
  refine J_lstore C dX3_quotientLimb_42 (by decide) ?_
  refine J_lload C dX3_quotientLimb_44 rfl ?_
  refine J_lload C dX3_quotientLimb_46 rfl ?_
  refine J_ldiv C dX3_quotientLimb_48 (lN_ne0 (by omega) (by omega)) ?_
  refine J_eql (pk_lDiv (by omega) (by omega) (by omega)) ?_
  refine J_lstore C dX3_quotientLimb_49 (by decide) ?_
  refine J_lload C dX3_quotientLimb_51 rfl ?_
  refine J_lload C dX3_quotientLimb_53 rfl ?_
  refine J_lload C dX3_quotientLimb_55 rfl ?_
  refine J_lmul C dX3_quotientLimb_57 ?_
  refine J_eql (lN_mul _ _) ?_
  refine J_lsub C dX3_quotientLimb_58 ?_
  refine J_eql (lN_sub (by omega)) ?_
  refine J_lstore C dX3_quotientLimb_59 (by decide) ?_
  refine J_iconst (v := nI 0) C dX3_quotientLimb_61 (by decide) ?_
  refine J_istore C dX3_quotientLimb_62 (by decide) ?_
  refine hG 2 0 _ _ _ rfl (by omega) (by omega) ?_ n2 rfl rfl rfl rfl rfl rfl rfl rfl rfl
  rw [eU, eV]
  exact kn_L1 b0 lU (by omega)

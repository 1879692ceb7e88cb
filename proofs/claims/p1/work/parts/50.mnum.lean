/-! THE REFERENCE'S NUMBERS: row a's limbs stand at z[2500 a ..], size[a] of them -/
section MN
variable {c0 c1 c2 c3 c4 c5 c6 c7 c8 c9 c10 c11 c12 c13 c14 c15 c16 c17 c18 c19 : jE} {th : Int32} {z sz sg : Nat → Int32} {tk : Int32} {st ss sn : Nat → Int32} {el ro : Int32} {kt ks kn : Nat → Int32} {le : Int32} {lr : Nat → Int32} {pl : Int32} {rest : jW}
variable {X : jK} {cc : ByteArray} {nL : Nat} {own : String} {Ts : List Cond} {cl : List vw_C} {fr lo NC NS : Nat} {pc : Nat} {lv : Nat → Option Value} {sk : List Value} {nc ns k : Nat} {x : Int32}
theorem J_st21 (C : jX X cc nL own Ts cl fr lo NC NS) (hd : decode cc pc = .ok (.iastore, 1)) (hk : k < 1250000) (kk : J X (pc + 1) lv sk (mW c0 c1 c2 c3 c4 c5 c6 c7 c8 c9 c10 c11 c12 c13 c14 c15 c16 c17 c18 c19 th (upd z k x) sz sg tk st ss sn el ro kt ks kn le lr pl rest) nc ns) : J X pc lv (.int x :: .int (nI k) :: .ref 21 :: sk) (mW c0 c1 c2 c3 c4 c5 c6 c7 c8 c9 c10 c11 c12 c13 c14 c15 c16 c17 c18 c19 th z sz sg tk st ss sn el ro kt ks kn le lr pl rest) nc ns := J_iastN C hd rfl hk (by decide) kk
theorem J_st22 (C : jX X cc nL own Ts cl fr lo NC NS) (hd : decode cc pc = .ok (.iastore, 1)) (hk : k < 500) (kk : J X (pc + 1) lv sk (mW c0 c1 c2 c3 c4 c5 c6 c7 c8 c9 c10 c11 c12 c13 c14 c15 c16 c17 c18 c19 th z (upd sz k x) sg tk st ss sn el ro kt ks kn le lr pl rest) nc ns) : J X pc lv (.int x :: .int (nI k) :: .ref 22 :: sk) (mW c0 c1 c2 c3 c4 c5 c6 c7 c8 c9 c10 c11 c12 c13 c14 c15 c16 c17 c18 c19 th z sz sg tk st ss sn el ro kt ks kn le lr pl rest) nc ns := J_iastN C hd rfl hk (by decide) kk
theorem J_st23 (C : jX X cc nL own Ts cl fr lo NC NS) (hd : decode cc pc = .ok (.iastore, 1)) (hk : k < 500) (kk : J X (pc + 1) lv sk (mW c0 c1 c2 c3 c4 c5 c6 c7 c8 c9 c10 c11 c12 c13 c14 c15 c16 c17 c18 c19 th z sz (upd sg k x) tk st ss sn el ro kt ks kn le lr pl rest) nc ns) : J X pc lv (.int x :: .int (nI k) :: .ref 23 :: sk) (mW c0 c1 c2 c3 c4 c5 c6 c7 c8 c9 c10 c11 c12 c13 c14 c15 c16 c17 c18 c19 th z sz sg tk st ss sn el ro kt ks kn le lr pl rest) nc ns := J_iastN C hd rfl hk (by decide) kk
end MN
/-- all rows but those in R are as they were -/
def fR (z s z' s' : Nat → Int32) (R : Nat → Prop) : Prop := ∀ c, ¬ R c → s' c = s c ∧ ∀ i, i < 8 → z' (2500 * c + i) = z (2500 * c + i)
/-- row a is a number of n limbs -/
def nm (z s : Nat → Int32) (a n : Nat) : Prop := s a = nI n ∧ n < 4 ∧ lm z (2500 * a) n ∧ (0 < n → 0 < dg z (2500 * a + (n - 1)))
theorem fR_refl (z s : Nat → Int32) (R : Nat → Prop) : fR z s z s R := fun _ _ => ⟨rfl, fun _ _ => rfl⟩
theorem fR_trans {z s z1 s1 z2 s2 : Nat → Int32} {R1 R2 R : Nat → Prop} (h1 : fR z s z1 s1 R1) (h2 : fR z1 s1 z2 s2 R2) (i1 : ∀ c, R1 c → R c) (i2 : ∀ c, R2 c → R c) : fR z s z2 s2 R := fun c hc =>
  ⟨((h2 c (fun q => hc (i2 c q))).1).trans (h1 c (fun q => hc (i1 c q))).1, fun i hi => ((h2 c (fun q => hc (i2 c q))).2 i hi).trans ((h1 c (fun q => hc (i1 c q))).2 i hi)⟩
theorem nm_fR {z s z' s' : Nat → Int32} {R : Nat → Prop} {c n : Nat} (h : nm z s c n) (hf : fR z s z' s' R) (hc : ¬ R c) : nm z' s' c n ∧ vN z' (2500 * c) n = vN z (2500 * c) n := by
  obtain ⟨h1, h2, h3, h4⟩ := h
  obtain ⟨f1, f2⟩ := hf c hc
  refine ⟨⟨f1.trans h1, h2, lm_eq (fun i hi => f2 i (by omega)) h3, fun q => ?_⟩, vN_eq (fun i hi => f2 i (by omega))⟩
  rw [dg_eq (f2 (n - 1) (by omega))]; exact h4 q
theorem nm_pos {z s : Nat → Int32} {a n : Nat} (h : nm z s a n) (hn : 0 < n) : 1000000000 ^ (n - 1) ≤ vN z (2500 * a) n := by
  obtain ⟨m, rfl⟩ : ∃ m, n = m + 1 := ⟨n - 1, by omega⟩
  exact vN_ge (h.2.2.2 hn)
theorem limb32 (L : Int64) : ∃ d : Nat, d < 1000000000 ∧ d = L.toInt.natAbs % 1000000000 ∧ (0 ≤ (L - L / lN 1000000000 * lN 1000000000).toInt32 → (L - L / lN 1000000000 * lN 1000000000).toInt32 = nI d) ∧ (¬ 0 ≤ (L - L / lN 1000000000 * lN 1000000000).toInt32 → -(L - L / lN 1000000000 * lN 1000000000).toInt32 = nI d) := by
  have h5 := Int.lt_tmod_of_pos L.toInt (b := 1000000000) (by decide)
  have h6 := Int.tmod_lt_of_pos L.toInt (b := 1000000000) (by decide)
  have hm := ldr_m L
  have hn : (L.toInt.tmod 1000000000).natAbs = L.toInt.natAbs % 1000000000 := Int.natAbs_tmod _ _
  generalize L - L / lN 1000000000 * lN 1000000000 = r at *
  have h32 : r.toInt32.toInt = r.toInt := by
    rw [Int64.toInt_toInt32]
    have e : (((2 ^ 32 : Nat)) : Int) = 4294967296 := rfl
    refine Int.bmod_eq_of_le_mul_two ?_ ?_
    · rw [e]; omega
    · rw [e]; omega
  refine ⟨L.toInt.natAbs % 1000000000, Nat.mod_lt _ (by decide), rfl, fun q => ?_, fun q => ?_⟩
  · have q2 : 0 ≤ r.toInt32.toInt := Int32.le_iff_toInt_le.mp q
    refine Int32.toInt_inj.mp ?_
    rw [nI_toInt (by omega), h32]
    omega
  · have q2 : ¬ 0 ≤ r.toInt32.toInt := fun w => q (Int32.le_iff_toInt_le.mpr w)
    refine Int32.toInt_inj.mp ?_
    rw [nI_toInt (by omega), Int32.toInt_neg, h32]
    have e : (((2 ^ 32 : Nat)) : Int) = 4294967296 := rfl
    rw [Int.bmod_eq_of_le_mul_two (by rw [e]; omega) (by rw [e]; omega)]
    omega
theorem absdiv (L : Int64) : (L / lN 1000000000).toInt.natAbs = L.toInt.natAbs / 1000000000 := by
  rw [ldr_d, Int.natAbs_tdiv]; rfl
theorem abs0 {L : Int64} : L.toInt.natAbs = 0 ↔ L = 0 := by
  constructor
  · intro h
    exact Int64.toInt_inj.mp (show L.toInt = 0 by omega)
  · intro h; rw [h]; rfl
section MP
variable {c0 c1 c2 c3 c4 c5 c6 c7 c8 c9 c10 c11 c12 c13 c14 c15 c16 c17 c18 c19 : jE} {th : Int32} {z sz sg : Nat → Int32} {tk : Int32} {st ss sn : Nat → Int32} {el ro : Int32} {kt ks kn : Nat → Int32} {le : Int32} {lr : Nat → Int32} {pl : Int32} {rest : jW}
set_option maxHeartbeats 4000000 in
/-- put(a, v) -/
theorem m_put {a : Nat} {v : Int64} (ha : a < 500) : jN vwCl yX7_put (wc yX7_put cX7_put 7 none) 0 0 [.ref 20, .int (nI a), .long v] (mW c0 c1 c2 c3 c4 c5 c6 c7 c8 c9 c10 c11 c12 c13 c14 c15 c16 c17 c18 c19 th z sz sg tk st ss sn el ro kt ks kn le lr pl rest) 0 0 (fun pw => ∃ (z' s' g' : Nat → Int32) (n : Nat), pw = (mW c0 c1 c2 c3 c4 c5 c6 c7 c8 c9 c10 c11 c12 c13 c14 c15 c16 c17 c18 c19 th z' s' g' tk st ss sn el ro kt ks kn le lr pl rest) ∧ nm z' s' a n ∧ vN z' (2500 * a) n = v.toInt.natAbs ∧ fR z sz z' s' (fun c => c = a)) := by
  refine jN_of (cc := cX7_put) (nL := 7) (by decide) rfl (Nat.le_of_ble_eq_true rfl) ?_
  intro X C hX hR
  have hL : ∀ (d i : Nat) (L : Int64) (z' s' g' : Nat → Int32) (lv : Nat → Option Value), i + d = 3 → L.toInt.natAbs < 1000000000 ^ d → s' a = nI i → lm z' (2500 * a) i → v.toInt.natAbs = vN z' (2500 * a) i + L.toInt.natAbs * 1000000000 ^ i → (0 < i → L.toInt.natAbs = 0 → 0 < dg z' (2500 * a + (i - 1))) → fR z sz z' s' (fun c => c = a) → lv 0 = some (.ref 20) → lv 1 = some (.int (nI a)) → lv 4 = some (.long L) → J X 37 lv [] (mW c0 c1 c2 c3 c4 c5 c6 c7 c8 c9 c10 c11 c12 c13 c14 c15 c16 c17 c18 c19 th z' s' g' tk st ss sn el ro kt ks kn le lr pl rest) 0 0 := by
    intro d
    induction d with
    | zero =>
      intro i L z' s' g' lv hd hLd hs hl hv ht hf h0 h1 h4
      have hz : L.toInt.natAbs = 0 := by rw [Nat.pow_zero] at hLd; omega
      refine J_lload C dX7_put_37 h4 ?_
      refine J_lconst (v := 0) C dX7_put_39 (by decide) ?_
      refine J_lcmp C dX7_put_40 ?_
      refine J_if_eq (tgt := 104) C dX7_put_41 (by decide) (fun h41q => ?_) (fun h41q => ?_)
      · refine hR _ _ _ _ _ dX7_put_104 ⟨z',s',g',i,rfl,⟨hs,by omega,hl,fun q => ht q hz⟩,?_,hf⟩ (Nat.le_of_eq hX) (Nat.le_refl _) (Nat.le_refl _)
        rw [hv, hz, Nat.zero_mul, Nat.add_zero]
      · exact absurd ((lg_cmp_eq _ _).mpr (abs0.mp hz)) h41q
    | succ d ih =>
      intro i L z' s' g' lv hd hLd hs hl hv ht hf h0 h1 h4
      refine J_lload C dX7_put_37 h4 ?_
      refine J_lconst (v := 0) C dX7_put_39 (by decide) ?_
      refine J_lcmp C dX7_put_40 ?_
      refine J_if_eq (tgt := 104) C dX7_put_41 (by decide) (fun h41q => ?_) (fun h41q => ?_)
      · have hz : L.toInt.natAbs = 0 := abs0.mpr ((lg_cmp_eq _ _).mp h41q)
        refine hR _ _ _ _ _ dX7_put_104 ⟨z',s',g',i,rfl,⟨hs,by omega,hl,fun q => ht q hz⟩,?_,hf⟩ (Nat.le_of_eq hX) (Nat.le_refl _) (Nat.le_refl _)
        rw [hv, hz, Nat.zero_mul, Nat.add_zero]
      · have hz : L.toInt.natAbs ≠ 0 := fun w => h41q ((lg_cmp_eq _ _).mpr (abs0.mp w))
        obtain ⟨x, x1, x2, x3, x4⟩ := limb32 L
        have dv := absdiv L
        refine J_lload C dX7_put_44 h4 ?_
        refine J_ldc2 C (gc clX7_1000000000) dX7_put_46 ?_
        refine J_eql (y := lN 1000000000) (by decide) ?_
        refine J_lrem C dX7_put_49 (lN_ne0 (by omega) (by omega)) ?_
        refine J_l2i C dX7_put_50 rfl ?_
        refine J_istore C dX7_put_51 (by decide) ?_
        refine J_aload_n (i := 0) C dX7_put_53 rfl (js1_ref h0 (by decide)) ?_
        refine J_get (ci := 10) (k := 1) C dX7_put_54 (inT inX7) rfl (gc flX7_X7_z) (by decide) rfl rfl ?_
        refine J_sipush (v := nI 2500) C dX7_put_57 (by decide) ?_
        refine J_iload_n (i := 1) C dX7_put_60 rfl (js1_int h1 (by decide)) ?_
        refine J_imul C dX7_put_61 ?_
        refine J_eqi (pk_mul _ _) ?_
        refine J_aload_n (i := 0) C dX7_put_62 rfl (js1_ref h0 (by decide)) ?_
        refine J_get (ci := 10) (k := 2) C dX7_put_63 (inT inX7) rfl (gc flX7_X7_size) (by decide) rfl rfl ?_
        refine J_iload_n (i := 1) C dX7_put_66 rfl (js1_int h1 (by decide)) ?_
        refine J_ialdN C dX7_put_67 rfl (by omega) (by omega) hs ?_
        refine J_iadd C dX7_put_68 ?_
        refine J_eqi (nI_add _ _) ?_
        have hA : ∀ (y : Int32) (lw : Nat → Option Value), y = nI x → lw 0 = some (.ref 20) → lw 1 = some (.int (nI a)) → lw 4 = some (.long L) → J X 82 lw [.int y, .int (nI (2500 * a + i)), .ref 21] (mW c0 c1 c2 c3 c4 c5 c6 c7 c8 c9 c10 c11 c12 c13 c14 c15 c16 c17 c18 c19 th z' s' g' tk st ss sn el ro kt ks kn le lr pl rest) 0 0 := by
          intro y lw hy h0 h1 h4
          subst hy
          refine J_st21 C dX7_put_82 (by omega) ?_
          refine J_lload C dX7_put_83 h4 ?_
          refine J_ldc2 C (gc clX7_1000000000) dX7_put_85 ?_
          refine J_eql (y := lN 1000000000) (by decide) ?_
          refine J_ldiv C dX7_put_88 (lN_ne0 (by omega) (by omega)) ?_
          refine J_lstore C dX7_put_89 (by decide) ?_
          refine J_aload_n (i := 0) C dX7_put_91 rfl (js2_ref h0 (by decide) (by decide)) ?_
          refine J_get (ci := 10) (k := 2) C dX7_put_92 (inT inX7) rfl (gc flX7_X7_size) (by decide) rfl rfl ?_
          refine J_iload_n (i := 1) C dX7_put_95 rfl (js2_int h1 (by decide) (by decide)) ?_
          refine J_dup2 C dX7_put_96 rfl rfl ?_
          refine J_ialdN C dX7_put_97 rfl (by omega) (by omega) hs ?_
          refine J_iconst (v := nI 1) C dX7_put_98 (by decide) ?_
          refine J_iadd C dX7_put_99 ?_
          refine J_eqi (nI_add _ _) ?_
          refine J_st22 C dX7_put_100 (by omega) ?_
          refine J_goto (tgt := 37) C dX7_put_101 (by decide) ?_
          refine ih (i + 1) _ _ _ _ _ (by omega) ?_ pk_us (lm_up hl x1) ?_ (fun _ q => ?_) (fun c hc => ?_) (js2_ref h0 (by decide) (by decide)) (js2_int h1 (by decide) (by decide)) js2_at
          · rw [dv]
            exact Nat.div_lt_of_lt_mul (by rw [Nat.mul_comm, ← Nat.pow_succ]; exact hLd)
          · rw [vN_up x1, hv, dv, x2, Nat.pow_succ, Nat.add_assoc, Nat.mul_comm (1000000000 ^ i), ← Nat.mul_assoc, ← Nat.add_mul]
            congr 2
            omega
          · rw [show 2500 * a + (i + 1 - 1) = 2500 * a + i by omega, dg_of pk_us (by omega)]
            rw [dv] at q
            omega
          · obtain ⟨f1, f2⟩ := hf c hc
            refine ⟨(pk_un hc).trans f1, fun w hw => ?_⟩
            rw [pk_un (show 2500 * c + w ≠ 2500 * a + i by omega)]; exact f2 w hw
        refine J_iload C dX7_put_69 js1_at ?_
        refine J_if_ge (tgt := 80) C dX7_put_71 (by decide) (fun h71q => ?_) (fun h71q => ?_)
        · refine J_iload C dX7_put_80 js1_at ?_
          exact hA _ _ (x3 h71q) (js1_ref h0 (by decide)) (js1_int h1 (by decide)) (js1_long h4 (by decide) (by decide))
        · refine J_iload C dX7_put_74 js1_at ?_
          refine J_ineg C dX7_put_76 ?_
          refine J_goto (tgt := 82) C dX7_put_77 (by decide) ?_
          exact hA _ _ (x4 h71q) (js1_ref h0 (by decide)) (js1_int h1 (by decide)) (js1_long h4 (by decide) (by decide))
  have hS : ∀ (y : Int32) (lv : Nat → Option Value), lv 0 = some (.ref 20) → lv 1 = some (.int (nI a)) → lv 4 = some (.long v) → J X 29 lv [.int y, .int (nI a), .ref 23] (mW c0 c1 c2 c3 c4 c5 c6 c7 c8 c9 c10 c11 c12 c13 c14 c15 c16 c17 c18 c19 th z sz sg tk st ss sn el ro kt ks kn le lr pl rest) 0 0 := by
    intro y lv h0 h1 h4
    refine J_st23 C dX7_put_29 (by omega) ?_
    refine J_aload_n (i := 0) C dX7_put_30 rfl h0 ?_
    refine J_get (ci := 10) (k := 2) C dX7_put_31 (inT inX7) rfl (gc flX7_X7_size) (by decide) rfl rfl ?_
    refine J_iload_n (i := 1) C dX7_put_34 rfl h1 ?_
    refine J_iconst (v := nI 0) C dX7_put_35 (by decide) ?_
    refine J_st22 C dX7_put_36 (by omega) ?_
    have b1 := Int64.le_toInt v
    have b2 := Int64.toInt_lt v
    refine hL 3 0 v z _ _ _ rfl (by omega) pk_us (fun k hk => absurd hk (by omega)) (by simp [vN]) (fun q => absurd q (by omega)) (fun c hc => ⟨pk_un hc, fun _ _ => rfl⟩) h0 h1 h4
  refine J_lload_n (i := 2) C dX7_put_0 rfl rfl ?_
  refine J_lstore C dX7_put_1 (by decide) ?_
  refine J_aload_n (i := 0) C dX7_put_3 rfl rfl ?_
  refine J_get (ci := 10) (k := 3) C dX7_put_4 (inT inX7) rfl (gc flX7_X7_sign) (by decide) rfl rfl ?_
  refine J_iload_n (i := 1) C dX7_put_7 rfl rfl ?_
  refine J_lload_n (i := 2) C dX7_put_8 rfl rfl ?_
  refine J_lconst (v := 0) C dX7_put_9 (by decide) ?_
  refine J_lcmp C dX7_put_10 ?_
  refine J_if_ge (tgt := 18) C dX7_put_11 (by decide) (fun h11q => ?_) (fun h11q => ?_)
  · refine J_lload_n (i := 2) C dX7_put_18 rfl rfl ?_
    refine J_lconst (v := 0) C dX7_put_19 (by decide) ?_
    refine J_lcmp C dX7_put_20 ?_
    refine J_if_le (tgt := 28) C dX7_put_21 (by decide) (fun h21q => ?_) (fun h21q => ?_)
    · refine J_iconst (v := 0) C dX7_put_28 (by decide) ?_
      exact hS _ _ rfl rfl rfl
    · refine J_iconst (v := 1) C dX7_put_24 (by decide) ?_
      refine J_goto (tgt := 29) C dX7_put_25 (by decide) ?_
      exact hS _ _ rfl rfl rfl
  · refine J_iconst (v := -1) C dX7_put_14 (by decide) ?_
    refine J_goto (tgt := 29) C dX7_put_15 (by decide) ?_
    exact hS _ _ rfl rfl rfl
set_option maxHeartbeats 2000000 in
/-- copy(a, to) -/
theorem m_copy {a to n : Nat} (ha : a < 500) (hto : to < 500) (hne : a ≠ to) (hn : sz a = nI n) (hn8 : n < 8) : jN vwCl yX7_copy (wc yX7_copy cX7_copy 4 none) 0 0 [.ref 20, .int (nI a), .int (nI to)] (mW c0 c1 c2 c3 c4 c5 c6 c7 c8 c9 c10 c11 c12 c13 c14 c15 c16 c17 c18 c19 th z sz sg tk st ss sn el ro kt ks kn le lr pl rest) 0 0 (fun pw => ∃ (z' g' : Nat → Int32), pw = (mW c0 c1 c2 c3 c4 c5 c6 c7 c8 c9 c10 c11 c12 c13 c14 c15 c16 c17 c18 c19 th z' (upd sz to (nI n)) g' tk st ss sn el ro kt ks kn le lr pl rest) ∧ (∀ i, i < n → z' (2500 * to + i) = z (2500 * a + i)) ∧ ∀ c i, c ≠ to → i < 8 → z' (2500 * c + i) = z (2500 * c + i)) := by
  refine jN_of (cc := cX7_copy) (nL := 4) (by decide) rfl (Nat.le_of_ble_eq_true rfl) ?_
  intro X C hX hR
  have hL : ∀ (d i : Nat) (z' : Nat → Int32) (lv : Nat → Option Value), i + d = n → (∀ j, j < i → z' (2500 * to + j) = z (2500 * a + j)) → (∀ c j, c ≠ to → j < 8 → z' (2500 * c + j) = z (2500 * c + j)) → lv 0 = some (.ref 20) → lv 1 = some (.int (nI a)) → lv 2 = some (.int (nI to)) → lv 3 = some (.int (nI i)) → J X 2 lv [] (mW c0 c1 c2 c3 c4 c5 c6 c7 c8 c9 c10 c11 c12 c13 c14 c15 c16 c17 c18 c19 th z' sz sg tk st ss sn el ro kt ks kn le lr pl rest) 0 0 := by
    intro d
    induction d with
    | zero =>
      intro i z' lv hd h5 h6 h0 h1 h2 h3
      have hi : i = n := by omega
      subst hi
      refine J_iload_n (i := 3) C dX7_copy_2 rfl h3 ?_
      refine J_aload_n (i := 0) C dX7_copy_3 rfl h0 ?_
      refine J_get (ci := 10) (k := 2) C dX7_copy_4 (inT inX7) rfl (gc flX7_X7_size) (by decide) rfl rfl ?_
      refine J_iload_n (i := 1) C dX7_copy_7 rfl h1 ?_
      refine J_ialdN C dX7_copy_8 rfl (by omega) (by omega) hn ?_
      refine J_icmp_ge (tgt := 42) C dX7_copy_9 (by decide) (fun h9q => have h9 := (nI_leI (by omega) (by omega)).mp h9q; ?_) (fun h9q => have h9 := (not_congr (nI_leI (by omega) (by omega))).mp h9q; ?_)
      · refine J_aload_n (i := 0) C dX7_copy_42 rfl h0 ?_
        refine J_get (ci := 10) (k := 2) C dX7_copy_43 (inT inX7) rfl (gc flX7_X7_size) (by decide) rfl rfl ?_
        refine J_iload_n (i := 2) C dX7_copy_46 rfl h2 ?_
        refine J_aload_n (i := 0) C dX7_copy_47 rfl h0 ?_
        refine J_get (ci := 10) (k := 2) C dX7_copy_48 (inT inX7) rfl (gc flX7_X7_size) (by decide) rfl rfl ?_
        refine J_iload_n (i := 1) C dX7_copy_51 rfl h1 ?_
        refine J_ialdN C dX7_copy_52 rfl (by omega) (by omega) hn ?_
        refine J_st22 C dX7_copy_53 (by omega) ?_
        refine J_aload_n (i := 0) C dX7_copy_54 rfl h0 ?_
        refine J_get (ci := 10) (k := 3) C dX7_copy_55 (inT inX7) rfl (gc flX7_X7_sign) (by decide) rfl rfl ?_
        refine J_iload_n (i := 2) C dX7_copy_58 rfl h2 ?_
        refine J_aload_n (i := 0) C dX7_copy_59 rfl h0 ?_
        refine J_get (ci := 10) (k := 3) C dX7_copy_60 (inT inX7) rfl (gc flX7_X7_sign) (by decide) rfl rfl ?_
        refine J_iload_n (i := 1) C dX7_copy_63 rfl h1 ?_
        refine J_ialdN C dX7_copy_64 rfl (by omega) (by omega) rfl ?_
        refine J_st23 C dX7_copy_65 (by omega) ?_
        refine hR _ _ _ _ _ dX7_copy_66 ⟨z',_,rfl,h5,h6⟩ (Nat.le_of_eq hX) (Nat.le_refl _) (Nat.le_refl _)
      · exact absurd (Nat.le_refl _) h9
    | succ d ih =>
      intro i z' lv hd h5 h6 h0 h1 h2 h3
      refine J_iload_n (i := 3) C dX7_copy_2 rfl h3 ?_
      refine J_aload_n (i := 0) C dX7_copy_3 rfl h0 ?_
      refine J_get (ci := 10) (k := 2) C dX7_copy_4 (inT inX7) rfl (gc flX7_X7_size) (by decide) rfl rfl ?_
      refine J_iload_n (i := 1) C dX7_copy_7 rfl h1 ?_
      refine J_ialdN C dX7_copy_8 rfl (by omega) (by omega) hn ?_
      refine J_icmp_ge (tgt := 42) C dX7_copy_9 (by decide) (fun h9q => have h9 := (nI_leI (by omega) (by omega)).mp h9q; ?_) (fun h9q => have h9 := (not_congr (nI_leI (by omega) (by omega))).mp h9q; ?_)
      · exact absurd h9 (by omega)
      · refine J_aload_n (i := 0) C dX7_copy_12 rfl h0 ?_
        refine J_get (ci := 10) (k := 1) C dX7_copy_13 (inT inX7) rfl (gc flX7_X7_z) (by decide) rfl rfl ?_
        refine J_sipush (v := nI 2500) C dX7_copy_16 (by decide) ?_
        refine J_iload_n (i := 2) C dX7_copy_19 rfl h2 ?_
        refine J_imul C dX7_copy_20 ?_
        refine J_eqi (pk_mul _ _) ?_
        refine J_iload_n (i := 3) C dX7_copy_21 rfl h3 ?_
        refine J_iadd C dX7_copy_22 ?_
        refine J_eqi (nI_add _ _) ?_
        refine J_aload_n (i := 0) C dX7_copy_23 rfl h0 ?_
        refine J_get (ci := 10) (k := 1) C dX7_copy_24 (inT inX7) rfl (gc flX7_X7_z) (by decide) rfl rfl ?_
        refine J_sipush (v := nI 2500) C dX7_copy_27 (by decide) ?_
        refine J_iload_n (i := 1) C dX7_copy_30 rfl h1 ?_
        refine J_imul C dX7_copy_31 ?_
        refine J_eqi (pk_mul _ _) ?_
        refine J_iload_n (i := 3) C dX7_copy_32 rfl h3 ?_
        refine J_iadd C dX7_copy_33 ?_
        refine J_eqi (nI_add _ _) ?_
        refine J_ialdN C dX7_copy_34 rfl (by omega) (by omega) (h6 a i hne (by omega)) ?_
        refine J_st21 C dX7_copy_35 (by omega) ?_
        refine J_iinc C dX7_copy_36 h3 (nI_1 _) ?_
        refine J_goto (tgt := 2) C dX7_copy_39 (by decide) ?_
        refine ih (i + 1) _ _ (by omega) (fun j hj => ?_) (fun c j hc hj => ?_) (js1_ref h0 (by decide)) (js1_int h1 (by decide)) (js1_int h2 (by decide)) js1_at
        · by_cases e : j = i
          · subst e; exact pk_us
          · rw [pk_un (by omega)]; exact h5 j (by omega)
        · rw [pk_un (by omega)]; exact h6 c j hc hj
  refine J_iconst (v := nI 0) C dX7_copy_0 (by decide) ?_
  refine J_istore_n (i := 3) C dX7_copy_1 rfl (by decide) ?_
  exact hL n 0 z _ (by omega) (fun j hj => absurd hj (by omega)) (fun _ _ _ _ => rfl) rfl rfl rfl rfl
end MP
/-- the copied number -/
theorem nm_copy {z s z' : Nat → Int32} {a to n : Nat} (h : nm z s a n) (hc : ∀ i, i < n → z' (2500 * to + i) = z (2500 * a + i)) : nm z' (upd s to (nI n)) to n ∧ vN z' (2500 * to) n = vN z (2500 * a) n := by
  obtain ⟨h1, h2, h3, h4⟩ := h
  have e : ∀ m, m ≤ n → vN z' (2500 * to) m = vN z (2500 * a) m := by
    intro m
    induction m with
    | zero => intro _; rfl
    | succ m ih =>
      intro hm
      show vN z' (2500 * to) m + dg z' (2500 * to + m) * _ = vN z (2500 * a) m + dg z (2500 * a + m) * _
      have : dg z' (2500 * to + m) = dg z (2500 * a + m) := by unfold dg; rw [hc m (by omega)]
      rw [ih (by omega), this]
  refine ⟨⟨pk_us, h2, fun i hi => ?_, fun q => ?_⟩, e n (Nat.le_refl n)⟩
  · exact lm_of ((hc i hi).trans (h3 i hi).1) (h3 i hi).2
  · have : dg z' (2500 * to + (n - 1)) = dg z (2500 * a + (n - 1)) := by unfold dg; rw [hc (n - 1) (by omega)]
    rw [this]; exact h4 q
theorem fR_copy {z s z' : Nat → Int32} {to : Nat} {x : Int32} (h : ∀ c i, c ≠ to → i < 8 → z' (2500 * c + i) = z (2500 * c + i)) : fR z s z' (upd s to x) (fun c => c = to) := fun c hc => ⟨pk_un hc, fun i hi => h c i hc hi⟩
/-- how many limbs are left without noughts in front -/
def trimR (z : Nat → Int32) (p : Nat) : Nat → Nat
  | 0 => 0
  | n + 1 => if z (p + n) = 0 then trimR z p n else n + 1
theorem trimR_le (z : Nat → Int32) (p : Nat) : ∀ n, trimR z p n ≤ n
  | 0 => Nat.le_refl 0
  | n + 1 => by
    unfold trimR
    by_cases h : z (p + n) = 0
    · rw [if_pos h]; exact Nat.le_succ_of_le (trimR_le z p n)
    · rw [if_neg h]; exact Nat.le_refl _
theorem trimR_ne {z : Nat → Int32} {p : Nat} : ∀ {n : Nat}, 0 < trimR z p n → z (p + (trimR z p n - 1)) ≠ 0
  | 0, h => absurd h (Nat.lt_irrefl 0)
  | n + 1, h => by
    unfold trimR at h ⊢
    by_cases e : z (p + n) = 0
    · rw [if_pos e] at h ⊢; exact trimR_ne h
    · rw [if_neg e]
      rw [show n + 1 - 1 = n by omega]; exact e
theorem trimR_v {z : Nat → Int32} {p : Nat} : ∀ {n : Nat}, lm z p n → vN z p (trimR z p n) = vN z p n
  | 0, _ => rfl
  | n + 1, h => by
    unfold trimR
    by_cases e : z (p + n) = 0
    · rw [if_pos e, trimR_v (lm_le h (Nat.le_succ n))]
      show _ = vN z p n + dg z (p + n) * _
      have : dg z (p + n) = 0 := by unfold dg; rw [e]; rfl
      rw [this, Nat.zero_mul, Nat.add_zero]
    · rw [if_neg e]
theorem nm_trim {z s : Nat → Int32} {a n : Nat} (hl : lm z (2500 * a) n) (hs : s a = nI (trimR z (2500 * a) n)) (hn : trimR z (2500 * a) n < 4) : nm z s a (trimR z (2500 * a) n) := by
  have ht := trimR_le z (2500 * a) n
  refine ⟨hs, hn, lm_le hl ht, fun q => ?_⟩
  have h1 := trimR_ne q
  have h2 := hl (trimR z (2500 * a) n - 1) (by omega)
  rcases Nat.eq_zero_or_pos (dg z (2500 * a + (trimR z (2500 * a) n - 1))) with e | e
  · rw [e] at h2
    exact absurd h2.1 h1
  · exact e
section MQ
variable {c0 c1 c2 c3 c4 c5 c6 c7 c8 c9 c10 c11 c12 c13 c14 c15 c16 c17 c18 c19 : jE} {th : Int32} {z sz sg : Nat → Int32} {tk : Int32} {st ss sn : Nat → Int32} {el ro : Int32} {kt ks kn : Nat → Int32} {le : Int32} {lr : Nat → Int32} {pl : Int32} {rest : jW}
set_option maxHeartbeats 2000000 in
/-- trim(a) -/
theorem m_trim {a n : Nat} (ha : a < 500) (hn : sz a = nI n) (hn8 : n < 8) : jN vwCl yX7_trim (wc yX7_trim cX7_trim 2 none) 0 0 [.ref 20, .int (nI a)] (mW c0 c1 c2 c3 c4 c5 c6 c7 c8 c9 c10 c11 c12 c13 c14 c15 c16 c17 c18 c19 th z sz sg tk st ss sn el ro kt ks kn le lr pl rest) 0 0 (fun pw => ∃ (s' g' : Nat → Int32), pw = (mW c0 c1 c2 c3 c4 c5 c6 c7 c8 c9 c10 c11 c12 c13 c14 c15 c16 c17 c18 c19 th z s' g' tk st ss sn el ro kt ks kn le lr pl rest) ∧ s' a = nI (trimR z (2500 * a) n) ∧ ∀ c, c ≠ a → s' c = sz c) := by
  refine jN_of (cc := cX7_trim) (nL := 2) (by decide) rfl (Nat.le_of_ble_eq_true rfl) ?_
  intro X C hX hR
  have hE : ∀ (m : Nat) (s' : Nat → Int32) (lv : Nat → Option Value), m < 8 → s' a = nI m → m = trimR z (2500 * a) n → (∀ c, c ≠ a → s' c = sz c) → lv 0 = some (.ref 20) → lv 1 = some (.int (nI a)) → J X 44 lv [] (mW c0 c1 c2 c3 c4 c5 c6 c7 c8 c9 c10 c11 c12 c13 c14 c15 c16 c17 c18 c19 th z s' sg tk st ss sn el ro kt ks kn le lr pl rest) 0 0 := by
    intro m s' lv hm hs ht hf h0 h1
    subst ht
    refine J_aload_n (i := 0) C dX7_trim_44 rfl h0 ?_
    refine J_get (ci := 10) (k := 3) C dX7_trim_45 (inT inX7) rfl (gc flX7_X7_sign) (by decide) rfl rfl ?_
    refine J_iload_n (i := 1) C dX7_trim_48 rfl h1 ?_
    refine J_aload_n (i := 0) C dX7_trim_49 rfl h0 ?_
    refine J_get (ci := 10) (k := 2) C dX7_trim_50 (inT inX7) rfl (gc flX7_X7_size) (by decide) rfl rfl ?_
    refine J_iload_n (i := 1) C dX7_trim_53 rfl h1 ?_
    refine J_ialdN C dX7_trim_54 rfl (by omega) (by omega) hs ?_
    refine J_if_ne (tgt := 62) C dX7_trim_55 (by decide) (fun h55q => have h55 := (not_congr (nI_z (by omega))).mp h55q; ?_) (fun h55q => have h55 := (nI_z (by omega)).mp h55q; ?_)
    · refine J_aload_n (i := 0) C dX7_trim_62 rfl h0 ?_
      refine J_get (ci := 10) (k := 3) C dX7_trim_63 (inT inX7) rfl (gc flX7_X7_sign) (by decide) rfl rfl ?_
      refine J_iload_n (i := 1) C dX7_trim_66 rfl h1 ?_
      refine J_ialdN C dX7_trim_67 rfl (by omega) (by omega) rfl ?_
      refine J_st23 C dX7_trim_68 (by omega) ?_
      refine hR _ _ _ _ _ dX7_trim_69 ⟨s',_,rfl,hs,hf⟩ (Nat.le_of_eq hX) (Nat.le_refl _) (Nat.le_refl _)
    · refine J_iconst (v := nI 0) C dX7_trim_58 (by decide) ?_
      refine J_goto (tgt := 68) C dX7_trim_59 (by decide) ?_
      refine J_st23 C dX7_trim_68 (by omega) ?_
      refine hR _ _ _ _ _ dX7_trim_69 ⟨s',_,rfl,hs,hf⟩ (Nat.le_of_eq hX) (Nat.le_refl _) (Nat.le_refl _)
  have hL : ∀ (m : Nat) (s' : Nat → Int32) (lv : Nat → Option Value), m ≤ n → s' a = nI m → trimR z (2500 * a) m = trimR z (2500 * a) n → (∀ c, c ≠ a → s' c = sz c) → lv 0 = some (.ref 20) → lv 1 = some (.int (nI a)) → J X 0 lv [] (mW c0 c1 c2 c3 c4 c5 c6 c7 c8 c9 c10 c11 c12 c13 c14 c15 c16 c17 c18 c19 th z s' sg tk st ss sn el ro kt ks kn le lr pl rest) 0 0 := by
    intro m
    induction m with
    | zero =>
      intro s' lv hm hs ht hf h0 h1
      refine J_aload_n (i := 0) C dX7_trim_0 rfl h0 ?_
      refine J_get (ci := 10) (k := 2) C dX7_trim_1 (inT inX7) rfl (gc flX7_X7_size) (by decide) rfl rfl ?_
      refine J_iload_n (i := 1) C dX7_trim_4 rfl h1 ?_
      refine J_ialdN C dX7_trim_5 rfl (by omega) (by omega) hs ?_
      refine J_if_le (tgt := 44) C dX7_trim_6 (by decide) (fun h6q => have h6 := (nI_le0 (by omega)).mp h6q; ?_) (fun h6q => have h6 := (not_congr (nI_le0 (by omega))).mp h6q; ?_)
      · exact hE 0 s' lv (by decide) hs ht hf h0 h1
      · exact absurd rfl h6
    | succ m ih =>
      intro s' lv hm hs ht hf h0 h1
      refine J_aload_n (i := 0) C dX7_trim_0 rfl h0 ?_
      refine J_get (ci := 10) (k := 2) C dX7_trim_1 (inT inX7) rfl (gc flX7_X7_size) (by decide) rfl rfl ?_
      refine J_iload_n (i := 1) C dX7_trim_4 rfl h1 ?_
      refine J_ialdN C dX7_trim_5 rfl (by omega) (by omega) hs ?_
      refine J_if_le (tgt := 44) C dX7_trim_6 (by decide) (fun h6q => have h6 := (nI_le0 (by omega)).mp h6q; ?_) (fun h6q => have h6 := (not_congr (nI_le0 (by omega))).mp h6q; ?_)
      · exact absurd h6 (by omega)
      · refine J_aload_n (i := 0) C dX7_trim_9 rfl h0 ?_
        refine J_get (ci := 10) (k := 1) C dX7_trim_10 (inT inX7) rfl (gc flX7_X7_z) (by decide) rfl rfl ?_
        refine J_sipush (v := nI 2500) C dX7_trim_13 (by decide) ?_
        refine J_iload_n (i := 1) C dX7_trim_16 rfl h1 ?_
        refine J_imul C dX7_trim_17 ?_
        refine J_eqi (pk_mul _ _) ?_
        refine J_aload_n (i := 0) C dX7_trim_18 rfl h0 ?_
        refine J_get (ci := 10) (k := 2) C dX7_trim_19 (inT inX7) rfl (gc flX7_X7_size) (by decide) rfl rfl ?_
        refine J_iload_n (i := 1) C dX7_trim_22 rfl h1 ?_
        refine J_ialdN C dX7_trim_23 rfl (by omega) (by omega) hs ?_
        refine J_iadd C dX7_trim_24 ?_
        refine J_eqi (nI_add _ _) ?_
        refine J_iconst (v := nI 1) C dX7_trim_25 (by decide) ?_
        refine J_isub C dX7_trim_26 ?_
        refine J_eqi (pk_sub (by omega)) ?_
        refine J_ialdN C dX7_trim_27 rfl (by omega) (by omega) (show z (2500 * a + (m + 1) - 1) = z (2500 * a + m) by congr 1) ?_
        refine J_if_ne (tgt := 44) C dX7_trim_28 (by decide) (fun h28q => ?_) (fun h28q => ?_)
        · refine hE (m + 1) s' lv (by omega) hs ?_ hf h0 h1
          rw [← ht, trimR, if_neg h28q]
        · have h28 := h28q
          refine J_aload_n (i := 0) C dX7_trim_31 rfl h0 ?_
          refine J_get (ci := 10) (k := 2) C dX7_trim_32 (inT inX7) rfl (gc flX7_X7_size) (by decide) rfl rfl ?_
          refine J_iload_n (i := 1) C dX7_trim_35 rfl h1 ?_
          refine J_dup2 C dX7_trim_36 rfl rfl ?_
          refine J_ialdN C dX7_trim_37 rfl (by omega) (by omega) hs ?_
          refine J_iconst (v := nI 1) C dX7_trim_38 (by decide) ?_
          refine J_isub C dX7_trim_39 ?_
          refine J_eqi (pk_sub (by omega)) ?_
          refine J_st22 C dX7_trim_40 (by omega) ?_
          refine J_goto (tgt := 0) C dX7_trim_41 (by decide) ?_
          refine ih _ _ (by omega) pk_us ?_ (fun c hc => (pk_un hc).trans (hf c hc)) h0 h1
          rw [← ht, trimR, if_pos h28]
  exact hL n sz _ (Nat.le_refl n) hn rfl (fun _ _ => rfl) rfl rfl
end MQ

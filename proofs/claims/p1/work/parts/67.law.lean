theorem J_genl2 {X : jK} {pc : Nat} {lv : Nat → Option Value} {st : List Value} {pw : jW} {nc ns : Nat} {x : Int64} (k : ∀ y : Int64, y = x → J X pc lv (.long y :: st) pw nc ns) : J X pc lv (.long x :: st) pw nc ns := k x rfl
section LAW
variable {tp fm kp : Int32} {N : Nat} {f : Nat → Int32} {sq sc : Nat → Int32} {pl rk : Nat → Int32} {pr : Int32} {rl rh : Nat → Int32} {s12 s13 s14 s15 s16 s17 : jE} {lt : Nat → Int32} {th : Int32} {z sz sg : Nat → Int32} {tk : Int32} {st ss sn kt ks kn : Nat → Int32} {lr : Nat → Int32} {p2 : Int32} {g : Nat → Int64}
variable {X : jK} {b : Nat} {xs : Nat → Int32} {nc ns : Nat}

set_option maxHeartbeats 2000000 in
theorem law_0 (C : jX X cL_law 7 RL (Cond.initialized RL :: gT) vwCl 2048 84000 600002 7302231) (S : jS X b 5 xs) (hn0 : jn0 X = 0) (hnc : nc + 100 ≤ 600002) (hns : ns + 1000 ≤ 7302231) (hEnd : ∀ (lv : Nat → Option Value) (pw : jW) (nc ns : Nat), nc ≤ 600002 → ns ≤ 7302231 → lv 0 = some (.ref 2000) → lv 4 = some (.int (nI 0)) → J X 866 lv [] pw nc ns) {lv : Nat → Option Value} (h0 : lv 0 = some (.ref 2000)) (h1 : lv 1 = some (.ref 0)) (h2 : lv 2 = some (.ref 20)) (h3 : lv 3 = some (.ref 31)) (h4 : lv 4 = some (.int (nI 0))) {t : Nat} (hN8 : N = 8192) (e1 : tp = nI t) (e2 : fm = nI t) (e3 : kp = nI t) (f128 : f 128 = nI 2) (f129 : f 129 = nI 1) (h130 : 130 ≤ t) (hsc : sc 0 = nI 128) (ht : t + 120 ≤ 8192) : J X 132 lv [] (cW tp fm kp N f 0 sq sc 0 pl rk pr rl rh s12 s13 s14 s15 s16 s17 0 lt (mT th z sz sg tk st ss sn 0 0 kt ks kn 0 lr p2 [.inl (.long, 1, .inr (.inl g))])) nc ns := by
  subst hN8
  subst e1
  subst e2
  subst e3
  refine J_aload_n (i := 1) C dL_law_132 rfl h1 ?_
  refine J_aload_n (i := 0) C dL_law_133 rfl h0 ?_
  refine J_iload C dL_law_134 h4 ?_
  refine J_iconst (v := nI 1) C dL_law_136 (by decide) ?_
  refine J_iadd C dL_law_137 ?_
  refine J_eqi (nI_add _ _) ?_
  refine J_sld C S dL_law_138 (by decide) (by decide) ?_
  refine J_i2l C dL_law_139 rfl ?_
  refine J_bipush (v := nI 32) C dL_law_140 (by decide) ?_
  refine J_lshl C dL_law_142 rfl ?_
  refine J_aload_n (i := 0) C dL_law_143 rfl h0 ?_
  refine J_iload C dL_law_144 h4 ?_
  refine J_iconst (v := nI 2) C dL_law_146 (by decide) ?_
  refine J_iadd C dL_law_147 ?_
  refine J_eqi (nI_add _ _) ?_
  refine J_sld C S dL_law_148 (by decide) (by decide) ?_
  refine J_i2l C dL_law_149 rfl ?_
  refine J_ldc2 C (gc clL_4294967295) dL_law_150 ?_
  refine J_eql (y := lN 4294967295) (by decide) ?_
  refine J_land C dL_law_153 ?_
  refine J_lor C dL_law_154 ?_
  refine J_genl2 (fun u hu => ?_)
  refine J_aload_n (i := 0) C dL_law_155 rfl h0 ?_
  refine J_iload C dL_law_156 h4 ?_
  refine J_iconst (v := nI 3) C dL_law_158 (by decide) ?_
  refine J_iadd C dL_law_159 ?_
  refine J_eqi (nI_add _ _) ?_
  refine J_sld C S dL_law_160 (by decide) (by decide) ?_
  refine J_i2l C dL_law_161 rfl ?_
  refine J_bipush (v := nI 32) C dL_law_162 (by decide) ?_
  refine J_lshl C dL_law_164 rfl ?_
  refine J_aload_n (i := 0) C dL_law_165 rfl h0 ?_
  refine J_iload C dL_law_166 h4 ?_
  refine J_iconst (v := nI 4) C dL_law_168 (by decide) ?_
  refine J_iadd C dL_law_169 ?_
  refine J_eqi (nI_add _ _) ?_
  refine J_sld C S dL_law_170 (by decide) (by decide) ?_
  refine J_i2l C dL_law_171 rfl ?_
  refine J_ldc2 C (gc clL_4294967295) dL_law_172 ?_
  refine J_eql (y := lN 4294967295) (by decide) ?_
  refine J_land C dL_law_175 ?_
  refine J_lor C dL_law_176 ?_
  refine J_genl2 (fun v hv => ?_)
  refine J_callVi C [.long u, .long v] rfl rfl 32 (c_fraction f128 f129 h130 hsc ht) (gV mlL_X6_fraction imX6_fraction slX6_fraction iniX6 cdX6_fraction) rfl dsX6_fraction ⟨by decide, by decide⟩ dL_law_177 rfl (Nat.le_of_ble_eq_true rfl) rfl (Nat.le_of_ble_eq_true rfl) (by rw [hn0]; exact Nat.zero_le _) (by omega) (by omega) (fun r pw h hl => ?_)
  clear hl
  obtain ⟨rfl, tp', fm', kp', f', ct', pl', rk', rfl⟩ := h
  refine J_aload_n (i := 2) C dL_law_180 rfl (jdrop_of h2 rfl) ?_
  refine J_aload_n (i := 0) C dL_law_181 rfl (jdrop_of h0 rfl) ?_
  refine J_iload C dL_law_182 (jdrop_of h4 rfl) ?_
  refine J_iconst (v := nI 1) C dL_law_184 (by decide) ?_
  refine J_iadd C dL_law_185 ?_
  refine J_eqi (nI_add _ _) ?_
  refine J_sld C S dL_law_186 (by decide) (by decide) ?_
  refine J_i2l C dL_law_187 rfl ?_
  refine J_bipush (v := nI 32) C dL_law_188 (by decide) ?_
  refine J_lshl C dL_law_190 rfl ?_
  refine J_aload_n (i := 0) C dL_law_191 rfl (jdrop_of h0 rfl) ?_
  refine J_iload C dL_law_192 (jdrop_of h4 rfl) ?_
  refine J_iconst (v := nI 2) C dL_law_194 (by decide) ?_
  refine J_iadd C dL_law_195 ?_
  refine J_eqi (nI_add _ _) ?_
  refine J_sld C S dL_law_196 (by decide) (by decide) ?_
  refine J_i2l C dL_law_197 rfl ?_
  refine J_ldc2 C (gc clL_4294967295) dL_law_198 ?_
  refine J_eql (y := lN 4294967295) (by decide) ?_
  refine J_land C dL_law_201 ?_
  refine J_lor C dL_law_202 ?_
  refine J_genl2 (fun u2 hu2 => ?_)
  refine J_aload_n (i := 0) C dL_law_203 rfl (jdrop_of h0 rfl) ?_
  refine J_iload C dL_law_204 (jdrop_of h4 rfl) ?_
  refine J_iconst (v := nI 3) C dL_law_206 (by decide) ?_
  refine J_iadd C dL_law_207 ?_
  refine J_eqi (nI_add _ _) ?_
  refine J_sld C S dL_law_208 (by decide) (by decide) ?_
  refine J_i2l C dL_law_209 rfl ?_
  refine J_bipush (v := nI 32) C dL_law_210 (by decide) ?_
  refine J_lshl C dL_law_212 rfl ?_
  refine J_aload_n (i := 0) C dL_law_213 rfl (jdrop_of h0 rfl) ?_
  refine J_iload C dL_law_214 (jdrop_of h4 rfl) ?_
  refine J_iconst (v := nI 4) C dL_law_216 (by decide) ?_
  refine J_iadd C dL_law_217 ?_
  refine J_eqi (nI_add _ _) ?_
  refine J_sld C S dL_law_218 (by decide) (by decide) ?_
  refine J_i2l C dL_law_219 rfl ?_
  refine J_ldc2 C (gc clL_4294967295) dL_law_220 ?_
  refine J_eql (y := lN 4294967295) (by decide) ?_
  refine J_land C dL_law_223 ?_
  refine J_lor C dL_law_224 ?_
  refine J_genl2 (fun v2 hv2 => ?_)
  have e4 : u2 = u := hu2.trans hu.symm
  have e5 : v2 = v := hv2.trans hv.symm
  clear hu2 hv2 hu hv
  subst e4
  subst e5
  refine J_callVi C [.long u2, .long v2] rfl rfl 32 m_fraction (gV mlL_X7_fraction imX7_fraction slX7_fraction iniX7 cdX7_fraction) rfl dsX7_fraction ⟨by decide, by decide⟩ dL_law_225 rfl (Nat.le_of_ble_eq_true rfl) rfl (Nat.le_of_ble_eq_true rfl) (by rw [hn0]; exact Nat.zero_le _) (by omega) (by omega) (fun r pw h hl => ?_)
  clear hl
  subst h
  refine J_icmp_eq (tgt := 866) C dL_law_228 (by decide) (fun h228q => ?_) (fun h228q => ?_)
  · exact hEnd _ _ _ _ (by omega) (by omega) (jdrop_of (jdrop_of h0 rfl) rfl) (jdrop_of (jdrop_of h4 rfl) rfl)
  · exact absurd rfl h228q

set_option maxHeartbeats 2000000 in
theorem law_2 (C : jX X cL_law 7 RL (Cond.initialized RL :: gT) vwCl 2048 84000 600002 7302231) (S : jS X b 5 xs) (hn0 : jn0 X = 0) (hnc : nc + 100 ≤ 600002) (hns : ns + 1000 ≤ 7302231) (hEnd : ∀ (lv : Nat → Option Value) (pw : jW) (nc ns : Nat), nc ≤ 600002 → ns ≤ 7302231 → lv 0 = some (.ref 2000) → lv 4 = some (.int (nI 0)) → J X 866 lv [] pw nc ns) {lv : Nat → Option Value} (h0 : lv 0 = some (.ref 2000)) (h1 : lv 1 = some (.ref 0)) (h2 : lv 2 = some (.ref 20)) (h3 : lv 3 = some (.ref 31)) (h4 : lv 4 = some (.int (nI 0))) : J X 282 lv [] (cW tp fm kp N f 0 sq sc 0 pl rk pr rl rh s12 s13 s14 s15 s16 s17 0 lt (mT th z sz sg tk st ss sn 0 0 kt ks kn 0 lr p2 [.inl (.long, 1, .inr (.inl g))])) nc ns := by
  refine J_aload_n (i := 1) C dL_law_282 rfl h1 ?_
  refine J_aload_n (i := 0) C dL_law_283 rfl h0 ?_
  refine J_iload C dL_law_284 h4 ?_
  refine J_iconst (v := nI 1) C dL_law_286 (by decide) ?_
  refine J_iadd C dL_law_287 ?_
  refine J_eqi (nI_add _ _) ?_
  refine J_sld C S dL_law_288 (by decide) (by decide) ?_
  refine J_aload_n (i := 3) C dL_law_289 rfl h3 ?_
  refine J_callHi C [.ref 0, .int (xs (0 + 1)), .ref 31] 32 c_Lplain (gH mlL_L_plain stL_plain iniL cdL_plain) rfl dsL_plain ⟨by decide, by decide⟩ dL_law_290 rfl (Nat.le_of_ble_eq_true rfl) rfl (Nat.le_of_ble_eq_true rfl) (by rw [hn0]; exact Nat.zero_le _) (by omega) (by omega) (fun r pw h hl => ?_)
  clear hl
  obtain ⟨rfl, rfl⟩ := h
  refine J_istore C dL_law_293 (by decide) ?_
  refine J_aload_n (i := 2) C dL_law_295 rfl (js1_ref (jdrop_of h2 rfl) (by decide)) ?_
  refine J_aload_n (i := 0) C dL_law_296 rfl (js1_ref (jdrop_of h0 rfl) (by decide)) ?_
  refine J_iload C dL_law_297 (js1_int (jdrop_of h4 rfl) (by decide)) ?_
  refine J_iconst (v := nI 1) C dL_law_299 (by decide) ?_
  refine J_iadd C dL_law_300 ?_
  refine J_eqi (nI_add _ _) ?_
  refine J_sld C S dL_law_301 (by decide) (by decide) ?_
  refine J_callVi C [.int (xs (0 + 1))] rfl rfl 32 m_plain (gV mlL_X7_plain imX7_plain slX7_plain iniX7 cdX7_plain) rfl dsX7_plain ⟨by decide, by decide⟩ dL_law_302 rfl (Nat.le_of_ble_eq_true rfl) rfl (Nat.le_of_ble_eq_true rfl) (by rw [hn0]; exact Nat.zero_le _) (by omega) (by omega) (fun r pw h hl => ?_)
  clear hl
  obtain ⟨rfl, rfl⟩ := h
  refine J_istore C dL_law_305 (by decide) ?_
  refine J_aload_n (i := 2) C dL_law_307 rfl (js1_ref (jdrop_of (js1_ref (jdrop_of h2 rfl) (by decide)) rfl) (by decide)) ?_
  refine J_callVi C [] rfl rfl 32 (m_thrown (th := 0)) (gV mlL_X7_thrown imX7_thrown slX7_thrown iniX7 cdX7_thrown) rfl dsX7_thrown ⟨by decide, by decide⟩ dL_law_308 rfl (Nat.le_of_ble_eq_true rfl) rfl (Nat.le_of_ble_eq_true rfl) (by rw [hn0]; exact Nat.zero_le _) (by omega) (by omega) (fun r pw h hl => ?_)
  clear hl
  obtain ⟨rfl, rfl⟩ := h
  refine J_iload C dL_law_311 (jdrop_of (js1_int (jdrop_of js1_at rfl) (by decide)) rfl) ?_
  refine J_icmp_eq (tgt := 318) C dL_law_313 (by decide) (fun h313q => ?_) (fun h313q => ?_)
  · refine J_iload C dL_law_318 (jdrop_of (js1_int (jdrop_of js1_at rfl) (by decide)) rfl) ?_
    refine J_if_ne (tgt := 335) C dL_law_320 (by decide) (fun h320q => ?_) (fun h320q => ?_)
    · exact absurd rfl h320q
    · refine J_aload_n (i := 3) C dL_law_323 rfl (jdrop_of (js1_ref (jdrop_of (js1_ref (jdrop_of h3 rfl) (by decide)) rfl) (by decide)) rfl) ?_
      refine J_iconst (v := 0) C dL_law_324 (by decide) ?_
      refine J_lald C dL_law_325 rfl (vp_in_nI (n := 0) (by decide) (by decide)) ?_
      refine J_iload C dL_law_326 (jdrop_of js1_at rfl) ?_
      refine J_i2l C dL_law_328 rfl ?_
      refine J_lcmp C dL_law_329 ?_
      refine J_if_eq (tgt := 335) C dL_law_330 (by decide) (fun h330q => ?_) (fun h330q => ?_)
      · refine J_goto (tgt := 866) C dL_law_335 (by decide) ?_
        exact hEnd _ _ _ _ (by omega) (by omega) (jdrop_of (js1_ref (jdrop_of (js1_ref (jdrop_of h0 rfl) (by decide)) rfl) (by decide)) rfl) (jdrop_of (js1_int (jdrop_of (js1_int (jdrop_of h4 rfl) (by decide)) rfl) (by decide)) rfl)
      · exact absurd ((lg_cmp_eq _ _).mpr (show vp_updL g 0 (-1) 0 = (-1 : Int32).toInt64 from pk_uLs.trans (by decide))) h330q
  · exact absurd rfl h313q
set_option maxHeartbeats 2000000 in
theorem law_15c {i : Int32} : jIT vwCl yL_letter (.codeWith yL_letter cL_letter 4 (some .int) [(0, 9, 12, 18)] :: gT) 14 500 [.ref 0, .int i, .ref 31] (cW tp fm kp N f 0 sq sc 0 pl rk pr rl rh s12 s13 s14 s15 s16 s17 0 lt (mT th z sz sg tk st ss sn 0 0 kt ks kn 0 lr p2 [.inl (.long, 1, .inr (.inl g))])) 1 6 (fun r pw => r = 1 ∧ pw = (cW tp fm kp N f 0 sq sc 0 pl rk pr rl rh s12 s13 s14 s15 s16 s17 0 lt (mT th z sz sg tk st ss sn 0 0 kt ks kn 0 lr p2 [.inl (.long, 1, .inr (.inl g))]))) := fun l hl D ty ad q9 => c_Lletter l hl D ty ad q9 rfl
set_option maxHeartbeats 2000000 in
theorem law_15 (C : jX X cL_law 7 RL (Cond.initialized RL :: gT) vwCl 2048 84000 600002 7302231) (S : jS X b 5 xs) (hn0 : jn0 X = 0) (hnc : nc + 100 ≤ 600002) (hns : ns + 1000 ≤ 7302231) (hEnd : ∀ (lv : Nat → Option Value) (pw : jW) (nc ns : Nat), nc ≤ 600002 → ns ≤ 7302231 → lv 0 = some (.ref 2000) → lv 4 = some (.int (nI 0)) → J X 866 lv [] pw nc ns) {lv : Nat → Option Value} (h0 : lv 0 = some (.ref 2000)) (h1 : lv 1 = some (.ref 0)) (h2 : lv 2 = some (.ref 20)) (h3 : lv 3 = some (.ref 31)) (h4 : lv 4 = some (.int (nI 0))) (TT : jT X) : J X 710 lv [] (cW tp fm kp N f 0 sq sc 0 pl rk pr rl rh s12 s13 s14 s15 s16 s17 0 lt (mT th z sz sg tk st ss sn 0 0 kt ks kn 0 lr p2 [.inl (.long, 1, .inr (.inl g))])) nc ns := by
  refine J_aload_n (i := 1) C dL_law_710 rfl h1 ?_
  refine J_aload_n (i := 0) C dL_law_711 rfl h0 ?_
  refine J_iload C dL_law_712 h4 ?_
  refine J_iconst (v := nI 1) C dL_law_714 (by decide) ?_
  refine J_iadd C dL_law_715 ?_
  refine J_eqi (nI_add _ _) ?_
  refine J_sld C S dL_law_716 (by decide) (by decide) ?_
  refine J_aload_n (i := 3) C dL_law_717 rfl h3 ?_
  refine J_callHt C TT [.ref 0, .int (xs (0 + 1)), .ref 31] 32 (law_15c (i := xs (0 + 1))) (gH mlL_L_letter stL_letter iniL cdL_letter) rfl dsL_letter ⟨by decide, by decide⟩ dL_law_718 rfl (Nat.le_of_ble_eq_true rfl) rfl (Nat.le_of_ble_eq_true rfl) (by rw [hn0]; exact Nat.zero_le _) (by omega) (by omega) (fun r pw h hl => ?_)
  clear hl
  obtain ⟨rfl, rfl⟩ := h
  refine J_istore C dL_law_721 (by decide) ?_
  refine J_aload_n (i := 2) C dL_law_723 rfl (js1_ref (jdrop_of h2 rfl) (by decide)) ?_
  refine J_aload_n (i := 0) C dL_law_724 rfl (js1_ref (jdrop_of h0 rfl) (by decide)) ?_
  refine J_iload C dL_law_725 (js1_int (jdrop_of h4 rfl) (by decide)) ?_
  refine J_iconst (v := nI 1) C dL_law_727 (by decide) ?_
  refine J_iadd C dL_law_728 ?_
  refine J_eqi (nI_add _ _) ?_
  refine J_sld C S dL_law_729 (by decide) (by decide) ?_
  refine J_callVi C [.int (xs (0 + 1))] rfl rfl 32 (m_letter rfl) (gV mlL_X7_letter imX7_letter slX7_letter iniX7 cdX7_letter) rfl dsX7_letter ⟨by decide, by decide⟩ dL_law_730 rfl (Nat.le_of_ble_eq_true rfl) rfl (Nat.le_of_ble_eq_true rfl) (by rw [hn0]; exact Nat.zero_le _) (by omega) (by omega) (fun r pw h hl => ?_)
  clear hl
  obtain ⟨rfl, rfl⟩ := h
  refine J_istore C dL_law_733 (by decide) ?_
  refine J_aload_n (i := 2) C dL_law_735 rfl (js1_ref (jdrop_of (js1_ref (jdrop_of h2 rfl) (by decide)) rfl) (by decide)) ?_
  refine J_callVi C [] rfl rfl 32 (m_thrown (th := 1)) (gV mlL_X7_thrown imX7_thrown slX7_thrown iniX7 cdX7_thrown) rfl dsX7_thrown ⟨by decide, by decide⟩ dL_law_736 rfl (Nat.le_of_ble_eq_true rfl) rfl (Nat.le_of_ble_eq_true rfl) (by rw [hn0]; exact Nat.zero_le _) (by omega) (by omega) (fun r pw h hl => ?_)
  clear hl
  obtain ⟨rfl, rfl⟩ := h
  refine J_iload C dL_law_739 (jdrop_of (js1_int (jdrop_of js1_at rfl) (by decide)) rfl) ?_
  refine J_icmp_eq (tgt := 746) C dL_law_741 (by decide) (fun h741q => ?_) (fun h741q => ?_)
  · refine J_iload C dL_law_746 (jdrop_of (js1_int (jdrop_of js1_at rfl) (by decide)) rfl) ?_
    refine J_if_ne (tgt := 763) C dL_law_748 (by decide) (fun h748q => ?_) (fun h748q => ?_)
    · refine J_goto (tgt := 866) C dL_law_763 (by decide) ?_
      exact hEnd _ _ _ _ (by omega) (by omega) (jdrop_of (js1_ref (jdrop_of (js1_ref (jdrop_of h0 rfl) (by decide)) rfl) (by decide)) rfl) (jdrop_of (js1_int (jdrop_of (js1_int (jdrop_of h4 rfl) (by decide)) rfl) (by decide)) rfl)
    · exact absurd h748q (by decide)
  · exact absurd rfl h741q
end LAW

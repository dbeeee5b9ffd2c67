def bX11_told_0 : List kx_O := [(.aload_n 0, 0, 0, 0, .null), (.iconst 0, 0, 0, 0, .int 0), (.putfield 1, 11, 0, 0, .null), (.aload_n 0, 0, 0, 0, .null), (.iload_n 1, 1, 0, 0, .null)]
theorem kX11_told_0 : kx_oks kxL_X11 false cX11_told 0 bX11_told_0 = true := by decide +kernel
def bX11_told_10 : List kx_O := [(.ifCond .eq 18, 28, 0, 0, .null)]
theorem kX11_told_10 : kx_oks kxL_X11 false cX11_told 10 bX11_told_10 = true := by decide +kernel
def bX11_told_13 : List kx_O := [(.aload_n 0, 0, 0, 0, .null), (.iload_n 2, 2, 0, 0, .null), (.iconst 0, 0, 0, 0, .int 0), (.bipush 8, 0, 0, 0, .int 8)]
theorem kX11_told_13 : kx_oks kxL_X11 false cX11_told 13 bX11_told_13 = true := by decide +kernel
def bX11_told_21 : List kx_O := [(.iconst 2, 0, 0, 0, .int 2)]
theorem kX11_told_21 : kx_oks kxL_X11 false cX11_told 21 bX11_told_21 = true := by decide +kernel
def bX11_told_25 : List kx_O := [(.ifCond .ne 5, 30, 0, 0, .null)]
theorem kX11_told_25 : kx_oks kxL_X11 false cX11_told 25 bX11_told_25 = true := by decide +kernel
def bX11_told_28 : List kx_O := [(.iconst 0, 0, 0, 0, .int 0), (.ireturn, 0, 0, 0, .null)]
theorem kX11_told_28 : kx_oks kxL_X11 false cX11_told 28 bX11_told_28 = true := by decide +kernel
def bX11_told_30 : List kx_O := [(.iload_n 2, 2, 0, 0, .null), (.tableswitch 170 0 7 #[45, 52, 59, 79, 86, 93, 108, 137], 201, 45, 0, .null)]
theorem kX11_told_30 : kx_oks kxL_X11 false cX11_told 30 bX11_told_30 = true := by decide +kernel
def bX11_told_76 : List kx_O := [(.aload_n 0, 0, 0, 0, .null), (.getfield 59, 11, 31, 0, .null), (.iload_n 1, 1, 0, 0, .null), (.iaload, 0, 0, 0, .null), (.ireturn, 0, 0, 0, .null)]
theorem kX11_told_76 : kx_oks kxL_X11 false cX11_told 76 bX11_told_76 = true := by decide +kernel
def bX11_told_83 : List kx_O := [(.aload_n 0, 0, 0, 0, .null), (.getfield 62, 11, 32, 0, .null), (.iload_n 1, 1, 0, 0, .null), (.iaload, 0, 0, 0, .null), (.ireturn, 0, 0, 0, .null)]
theorem kX11_told_83 : kx_oks kxL_X11 false cX11_told 83 bX11_told_83 = true := by decide +kernel
def bX11_told_90 : List kx_O := [(.aload_n 0, 0, 0, 0, .null), (.getfield 87, 11, 40, 0, .null), (.iload_n 1, 1, 0, 0, .null), (.baload, 0, 0, 0, .null), (.ifCond .eq 12, 108, 0, 0, .null)]
theorem kX11_told_90 : kx_oks kxL_X11 false cX11_told 90 bX11_told_90 = true := by decide +kernel
def bX11_told_99 : List kx_O := [(.aload_n 0, 0, 0, 0, .null), (.getfield 65, 11, 33, 0, .null), (.iload_n 1, 1, 0, 0, .null), (.iaload, 0, 0, 0, .null), (.goto 4, 109, 0, 0, .null)]
theorem kX11_told_99 : kx_oks kxL_X11 false cX11_told 99 bX11_told_99 = true := by decide +kernel
def bX11_told_108 : List kx_O := [(.iconst (-1), 0, 0, 0, .int (-1))]
theorem kX11_told_108 : kx_oks kxL_X11 false cX11_told 108 bX11_told_108 = true := by decide +kernel
def bX11_told_109 : List kx_O := [(.ireturn, 0, 0, 0, .null)]
theorem kX11_told_109 : kx_oks kxL_X11 false cX11_told 109 bX11_told_109 = true := by decide +kernel
def bX11_told_110 : List kx_O := [(.aload_n 0, 0, 0, 0, .null), (.getfield 68, 11, 34, 0, .null), (.iload_n 1, 1, 0, 0, .null), (.iaload, 0, 0, 0, .null), (.ireturn, 0, 0, 0, .null)]
theorem kX11_told_110 : kx_oks kxL_X11 false cX11_told 110 bX11_told_110 = true := by decide +kernel
def bX11_told_117 : List kx_O := [(.aload_n 0, 0, 0, 0, .null), (.getfield 71, 11, 35, 0, .null), (.iload_n 1, 1, 0, 0, .null), (.iaload, 0, 0, 0, .null), (.ireturn, 0, 0, 0, .null)]
theorem kX11_told_117 : kx_oks kxL_X11 false cX11_told 117 bX11_told_117 = true := by decide +kernel
def bX11_told_124 : List kx_O := [(.aload_n 0, 0, 0, 0, .null), (.getfield 59, 11, 31, 0, .null), (.iload_n 1, 1, 0, 0, .null), (.iaload, 0, 0, 0, .null), (.ifCond .ne 7, 137, 0, 0, .null)]
theorem kX11_told_124 : kx_oks kxL_X11 false cX11_told 124 bX11_told_124 = true := by decide +kernel
def bX11_told_133 : List kx_O := [(.iconst 1, 0, 0, 0, .int 1), (.goto 4, 138, 0, 0, .null)]
theorem kX11_told_133 : kx_oks kxL_X11 false cX11_told 133 bX11_told_133 = true := by decide +kernel
def bX11_told_137 : List kx_O := [(.iconst 0, 0, 0, 0, .int 0)]
theorem kX11_told_137 : kx_oks kxL_X11 false cX11_told 137 bX11_told_137 = true := by decide +kernel
def bX11_told_138 : List kx_O := [(.ireturn, 0, 0, 0, .null)]
theorem kX11_told_138 : kx_oks kxL_X11 false cX11_told 138 bX11_told_138 = true := by decide +kernel
def bX11_told_139 : List kx_O := [(.bipush 100, 0, 0, 0, .int 100), (.aload_n 0, 0, 0, 0, .null), (.getfield 71, 11, 35, 0, .null), (.iload_n 1, 1, 0, 0, .null), (.iaload, 0, 0, 0, .null), (.imul, 0, 0, 0, .null), (.aload_n 0, 0, 0, 0, .null), (.getfield 68, 11, 34, 0, .null), (.iload_n 1, 1, 0, 0, .null), (.iaload, 0, 0, 0, .null), (.iadd, 0, 0, 0, .null), (.aload_n 0, 0, 0, 0, .null)]
theorem kX11_told_139 : kx_oks kxL_X11 false cX11_told 139 bX11_told_139 = true := by decide +kernel
def bX11_told_159 : List kx_O := [(.if_icmp .ne 7, 166, 0, 0, .null)]
theorem kX11_told_159 : kx_oks kxL_X11 false cX11_told 159 bX11_told_159 = true := by decide +kernel
def bX11_told_162 : List kx_O := [(.iconst 1, 0, 0, 0, .int 1), (.goto 4, 167, 0, 0, .null)]
theorem kX11_told_162 : kx_oks kxL_X11 false cX11_told 162 bX11_told_162 = true := by decide +kernel
def bX11_told_166 : List kx_O := [(.iconst 0, 0, 0, 0, .int 0)]
theorem kX11_told_166 : kx_oks kxL_X11 false cX11_told 166 bX11_told_166 = true := by decide +kernel
def bX11_told_167 : List kx_O := [(.ireturn, 0, 0, 0, .null)]
theorem kX11_told_167 : kx_oks kxL_X11 false cX11_told 167 bX11_told_167 = true := by decide +kernel
def bX11_told_168 : List kx_O := [(.aload_n 0, 0, 0, 0, .null), (.getfield 87, 11, 40, 0, .null), (.iload_n 1, 1, 0, 0, .null), (.baload, 0, 0, 0, .null), (.ifCond .ne 7, 181, 0, 0, .null)]
theorem kX11_told_168 : kx_oks kxL_X11 false cX11_told 168 bX11_told_168 = true := by decide +kernel
def bX11_told_177 : List kx_O := [(.iconst (-1), 0, 0, 0, .int (-1)), (.goto 22, 200, 0, 0, .null)]
theorem kX11_told_177 : kx_oks kxL_X11 false cX11_told 177 bX11_told_177 = true := by decide +kernel
def bX11_told_181 : List kx_O := [(.aload_n 0, 0, 0, 0, .null), (.iload_n 1, 1, 0, 0, .null), (.aload_n 0, 0, 0, 0, .null), (.getfield 65, 11, 33, 0, .null), (.iload_n 1, 1, 0, 0, .null), (.iaload, 0, 0, 0, .null)]
theorem kX11_told_181 : kx_oks kxL_X11 false cX11_told 181 bX11_told_181 = true := by decide +kernel
def bX11_told_192 : List kx_O := [(.ifCond .eq 7, 199, 0, 0, .null)]
theorem kX11_told_192 : kx_oks kxL_X11 false cX11_told 192 bX11_told_192 = true := by decide +kernel
def bX11_told_195 : List kx_O := [(.iconst 1, 0, 0, 0, .int 1), (.goto 4, 200, 0, 0, .null)]
theorem kX11_told_195 : kx_oks kxL_X11 false cX11_told 195 bX11_told_195 = true := by decide +kernel
def bX11_told_199 : List kx_O := [(.iconst 0, 0, 0, 0, .int 0)]
theorem kX11_told_199 : kx_oks kxL_X11 false cX11_told 199 bX11_told_199 = true := by decide +kernel
def bX11_told_200 : List kx_O := [(.ireturn, 0, 0, 0, .null)]
theorem kX11_told_200 : kx_oks kxL_X11 false cX11_told 200 bX11_told_200 = true := by decide +kernel
def bX11_told_201 : List kx_O := [(.aload_n 0, 0, 0, 0, .null), (.getfield 87, 11, 40, 0, .null), (.iload_n 1, 1, 0, 0, .null), (.baload, 0, 0, 0, .null), (.ifCond .eq 22, 229, 0, 0, .null)]
theorem kX11_told_201 : kx_oks kxL_X11 false cX11_told 201 bX11_told_201 = true := by decide +kernel
def bX11_told_210 : List kx_O := [(.aload_n 0, 0, 0, 0, .null), (.getfield 47, 11, 27, 0, .null), (.bipush 24, 0, 0, 0, .int 24), (.iload_n 1, 1, 0, 0, .null), (.imul, 0, 0, 0, .null), (.aload_n 0, 0, 0, 0, .null), (.getfield 65, 11, 33, 0, .null), (.iload_n 1, 1, 0, 0, .null), (.iaload, 0, 0, 0, .null), (.iadd, 0, 0, 0, .null), (.iaload, 0, 0, 0, .null), (.goto 8, 234, 0, 0, .null)]
theorem kX11_told_210 : kx_oks kxL_X11 false cX11_told 210 bX11_told_210 = true := by decide +kernel
def bX11_told_229 : List kx_O := [(.aload_n 0, 0, 0, 0, .null), (.iload_n 1, 1, 0, 0, .null)]
theorem kX11_told_229 : kx_oks kxL_X11 false cX11_told 229 bX11_told_229 = true := by decide +kernel
def bX11_told_234 : List kx_O := [(.ireturn, 0, 0, 0, .null)]
theorem kX11_told_234 : kx_oks kxL_X11 false cX11_told 234 bX11_told_234 = true := by decide +kernel
theorem dX11_told_7 : decode cX11_told 7 = .ok (.invokevirtual 358, 3) := by decide +kernel
theorem dX11_told_18 : decode cX11_told 18 = .ok (.invokestatic 167, 3) := by decide +kernel
theorem dX11_told_22 : decode cX11_told 22 = .ok (.invokevirtual 171, 3) := by decide +kernel
theorem dX11_told_156 : decode cX11_told 156 = .ok (.invokevirtual 346, 3) := by decide +kernel
theorem dX11_told_189 : decode cX11_told 189 = .ok (.invokevirtual 445, 3) := by decide +kernel
theorem dX11_told_231 : decode cX11_told 231 = .ok (.invokevirtual 448, 3) := by decide +kernel
set_option maxRecDepth 100000 in
set_option maxHeartbeats 4000000 in
theorem ct_X11_told_0 (l : Launch) (G : kx_G) {M : Nat → Int32} {A : Nat → Nat → Int32} {L : Nat → Nat → Int64} {R : kx_P} {sz : Nat} {cl c : Nat} (h21 : M 21 = nI cl) (hcl : cl ≤ 8) (hc : c < cl)  : kx_M l G sX11_told 4 0 0 [.ref 93, .int (nI c), .int (0)] (mW M A L R) sz (some (.int (A 108 c))) (mW (upd M 0 0) A L R) sz := by
  refine kx_mk kx_tab kxLok_X11 (ini := false) [some (.ref 93), some (.int (nI c)), some (.int (0))] ⟨by decide, rfl, by decide, by decide⟩ (⟨_, rfl⟩) rfl rfl (fun g hB hC => ?_)
  refine hB bX11_told_0 _ _ _ _ _ _ _ kX11_told_0 ?_
  dsimp only [bX11_told_0, kx_wp, kx_step, kx_lI, kx_lL, kx_lA, kx_gl, kx_pI, kx_pL, kx_pR, kx_pA, kx_pV, kx_s1, kx_s2, kx_sl, kx_pre, kx_c2, kx_pl, kx_cmp, kx_oF, kx_eqN, kx_nil, kx_c1, kx_ft, kx_aI, kx_aL, kx_aR, kx_ln, Nat.reduceAdd, Option.toList, List.cons_append, List.nil_append, mW_o, mf_0, mf_31, m_108, mf_32, m_109, mf_40, m_117, mf_33, m_110, mf_34, m_111, mf_35, m_112, mf_27, m_104]
  repeat (simp only [mu_0, mW_so, ms_108, ms_109, ms_117, ms_110, ms_111, ms_112, ms_104, nI_clamp (show c < 2 ^ 31 by omega), va_us, va_upn, ne_eq, Nat.reduceEqDiff, not_false_eq_true]; try dsimp only [kx_wp, kx_step, kx_lI, kx_lL, kx_lA, kx_gl, kx_pI, kx_pL, kx_pR, kx_pA, kx_pV, kx_s1, kx_s2, kx_sl, kx_pre, kx_c2, kx_pl, kx_cmp, kx_oF, kx_eqN, kx_nil, kx_c1, kx_ft, kx_aI, kx_aL, kx_aR, kx_ln, Nat.reduceAdd, Option.toList, List.cons_append, List.nil_append, mW_o, mf_0, mf_31, m_108, mf_32, m_109, mf_40, m_117, mf_33, m_110, mf_34, m_111, mf_35, m_112, mf_27, m_104])
  repeat' apply And.intro
  all_goals try (first | with_reducible assumption | (with_reducible refine ck_nzI ?_; simp; done) | (with_reducible refine ck_nzL ?_; simp; done) | (with_reducible refine vp_in_nI ?_ ?_ <;> first | omega | decide) | (with_reducible refine Nat.le_of_ble_eq_true ?_; rfl) | omega)
  refine hC.1 358 _ _ _ _ _ _ _ 11 _ _ _ _ _ _ _ _ _ _ _ _ lX11_358 (ct_X11_isClock_t l G (M := upd M 0 0) h21 hcl hc rfl) ⟨by decide, rfl⟩ (mW_o) rfl rfl (Nat.le_of_ble_eq_true rfl) (by decide) (by decide) (by omega) (by omega) dX11_told_7 ?_
  refine hB bX11_told_10 _ _ _ _ _ _ _ kX11_told_10 ?_
  dsimp only [bX11_told_10, kx_wp, kx_step, kx_lI, kx_lL, kx_lA, kx_gl, kx_pI, kx_pL, kx_pR, kx_pA, kx_pV, kx_s1, kx_s2, kx_sl, kx_pre, kx_c2, kx_pl, kx_cmp, kx_oF, kx_eqN, kx_nil, kx_c1, kx_ft, kx_aI, kx_aL, kx_aR, kx_ln, Nat.reduceAdd, Option.toList, List.cons_append, List.nil_append, mW_o, mf_0, mf_31, m_108, mf_32, m_109, mf_40, m_117, mf_33, m_110, mf_34, m_111, mf_35, m_112, mf_27, m_104]
  repeat (simp only [mu_0, mW_so, ms_108, ms_109, ms_117, ms_110, ms_111, ms_112, ms_104, nI_clamp (show c < 2 ^ 31 by omega), va_us, va_upn, ne_eq, Nat.reduceEqDiff, not_false_eq_true]; try dsimp only [kx_wp, kx_step, kx_lI, kx_lL, kx_lA, kx_gl, kx_pI, kx_pL, kx_pR, kx_pA, kx_pV, kx_s1, kx_s2, kx_sl, kx_pre, kx_c2, kx_pl, kx_cmp, kx_oF, kx_eqN, kx_nil, kx_c1, kx_ft, kx_aI, kx_aL, kx_aR, kx_ln, Nat.reduceAdd, Option.toList, List.cons_append, List.nil_append, mW_o, mf_0, mf_31, m_108, mf_32, m_109, mf_40, m_117, mf_33, m_110, mf_34, m_111, mf_35, m_112, mf_27, m_104])
  repeat' apply And.intro
  all_goals try (first | with_reducible assumption | (with_reducible refine ck_nzI ?_; simp; done) | (with_reducible refine ck_nzL ?_; simp; done) | (with_reducible refine vp_in_nI ?_ ?_ <;> first | omega | decide) | (with_reducible refine Nat.le_of_ble_eq_true ?_; rfl) | omega)
  · intro zc10
    first | exact absurd rfl zc10 | exact absurd zc10 (by decide) | exact absurd (by decide) zc10 | (exfalso; ((try clear hB hC); simp only [ck_lt, ck_le, ck_eq, not_true_eq_false, not_false_eq_true, Int32.reduceToInt, Int32.reduceAdd, Int32.reduceSub, Int32.reduceMul] at * <;> omega)) | (exfalso; simp_all; done)
  · intro zc10
    have ze10 := zc10
    refine hB bX11_told_13 _ _ _ _ _ _ _ kX11_told_13 ?_
    dsimp only [bX11_told_13, kx_wp, kx_step, kx_lI, kx_lL, kx_lA, kx_gl, kx_pI, kx_pL, kx_pR, kx_pA, kx_pV, kx_s1, kx_s2, kx_sl, kx_pre, kx_c2, kx_pl, kx_cmp, kx_oF, kx_eqN, kx_nil, kx_c1, kx_ft, kx_aI, kx_aL, kx_aR, kx_ln, Nat.reduceAdd, Option.toList, List.cons_append, List.nil_append, mW_o, mf_0, mf_31, m_108, mf_32, m_109, mf_40, m_117, mf_33, m_110, mf_34, m_111, mf_35, m_112, mf_27, m_104]
    repeat (simp only [mu_0, mW_so, ms_108, ms_109, ms_117, ms_110, ms_111, ms_112, ms_104, nI_clamp (show c < 2 ^ 31 by omega), va_us, va_upn, ne_eq, Nat.reduceEqDiff, not_false_eq_true]; try dsimp only [kx_wp, kx_step, kx_lI, kx_lL, kx_lA, kx_gl, kx_pI, kx_pL, kx_pR, kx_pA, kx_pV, kx_s1, kx_s2, kx_sl, kx_pre, kx_c2, kx_pl, kx_cmp, kx_oF, kx_eqN, kx_nil, kx_c1, kx_ft, kx_aI, kx_aL, kx_aR, kx_ln, Nat.reduceAdd, Option.toList, List.cons_append, List.nil_append, mW_o, mf_0, mf_31, m_108, mf_32, m_109, mf_40, m_117, mf_33, m_110, mf_34, m_111, mf_35, m_112, mf_27, m_104])
    repeat' apply And.intro
    all_goals try (first | with_reducible assumption | (with_reducible refine ck_nzI ?_; simp; done) | (with_reducible refine ck_nzL ?_; simp; done) | (with_reducible refine vp_in_nI ?_ ?_ <;> first | omega | decide) | (with_reducible refine Nat.le_of_ble_eq_true ?_; rfl) | omega)
    refine hC.2.1 167 _ _ _ _ _ _ _ _ _ _ _ _ _ _ _ _ _ lX11_167 (ct_X11_within l G) rfl rfl (Nat.le_of_ble_eq_true rfl) (by decide) (by decide) (by omega) (by omega) dX11_told_18 ?_
    refine hB bX11_told_21 _ _ _ _ _ _ _ kX11_told_21 ?_
    dsimp only [bX11_told_21, kx_wp, kx_step, kx_lI, kx_lL, kx_lA, kx_gl, kx_pI, kx_pL, kx_pR, kx_pA, kx_pV, kx_s1, kx_s2, kx_sl, kx_pre, kx_c2, kx_pl, kx_cmp, kx_oF, kx_eqN, kx_nil, kx_c1, kx_ft, kx_aI, kx_aL, kx_aR, kx_ln, Nat.reduceAdd, Option.toList, List.cons_append, List.nil_append, mW_o, mf_0, mf_31, m_108, mf_32, m_109, mf_40, m_117, mf_33, m_110, mf_34, m_111, mf_35, m_112, mf_27, m_104]
    repeat (simp only [mu_0, mW_so, ms_108, ms_109, ms_117, ms_110, ms_111, ms_112, ms_104, nI_clamp (show c < 2 ^ 31 by omega), va_us, va_upn, ne_eq, Nat.reduceEqDiff, not_false_eq_true]; try dsimp only [kx_wp, kx_step, kx_lI, kx_lL, kx_lA, kx_gl, kx_pI, kx_pL, kx_pR, kx_pA, kx_pV, kx_s1, kx_s2, kx_sl, kx_pre, kx_c2, kx_pl, kx_cmp, kx_oF, kx_eqN, kx_nil, kx_c1, kx_ft, kx_aI, kx_aL, kx_aR, kx_ln, Nat.reduceAdd, Option.toList, List.cons_append, List.nil_append, mW_o, mf_0, mf_31, m_108, mf_32, m_109, mf_40, m_117, mf_33, m_110, mf_34, m_111, mf_35, m_112, mf_27, m_104])
    repeat' apply And.intro
    all_goals try (first | with_reducible assumption | (with_reducible refine ck_nzI ?_; simp; done) | (with_reducible refine ck_nzL ?_; simp; done) | (with_reducible refine vp_in_nI ?_ ?_ <;> first | omega | decide) | (with_reducible refine Nat.le_of_ble_eq_true ?_; rfl) | omega)
    rw [if_pos (by decide)]
    refine hC.1 171 _ _ _ _ _ _ _ 11 _ _ _ _ _ _ _ _ _ _ _ _ lX11_171 (ct_X11_may_t l G (M := upd M 0 0) rfl) ⟨by decide, rfl⟩ (mW_o) rfl rfl (Nat.le_of_ble_eq_true rfl) (by decide) (by decide) (by omega) (by omega) dX11_told_22 ?_
    refine hB bX11_told_25 _ _ _ _ _ _ _ kX11_told_25 ?_
    dsimp only [bX11_told_25, kx_wp, kx_step, kx_lI, kx_lL, kx_lA, kx_gl, kx_pI, kx_pL, kx_pR, kx_pA, kx_pV, kx_s1, kx_s2, kx_sl, kx_pre, kx_c2, kx_pl, kx_cmp, kx_oF, kx_eqN, kx_nil, kx_c1, kx_ft, kx_aI, kx_aL, kx_aR, kx_ln, Nat.reduceAdd, Option.toList, List.cons_append, List.nil_append, mW_o, mf_0, mf_31, m_108, mf_32, m_109, mf_40, m_117, mf_33, m_110, mf_34, m_111, mf_35, m_112, mf_27, m_104]
    repeat (simp only [mu_0, mW_so, ms_108, ms_109, ms_117, ms_110, ms_111, ms_112, ms_104, nI_clamp (show c < 2 ^ 31 by omega), va_us, va_upn, ne_eq, Nat.reduceEqDiff, not_false_eq_true]; try dsimp only [kx_wp, kx_step, kx_lI, kx_lL, kx_lA, kx_gl, kx_pI, kx_pL, kx_pR, kx_pA, kx_pV, kx_s1, kx_s2, kx_sl, kx_pre, kx_c2, kx_pl, kx_cmp, kx_oF, kx_eqN, kx_nil, kx_c1, kx_ft, kx_aI, kx_aL, kx_aR, kx_ln, Nat.reduceAdd, Option.toList, List.cons_append, List.nil_append, mW_o, mf_0, mf_31, m_108, mf_32, m_109, mf_40, m_117, mf_33, m_110, mf_34, m_111, mf_35, m_112, mf_27, m_104])
    repeat' apply And.intro
    all_goals try (first | with_reducible assumption | (with_reducible refine ck_nzI ?_; simp; done) | (with_reducible refine ck_nzL ?_; simp; done) | (with_reducible refine vp_in_nI ?_ ?_ <;> first | omega | decide) | (with_reducible refine Nat.le_of_ble_eq_true ?_; rfl) | omega)
    · intro zc25
      have ze25 := zc25
      refine hB bX11_told_30 _ _ _ _ _ _ _ kX11_told_30 ?_
      dsimp only [bX11_told_30, kx_wp, kx_step, kx_lI, kx_lL, kx_lA, kx_gl, kx_pI, kx_pL, kx_pR, kx_pA, kx_pV, kx_s1, kx_s2, kx_sl, kx_pre, kx_c2, kx_pl, kx_cmp, kx_oF, kx_eqN, kx_nil, kx_c1, kx_ft, kx_aI, kx_aL, kx_aR, kx_ln, Nat.reduceAdd, Option.toList, List.cons_append, List.nil_append, mW_o, mf_0, mf_31, m_108, mf_32, m_109, mf_40, m_117, mf_33, m_110, mf_34, m_111, mf_35, m_112, mf_27, m_104]
      repeat (simp only [mu_0, mW_so, ms_108, ms_109, ms_117, ms_110, ms_111, ms_112, ms_104, nI_clamp (show c < 2 ^ 31 by omega), va_us, va_upn, ne_eq, Nat.reduceEqDiff, not_false_eq_true]; try dsimp only [kx_wp, kx_step, kx_lI, kx_lL, kx_lA, kx_gl, kx_pI, kx_pL, kx_pR, kx_pA, kx_pV, kx_s1, kx_s2, kx_sl, kx_pre, kx_c2, kx_pl, kx_cmp, kx_oF, kx_eqN, kx_nil, kx_c1, kx_ft, kx_aI, kx_aL, kx_aR, kx_ln, Nat.reduceAdd, Option.toList, List.cons_append, List.nil_append, mW_o, mf_0, mf_31, m_108, mf_32, m_109, mf_40, m_117, mf_33, m_110, mf_34, m_111, mf_35, m_112, mf_27, m_104])
      repeat' apply And.intro
      all_goals try (first | with_reducible assumption | (with_reducible refine ck_nzI ?_; simp; done) | (with_reducible refine ck_nzL ?_; simp; done) | (with_reducible refine vp_in_nI ?_ ?_ <;> first | omega | decide) | (with_reducible refine Nat.le_of_ble_eq_true ?_; rfl) | omega)
      · exact fun zc31 => absurd zc31 (by decide)
      refine kx_sw (ws := [76, 83, 90, 110, 117, 124, 139, 168]) rfl ?_
      dsimp only [kx_swl]
      refine ⟨fun zc31_0 => ?_, fun zc31_1 => absurd zc31_1 (by decide), fun zc31_2 => absurd zc31_2 (by decide), fun zc31_3 => absurd zc31_3 (by decide), fun zc31_4 => absurd zc31_4 (by decide), fun zc31_5 => absurd zc31_5 (by decide), fun zc31_6 => absurd zc31_6 (by decide), fun zc31_7 => absurd zc31_7 (by decide), trivial⟩
      refine hB bX11_told_76 _ _ _ _ _ _ _ kX11_told_76 ?_
      dsimp only [bX11_told_76, kx_wp, kx_step, kx_lI, kx_lL, kx_lA, kx_gl, kx_pI, kx_pL, kx_pR, kx_pA, kx_pV, kx_s1, kx_s2, kx_sl, kx_pre, kx_c2, kx_pl, kx_cmp, kx_oF, kx_eqN, kx_nil, kx_c1, kx_ft, kx_aI, kx_aL, kx_aR, kx_ln, Nat.reduceAdd, Option.toList, List.cons_append, List.nil_append, mW_o, mf_0, mf_31, m_108, mf_32, m_109, mf_40, m_117, mf_33, m_110, mf_34, m_111, mf_35, m_112, mf_27, m_104]
      repeat (simp only [mu_0, mW_so, ms_108, ms_109, ms_117, ms_110, ms_111, ms_112, ms_104, nI_clamp (show c < 2 ^ 31 by omega), va_us, va_upn, ne_eq, Nat.reduceEqDiff, not_false_eq_true]; try dsimp only [kx_wp, kx_step, kx_lI, kx_lL, kx_lA, kx_gl, kx_pI, kx_pL, kx_pR, kx_pA, kx_pV, kx_s1, kx_s2, kx_sl, kx_pre, kx_c2, kx_pl, kx_cmp, kx_oF, kx_eqN, kx_nil, kx_c1, kx_ft, kx_aI, kx_aL, kx_aR, kx_ln, Nat.reduceAdd, Option.toList, List.cons_append, List.nil_append, mW_o, mf_0, mf_31, m_108, mf_32, m_109, mf_40, m_117, mf_33, m_110, mf_34, m_111, mf_35, m_112, mf_27, m_104])
      all_goals (repeat' apply And.intro)
      all_goals ((try clear hB hC); first | exact True.intro | with_reducible rfl | with_reducible assumption | (with_reducible refine vp_in_nI ?_ ?_ <;> first | omega | decide) | exact Nat.le_of_ble_eq_true rfl | (with_reducible refine ck_nzI ?_; simp; done) | (with_reducible refine ck_nzL ?_; simp; done) | (simp only [pk_us, pk_uLs, ze10, ze25, ↓reduceIte, not_true_eq_false, not_false_eq_true]; done) | (simp only [ze10, ze25, ↓reduceIte, not_true_eq_false, not_false_eq_true]; with_reducible rfl) | skip)
    · intro zc25
      first | exact absurd rfl zc25 | exact absurd zc25 (by decide) | exact absurd (by decide) zc25 | (exfalso; ((try clear hB hC); simp only [ck_lt, ck_le, ck_eq, not_true_eq_false, not_false_eq_true, Int32.reduceToInt, Int32.reduceAdd, Int32.reduceSub, Int32.reduceMul] at * <;> omega)) | (exfalso; simp_all; done)

set_option maxRecDepth 100000 in
set_option maxHeartbeats 4000000 in
theorem ct_X11_told_1 (l : Launch) (G : kx_G) {M : Nat → Int32} {A : Nat → Nat → Int32} {L : Nat → Nat → Int64} {R : kx_P} {sz : Nat} {cl c : Nat} (h21 : M 21 = nI cl) (hcl : cl ≤ 8) (hc : c < cl)  : kx_M l G sX11_told 4 0 0 [.ref 93, .int (nI c), .int (1)] (mW M A L R) sz (some (.int (A 109 c))) (mW (upd M 0 0) A L R) sz := by
  refine kx_mk kx_tab kxLok_X11 (ini := false) [some (.ref 93), some (.int (nI c)), some (.int (1))] ⟨by decide, rfl, by decide, by decide⟩ (⟨_, rfl⟩) rfl rfl (fun g hB hC => ?_)
  refine hB bX11_told_0 _ _ _ _ _ _ _ kX11_told_0 ?_
  dsimp only [bX11_told_0, kx_wp, kx_step, kx_lI, kx_lL, kx_lA, kx_gl, kx_pI, kx_pL, kx_pR, kx_pA, kx_pV, kx_s1, kx_s2, kx_sl, kx_pre, kx_c2, kx_pl, kx_cmp, kx_oF, kx_eqN, kx_nil, kx_c1, kx_ft, kx_aI, kx_aL, kx_aR, kx_ln, Nat.reduceAdd, Option.toList, List.cons_append, List.nil_append, mW_o, mf_0, mf_31, m_108, mf_32, m_109, mf_40, m_117, mf_33, m_110, mf_34, m_111, mf_35, m_112, mf_27, m_104]
  repeat (simp only [mu_0, mW_so, ms_108, ms_109, ms_117, ms_110, ms_111, ms_112, ms_104, nI_clamp (show c < 2 ^ 31 by omega), va_us, va_upn, ne_eq, Nat.reduceEqDiff, not_false_eq_true]; try dsimp only [kx_wp, kx_step, kx_lI, kx_lL, kx_lA, kx_gl, kx_pI, kx_pL, kx_pR, kx_pA, kx_pV, kx_s1, kx_s2, kx_sl, kx_pre, kx_c2, kx_pl, kx_cmp, kx_oF, kx_eqN, kx_nil, kx_c1, kx_ft, kx_aI, kx_aL, kx_aR, kx_ln, Nat.reduceAdd, Option.toList, List.cons_append, List.nil_append, mW_o, mf_0, mf_31, m_108, mf_32, m_109, mf_40, m_117, mf_33, m_110, mf_34, m_111, mf_35, m_112, mf_27, m_104])
  repeat' apply And.intro
  all_goals try (first | with_reducible assumption | (with_reducible refine ck_nzI ?_; simp; done) | (with_reducible refine ck_nzL ?_; simp; done) | (with_reducible refine vp_in_nI ?_ ?_ <;> first | omega | decide) | (with_reducible refine Nat.le_of_ble_eq_true ?_; rfl) | omega)
  refine hC.1 358 _ _ _ _ _ _ _ 11 _ _ _ _ _ _ _ _ _ _ _ _ lX11_358 (ct_X11_isClock_t l G (M := upd M 0 0) h21 hcl hc rfl) ⟨by decide, rfl⟩ (mW_o) rfl rfl (Nat.le_of_ble_eq_true rfl) (by decide) (by decide) (by omega) (by omega) dX11_told_7 ?_
  refine hB bX11_told_10 _ _ _ _ _ _ _ kX11_told_10 ?_
  dsimp only [bX11_told_10, kx_wp, kx_step, kx_lI, kx_lL, kx_lA, kx_gl, kx_pI, kx_pL, kx_pR, kx_pA, kx_pV, kx_s1, kx_s2, kx_sl, kx_pre, kx_c2, kx_pl, kx_cmp, kx_oF, kx_eqN, kx_nil, kx_c1, kx_ft, kx_aI, kx_aL, kx_aR, kx_ln, Nat.reduceAdd, Option.toList, List.cons_append, List.nil_append, mW_o, mf_0, mf_31, m_108, mf_32, m_109, mf_40, m_117, mf_33, m_110, mf_34, m_111, mf_35, m_112, mf_27, m_104]
  repeat (simp only [mu_0, mW_so, ms_108, ms_109, ms_117, ms_110, ms_111, ms_112, ms_104, nI_clamp (show c < 2 ^ 31 by omega), va_us, va_upn, ne_eq, Nat.reduceEqDiff, not_false_eq_true]; try dsimp only [kx_wp, kx_step, kx_lI, kx_lL, kx_lA, kx_gl, kx_pI, kx_pL, kx_pR, kx_pA, kx_pV, kx_s1, kx_s2, kx_sl, kx_pre, kx_c2, kx_pl, kx_cmp, kx_oF, kx_eqN, kx_nil, kx_c1, kx_ft, kx_aI, kx_aL, kx_aR, kx_ln, Nat.reduceAdd, Option.toList, List.cons_append, List.nil_append, mW_o, mf_0, mf_31, m_108, mf_32, m_109, mf_40, m_117, mf_33, m_110, mf_34, m_111, mf_35, m_112, mf_27, m_104])
  repeat' apply And.intro
  all_goals try (first | with_reducible assumption | (with_reducible refine ck_nzI ?_; simp; done) | (with_reducible refine ck_nzL ?_; simp; done) | (with_reducible refine vp_in_nI ?_ ?_ <;> first | omega | decide) | (with_reducible refine Nat.le_of_ble_eq_true ?_; rfl) | omega)
  · intro zc10
    first | exact absurd rfl zc10 | exact absurd zc10 (by decide) | exact absurd (by decide) zc10 | (exfalso; ((try clear hB hC); simp only [ck_lt, ck_le, ck_eq, not_true_eq_false, not_false_eq_true, Int32.reduceToInt, Int32.reduceAdd, Int32.reduceSub, Int32.reduceMul] at * <;> omega)) | (exfalso; simp_all; done)
  · intro zc10
    have ze10 := zc10
    refine hB bX11_told_13 _ _ _ _ _ _ _ kX11_told_13 ?_
    dsimp only [bX11_told_13, kx_wp, kx_step, kx_lI, kx_lL, kx_lA, kx_gl, kx_pI, kx_pL, kx_pR, kx_pA, kx_pV, kx_s1, kx_s2, kx_sl, kx_pre, kx_c2, kx_pl, kx_cmp, kx_oF, kx_eqN, kx_nil, kx_c1, kx_ft, kx_aI, kx_aL, kx_aR, kx_ln, Nat.reduceAdd, Option.toList, List.cons_append, List.nil_append, mW_o, mf_0, mf_31, m_108, mf_32, m_109, mf_40, m_117, mf_33, m_110, mf_34, m_111, mf_35, m_112, mf_27, m_104]
    repeat (simp only [mu_0, mW_so, ms_108, ms_109, ms_117, ms_110, ms_111, ms_112, ms_104, nI_clamp (show c < 2 ^ 31 by omega), va_us, va_upn, ne_eq, Nat.reduceEqDiff, not_false_eq_true]; try dsimp only [kx_wp, kx_step, kx_lI, kx_lL, kx_lA, kx_gl, kx_pI, kx_pL, kx_pR, kx_pA, kx_pV, kx_s1, kx_s2, kx_sl, kx_pre, kx_c2, kx_pl, kx_cmp, kx_oF, kx_eqN, kx_nil, kx_c1, kx_ft, kx_aI, kx_aL, kx_aR, kx_ln, Nat.reduceAdd, Option.toList, List.cons_append, List.nil_append, mW_o, mf_0, mf_31, m_108, mf_32, m_109, mf_40, m_117, mf_33, m_110, mf_34, m_111, mf_35, m_112, mf_27, m_104])
    repeat' apply And.intro
    all_goals try (first | with_reducible assumption | (with_reducible refine ck_nzI ?_; simp; done) | (with_reducible refine ck_nzL ?_; simp; done) | (with_reducible refine vp_in_nI ?_ ?_ <;> first | omega | decide) | (with_reducible refine Nat.le_of_ble_eq_true ?_; rfl) | omega)
    refine hC.2.1 167 _ _ _ _ _ _ _ _ _ _ _ _ _ _ _ _ _ lX11_167 (ct_X11_within l G) rfl rfl (Nat.le_of_ble_eq_true rfl) (by decide) (by decide) (by omega) (by omega) dX11_told_18 ?_
    refine hB bX11_told_21 _ _ _ _ _ _ _ kX11_told_21 ?_
    dsimp only [bX11_told_21, kx_wp, kx_step, kx_lI, kx_lL, kx_lA, kx_gl, kx_pI, kx_pL, kx_pR, kx_pA, kx_pV, kx_s1, kx_s2, kx_sl, kx_pre, kx_c2, kx_pl, kx_cmp, kx_oF, kx_eqN, kx_nil, kx_c1, kx_ft, kx_aI, kx_aL, kx_aR, kx_ln, Nat.reduceAdd, Option.toList, List.cons_append, List.nil_append, mW_o, mf_0, mf_31, m_108, mf_32, m_109, mf_40, m_117, mf_33, m_110, mf_34, m_111, mf_35, m_112, mf_27, m_104]
    repeat (simp only [mu_0, mW_so, ms_108, ms_109, ms_117, ms_110, ms_111, ms_112, ms_104, nI_clamp (show c < 2 ^ 31 by omega), va_us, va_upn, ne_eq, Nat.reduceEqDiff, not_false_eq_true]; try dsimp only [kx_wp, kx_step, kx_lI, kx_lL, kx_lA, kx_gl, kx_pI, kx_pL, kx_pR, kx_pA, kx_pV, kx_s1, kx_s2, kx_sl, kx_pre, kx_c2, kx_pl, kx_cmp, kx_oF, kx_eqN, kx_nil, kx_c1, kx_ft, kx_aI, kx_aL, kx_aR, kx_ln, Nat.reduceAdd, Option.toList, List.cons_append, List.nil_append, mW_o, mf_0, mf_31, m_108, mf_32, m_109, mf_40, m_117, mf_33, m_110, mf_34, m_111, mf_35, m_112, mf_27, m_104])
    repeat' apply And.intro
    all_goals try (first | with_reducible assumption | (with_reducible refine ck_nzI ?_; simp; done) | (with_reducible refine ck_nzL ?_; simp; done) | (with_reducible refine vp_in_nI ?_ ?_ <;> first | omega | decide) | (with_reducible refine Nat.le_of_ble_eq_true ?_; rfl) | omega)
    rw [if_pos (by decide)]
    refine hC.1 171 _ _ _ _ _ _ _ 11 _ _ _ _ _ _ _ _ _ _ _ _ lX11_171 (ct_X11_may_t l G (M := upd M 0 0) rfl) ⟨by decide, rfl⟩ (mW_o) rfl rfl (Nat.le_of_ble_eq_true rfl) (by decide) (by decide) (by omega) (by omega) dX11_told_22 ?_
    refine hB bX11_told_25 _ _ _ _ _ _ _ kX11_told_25 ?_
    dsimp only [bX11_told_25, kx_wp, kx_step, kx_lI, kx_lL, kx_lA, kx_gl, kx_pI, kx_pL, kx_pR, kx_pA, kx_pV, kx_s1, kx_s2, kx_sl, kx_pre, kx_c2, kx_pl, kx_cmp, kx_oF, kx_eqN, kx_nil, kx_c1, kx_ft, kx_aI, kx_aL, kx_aR, kx_ln, Nat.reduceAdd, Option.toList, List.cons_append, List.nil_append, mW_o, mf_0, mf_31, m_108, mf_32, m_109, mf_40, m_117, mf_33, m_110, mf_34, m_111, mf_35, m_112, mf_27, m_104]
    repeat (simp only [mu_0, mW_so, ms_108, ms_109, ms_117, ms_110, ms_111, ms_112, ms_104, nI_clamp (show c < 2 ^ 31 by omega), va_us, va_upn, ne_eq, Nat.reduceEqDiff, not_false_eq_true]; try dsimp only [kx_wp, kx_step, kx_lI, kx_lL, kx_lA, kx_gl, kx_pI, kx_pL, kx_pR, kx_pA, kx_pV, kx_s1, kx_s2, kx_sl, kx_pre, kx_c2, kx_pl, kx_cmp, kx_oF, kx_eqN, kx_nil, kx_c1, kx_ft, kx_aI, kx_aL, kx_aR, kx_ln, Nat.reduceAdd, Option.toList, List.cons_append, List.nil_append, mW_o, mf_0, mf_31, m_108, mf_32, m_109, mf_40, m_117, mf_33, m_110, mf_34, m_111, mf_35, m_112, mf_27, m_104])
    repeat' apply And.intro
    all_goals try (first | with_reducible assumption | (with_reducible refine ck_nzI ?_; simp; done) | (with_reducible refine ck_nzL ?_; simp; done) | (with_reducible refine vp_in_nI ?_ ?_ <;> first | omega | decide) | (with_reducible refine Nat.le_of_ble_eq_true ?_; rfl) | omega)
    · intro zc25
      have ze25 := zc25
      refine hB bX11_told_30 _ _ _ _ _ _ _ kX11_told_30 ?_
      dsimp only [bX11_told_30, kx_wp, kx_step, kx_lI, kx_lL, kx_lA, kx_gl, kx_pI, kx_pL, kx_pR, kx_pA, kx_pV, kx_s1, kx_s2, kx_sl, kx_pre, kx_c2, kx_pl, kx_cmp, kx_oF, kx_eqN, kx_nil, kx_c1, kx_ft, kx_aI, kx_aL, kx_aR, kx_ln, Nat.reduceAdd, Option.toList, List.cons_append, List.nil_append, mW_o, mf_0, mf_31, m_108, mf_32, m_109, mf_40, m_117, mf_33, m_110, mf_34, m_111, mf_35, m_112, mf_27, m_104]
      repeat (simp only [mu_0, mW_so, ms_108, ms_109, ms_117, ms_110, ms_111, ms_112, ms_104, nI_clamp (show c < 2 ^ 31 by omega), va_us, va_upn, ne_eq, Nat.reduceEqDiff, not_false_eq_true]; try dsimp only [kx_wp, kx_step, kx_lI, kx_lL, kx_lA, kx_gl, kx_pI, kx_pL, kx_pR, kx_pA, kx_pV, kx_s1, kx_s2, kx_sl, kx_pre, kx_c2, kx_pl, kx_cmp, kx_oF, kx_eqN, kx_nil, kx_c1, kx_ft, kx_aI, kx_aL, kx_aR, kx_ln, Nat.reduceAdd, Option.toList, List.cons_append, List.nil_append, mW_o, mf_0, mf_31, m_108, mf_32, m_109, mf_40, m_117, mf_33, m_110, mf_34, m_111, mf_35, m_112, mf_27, m_104])
      repeat' apply And.intro
      all_goals try (first | with_reducible assumption | (with_reducible refine ck_nzI ?_; simp; done) | (with_reducible refine ck_nzL ?_; simp; done) | (with_reducible refine vp_in_nI ?_ ?_ <;> first | omega | decide) | (with_reducible refine Nat.le_of_ble_eq_true ?_; rfl) | omega)
      · exact fun zc31 => absurd zc31 (by decide)
      refine kx_sw (ws := [76, 83, 90, 110, 117, 124, 139, 168]) rfl ?_
      dsimp only [kx_swl]
      refine ⟨fun zc31_0 => absurd zc31_0 (by decide), fun zc31_1 => ?_, fun zc31_2 => absurd zc31_2 (by decide), fun zc31_3 => absurd zc31_3 (by decide), fun zc31_4 => absurd zc31_4 (by decide), fun zc31_5 => absurd zc31_5 (by decide), fun zc31_6 => absurd zc31_6 (by decide), fun zc31_7 => absurd zc31_7 (by decide), trivial⟩
      refine hB bX11_told_83 _ _ _ _ _ _ _ kX11_told_83 ?_
      dsimp only [bX11_told_83, kx_wp, kx_step, kx_lI, kx_lL, kx_lA, kx_gl, kx_pI, kx_pL, kx_pR, kx_pA, kx_pV, kx_s1, kx_s2, kx_sl, kx_pre, kx_c2, kx_pl, kx_cmp, kx_oF, kx_eqN, kx_nil, kx_c1, kx_ft, kx_aI, kx_aL, kx_aR, kx_ln, Nat.reduceAdd, Option.toList, List.cons_append, List.nil_append, mW_o, mf_0, mf_31, m_108, mf_32, m_109, mf_40, m_117, mf_33, m_110, mf_34, m_111, mf_35, m_112, mf_27, m_104]
      repeat (simp only [mu_0, mW_so, ms_108, ms_109, ms_117, ms_110, ms_111, ms_112, ms_104, nI_clamp (show c < 2 ^ 31 by omega), va_us, va_upn, ne_eq, Nat.reduceEqDiff, not_false_eq_true]; try dsimp only [kx_wp, kx_step, kx_lI, kx_lL, kx_lA, kx_gl, kx_pI, kx_pL, kx_pR, kx_pA, kx_pV, kx_s1, kx_s2, kx_sl, kx_pre, kx_c2, kx_pl, kx_cmp, kx_oF, kx_eqN, kx_nil, kx_c1, kx_ft, kx_aI, kx_aL, kx_aR, kx_ln, Nat.reduceAdd, Option.toList, List.cons_append, List.nil_append, mW_o, mf_0, mf_31, m_108, mf_32, m_109, mf_40, m_117, mf_33, m_110, mf_34, m_111, mf_35, m_112, mf_27, m_104])
      all_goals (repeat' apply And.intro)
      all_goals ((try clear hB hC); first | exact True.intro | with_reducible rfl | with_reducible assumption | (with_reducible refine vp_in_nI ?_ ?_ <;> first | omega | decide) | exact Nat.le_of_ble_eq_true rfl | (with_reducible refine ck_nzI ?_; simp; done) | (with_reducible refine ck_nzL ?_; simp; done) | (simp only [pk_us, pk_uLs, ze10, ze25, ↓reduceIte, not_true_eq_false, not_false_eq_true]; done) | (simp only [ze10, ze25, ↓reduceIte, not_true_eq_false, not_false_eq_true]; with_reducible rfl) | skip)
    · intro zc25
      first | exact absurd rfl zc25 | exact absurd zc25 (by decide) | exact absurd (by decide) zc25 | (exfalso; ((try clear hB hC); simp only [ck_lt, ck_le, ck_eq, not_true_eq_false, not_false_eq_true, Int32.reduceToInt, Int32.reduceAdd, Int32.reduceSub, Int32.reduceMul] at * <;> omega)) | (exfalso; simp_all; done)

set_option maxRecDepth 100000 in
set_option maxHeartbeats 4000000 in
theorem ct_X11_told_2 (l : Launch) (G : kx_G) {M : Nat → Int32} {A : Nat → Nat → Int32} {L : Nat → Nat → Int64} {R : kx_P} {sz : Nat} {cl c : Nat} (h21 : M 21 = nI cl) (hcl : cl ≤ 8) (hc : c < cl)  : kx_M l G sX11_told 4 0 0 [.ref 93, .int (nI c), .int (2)] (mW M A L R) sz (some (.int (if A 117 c = 0 then -1 else A 110 c))) (mW (upd M 0 0) A L R) sz := by
  refine kx_mk kx_tab kxLok_X11 (ini := false) [some (.ref 93), some (.int (nI c)), some (.int (2))] ⟨by decide, rfl, by decide, by decide⟩ (⟨_, rfl⟩) rfl rfl (fun g hB hC => ?_)
  refine hB bX11_told_0 _ _ _ _ _ _ _ kX11_told_0 ?_
  dsimp only [bX11_told_0, kx_wp, kx_step, kx_lI, kx_lL, kx_lA, kx_gl, kx_pI, kx_pL, kx_pR, kx_pA, kx_pV, kx_s1, kx_s2, kx_sl, kx_pre, kx_c2, kx_pl, kx_cmp, kx_oF, kx_eqN, kx_nil, kx_c1, kx_ft, kx_aI, kx_aL, kx_aR, kx_ln, Nat.reduceAdd, Option.toList, List.cons_append, List.nil_append, mW_o, mf_0, mf_31, m_108, mf_32, m_109, mf_40, m_117, mf_33, m_110, mf_34, m_111, mf_35, m_112, mf_27, m_104]
  repeat (simp only [mu_0, mW_so, ms_108, ms_109, ms_117, ms_110, ms_111, ms_112, ms_104, nI_clamp (show c < 2 ^ 31 by omega), va_us, va_upn, ne_eq, Nat.reduceEqDiff, not_false_eq_true]; try dsimp only [kx_wp, kx_step, kx_lI, kx_lL, kx_lA, kx_gl, kx_pI, kx_pL, kx_pR, kx_pA, kx_pV, kx_s1, kx_s2, kx_sl, kx_pre, kx_c2, kx_pl, kx_cmp, kx_oF, kx_eqN, kx_nil, kx_c1, kx_ft, kx_aI, kx_aL, kx_aR, kx_ln, Nat.reduceAdd, Option.toList, List.cons_append, List.nil_append, mW_o, mf_0, mf_31, m_108, mf_32, m_109, mf_40, m_117, mf_33, m_110, mf_34, m_111, mf_35, m_112, mf_27, m_104])
  repeat' apply And.intro
  all_goals try (first | with_reducible assumption | (with_reducible refine ck_nzI ?_; simp; done) | (with_reducible refine ck_nzL ?_; simp; done) | (with_reducible refine vp_in_nI ?_ ?_ <;> first | omega | decide) | (with_reducible refine Nat.le_of_ble_eq_true ?_; rfl) | omega)
  refine hC.1 358 _ _ _ _ _ _ _ 11 _ _ _ _ _ _ _ _ _ _ _ _ lX11_358 (ct_X11_isClock_t l G (M := upd M 0 0) h21 hcl hc rfl) ⟨by decide, rfl⟩ (mW_o) rfl rfl (Nat.le_of_ble_eq_true rfl) (by decide) (by decide) (by omega) (by omega) dX11_told_7 ?_
  refine hB bX11_told_10 _ _ _ _ _ _ _ kX11_told_10 ?_
  dsimp only [bX11_told_10, kx_wp, kx_step, kx_lI, kx_lL, kx_lA, kx_gl, kx_pI, kx_pL, kx_pR, kx_pA, kx_pV, kx_s1, kx_s2, kx_sl, kx_pre, kx_c2, kx_pl, kx_cmp, kx_oF, kx_eqN, kx_nil, kx_c1, kx_ft, kx_aI, kx_aL, kx_aR, kx_ln, Nat.reduceAdd, Option.toList, List.cons_append, List.nil_append, mW_o, mf_0, mf_31, m_108, mf_32, m_109, mf_40, m_117, mf_33, m_110, mf_34, m_111, mf_35, m_112, mf_27, m_104]
  repeat (simp only [mu_0, mW_so, ms_108, ms_109, ms_117, ms_110, ms_111, ms_112, ms_104, nI_clamp (show c < 2 ^ 31 by omega), va_us, va_upn, ne_eq, Nat.reduceEqDiff, not_false_eq_true]; try dsimp only [kx_wp, kx_step, kx_lI, kx_lL, kx_lA, kx_gl, kx_pI, kx_pL, kx_pR, kx_pA, kx_pV, kx_s1, kx_s2, kx_sl, kx_pre, kx_c2, kx_pl, kx_cmp, kx_oF, kx_eqN, kx_nil, kx_c1, kx_ft, kx_aI, kx_aL, kx_aR, kx_ln, Nat.reduceAdd, Option.toList, List.cons_append, List.nil_append, mW_o, mf_0, mf_31, m_108, mf_32, m_109, mf_40, m_117, mf_33, m_110, mf_34, m_111, mf_35, m_112, mf_27, m_104])
  repeat' apply And.intro
  all_goals try (first | with_reducible assumption | (with_reducible refine ck_nzI ?_; simp; done) | (with_reducible refine ck_nzL ?_; simp; done) | (with_reducible refine vp_in_nI ?_ ?_ <;> first | omega | decide) | (with_reducible refine Nat.le_of_ble_eq_true ?_; rfl) | omega)
  · intro zc10
    first | exact absurd rfl zc10 | exact absurd zc10 (by decide) | exact absurd (by decide) zc10 | (exfalso; ((try clear hB hC); simp only [ck_lt, ck_le, ck_eq, not_true_eq_false, not_false_eq_true, Int32.reduceToInt, Int32.reduceAdd, Int32.reduceSub, Int32.reduceMul] at * <;> omega)) | (exfalso; simp_all; done)
  · intro zc10
    have ze10 := zc10
    refine hB bX11_told_13 _ _ _ _ _ _ _ kX11_told_13 ?_
    dsimp only [bX11_told_13, kx_wp, kx_step, kx_lI, kx_lL, kx_lA, kx_gl, kx_pI, kx_pL, kx_pR, kx_pA, kx_pV, kx_s1, kx_s2, kx_sl, kx_pre, kx_c2, kx_pl, kx_cmp, kx_oF, kx_eqN, kx_nil, kx_c1, kx_ft, kx_aI, kx_aL, kx_aR, kx_ln, Nat.reduceAdd, Option.toList, List.cons_append, List.nil_append, mW_o, mf_0, mf_31, m_108, mf_32, m_109, mf_40, m_117, mf_33, m_110, mf_34, m_111, mf_35, m_112, mf_27, m_104]
    repeat (simp only [mu_0, mW_so, ms_108, ms_109, ms_117, ms_110, ms_111, ms_112, ms_104, nI_clamp (show c < 2 ^ 31 by omega), va_us, va_upn, ne_eq, Nat.reduceEqDiff, not_false_eq_true]; try dsimp only [kx_wp, kx_step, kx_lI, kx_lL, kx_lA, kx_gl, kx_pI, kx_pL, kx_pR, kx_pA, kx_pV, kx_s1, kx_s2, kx_sl, kx_pre, kx_c2, kx_pl, kx_cmp, kx_oF, kx_eqN, kx_nil, kx_c1, kx_ft, kx_aI, kx_aL, kx_aR, kx_ln, Nat.reduceAdd, Option.toList, List.cons_append, List.nil_append, mW_o, mf_0, mf_31, m_108, mf_32, m_109, mf_40, m_117, mf_33, m_110, mf_34, m_111, mf_35, m_112, mf_27, m_104])
    repeat' apply And.intro
    all_goals try (first | with_reducible assumption | (with_reducible refine ck_nzI ?_; simp; done) | (with_reducible refine ck_nzL ?_; simp; done) | (with_reducible refine vp_in_nI ?_ ?_ <;> first | omega | decide) | (with_reducible refine Nat.le_of_ble_eq_true ?_; rfl) | omega)
    refine hC.2.1 167 _ _ _ _ _ _ _ _ _ _ _ _ _ _ _ _ _ lX11_167 (ct_X11_within l G) rfl rfl (Nat.le_of_ble_eq_true rfl) (by decide) (by decide) (by omega) (by omega) dX11_told_18 ?_
    refine hB bX11_told_21 _ _ _ _ _ _ _ kX11_told_21 ?_
    dsimp only [bX11_told_21, kx_wp, kx_step, kx_lI, kx_lL, kx_lA, kx_gl, kx_pI, kx_pL, kx_pR, kx_pA, kx_pV, kx_s1, kx_s2, kx_sl, kx_pre, kx_c2, kx_pl, kx_cmp, kx_oF, kx_eqN, kx_nil, kx_c1, kx_ft, kx_aI, kx_aL, kx_aR, kx_ln, Nat.reduceAdd, Option.toList, List.cons_append, List.nil_append, mW_o, mf_0, mf_31, m_108, mf_32, m_109, mf_40, m_117, mf_33, m_110, mf_34, m_111, mf_35, m_112, mf_27, m_104]
    repeat (simp only [mu_0, mW_so, ms_108, ms_109, ms_117, ms_110, ms_111, ms_112, ms_104, nI_clamp (show c < 2 ^ 31 by omega), va_us, va_upn, ne_eq, Nat.reduceEqDiff, not_false_eq_true]; try dsimp only [kx_wp, kx_step, kx_lI, kx_lL, kx_lA, kx_gl, kx_pI, kx_pL, kx_pR, kx_pA, kx_pV, kx_s1, kx_s2, kx_sl, kx_pre, kx_c2, kx_pl, kx_cmp, kx_oF, kx_eqN, kx_nil, kx_c1, kx_ft, kx_aI, kx_aL, kx_aR, kx_ln, Nat.reduceAdd, Option.toList, List.cons_append, List.nil_append, mW_o, mf_0, mf_31, m_108, mf_32, m_109, mf_40, m_117, mf_33, m_110, mf_34, m_111, mf_35, m_112, mf_27, m_104])
    repeat' apply And.intro
    all_goals try (first | with_reducible assumption | (with_reducible refine ck_nzI ?_; simp; done) | (with_reducible refine ck_nzL ?_; simp; done) | (with_reducible refine vp_in_nI ?_ ?_ <;> first | omega | decide) | (with_reducible refine Nat.le_of_ble_eq_true ?_; rfl) | omega)
    rw [if_pos (by decide)]
    refine hC.1 171 _ _ _ _ _ _ _ 11 _ _ _ _ _ _ _ _ _ _ _ _ lX11_171 (ct_X11_may_t l G (M := upd M 0 0) rfl) ⟨by decide, rfl⟩ (mW_o) rfl rfl (Nat.le_of_ble_eq_true rfl) (by decide) (by decide) (by omega) (by omega) dX11_told_22 ?_
    refine hB bX11_told_25 _ _ _ _ _ _ _ kX11_told_25 ?_
    dsimp only [bX11_told_25, kx_wp, kx_step, kx_lI, kx_lL, kx_lA, kx_gl, kx_pI, kx_pL, kx_pR, kx_pA, kx_pV, kx_s1, kx_s2, kx_sl, kx_pre, kx_c2, kx_pl, kx_cmp, kx_oF, kx_eqN, kx_nil, kx_c1, kx_ft, kx_aI, kx_aL, kx_aR, kx_ln, Nat.reduceAdd, Option.toList, List.cons_append, List.nil_append, mW_o, mf_0, mf_31, m_108, mf_32, m_109, mf_40, m_117, mf_33, m_110, mf_34, m_111, mf_35, m_112, mf_27, m_104]
    repeat (simp only [mu_0, mW_so, ms_108, ms_109, ms_117, ms_110, ms_111, ms_112, ms_104, nI_clamp (show c < 2 ^ 31 by omega), va_us, va_upn, ne_eq, Nat.reduceEqDiff, not_false_eq_true]; try dsimp only [kx_wp, kx_step, kx_lI, kx_lL, kx_lA, kx_gl, kx_pI, kx_pL, kx_pR, kx_pA, kx_pV, kx_s1, kx_s2, kx_sl, kx_pre, kx_c2, kx_pl, kx_cmp, kx_oF, kx_eqN, kx_nil, kx_c1, kx_ft, kx_aI, kx_aL, kx_aR, kx_ln, Nat.reduceAdd, Option.toList, List.cons_append, List.nil_append, mW_o, mf_0, mf_31, m_108, mf_32, m_109, mf_40, m_117, mf_33, m_110, mf_34, m_111, mf_35, m_112, mf_27, m_104])
    repeat' apply And.intro
    all_goals try (first | with_reducible assumption | (with_reducible refine ck_nzI ?_; simp; done) | (with_reducible refine ck_nzL ?_; simp; done) | (with_reducible refine vp_in_nI ?_ ?_ <;> first | omega | decide) | (with_reducible refine Nat.le_of_ble_eq_true ?_; rfl) | omega)
    · intro zc25
      have ze25 := zc25
      refine hB bX11_told_30 _ _ _ _ _ _ _ kX11_told_30 ?_
      dsimp only [bX11_told_30, kx_wp, kx_step, kx_lI, kx_lL, kx_lA, kx_gl, kx_pI, kx_pL, kx_pR, kx_pA, kx_pV, kx_s1, kx_s2, kx_sl, kx_pre, kx_c2, kx_pl, kx_cmp, kx_oF, kx_eqN, kx_nil, kx_c1, kx_ft, kx_aI, kx_aL, kx_aR, kx_ln, Nat.reduceAdd, Option.toList, List.cons_append, List.nil_append, mW_o, mf_0, mf_31, m_108, mf_32, m_109, mf_40, m_117, mf_33, m_110, mf_34, m_111, mf_35, m_112, mf_27, m_104]
      repeat (simp only [mu_0, mW_so, ms_108, ms_109, ms_117, ms_110, ms_111, ms_112, ms_104, nI_clamp (show c < 2 ^ 31 by omega), va_us, va_upn, ne_eq, Nat.reduceEqDiff, not_false_eq_true]; try dsimp only [kx_wp, kx_step, kx_lI, kx_lL, kx_lA, kx_gl, kx_pI, kx_pL, kx_pR, kx_pA, kx_pV, kx_s1, kx_s2, kx_sl, kx_pre, kx_c2, kx_pl, kx_cmp, kx_oF, kx_eqN, kx_nil, kx_c1, kx_ft, kx_aI, kx_aL, kx_aR, kx_ln, Nat.reduceAdd, Option.toList, List.cons_append, List.nil_append, mW_o, mf_0, mf_31, m_108, mf_32, m_109, mf_40, m_117, mf_33, m_110, mf_34, m_111, mf_35, m_112, mf_27, m_104])
      repeat' apply And.intro
      all_goals try (first | with_reducible assumption | (with_reducible refine ck_nzI ?_; simp; done) | (with_reducible refine ck_nzL ?_; simp; done) | (with_reducible refine vp_in_nI ?_ ?_ <;> first | omega | decide) | (with_reducible refine Nat.le_of_ble_eq_true ?_; rfl) | omega)
      · exact fun zc31 => absurd zc31 (by decide)
      refine kx_sw (ws := [76, 83, 90, 110, 117, 124, 139, 168]) rfl ?_
      dsimp only [kx_swl]
      refine ⟨fun zc31_0 => absurd zc31_0 (by decide), fun zc31_1 => absurd zc31_1 (by decide), fun zc31_2 => ?_, fun zc31_3 => absurd zc31_3 (by decide), fun zc31_4 => absurd zc31_4 (by decide), fun zc31_5 => absurd zc31_5 (by decide), fun zc31_6 => absurd zc31_6 (by decide), fun zc31_7 => absurd zc31_7 (by decide), trivial⟩
      refine hB bX11_told_90 _ _ _ _ _ _ _ kX11_told_90 ?_
      dsimp only [bX11_told_90, kx_wp, kx_step, kx_lI, kx_lL, kx_lA, kx_gl, kx_pI, kx_pL, kx_pR, kx_pA, kx_pV, kx_s1, kx_s2, kx_sl, kx_pre, kx_c2, kx_pl, kx_cmp, kx_oF, kx_eqN, kx_nil, kx_c1, kx_ft, kx_aI, kx_aL, kx_aR, kx_ln, Nat.reduceAdd, Option.toList, List.cons_append, List.nil_append, mW_o, mf_0, mf_31, m_108, mf_32, m_109, mf_40, m_117, mf_33, m_110, mf_34, m_111, mf_35, m_112, mf_27, m_104]
      repeat (simp only [mu_0, mW_so, ms_108, ms_109, ms_117, ms_110, ms_111, ms_112, ms_104, nI_clamp (show c < 2 ^ 31 by omega), va_us, va_upn, ne_eq, Nat.reduceEqDiff, not_false_eq_true]; try dsimp only [kx_wp, kx_step, kx_lI, kx_lL, kx_lA, kx_gl, kx_pI, kx_pL, kx_pR, kx_pA, kx_pV, kx_s1, kx_s2, kx_sl, kx_pre, kx_c2, kx_pl, kx_cmp, kx_oF, kx_eqN, kx_nil, kx_c1, kx_ft, kx_aI, kx_aL, kx_aR, kx_ln, Nat.reduceAdd, Option.toList, List.cons_append, List.nil_append, mW_o, mf_0, mf_31, m_108, mf_32, m_109, mf_40, m_117, mf_33, m_110, mf_34, m_111, mf_35, m_112, mf_27, m_104])
      repeat' apply And.intro
      all_goals try (first | with_reducible assumption | (with_reducible refine ck_nzI ?_; simp; done) | (with_reducible refine ck_nzL ?_; simp; done) | (with_reducible refine vp_in_nI ?_ ?_ <;> first | omega | decide) | (with_reducible refine Nat.le_of_ble_eq_true ?_; rfl) | omega)
      · intro zc96
        have ze96 := zc96
        refine hB bX11_told_108 _ _ _ _ _ _ _ kX11_told_108 ?_
        dsimp only [bX11_told_108, kx_wp, kx_step, kx_lI, kx_lL, kx_lA, kx_gl, kx_pI, kx_pL, kx_pR, kx_pA, kx_pV, kx_s1, kx_s2, kx_sl, kx_pre, kx_c2, kx_pl, kx_cmp, kx_oF, kx_eqN, kx_nil, kx_c1, kx_ft, kx_aI, kx_aL, kx_aR, kx_ln, Nat.reduceAdd, Option.toList, List.cons_append, List.nil_append, mW_o, mf_0, mf_31, m_108, mf_32, m_109, mf_40, m_117, mf_33, m_110, mf_34, m_111, mf_35, m_112, mf_27, m_104]
        repeat (simp only [mu_0, mW_so, ms_108, ms_109, ms_117, ms_110, ms_111, ms_112, ms_104, nI_clamp (show c < 2 ^ 31 by omega), va_us, va_upn, ne_eq, Nat.reduceEqDiff, not_false_eq_true]; try dsimp only [kx_wp, kx_step, kx_lI, kx_lL, kx_lA, kx_gl, kx_pI, kx_pL, kx_pR, kx_pA, kx_pV, kx_s1, kx_s2, kx_sl, kx_pre, kx_c2, kx_pl, kx_cmp, kx_oF, kx_eqN, kx_nil, kx_c1, kx_ft, kx_aI, kx_aL, kx_aR, kx_ln, Nat.reduceAdd, Option.toList, List.cons_append, List.nil_append, mW_o, mf_0, mf_31, m_108, mf_32, m_109, mf_40, m_117, mf_33, m_110, mf_34, m_111, mf_35, m_112, mf_27, m_104])
        repeat' apply And.intro
        all_goals try (first | with_reducible assumption | (with_reducible refine ck_nzI ?_; simp; done) | (with_reducible refine ck_nzL ?_; simp; done) | (with_reducible refine vp_in_nI ?_ ?_ <;> first | omega | decide) | (with_reducible refine Nat.le_of_ble_eq_true ?_; rfl) | omega)
        refine hB bX11_told_109 _ _ _ _ _ _ _ kX11_told_109 ?_
        dsimp only [bX11_told_109, kx_wp, kx_step, kx_lI, kx_lL, kx_lA, kx_gl, kx_pI, kx_pL, kx_pR, kx_pA, kx_pV, kx_s1, kx_s2, kx_sl, kx_pre, kx_c2, kx_pl, kx_cmp, kx_oF, kx_eqN, kx_nil, kx_c1, kx_ft, kx_aI, kx_aL, kx_aR, kx_ln, Nat.reduceAdd, Option.toList, List.cons_append, List.nil_append, mW_o, mf_0, mf_31, m_108, mf_32, m_109, mf_40, m_117, mf_33, m_110, mf_34, m_111, mf_35, m_112, mf_27, m_104]
        repeat (simp only [mu_0, mW_so, ms_108, ms_109, ms_117, ms_110, ms_111, ms_112, ms_104, nI_clamp (show c < 2 ^ 31 by omega), va_us, va_upn, ne_eq, Nat.reduceEqDiff, not_false_eq_true]; try dsimp only [kx_wp, kx_step, kx_lI, kx_lL, kx_lA, kx_gl, kx_pI, kx_pL, kx_pR, kx_pA, kx_pV, kx_s1, kx_s2, kx_sl, kx_pre, kx_c2, kx_pl, kx_cmp, kx_oF, kx_eqN, kx_nil, kx_c1, kx_ft, kx_aI, kx_aL, kx_aR, kx_ln, Nat.reduceAdd, Option.toList, List.cons_append, List.nil_append, mW_o, mf_0, mf_31, m_108, mf_32, m_109, mf_40, m_117, mf_33, m_110, mf_34, m_111, mf_35, m_112, mf_27, m_104])
        all_goals (repeat' apply And.intro)
        all_goals ((try clear hB hC); first | exact True.intro | with_reducible rfl | with_reducible assumption | (with_reducible refine vp_in_nI ?_ ?_ <;> first | omega | decide) | exact Nat.le_of_ble_eq_true rfl | (with_reducible refine ck_nzI ?_; simp; done) | (with_reducible refine ck_nzL ?_; simp; done) | (simp only [pk_us, pk_uLs, ze10, ze25, eq_true ze96, ↓reduceIte, not_true_eq_false, not_false_eq_true]; done) | (simp only [ze10, ze25, eq_true ze96, ↓reduceIte, not_true_eq_false, not_false_eq_true]; with_reducible rfl) | skip)
      · intro zc96
        have ze96 := zc96
        refine hB bX11_told_99 _ _ _ _ _ _ _ kX11_told_99 ?_
        dsimp only [bX11_told_99, kx_wp, kx_step, kx_lI, kx_lL, kx_lA, kx_gl, kx_pI, kx_pL, kx_pR, kx_pA, kx_pV, kx_s1, kx_s2, kx_sl, kx_pre, kx_c2, kx_pl, kx_cmp, kx_oF, kx_eqN, kx_nil, kx_c1, kx_ft, kx_aI, kx_aL, kx_aR, kx_ln, Nat.reduceAdd, Option.toList, List.cons_append, List.nil_append, mW_o, mf_0, mf_31, m_108, mf_32, m_109, mf_40, m_117, mf_33, m_110, mf_34, m_111, mf_35, m_112, mf_27, m_104]
        repeat (simp only [mu_0, mW_so, ms_108, ms_109, ms_117, ms_110, ms_111, ms_112, ms_104, nI_clamp (show c < 2 ^ 31 by omega), va_us, va_upn, ne_eq, Nat.reduceEqDiff, not_false_eq_true]; try dsimp only [kx_wp, kx_step, kx_lI, kx_lL, kx_lA, kx_gl, kx_pI, kx_pL, kx_pR, kx_pA, kx_pV, kx_s1, kx_s2, kx_sl, kx_pre, kx_c2, kx_pl, kx_cmp, kx_oF, kx_eqN, kx_nil, kx_c1, kx_ft, kx_aI, kx_aL, kx_aR, kx_ln, Nat.reduceAdd, Option.toList, List.cons_append, List.nil_append, mW_o, mf_0, mf_31, m_108, mf_32, m_109, mf_40, m_117, mf_33, m_110, mf_34, m_111, mf_35, m_112, mf_27, m_104])
        repeat' apply And.intro
        all_goals try (first | with_reducible assumption | (with_reducible refine ck_nzI ?_; simp; done) | (with_reducible refine ck_nzL ?_; simp; done) | (with_reducible refine vp_in_nI ?_ ?_ <;> first | omega | decide) | (with_reducible refine Nat.le_of_ble_eq_true ?_; rfl) | omega)
        refine hB bX11_told_109 _ _ _ _ _ _ _ kX11_told_109 ?_
        dsimp only [bX11_told_109, kx_wp, kx_step, kx_lI, kx_lL, kx_lA, kx_gl, kx_pI, kx_pL, kx_pR, kx_pA, kx_pV, kx_s1, kx_s2, kx_sl, kx_pre, kx_c2, kx_pl, kx_cmp, kx_oF, kx_eqN, kx_nil, kx_c1, kx_ft, kx_aI, kx_aL, kx_aR, kx_ln, Nat.reduceAdd, Option.toList, List.cons_append, List.nil_append, mW_o, mf_0, mf_31, m_108, mf_32, m_109, mf_40, m_117, mf_33, m_110, mf_34, m_111, mf_35, m_112, mf_27, m_104]
        repeat (simp only [mu_0, mW_so, ms_108, ms_109, ms_117, ms_110, ms_111, ms_112, ms_104, nI_clamp (show c < 2 ^ 31 by omega), va_us, va_upn, ne_eq, Nat.reduceEqDiff, not_false_eq_true]; try dsimp only [kx_wp, kx_step, kx_lI, kx_lL, kx_lA, kx_gl, kx_pI, kx_pL, kx_pR, kx_pA, kx_pV, kx_s1, kx_s2, kx_sl, kx_pre, kx_c2, kx_pl, kx_cmp, kx_oF, kx_eqN, kx_nil, kx_c1, kx_ft, kx_aI, kx_aL, kx_aR, kx_ln, Nat.reduceAdd, Option.toList, List.cons_append, List.nil_append, mW_o, mf_0, mf_31, m_108, mf_32, m_109, mf_40, m_117, mf_33, m_110, mf_34, m_111, mf_35, m_112, mf_27, m_104])
        all_goals (repeat' apply And.intro)
        all_goals ((try clear hB hC); first | exact True.intro | with_reducible rfl | with_reducible assumption | (with_reducible refine vp_in_nI ?_ ?_ <;> first | omega | decide) | exact Nat.le_of_ble_eq_true rfl | (with_reducible refine ck_nzI ?_; simp; done) | (with_reducible refine ck_nzL ?_; simp; done) | (simp only [pk_us, pk_uLs, ze10, ze25, ze96, ↓reduceIte, not_true_eq_false, not_false_eq_true]; done) | (simp only [ze10, ze25, ze96, ↓reduceIte, not_true_eq_false, not_false_eq_true]; with_reducible rfl) | skip)
    · intro zc25
      first | exact absurd rfl zc25 | exact absurd zc25 (by decide) | exact absurd (by decide) zc25 | (exfalso; ((try clear hB hC); simp only [ck_lt, ck_le, ck_eq, not_true_eq_false, not_false_eq_true, Int32.reduceToInt, Int32.reduceAdd, Int32.reduceSub, Int32.reduceMul] at * <;> omega)) | (exfalso; simp_all; done)

set_option maxRecDepth 100000 in
set_option maxHeartbeats 4000000 in
theorem ct_X11_told_3 (l : Launch) (G : kx_G) {M : Nat → Int32} {A : Nat → Nat → Int32} {L : Nat → Nat → Int64} {R : kx_P} {sz : Nat} {cl c : Nat} (h21 : M 21 = nI cl) (hcl : cl ≤ 8) (hc : c < cl)  : kx_M l G sX11_told 4 0 0 [.ref 93, .int (nI c), .int (3)] (mW M A L R) sz (some (.int (A 111 c))) (mW (upd M 0 0) A L R) sz := by
  refine kx_mk kx_tab kxLok_X11 (ini := false) [some (.ref 93), some (.int (nI c)), some (.int (3))] ⟨by decide, rfl, by decide, by decide⟩ (⟨_, rfl⟩) rfl rfl (fun g hB hC => ?_)
  refine hB bX11_told_0 _ _ _ _ _ _ _ kX11_told_0 ?_
  dsimp only [bX11_told_0, kx_wp, kx_step, kx_lI, kx_lL, kx_lA, kx_gl, kx_pI, kx_pL, kx_pR, kx_pA, kx_pV, kx_s1, kx_s2, kx_sl, kx_pre, kx_c2, kx_pl, kx_cmp, kx_oF, kx_eqN, kx_nil, kx_c1, kx_ft, kx_aI, kx_aL, kx_aR, kx_ln, Nat.reduceAdd, Option.toList, List.cons_append, List.nil_append, mW_o, mf_0, mf_31, m_108, mf_32, m_109, mf_40, m_117, mf_33, m_110, mf_34, m_111, mf_35, m_112, mf_27, m_104]
  repeat (simp only [mu_0, mW_so, ms_108, ms_109, ms_117, ms_110, ms_111, ms_112, ms_104, nI_clamp (show c < 2 ^ 31 by omega), va_us, va_upn, ne_eq, Nat.reduceEqDiff, not_false_eq_true]; try dsimp only [kx_wp, kx_step, kx_lI, kx_lL, kx_lA, kx_gl, kx_pI, kx_pL, kx_pR, kx_pA, kx_pV, kx_s1, kx_s2, kx_sl, kx_pre, kx_c2, kx_pl, kx_cmp, kx_oF, kx_eqN, kx_nil, kx_c1, kx_ft, kx_aI, kx_aL, kx_aR, kx_ln, Nat.reduceAdd, Option.toList, List.cons_append, List.nil_append, mW_o, mf_0, mf_31, m_108, mf_32, m_109, mf_40, m_117, mf_33, m_110, mf_34, m_111, mf_35, m_112, mf_27, m_104])
  repeat' apply And.intro
  all_goals try (first | with_reducible assumption | (with_reducible refine ck_nzI ?_; simp; done) | (with_reducible refine ck_nzL ?_; simp; done) | (with_reducible refine vp_in_nI ?_ ?_ <;> first | omega | decide) | (with_reducible refine Nat.le_of_ble_eq_true ?_; rfl) | omega)
  refine hC.1 358 _ _ _ _ _ _ _ 11 _ _ _ _ _ _ _ _ _ _ _ _ lX11_358 (ct_X11_isClock_t l G (M := upd M 0 0) h21 hcl hc rfl) ⟨by decide, rfl⟩ (mW_o) rfl rfl (Nat.le_of_ble_eq_true rfl) (by decide) (by decide) (by omega) (by omega) dX11_told_7 ?_
  refine hB bX11_told_10 _ _ _ _ _ _ _ kX11_told_10 ?_
  dsimp only [bX11_told_10, kx_wp, kx_step, kx_lI, kx_lL, kx_lA, kx_gl, kx_pI, kx_pL, kx_pR, kx_pA, kx_pV, kx_s1, kx_s2, kx_sl, kx_pre, kx_c2, kx_pl, kx_cmp, kx_oF, kx_eqN, kx_nil, kx_c1, kx_ft, kx_aI, kx_aL, kx_aR, kx_ln, Nat.reduceAdd, Option.toList, List.cons_append, List.nil_append, mW_o, mf_0, mf_31, m_108, mf_32, m_109, mf_40, m_117, mf_33, m_110, mf_34, m_111, mf_35, m_112, mf_27, m_104]
  repeat (simp only [mu_0, mW_so, ms_108, ms_109, ms_117, ms_110, ms_111, ms_112, ms_104, nI_clamp (show c < 2 ^ 31 by omega), va_us, va_upn, ne_eq, Nat.reduceEqDiff, not_false_eq_true]; try dsimp only [kx_wp, kx_step, kx_lI, kx_lL, kx_lA, kx_gl, kx_pI, kx_pL, kx_pR, kx_pA, kx_pV, kx_s1, kx_s2, kx_sl, kx_pre, kx_c2, kx_pl, kx_cmp, kx_oF, kx_eqN, kx_nil, kx_c1, kx_ft, kx_aI, kx_aL, kx_aR, kx_ln, Nat.reduceAdd, Option.toList, List.cons_append, List.nil_append, mW_o, mf_0, mf_31, m_108, mf_32, m_109, mf_40, m_117, mf_33, m_110, mf_34, m_111, mf_35, m_112, mf_27, m_104])
  repeat' apply And.intro
  all_goals try (first | with_reducible assumption | (with_reducible refine ck_nzI ?_; simp; done) | (with_reducible refine ck_nzL ?_; simp; done) | (with_reducible refine vp_in_nI ?_ ?_ <;> first | omega | decide) | (with_reducible refine Nat.le_of_ble_eq_true ?_; rfl) | omega)
  · intro zc10
    first | exact absurd rfl zc10 | exact absurd zc10 (by decide) | exact absurd (by decide) zc10 | (exfalso; ((try clear hB hC); simp only [ck_lt, ck_le, ck_eq, not_true_eq_false, not_false_eq_true, Int32.reduceToInt, Int32.reduceAdd, Int32.reduceSub, Int32.reduceMul] at * <;> omega)) | (exfalso; simp_all; done)
  · intro zc10
    have ze10 := zc10
    refine hB bX11_told_13 _ _ _ _ _ _ _ kX11_told_13 ?_
    dsimp only [bX11_told_13, kx_wp, kx_step, kx_lI, kx_lL, kx_lA, kx_gl, kx_pI, kx_pL, kx_pR, kx_pA, kx_pV, kx_s1, kx_s2, kx_sl, kx_pre, kx_c2, kx_pl, kx_cmp, kx_oF, kx_eqN, kx_nil, kx_c1, kx_ft, kx_aI, kx_aL, kx_aR, kx_ln, Nat.reduceAdd, Option.toList, List.cons_append, List.nil_append, mW_o, mf_0, mf_31, m_108, mf_32, m_109, mf_40, m_117, mf_33, m_110, mf_34, m_111, mf_35, m_112, mf_27, m_104]
    repeat (simp only [mu_0, mW_so, ms_108, ms_109, ms_117, ms_110, ms_111, ms_112, ms_104, nI_clamp (show c < 2 ^ 31 by omega), va_us, va_upn, ne_eq, Nat.reduceEqDiff, not_false_eq_true]; try dsimp only [kx_wp, kx_step, kx_lI, kx_lL, kx_lA, kx_gl, kx_pI, kx_pL, kx_pR, kx_pA, kx_pV, kx_s1, kx_s2, kx_sl, kx_pre, kx_c2, kx_pl, kx_cmp, kx_oF, kx_eqN, kx_nil, kx_c1, kx_ft, kx_aI, kx_aL, kx_aR, kx_ln, Nat.reduceAdd, Option.toList, List.cons_append, List.nil_append, mW_o, mf_0, mf_31, m_108, mf_32, m_109, mf_40, m_117, mf_33, m_110, mf_34, m_111, mf_35, m_112, mf_27, m_104])
    repeat' apply And.intro
    all_goals try (first | with_reducible assumption | (with_reducible refine ck_nzI ?_; simp; done) | (with_reducible refine ck_nzL ?_; simp; done) | (with_reducible refine vp_in_nI ?_ ?_ <;> first | omega | decide) | (with_reducible refine Nat.le_of_ble_eq_true ?_; rfl) | omega)
    refine hC.2.1 167 _ _ _ _ _ _ _ _ _ _ _ _ _ _ _ _ _ lX11_167 (ct_X11_within l G) rfl rfl (Nat.le_of_ble_eq_true rfl) (by decide) (by decide) (by omega) (by omega) dX11_told_18 ?_
    refine hB bX11_told_21 _ _ _ _ _ _ _ kX11_told_21 ?_
    dsimp only [bX11_told_21, kx_wp, kx_step, kx_lI, kx_lL, kx_lA, kx_gl, kx_pI, kx_pL, kx_pR, kx_pA, kx_pV, kx_s1, kx_s2, kx_sl, kx_pre, kx_c2, kx_pl, kx_cmp, kx_oF, kx_eqN, kx_nil, kx_c1, kx_ft, kx_aI, kx_aL, kx_aR, kx_ln, Nat.reduceAdd, Option.toList, List.cons_append, List.nil_append, mW_o, mf_0, mf_31, m_108, mf_32, m_109, mf_40, m_117, mf_33, m_110, mf_34, m_111, mf_35, m_112, mf_27, m_104]
    repeat (simp only [mu_0, mW_so, ms_108, ms_109, ms_117, ms_110, ms_111, ms_112, ms_104, nI_clamp (show c < 2 ^ 31 by omega), va_us, va_upn, ne_eq, Nat.reduceEqDiff, not_false_eq_true]; try dsimp only [kx_wp, kx_step, kx_lI, kx_lL, kx_lA, kx_gl, kx_pI, kx_pL, kx_pR, kx_pA, kx_pV, kx_s1, kx_s2, kx_sl, kx_pre, kx_c2, kx_pl, kx_cmp, kx_oF, kx_eqN, kx_nil, kx_c1, kx_ft, kx_aI, kx_aL, kx_aR, kx_ln, Nat.reduceAdd, Option.toList, List.cons_append, List.nil_append, mW_o, mf_0, mf_31, m_108, mf_32, m_109, mf_40, m_117, mf_33, m_110, mf_34, m_111, mf_35, m_112, mf_27, m_104])
    repeat' apply And.intro
    all_goals try (first | with_reducible assumption | (with_reducible refine ck_nzI ?_; simp; done) | (with_reducible refine ck_nzL ?_; simp; done) | (with_reducible refine vp_in_nI ?_ ?_ <;> first | omega | decide) | (with_reducible refine Nat.le_of_ble_eq_true ?_; rfl) | omega)
    rw [if_pos (by decide)]
    refine hC.1 171 _ _ _ _ _ _ _ 11 _ _ _ _ _ _ _ _ _ _ _ _ lX11_171 (ct_X11_may_t l G (M := upd M 0 0) rfl) ⟨by decide, rfl⟩ (mW_o) rfl rfl (Nat.le_of_ble_eq_true rfl) (by decide) (by decide) (by omega) (by omega) dX11_told_22 ?_
    refine hB bX11_told_25 _ _ _ _ _ _ _ kX11_told_25 ?_
    dsimp only [bX11_told_25, kx_wp, kx_step, kx_lI, kx_lL, kx_lA, kx_gl, kx_pI, kx_pL, kx_pR, kx_pA, kx_pV, kx_s1, kx_s2, kx_sl, kx_pre, kx_c2, kx_pl, kx_cmp, kx_oF, kx_eqN, kx_nil, kx_c1, kx_ft, kx_aI, kx_aL, kx_aR, kx_ln, Nat.reduceAdd, Option.toList, List.cons_append, List.nil_append, mW_o, mf_0, mf_31, m_108, mf_32, m_109, mf_40, m_117, mf_33, m_110, mf_34, m_111, mf_35, m_112, mf_27, m_104]
    repeat (simp only [mu_0, mW_so, ms_108, ms_109, ms_117, ms_110, ms_111, ms_112, ms_104, nI_clamp (show c < 2 ^ 31 by omega), va_us, va_upn, ne_eq, Nat.reduceEqDiff, not_false_eq_true]; try dsimp only [kx_wp, kx_step, kx_lI, kx_lL, kx_lA, kx_gl, kx_pI, kx_pL, kx_pR, kx_pA, kx_pV, kx_s1, kx_s2, kx_sl, kx_pre, kx_c2, kx_pl, kx_cmp, kx_oF, kx_eqN, kx_nil, kx_c1, kx_ft, kx_aI, kx_aL, kx_aR, kx_ln, Nat.reduceAdd, Option.toList, List.cons_append, List.nil_append, mW_o, mf_0, mf_31, m_108, mf_32, m_109, mf_40, m_117, mf_33, m_110, mf_34, m_111, mf_35, m_112, mf_27, m_104])
    repeat' apply And.intro
    all_goals try (first | with_reducible assumption | (with_reducible refine ck_nzI ?_; simp; done) | (with_reducible refine ck_nzL ?_; simp; done) | (with_reducible refine vp_in_nI ?_ ?_ <;> first | omega | decide) | (with_reducible refine Nat.le_of_ble_eq_true ?_; rfl) | omega)
    · intro zc25
      have ze25 := zc25
      refine hB bX11_told_30 _ _ _ _ _ _ _ kX11_told_30 ?_
      dsimp only [bX11_told_30, kx_wp, kx_step, kx_lI, kx_lL, kx_lA, kx_gl, kx_pI, kx_pL, kx_pR, kx_pA, kx_pV, kx_s1, kx_s2, kx_sl, kx_pre, kx_c2, kx_pl, kx_cmp, kx_oF, kx_eqN, kx_nil, kx_c1, kx_ft, kx_aI, kx_aL, kx_aR, kx_ln, Nat.reduceAdd, Option.toList, List.cons_append, List.nil_append, mW_o, mf_0, mf_31, m_108, mf_32, m_109, mf_40, m_117, mf_33, m_110, mf_34, m_111, mf_35, m_112, mf_27, m_104]
      repeat (simp only [mu_0, mW_so, ms_108, ms_109, ms_117, ms_110, ms_111, ms_112, ms_104, nI_clamp (show c < 2 ^ 31 by omega), va_us, va_upn, ne_eq, Nat.reduceEqDiff, not_false_eq_true]; try dsimp only [kx_wp, kx_step, kx_lI, kx_lL, kx_lA, kx_gl, kx_pI, kx_pL, kx_pR, kx_pA, kx_pV, kx_s1, kx_s2, kx_sl, kx_pre, kx_c2, kx_pl, kx_cmp, kx_oF, kx_eqN, kx_nil, kx_c1, kx_ft, kx_aI, kx_aL, kx_aR, kx_ln, Nat.reduceAdd, Option.toList, List.cons_append, List.nil_append, mW_o, mf_0, mf_31, m_108, mf_32, m_109, mf_40, m_117, mf_33, m_110, mf_34, m_111, mf_35, m_112, mf_27, m_104])
      repeat' apply And.intro
      all_goals try (first | with_reducible assumption | (with_reducible refine ck_nzI ?_; simp; done) | (with_reducible refine ck_nzL ?_; simp; done) | (with_reducible refine vp_in_nI ?_ ?_ <;> first | omega | decide) | (with_reducible refine Nat.le_of_ble_eq_true ?_; rfl) | omega)
      · exact fun zc31 => absurd zc31 (by decide)
      refine kx_sw (ws := [76, 83, 90, 110, 117, 124, 139, 168]) rfl ?_
      dsimp only [kx_swl]
      refine ⟨fun zc31_0 => absurd zc31_0 (by decide), fun zc31_1 => absurd zc31_1 (by decide), fun zc31_2 => absurd zc31_2 (by decide), fun zc31_3 => ?_, fun zc31_4 => absurd zc31_4 (by decide), fun zc31_5 => absurd zc31_5 (by decide), fun zc31_6 => absurd zc31_6 (by decide), fun zc31_7 => absurd zc31_7 (by decide), trivial⟩
      refine hB bX11_told_110 _ _ _ _ _ _ _ kX11_told_110 ?_
      dsimp only [bX11_told_110, kx_wp, kx_step, kx_lI, kx_lL, kx_lA, kx_gl, kx_pI, kx_pL, kx_pR, kx_pA, kx_pV, kx_s1, kx_s2, kx_sl, kx_pre, kx_c2, kx_pl, kx_cmp, kx_oF, kx_eqN, kx_nil, kx_c1, kx_ft, kx_aI, kx_aL, kx_aR, kx_ln, Nat.reduceAdd, Option.toList, List.cons_append, List.nil_append, mW_o, mf_0, mf_31, m_108, mf_32, m_109, mf_40, m_117, mf_33, m_110, mf_34, m_111, mf_35, m_112, mf_27, m_104]
      repeat (simp only [mu_0, mW_so, ms_108, ms_109, ms_117, ms_110, ms_111, ms_112, ms_104, nI_clamp (show c < 2 ^ 31 by omega), va_us, va_upn, ne_eq, Nat.reduceEqDiff, not_false_eq_true]; try dsimp only [kx_wp, kx_step, kx_lI, kx_lL, kx_lA, kx_gl, kx_pI, kx_pL, kx_pR, kx_pA, kx_pV, kx_s1, kx_s2, kx_sl, kx_pre, kx_c2, kx_pl, kx_cmp, kx_oF, kx_eqN, kx_nil, kx_c1, kx_ft, kx_aI, kx_aL, kx_aR, kx_ln, Nat.reduceAdd, Option.toList, List.cons_append, List.nil_append, mW_o, mf_0, mf_31, m_108, mf_32, m_109, mf_40, m_117, mf_33, m_110, mf_34, m_111, mf_35, m_112, mf_27, m_104])
      all_goals (repeat' apply And.intro)
      all_goals ((try clear hB hC); first | exact True.intro | with_reducible rfl | with_reducible assumption | (with_reducible refine vp_in_nI ?_ ?_ <;> first | omega | decide) | exact Nat.le_of_ble_eq_true rfl | (with_reducible refine ck_nzI ?_; simp; done) | (with_reducible refine ck_nzL ?_; simp; done) | (simp only [pk_us, pk_uLs, ze10, ze25, ↓reduceIte, not_true_eq_false, not_false_eq_true]; done) | (simp only [ze10, ze25, ↓reduceIte, not_true_eq_false, not_false_eq_true]; with_reducible rfl) | skip)
    · intro zc25
      first | exact absurd rfl zc25 | exact absurd zc25 (by decide) | exact absurd (by decide) zc25 | (exfalso; ((try clear hB hC); simp only [ck_lt, ck_le, ck_eq, not_true_eq_false, not_false_eq_true, Int32.reduceToInt, Int32.reduceAdd, Int32.reduceSub, Int32.reduceMul] at * <;> omega)) | (exfalso; simp_all; done)

set_option maxRecDepth 100000 in
set_option maxHeartbeats 4000000 in
theorem ct_X11_told_4 (l : Launch) (G : kx_G) {M : Nat → Int32} {A : Nat → Nat → Int32} {L : Nat → Nat → Int64} {R : kx_P} {sz : Nat} {cl c : Nat} (h21 : M 21 = nI cl) (hcl : cl ≤ 8) (hc : c < cl)  : kx_M l G sX11_told 4 0 0 [.ref 93, .int (nI c), .int (4)] (mW M A L R) sz (some (.int (A 112 c))) (mW (upd M 0 0) A L R) sz := by
  refine kx_mk kx_tab kxLok_X11 (ini := false) [some (.ref 93), some (.int (nI c)), some (.int (4))] ⟨by decide, rfl, by decide, by decide⟩ (⟨_, rfl⟩) rfl rfl (fun g hB hC => ?_)
  refine hB bX11_told_0 _ _ _ _ _ _ _ kX11_told_0 ?_
  dsimp only [bX11_told_0, kx_wp, kx_step, kx_lI, kx_lL, kx_lA, kx_gl, kx_pI, kx_pL, kx_pR, kx_pA, kx_pV, kx_s1, kx_s2, kx_sl, kx_pre, kx_c2, kx_pl, kx_cmp, kx_oF, kx_eqN, kx_nil, kx_c1, kx_ft, kx_aI, kx_aL, kx_aR, kx_ln, Nat.reduceAdd, Option.toList, List.cons_append, List.nil_append, mW_o, mf_0, mf_31, m_108, mf_32, m_109, mf_40, m_117, mf_33, m_110, mf_34, m_111, mf_35, m_112, mf_27, m_104]
  repeat (simp only [mu_0, mW_so, ms_108, ms_109, ms_117, ms_110, ms_111, ms_112, ms_104, nI_clamp (show c < 2 ^ 31 by omega), va_us, va_upn, ne_eq, Nat.reduceEqDiff, not_false_eq_true]; try dsimp only [kx_wp, kx_step, kx_lI, kx_lL, kx_lA, kx_gl, kx_pI, kx_pL, kx_pR, kx_pA, kx_pV, kx_s1, kx_s2, kx_sl, kx_pre, kx_c2, kx_pl, kx_cmp, kx_oF, kx_eqN, kx_nil, kx_c1, kx_ft, kx_aI, kx_aL, kx_aR, kx_ln, Nat.reduceAdd, Option.toList, List.cons_append, List.nil_append, mW_o, mf_0, mf_31, m_108, mf_32, m_109, mf_40, m_117, mf_33, m_110, mf_34, m_111, mf_35, m_112, mf_27, m_104])
  repeat' apply And.intro
  all_goals try (first | with_reducible assumption | (with_reducible refine ck_nzI ?_; simp; done) | (with_reducible refine ck_nzL ?_; simp; done) | (with_reducible refine vp_in_nI ?_ ?_ <;> first | omega | decide) | (with_reducible refine Nat.le_of_ble_eq_true ?_; rfl) | omega)
  refine hC.1 358 _ _ _ _ _ _ _ 11 _ _ _ _ _ _ _ _ _ _ _ _ lX11_358 (ct_X11_isClock_t l G (M := upd M 0 0) h21 hcl hc rfl) ⟨by decide, rfl⟩ (mW_o) rfl rfl (Nat.le_of_ble_eq_true rfl) (by decide) (by decide) (by omega) (by omega) dX11_told_7 ?_
  refine hB bX11_told_10 _ _ _ _ _ _ _ kX11_told_10 ?_
  dsimp only [bX11_told_10, kx_wp, kx_step, kx_lI, kx_lL, kx_lA, kx_gl, kx_pI, kx_pL, kx_pR, kx_pA, kx_pV, kx_s1, kx_s2, kx_sl, kx_pre, kx_c2, kx_pl, kx_cmp, kx_oF, kx_eqN, kx_nil, kx_c1, kx_ft, kx_aI, kx_aL, kx_aR, kx_ln, Nat.reduceAdd, Option.toList, List.cons_append, List.nil_append, mW_o, mf_0, mf_31, m_108, mf_32, m_109, mf_40, m_117, mf_33, m_110, mf_34, m_111, mf_35, m_112, mf_27, m_104]
  repeat (simp only [mu_0, mW_so, ms_108, ms_109, ms_117, ms_110, ms_111, ms_112, ms_104, nI_clamp (show c < 2 ^ 31 by omega), va_us, va_upn, ne_eq, Nat.reduceEqDiff, not_false_eq_true]; try dsimp only [kx_wp, kx_step, kx_lI, kx_lL, kx_lA, kx_gl, kx_pI, kx_pL, kx_pR, kx_pA, kx_pV, kx_s1, kx_s2, kx_sl, kx_pre, kx_c2, kx_pl, kx_cmp, kx_oF, kx_eqN, kx_nil, kx_c1, kx_ft, kx_aI, kx_aL, kx_aR, kx_ln, Nat.reduceAdd, Option.toList, List.cons_append, List.nil_append, mW_o, mf_0, mf_31, m_108, mf_32, m_109, mf_40, m_117, mf_33, m_110, mf_34, m_111, mf_35, m_112, mf_27, m_104])
  repeat' apply And.intro
  all_goals try (first | with_reducible assumption | (with_reducible refine ck_nzI ?_; simp; done) | (with_reducible refine ck_nzL ?_; simp; done) | (with_reducible refine vp_in_nI ?_ ?_ <;> first | omega | decide) | (with_reducible refine Nat.le_of_ble_eq_true ?_; rfl) | omega)
  · intro zc10
    first | exact absurd rfl zc10 | exact absurd zc10 (by decide) | exact absurd (by decide) zc10 | (exfalso; ((try clear hB hC); simp only [ck_lt, ck_le, ck_eq, not_true_eq_false, not_false_eq_true, Int32.reduceToInt, Int32.reduceAdd, Int32.reduceSub, Int32.reduceMul] at * <;> omega)) | (exfalso; simp_all; done)
  · intro zc10
    have ze10 := zc10
    refine hB bX11_told_13 _ _ _ _ _ _ _ kX11_told_13 ?_
    dsimp only [bX11_told_13, kx_wp, kx_step, kx_lI, kx_lL, kx_lA, kx_gl, kx_pI, kx_pL, kx_pR, kx_pA, kx_pV, kx_s1, kx_s2, kx_sl, kx_pre, kx_c2, kx_pl, kx_cmp, kx_oF, kx_eqN, kx_nil, kx_c1, kx_ft, kx_aI, kx_aL, kx_aR, kx_ln, Nat.reduceAdd, Option.toList, List.cons_append, List.nil_append, mW_o, mf_0, mf_31, m_108, mf_32, m_109, mf_40, m_117, mf_33, m_110, mf_34, m_111, mf_35, m_112, mf_27, m_104]
    repeat (simp only [mu_0, mW_so, ms_108, ms_109, ms_117, ms_110, ms_111, ms_112, ms_104, nI_clamp (show c < 2 ^ 31 by omega), va_us, va_upn, ne_eq, Nat.reduceEqDiff, not_false_eq_true]; try dsimp only [kx_wp, kx_step, kx_lI, kx_lL, kx_lA, kx_gl, kx_pI, kx_pL, kx_pR, kx_pA, kx_pV, kx_s1, kx_s2, kx_sl, kx_pre, kx_c2, kx_pl, kx_cmp, kx_oF, kx_eqN, kx_nil, kx_c1, kx_ft, kx_aI, kx_aL, kx_aR, kx_ln, Nat.reduceAdd, Option.toList, List.cons_append, List.nil_append, mW_o, mf_0, mf_31, m_108, mf_32, m_109, mf_40, m_117, mf_33, m_110, mf_34, m_111, mf_35, m_112, mf_27, m_104])
    repeat' apply And.intro
    all_goals try (first | with_reducible assumption | (with_reducible refine ck_nzI ?_; simp; done) | (with_reducible refine ck_nzL ?_; simp; done) | (with_reducible refine vp_in_nI ?_ ?_ <;> first | omega | decide) | (with_reducible refine Nat.le_of_ble_eq_true ?_; rfl) | omega)
    refine hC.2.1 167 _ _ _ _ _ _ _ _ _ _ _ _ _ _ _ _ _ lX11_167 (ct_X11_within l G) rfl rfl (Nat.le_of_ble_eq_true rfl) (by decide) (by decide) (by omega) (by omega) dX11_told_18 ?_
    refine hB bX11_told_21 _ _ _ _ _ _ _ kX11_told_21 ?_
    dsimp only [bX11_told_21, kx_wp, kx_step, kx_lI, kx_lL, kx_lA, kx_gl, kx_pI, kx_pL, kx_pR, kx_pA, kx_pV, kx_s1, kx_s2, kx_sl, kx_pre, kx_c2, kx_pl, kx_cmp, kx_oF, kx_eqN, kx_nil, kx_c1, kx_ft, kx_aI, kx_aL, kx_aR, kx_ln, Nat.reduceAdd, Option.toList, List.cons_append, List.nil_append, mW_o, mf_0, mf_31, m_108, mf_32, m_109, mf_40, m_117, mf_33, m_110, mf_34, m_111, mf_35, m_112, mf_27, m_104]
    repeat (simp only [mu_0, mW_so, ms_108, ms_109, ms_117, ms_110, ms_111, ms_112, ms_104, nI_clamp (show c < 2 ^ 31 by omega), va_us, va_upn, ne_eq, Nat.reduceEqDiff, not_false_eq_true]; try dsimp only [kx_wp, kx_step, kx_lI, kx_lL, kx_lA, kx_gl, kx_pI, kx_pL, kx_pR, kx_pA, kx_pV, kx_s1, kx_s2, kx_sl, kx_pre, kx_c2, kx_pl, kx_cmp, kx_oF, kx_eqN, kx_nil, kx_c1, kx_ft, kx_aI, kx_aL, kx_aR, kx_ln, Nat.reduceAdd, Option.toList, List.cons_append, List.nil_append, mW_o, mf_0, mf_31, m_108, mf_32, m_109, mf_40, m_117, mf_33, m_110, mf_34, m_111, mf_35, m_112, mf_27, m_104])
    repeat' apply And.intro
    all_goals try (first | with_reducible assumption | (with_reducible refine ck_nzI ?_; simp; done) | (with_reducible refine ck_nzL ?_; simp; done) | (with_reducible refine vp_in_nI ?_ ?_ <;> first | omega | decide) | (with_reducible refine Nat.le_of_ble_eq_true ?_; rfl) | omega)
    rw [if_pos (by decide)]
    refine hC.1 171 _ _ _ _ _ _ _ 11 _ _ _ _ _ _ _ _ _ _ _ _ lX11_171 (ct_X11_may_t l G (M := upd M 0 0) rfl) ⟨by decide, rfl⟩ (mW_o) rfl rfl (Nat.le_of_ble_eq_true rfl) (by decide) (by decide) (by omega) (by omega) dX11_told_22 ?_
    refine hB bX11_told_25 _ _ _ _ _ _ _ kX11_told_25 ?_
    dsimp only [bX11_told_25, kx_wp, kx_step, kx_lI, kx_lL, kx_lA, kx_gl, kx_pI, kx_pL, kx_pR, kx_pA, kx_pV, kx_s1, kx_s2, kx_sl, kx_pre, kx_c2, kx_pl, kx_cmp, kx_oF, kx_eqN, kx_nil, kx_c1, kx_ft, kx_aI, kx_aL, kx_aR, kx_ln, Nat.reduceAdd, Option.toList, List.cons_append, List.nil_append, mW_o, mf_0, mf_31, m_108, mf_32, m_109, mf_40, m_117, mf_33, m_110, mf_34, m_111, mf_35, m_112, mf_27, m_104]
    repeat (simp only [mu_0, mW_so, ms_108, ms_109, ms_117, ms_110, ms_111, ms_112, ms_104, nI_clamp (show c < 2 ^ 31 by omega), va_us, va_upn, ne_eq, Nat.reduceEqDiff, not_false_eq_true]; try dsimp only [kx_wp, kx_step, kx_lI, kx_lL, kx_lA, kx_gl, kx_pI, kx_pL, kx_pR, kx_pA, kx_pV, kx_s1, kx_s2, kx_sl, kx_pre, kx_c2, kx_pl, kx_cmp, kx_oF, kx_eqN, kx_nil, kx_c1, kx_ft, kx_aI, kx_aL, kx_aR, kx_ln, Nat.reduceAdd, Option.toList, List.cons_append, List.nil_append, mW_o, mf_0, mf_31, m_108, mf_32, m_109, mf_40, m_117, mf_33, m_110, mf_34, m_111, mf_35, m_112, mf_27, m_104])
    repeat' apply And.intro
    all_goals try (first | with_reducible assumption | (with_reducible refine ck_nzI ?_; simp; done) | (with_reducible refine ck_nzL ?_; simp; done) | (with_reducible refine vp_in_nI ?_ ?_ <;> first | omega | decide) | (with_reducible refine Nat.le_of_ble_eq_true ?_; rfl) | omega)
    · intro zc25
      have ze25 := zc25
      refine hB bX11_told_30 _ _ _ _ _ _ _ kX11_told_30 ?_
      dsimp only [bX11_told_30, kx_wp, kx_step, kx_lI, kx_lL, kx_lA, kx_gl, kx_pI, kx_pL, kx_pR, kx_pA, kx_pV, kx_s1, kx_s2, kx_sl, kx_pre, kx_c2, kx_pl, kx_cmp, kx_oF, kx_eqN, kx_nil, kx_c1, kx_ft, kx_aI, kx_aL, kx_aR, kx_ln, Nat.reduceAdd, Option.toList, List.cons_append, List.nil_append, mW_o, mf_0, mf_31, m_108, mf_32, m_109, mf_40, m_117, mf_33, m_110, mf_34, m_111, mf_35, m_112, mf_27, m_104]
      repeat (simp only [mu_0, mW_so, ms_108, ms_109, ms_117, ms_110, ms_111, ms_112, ms_104, nI_clamp (show c < 2 ^ 31 by omega), va_us, va_upn, ne_eq, Nat.reduceEqDiff, not_false_eq_true]; try dsimp only [kx_wp, kx_step, kx_lI, kx_lL, kx_lA, kx_gl, kx_pI, kx_pL, kx_pR, kx_pA, kx_pV, kx_s1, kx_s2, kx_sl, kx_pre, kx_c2, kx_pl, kx_cmp, kx_oF, kx_eqN, kx_nil, kx_c1, kx_ft, kx_aI, kx_aL, kx_aR, kx_ln, Nat.reduceAdd, Option.toList, List.cons_append, List.nil_append, mW_o, mf_0, mf_31, m_108, mf_32, m_109, mf_40, m_117, mf_33, m_110, mf_34, m_111, mf_35, m_112, mf_27, m_104])
      repeat' apply And.intro
      all_goals try (first | with_reducible assumption | (with_reducible refine ck_nzI ?_; simp; done) | (with_reducible refine ck_nzL ?_; simp; done) | (with_reducible refine vp_in_nI ?_ ?_ <;> first | omega | decide) | (with_reducible refine Nat.le_of_ble_eq_true ?_; rfl) | omega)
      · exact fun zc31 => absurd zc31 (by decide)
      refine kx_sw (ws := [76, 83, 90, 110, 117, 124, 139, 168]) rfl ?_
      dsimp only [kx_swl]
      refine ⟨fun zc31_0 => absurd zc31_0 (by decide), fun zc31_1 => absurd zc31_1 (by decide), fun zc31_2 => absurd zc31_2 (by decide), fun zc31_3 => absurd zc31_3 (by decide), fun zc31_4 => ?_, fun zc31_5 => absurd zc31_5 (by decide), fun zc31_6 => absurd zc31_6 (by decide), fun zc31_7 => absurd zc31_7 (by decide), trivial⟩
      refine hB bX11_told_117 _ _ _ _ _ _ _ kX11_told_117 ?_
      dsimp only [bX11_told_117, kx_wp, kx_step, kx_lI, kx_lL, kx_lA, kx_gl, kx_pI, kx_pL, kx_pR, kx_pA, kx_pV, kx_s1, kx_s2, kx_sl, kx_pre, kx_c2, kx_pl, kx_cmp, kx_oF, kx_eqN, kx_nil, kx_c1, kx_ft, kx_aI, kx_aL, kx_aR, kx_ln, Nat.reduceAdd, Option.toList, List.cons_append, List.nil_append, mW_o, mf_0, mf_31, m_108, mf_32, m_109, mf_40, m_117, mf_33, m_110, mf_34, m_111, mf_35, m_112, mf_27, m_104]
      repeat (simp only [mu_0, mW_so, ms_108, ms_109, ms_117, ms_110, ms_111, ms_112, ms_104, nI_clamp (show c < 2 ^ 31 by omega), va_us, va_upn, ne_eq, Nat.reduceEqDiff, not_false_eq_true]; try dsimp only [kx_wp, kx_step, kx_lI, kx_lL, kx_lA, kx_gl, kx_pI, kx_pL, kx_pR, kx_pA, kx_pV, kx_s1, kx_s2, kx_sl, kx_pre, kx_c2, kx_pl, kx_cmp, kx_oF, kx_eqN, kx_nil, kx_c1, kx_ft, kx_aI, kx_aL, kx_aR, kx_ln, Nat.reduceAdd, Option.toList, List.cons_append, List.nil_append, mW_o, mf_0, mf_31, m_108, mf_32, m_109, mf_40, m_117, mf_33, m_110, mf_34, m_111, mf_35, m_112, mf_27, m_104])
      all_goals (repeat' apply And.intro)
      all_goals ((try clear hB hC); first | exact True.intro | with_reducible rfl | with_reducible assumption | (with_reducible refine vp_in_nI ?_ ?_ <;> first | omega | decide) | exact Nat.le_of_ble_eq_true rfl | (with_reducible refine ck_nzI ?_; simp; done) | (with_reducible refine ck_nzL ?_; simp; done) | (simp only [pk_us, pk_uLs, ze10, ze25, ↓reduceIte, not_true_eq_false, not_false_eq_true]; done) | (simp only [ze10, ze25, ↓reduceIte, not_true_eq_false, not_false_eq_true]; with_reducible rfl) | skip)
    · intro zc25
      first | exact absurd rfl zc25 | exact absurd zc25 (by decide) | exact absurd (by decide) zc25 | (exfalso; ((try clear hB hC); simp only [ck_lt, ck_le, ck_eq, not_true_eq_false, not_false_eq_true, Int32.reduceToInt, Int32.reduceAdd, Int32.reduceSub, Int32.reduceMul] at * <;> omega)) | (exfalso; simp_all; done)

set_option maxRecDepth 100000 in
set_option maxHeartbeats 4000000 in
theorem ct_X11_told_5 (l : Launch) (G : kx_G) {M : Nat → Int32} {A : Nat → Nat → Int32} {L : Nat → Nat → Int64} {R : kx_P} {sz : Nat} {cl c : Nat} (h21 : M 21 = nI cl) (hcl : cl ≤ 8) (hc : c < cl)  : kx_M l G sX11_told 4 0 0 [.ref 93, .int (nI c), .int (5)] (mW M A L R) sz (some (.int (if A 108 c = 0 then 1 else 0))) (mW (upd M 0 0) A L R) sz := by
  refine kx_mk kx_tab kxLok_X11 (ini := false) [some (.ref 93), some (.int (nI c)), some (.int (5))] ⟨by decide, rfl, by decide, by decide⟩ (⟨_, rfl⟩) rfl rfl (fun g hB hC => ?_)
  refine hB bX11_told_0 _ _ _ _ _ _ _ kX11_told_0 ?_
  dsimp only [bX11_told_0, kx_wp, kx_step, kx_lI, kx_lL, kx_lA, kx_gl, kx_pI, kx_pL, kx_pR, kx_pA, kx_pV, kx_s1, kx_s2, kx_sl, kx_pre, kx_c2, kx_pl, kx_cmp, kx_oF, kx_eqN, kx_nil, kx_c1, kx_ft, kx_aI, kx_aL, kx_aR, kx_ln, Nat.reduceAdd, Option.toList, List.cons_append, List.nil_append, mW_o, mf_0, mf_31, m_108, mf_32, m_109, mf_40, m_117, mf_33, m_110, mf_34, m_111, mf_35, m_112, mf_27, m_104]
  repeat (simp only [mu_0, mW_so, ms_108, ms_109, ms_117, ms_110, ms_111, ms_112, ms_104, nI_clamp (show c < 2 ^ 31 by omega), va_us, va_upn, ne_eq, Nat.reduceEqDiff, not_false_eq_true]; try dsimp only [kx_wp, kx_step, kx_lI, kx_lL, kx_lA, kx_gl, kx_pI, kx_pL, kx_pR, kx_pA, kx_pV, kx_s1, kx_s2, kx_sl, kx_pre, kx_c2, kx_pl, kx_cmp, kx_oF, kx_eqN, kx_nil, kx_c1, kx_ft, kx_aI, kx_aL, kx_aR, kx_ln, Nat.reduceAdd, Option.toList, List.cons_append, List.nil_append, mW_o, mf_0, mf_31, m_108, mf_32, m_109, mf_40, m_117, mf_33, m_110, mf_34, m_111, mf_35, m_112, mf_27, m_104])
  repeat' apply And.intro
  all_goals try (first | with_reducible assumption | (with_reducible refine ck_nzI ?_; simp; done) | (with_reducible refine ck_nzL ?_; simp; done) | (with_reducible refine vp_in_nI ?_ ?_ <;> first | omega | decide) | (with_reducible refine Nat.le_of_ble_eq_true ?_; rfl) | omega)
  refine hC.1 358 _ _ _ _ _ _ _ 11 _ _ _ _ _ _ _ _ _ _ _ _ lX11_358 (ct_X11_isClock_t l G (M := upd M 0 0) h21 hcl hc rfl) ⟨by decide, rfl⟩ (mW_o) rfl rfl (Nat.le_of_ble_eq_true rfl) (by decide) (by decide) (by omega) (by omega) dX11_told_7 ?_
  refine hB bX11_told_10 _ _ _ _ _ _ _ kX11_told_10 ?_
  dsimp only [bX11_told_10, kx_wp, kx_step, kx_lI, kx_lL, kx_lA, kx_gl, kx_pI, kx_pL, kx_pR, kx_pA, kx_pV, kx_s1, kx_s2, kx_sl, kx_pre, kx_c2, kx_pl, kx_cmp, kx_oF, kx_eqN, kx_nil, kx_c1, kx_ft, kx_aI, kx_aL, kx_aR, kx_ln, Nat.reduceAdd, Option.toList, List.cons_append, List.nil_append, mW_o, mf_0, mf_31, m_108, mf_32, m_109, mf_40, m_117, mf_33, m_110, mf_34, m_111, mf_35, m_112, mf_27, m_104]
  repeat (simp only [mu_0, mW_so, ms_108, ms_109, ms_117, ms_110, ms_111, ms_112, ms_104, nI_clamp (show c < 2 ^ 31 by omega), va_us, va_upn, ne_eq, Nat.reduceEqDiff, not_false_eq_true]; try dsimp only [kx_wp, kx_step, kx_lI, kx_lL, kx_lA, kx_gl, kx_pI, kx_pL, kx_pR, kx_pA, kx_pV, kx_s1, kx_s2, kx_sl, kx_pre, kx_c2, kx_pl, kx_cmp, kx_oF, kx_eqN, kx_nil, kx_c1, kx_ft, kx_aI, kx_aL, kx_aR, kx_ln, Nat.reduceAdd, Option.toList, List.cons_append, List.nil_append, mW_o, mf_0, mf_31, m_108, mf_32, m_109, mf_40, m_117, mf_33, m_110, mf_34, m_111, mf_35, m_112, mf_27, m_104])
  repeat' apply And.intro
  all_goals try (first | with_reducible assumption | (with_reducible refine ck_nzI ?_; simp; done) | (with_reducible refine ck_nzL ?_; simp; done) | (with_reducible refine vp_in_nI ?_ ?_ <;> first | omega | decide) | (with_reducible refine Nat.le_of_ble_eq_true ?_; rfl) | omega)
  · intro zc10
    first | exact absurd rfl zc10 | exact absurd zc10 (by decide) | exact absurd (by decide) zc10 | (exfalso; ((try clear hB hC); simp only [ck_lt, ck_le, ck_eq, not_true_eq_false, not_false_eq_true, Int32.reduceToInt, Int32.reduceAdd, Int32.reduceSub, Int32.reduceMul] at * <;> omega)) | (exfalso; simp_all; done)
  · intro zc10
    have ze10 := zc10
    refine hB bX11_told_13 _ _ _ _ _ _ _ kX11_told_13 ?_
    dsimp only [bX11_told_13, kx_wp, kx_step, kx_lI, kx_lL, kx_lA, kx_gl, kx_pI, kx_pL, kx_pR, kx_pA, kx_pV, kx_s1, kx_s2, kx_sl, kx_pre, kx_c2, kx_pl, kx_cmp, kx_oF, kx_eqN, kx_nil, kx_c1, kx_ft, kx_aI, kx_aL, kx_aR, kx_ln, Nat.reduceAdd, Option.toList, List.cons_append, List.nil_append, mW_o, mf_0, mf_31, m_108, mf_32, m_109, mf_40, m_117, mf_33, m_110, mf_34, m_111, mf_35, m_112, mf_27, m_104]
    repeat (simp only [mu_0, mW_so, ms_108, ms_109, ms_117, ms_110, ms_111, ms_112, ms_104, nI_clamp (show c < 2 ^ 31 by omega), va_us, va_upn, ne_eq, Nat.reduceEqDiff, not_false_eq_true]; try dsimp only [kx_wp, kx_step, kx_lI, kx_lL, kx_lA, kx_gl, kx_pI, kx_pL, kx_pR, kx_pA, kx_pV, kx_s1, kx_s2, kx_sl, kx_pre, kx_c2, kx_pl, kx_cmp, kx_oF, kx_eqN, kx_nil, kx_c1, kx_ft, kx_aI, kx_aL, kx_aR, kx_ln, Nat.reduceAdd, Option.toList, List.cons_append, List.nil_append, mW_o, mf_0, mf_31, m_108, mf_32, m_109, mf_40, m_117, mf_33, m_110, mf_34, m_111, mf_35, m_112, mf_27, m_104])
    repeat' apply And.intro
    all_goals try (first | with_reducible assumption | (with_reducible refine ck_nzI ?_; simp; done) | (with_reducible refine ck_nzL ?_; simp; done) | (with_reducible refine vp_in_nI ?_ ?_ <;> first | omega | decide) | (with_reducible refine Nat.le_of_ble_eq_true ?_; rfl) | omega)
    refine hC.2.1 167 _ _ _ _ _ _ _ _ _ _ _ _ _ _ _ _ _ lX11_167 (ct_X11_within l G) rfl rfl (Nat.le_of_ble_eq_true rfl) (by decide) (by decide) (by omega) (by omega) dX11_told_18 ?_
    refine hB bX11_told_21 _ _ _ _ _ _ _ kX11_told_21 ?_
    dsimp only [bX11_told_21, kx_wp, kx_step, kx_lI, kx_lL, kx_lA, kx_gl, kx_pI, kx_pL, kx_pR, kx_pA, kx_pV, kx_s1, kx_s2, kx_sl, kx_pre, kx_c2, kx_pl, kx_cmp, kx_oF, kx_eqN, kx_nil, kx_c1, kx_ft, kx_aI, kx_aL, kx_aR, kx_ln, Nat.reduceAdd, Option.toList, List.cons_append, List.nil_append, mW_o, mf_0, mf_31, m_108, mf_32, m_109, mf_40, m_117, mf_33, m_110, mf_34, m_111, mf_35, m_112, mf_27, m_104]
    repeat (simp only [mu_0, mW_so, ms_108, ms_109, ms_117, ms_110, ms_111, ms_112, ms_104, nI_clamp (show c < 2 ^ 31 by omega), va_us, va_upn, ne_eq, Nat.reduceEqDiff, not_false_eq_true]; try dsimp only [kx_wp, kx_step, kx_lI, kx_lL, kx_lA, kx_gl, kx_pI, kx_pL, kx_pR, kx_pA, kx_pV, kx_s1, kx_s2, kx_sl, kx_pre, kx_c2, kx_pl, kx_cmp, kx_oF, kx_eqN, kx_nil, kx_c1, kx_ft, kx_aI, kx_aL, kx_aR, kx_ln, Nat.reduceAdd, Option.toList, List.cons_append, List.nil_append, mW_o, mf_0, mf_31, m_108, mf_32, m_109, mf_40, m_117, mf_33, m_110, mf_34, m_111, mf_35, m_112, mf_27, m_104])
    repeat' apply And.intro
    all_goals try (first | with_reducible assumption | (with_reducible refine ck_nzI ?_; simp; done) | (with_reducible refine ck_nzL ?_; simp; done) | (with_reducible refine vp_in_nI ?_ ?_ <;> first | omega | decide) | (with_reducible refine Nat.le_of_ble_eq_true ?_; rfl) | omega)
    rw [if_pos (by decide)]
    refine hC.1 171 _ _ _ _ _ _ _ 11 _ _ _ _ _ _ _ _ _ _ _ _ lX11_171 (ct_X11_may_t l G (M := upd M 0 0) rfl) ⟨by decide, rfl⟩ (mW_o) rfl rfl (Nat.le_of_ble_eq_true rfl) (by decide) (by decide) (by omega) (by omega) dX11_told_22 ?_
    refine hB bX11_told_25 _ _ _ _ _ _ _ kX11_told_25 ?_
    dsimp only [bX11_told_25, kx_wp, kx_step, kx_lI, kx_lL, kx_lA, kx_gl, kx_pI, kx_pL, kx_pR, kx_pA, kx_pV, kx_s1, kx_s2, kx_sl, kx_pre, kx_c2, kx_pl, kx_cmp, kx_oF, kx_eqN, kx_nil, kx_c1, kx_ft, kx_aI, kx_aL, kx_aR, kx_ln, Nat.reduceAdd, Option.toList, List.cons_append, List.nil_append, mW_o, mf_0, mf_31, m_108, mf_32, m_109, mf_40, m_117, mf_33, m_110, mf_34, m_111, mf_35, m_112, mf_27, m_104]
    repeat (simp only [mu_0, mW_so, ms_108, ms_109, ms_117, ms_110, ms_111, ms_112, ms_104, nI_clamp (show c < 2 ^ 31 by omega), va_us, va_upn, ne_eq, Nat.reduceEqDiff, not_false_eq_true]; try dsimp only [kx_wp, kx_step, kx_lI, kx_lL, kx_lA, kx_gl, kx_pI, kx_pL, kx_pR, kx_pA, kx_pV, kx_s1, kx_s2, kx_sl, kx_pre, kx_c2, kx_pl, kx_cmp, kx_oF, kx_eqN, kx_nil, kx_c1, kx_ft, kx_aI, kx_aL, kx_aR, kx_ln, Nat.reduceAdd, Option.toList, List.cons_append, List.nil_append, mW_o, mf_0, mf_31, m_108, mf_32, m_109, mf_40, m_117, mf_33, m_110, mf_34, m_111, mf_35, m_112, mf_27, m_104])
    repeat' apply And.intro
    all_goals try (first | with_reducible assumption | (with_reducible refine ck_nzI ?_; simp; done) | (with_reducible refine ck_nzL ?_; simp; done) | (with_reducible refine vp_in_nI ?_ ?_ <;> first | omega | decide) | (with_reducible refine Nat.le_of_ble_eq_true ?_; rfl) | omega)
    · intro zc25
      have ze25 := zc25
      refine hB bX11_told_30 _ _ _ _ _ _ _ kX11_told_30 ?_
      dsimp only [bX11_told_30, kx_wp, kx_step, kx_lI, kx_lL, kx_lA, kx_gl, kx_pI, kx_pL, kx_pR, kx_pA, kx_pV, kx_s1, kx_s2, kx_sl, kx_pre, kx_c2, kx_pl, kx_cmp, kx_oF, kx_eqN, kx_nil, kx_c1, kx_ft, kx_aI, kx_aL, kx_aR, kx_ln, Nat.reduceAdd, Option.toList, List.cons_append, List.nil_append, mW_o, mf_0, mf_31, m_108, mf_32, m_109, mf_40, m_117, mf_33, m_110, mf_34, m_111, mf_35, m_112, mf_27, m_104]
      repeat (simp only [mu_0, mW_so, ms_108, ms_109, ms_117, ms_110, ms_111, ms_112, ms_104, nI_clamp (show c < 2 ^ 31 by omega), va_us, va_upn, ne_eq, Nat.reduceEqDiff, not_false_eq_true]; try dsimp only [kx_wp, kx_step, kx_lI, kx_lL, kx_lA, kx_gl, kx_pI, kx_pL, kx_pR, kx_pA, kx_pV, kx_s1, kx_s2, kx_sl, kx_pre, kx_c2, kx_pl, kx_cmp, kx_oF, kx_eqN, kx_nil, kx_c1, kx_ft, kx_aI, kx_aL, kx_aR, kx_ln, Nat.reduceAdd, Option.toList, List.cons_append, List.nil_append, mW_o, mf_0, mf_31, m_108, mf_32, m_109, mf_40, m_117, mf_33, m_110, mf_34, m_111, mf_35, m_112, mf_27, m_104])
      repeat' apply And.intro
      all_goals try (first | with_reducible assumption | (with_reducible refine ck_nzI ?_; simp; done) | (with_reducible refine ck_nzL ?_; simp; done) | (with_reducible refine vp_in_nI ?_ ?_ <;> first | omega | decide) | (with_reducible refine Nat.le_of_ble_eq_true ?_; rfl) | omega)
      · exact fun zc31 => absurd zc31 (by decide)
      refine kx_sw (ws := [76, 83, 90, 110, 117, 124, 139, 168]) rfl ?_
      dsimp only [kx_swl]
      refine ⟨fun zc31_0 => absurd zc31_0 (by decide), fun zc31_1 => absurd zc31_1 (by decide), fun zc31_2 => absurd zc31_2 (by decide), fun zc31_3 => absurd zc31_3 (by decide), fun zc31_4 => absurd zc31_4 (by decide), fun zc31_5 => ?_, fun zc31_6 => absurd zc31_6 (by decide), fun zc31_7 => absurd zc31_7 (by decide), trivial⟩
      refine hB bX11_told_124 _ _ _ _ _ _ _ kX11_told_124 ?_
      dsimp only [bX11_told_124, kx_wp, kx_step, kx_lI, kx_lL, kx_lA, kx_gl, kx_pI, kx_pL, kx_pR, kx_pA, kx_pV, kx_s1, kx_s2, kx_sl, kx_pre, kx_c2, kx_pl, kx_cmp, kx_oF, kx_eqN, kx_nil, kx_c1, kx_ft, kx_aI, kx_aL, kx_aR, kx_ln, Nat.reduceAdd, Option.toList, List.cons_append, List.nil_append, mW_o, mf_0, mf_31, m_108, mf_32, m_109, mf_40, m_117, mf_33, m_110, mf_34, m_111, mf_35, m_112, mf_27, m_104]
      repeat (simp only [mu_0, mW_so, ms_108, ms_109, ms_117, ms_110, ms_111, ms_112, ms_104, nI_clamp (show c < 2 ^ 31 by omega), va_us, va_upn, ne_eq, Nat.reduceEqDiff, not_false_eq_true]; try dsimp only [kx_wp, kx_step, kx_lI, kx_lL, kx_lA, kx_gl, kx_pI, kx_pL, kx_pR, kx_pA, kx_pV, kx_s1, kx_s2, kx_sl, kx_pre, kx_c2, kx_pl, kx_cmp, kx_oF, kx_eqN, kx_nil, kx_c1, kx_ft, kx_aI, kx_aL, kx_aR, kx_ln, Nat.reduceAdd, Option.toList, List.cons_append, List.nil_append, mW_o, mf_0, mf_31, m_108, mf_32, m_109, mf_40, m_117, mf_33, m_110, mf_34, m_111, mf_35, m_112, mf_27, m_104])
      repeat' apply And.intro
      all_goals try (first | with_reducible assumption | (with_reducible refine ck_nzI ?_; simp; done) | (with_reducible refine ck_nzL ?_; simp; done) | (with_reducible refine vp_in_nI ?_ ?_ <;> first | omega | decide) | (with_reducible refine Nat.le_of_ble_eq_true ?_; rfl) | omega)
      · intro zc130
        have ze130 := zc130
        refine hB bX11_told_137 _ _ _ _ _ _ _ kX11_told_137 ?_
        dsimp only [bX11_told_137, kx_wp, kx_step, kx_lI, kx_lL, kx_lA, kx_gl, kx_pI, kx_pL, kx_pR, kx_pA, kx_pV, kx_s1, kx_s2, kx_sl, kx_pre, kx_c2, kx_pl, kx_cmp, kx_oF, kx_eqN, kx_nil, kx_c1, kx_ft, kx_aI, kx_aL, kx_aR, kx_ln, Nat.reduceAdd, Option.toList, List.cons_append, List.nil_append, mW_o, mf_0, mf_31, m_108, mf_32, m_109, mf_40, m_117, mf_33, m_110, mf_34, m_111, mf_35, m_112, mf_27, m_104]
        repeat (simp only [mu_0, mW_so, ms_108, ms_109, ms_117, ms_110, ms_111, ms_112, ms_104, nI_clamp (show c < 2 ^ 31 by omega), va_us, va_upn, ne_eq, Nat.reduceEqDiff, not_false_eq_true]; try dsimp only [kx_wp, kx_step, kx_lI, kx_lL, kx_lA, kx_gl, kx_pI, kx_pL, kx_pR, kx_pA, kx_pV, kx_s1, kx_s2, kx_sl, kx_pre, kx_c2, kx_pl, kx_cmp, kx_oF, kx_eqN, kx_nil, kx_c1, kx_ft, kx_aI, kx_aL, kx_aR, kx_ln, Nat.reduceAdd, Option.toList, List.cons_append, List.nil_append, mW_o, mf_0, mf_31, m_108, mf_32, m_109, mf_40, m_117, mf_33, m_110, mf_34, m_111, mf_35, m_112, mf_27, m_104])
        repeat' apply And.intro
        all_goals try (first | with_reducible assumption | (with_reducible refine ck_nzI ?_; simp; done) | (with_reducible refine ck_nzL ?_; simp; done) | (with_reducible refine vp_in_nI ?_ ?_ <;> first | omega | decide) | (with_reducible refine Nat.le_of_ble_eq_true ?_; rfl) | omega)
        refine hB bX11_told_138 _ _ _ _ _ _ _ kX11_told_138 ?_
        dsimp only [bX11_told_138, kx_wp, kx_step, kx_lI, kx_lL, kx_lA, kx_gl, kx_pI, kx_pL, kx_pR, kx_pA, kx_pV, kx_s1, kx_s2, kx_sl, kx_pre, kx_c2, kx_pl, kx_cmp, kx_oF, kx_eqN, kx_nil, kx_c1, kx_ft, kx_aI, kx_aL, kx_aR, kx_ln, Nat.reduceAdd, Option.toList, List.cons_append, List.nil_append, mW_o, mf_0, mf_31, m_108, mf_32, m_109, mf_40, m_117, mf_33, m_110, mf_34, m_111, mf_35, m_112, mf_27, m_104]
        repeat (simp only [mu_0, mW_so, ms_108, ms_109, ms_117, ms_110, ms_111, ms_112, ms_104, nI_clamp (show c < 2 ^ 31 by omega), va_us, va_upn, ne_eq, Nat.reduceEqDiff, not_false_eq_true]; try dsimp only [kx_wp, kx_step, kx_lI, kx_lL, kx_lA, kx_gl, kx_pI, kx_pL, kx_pR, kx_pA, kx_pV, kx_s1, kx_s2, kx_sl, kx_pre, kx_c2, kx_pl, kx_cmp, kx_oF, kx_eqN, kx_nil, kx_c1, kx_ft, kx_aI, kx_aL, kx_aR, kx_ln, Nat.reduceAdd, Option.toList, List.cons_append, List.nil_append, mW_o, mf_0, mf_31, m_108, mf_32, m_109, mf_40, m_117, mf_33, m_110, mf_34, m_111, mf_35, m_112, mf_27, m_104])
        all_goals (repeat' apply And.intro)
        all_goals ((try clear hB hC); first | exact True.intro | with_reducible rfl | with_reducible assumption | (with_reducible refine vp_in_nI ?_ ?_ <;> first | omega | decide) | exact Nat.le_of_ble_eq_true rfl | (with_reducible refine ck_nzI ?_; simp; done) | (with_reducible refine ck_nzL ?_; simp; done) | (simp only [pk_us, pk_uLs, ze10, ze25, ze130, ↓reduceIte, not_true_eq_false, not_false_eq_true]; done) | (simp only [ze10, ze25, ze130, ↓reduceIte, not_true_eq_false, not_false_eq_true]; with_reducible rfl) | skip)
      · intro zc130
        with_reducible first | have ze130 := Decidable.not_not.mp zc130 | have ze130 := zc130
        refine hB bX11_told_133 _ _ _ _ _ _ _ kX11_told_133 ?_
        dsimp only [bX11_told_133, kx_wp, kx_step, kx_lI, kx_lL, kx_lA, kx_gl, kx_pI, kx_pL, kx_pR, kx_pA, kx_pV, kx_s1, kx_s2, kx_sl, kx_pre, kx_c2, kx_pl, kx_cmp, kx_oF, kx_eqN, kx_nil, kx_c1, kx_ft, kx_aI, kx_aL, kx_aR, kx_ln, Nat.reduceAdd, Option.toList, List.cons_append, List.nil_append, mW_o, mf_0, mf_31, m_108, mf_32, m_109, mf_40, m_117, mf_33, m_110, mf_34, m_111, mf_35, m_112, mf_27, m_104]
        repeat (simp only [mu_0, mW_so, ms_108, ms_109, ms_117, ms_110, ms_111, ms_112, ms_104, nI_clamp (show c < 2 ^ 31 by omega), va_us, va_upn, ne_eq, Nat.reduceEqDiff, not_false_eq_true]; try dsimp only [kx_wp, kx_step, kx_lI, kx_lL, kx_lA, kx_gl, kx_pI, kx_pL, kx_pR, kx_pA, kx_pV, kx_s1, kx_s2, kx_sl, kx_pre, kx_c2, kx_pl, kx_cmp, kx_oF, kx_eqN, kx_nil, kx_c1, kx_ft, kx_aI, kx_aL, kx_aR, kx_ln, Nat.reduceAdd, Option.toList, List.cons_append, List.nil_append, mW_o, mf_0, mf_31, m_108, mf_32, m_109, mf_40, m_117, mf_33, m_110, mf_34, m_111, mf_35, m_112, mf_27, m_104])
        repeat' apply And.intro
        all_goals try (first | with_reducible assumption | (with_reducible refine ck_nzI ?_; simp; done) | (with_reducible refine ck_nzL ?_; simp; done) | (with_reducible refine vp_in_nI ?_ ?_ <;> first | omega | decide) | (with_reducible refine Nat.le_of_ble_eq_true ?_; rfl) | omega)
        refine hB bX11_told_138 _ _ _ _ _ _ _ kX11_told_138 ?_
        dsimp only [bX11_told_138, kx_wp, kx_step, kx_lI, kx_lL, kx_lA, kx_gl, kx_pI, kx_pL, kx_pR, kx_pA, kx_pV, kx_s1, kx_s2, kx_sl, kx_pre, kx_c2, kx_pl, kx_cmp, kx_oF, kx_eqN, kx_nil, kx_c1, kx_ft, kx_aI, kx_aL, kx_aR, kx_ln, Nat.reduceAdd, Option.toList, List.cons_append, List.nil_append, mW_o, mf_0, mf_31, m_108, mf_32, m_109, mf_40, m_117, mf_33, m_110, mf_34, m_111, mf_35, m_112, mf_27, m_104]
        repeat (simp only [mu_0, mW_so, ms_108, ms_109, ms_117, ms_110, ms_111, ms_112, ms_104, nI_clamp (show c < 2 ^ 31 by omega), va_us, va_upn, ne_eq, Nat.reduceEqDiff, not_false_eq_true]; try dsimp only [kx_wp, kx_step, kx_lI, kx_lL, kx_lA, kx_gl, kx_pI, kx_pL, kx_pR, kx_pA, kx_pV, kx_s1, kx_s2, kx_sl, kx_pre, kx_c2, kx_pl, kx_cmp, kx_oF, kx_eqN, kx_nil, kx_c1, kx_ft, kx_aI, kx_aL, kx_aR, kx_ln, Nat.reduceAdd, Option.toList, List.cons_append, List.nil_append, mW_o, mf_0, mf_31, m_108, mf_32, m_109, mf_40, m_117, mf_33, m_110, mf_34, m_111, mf_35, m_112, mf_27, m_104])
        all_goals (repeat' apply And.intro)
        all_goals ((try clear hB hC); first | exact True.intro | with_reducible rfl | with_reducible assumption | (with_reducible refine vp_in_nI ?_ ?_ <;> first | omega | decide) | exact Nat.le_of_ble_eq_true rfl | (with_reducible refine ck_nzI ?_; simp; done) | (with_reducible refine ck_nzL ?_; simp; done) | (simp only [pk_us, pk_uLs, ze10, ze25, eq_true ze130, ↓reduceIte, not_true_eq_false, not_false_eq_true]; done) | (simp only [ze10, ze25, eq_true ze130, ↓reduceIte, not_true_eq_false, not_false_eq_true]; with_reducible rfl) | skip)
    · intro zc25
      first | exact absurd rfl zc25 | exact absurd zc25 (by decide) | exact absurd (by decide) zc25 | (exfalso; ((try clear hB hC); simp only [ck_lt, ck_le, ck_eq, not_true_eq_false, not_false_eq_true, Int32.reduceToInt, Int32.reduceAdd, Int32.reduceSub, Int32.reduceMul] at * <;> omega)) | (exfalso; simp_all; done)

set_option maxRecDepth 100000 in
set_option maxHeartbeats 4000000 in
theorem ct_X11_told_6 (l : Launch) (G : kx_G) {M : Nat → Int32} {A : Nat → Nat → Int32} {L : Nat → Nat → Int64} {R : kx_P} {sz : Nat} {cl c : Nat} (h21 : M 21 = nI cl) (hcl : cl ≤ 8) (hc : c < cl) {d : Nat} (h1 : M 1 = nI d) (hd : d ≤ 100000)  : kx_M l G sX11_told 4 0 0 [.ref 93, .int (nI c), .int (6)] (mW M A L R) sz (some (.int (if 100 * A 112 c + A 111 c = nI (100 * ck_mo (d / 1440) (ck_feb (M 3)) + ck_da (d / 1440) (ck_feb (M 3))) then 1 else 0))) (mW (upd M 0 0) A L R) sz := by
  have hf := ck_feb_le (M 3)
  have hda := ck_da_le (show d / 1440 ≤ 69 by omega) hf
  have hmo := ck_mo_le (d / 1440) (ck_feb (M 3))
  have h1b : upd M 0 0 1 = nI d := by rw [show upd M 0 0 1 = M 1 from rfl]; exact h1
  have zt1 := ck_t1 (show ck_mo (d / 1440) (ck_feb (M 3)) ≤ 12 by omega) hda.2
  have zt2 := ck_t2 (show ck_mo (d / 1440) (ck_feb (M 3)) ≤ 12 by omega) hda.2
  refine kx_mk kx_tab kxLok_X11 (ini := false) [some (.ref 93), some (.int (nI c)), some (.int (6))] ⟨by decide, rfl, by decide, by decide⟩ (⟨_, rfl⟩) rfl rfl (fun g hB hC => ?_)
  refine hB bX11_told_0 _ _ _ _ _ _ _ kX11_told_0 ?_
  dsimp only [bX11_told_0, kx_wp, kx_step, kx_lI, kx_lL, kx_lA, kx_gl, kx_pI, kx_pL, kx_pR, kx_pA, kx_pV, kx_s1, kx_s2, kx_sl, kx_pre, kx_c2, kx_pl, kx_cmp, kx_oF, kx_eqN, kx_nil, kx_c1, kx_ft, kx_aI, kx_aL, kx_aR, kx_ln, Nat.reduceAdd, Option.toList, List.cons_append, List.nil_append, mW_o, mf_0, mf_31, m_108, mf_32, m_109, mf_40, m_117, mf_33, m_110, mf_34, m_111, mf_35, m_112, mf_27, m_104]
  repeat (simp only [mu_0, mW_so, ms_108, ms_109, ms_117, ms_110, ms_111, ms_112, ms_104, nI_clamp (show c < 2 ^ 31 by omega), va_us, va_upn, ne_eq, Nat.reduceEqDiff, not_false_eq_true, show upd M 0 0 3 = M 3 from rfl, zt1, zt2]; try dsimp only [kx_wp, kx_step, kx_lI, kx_lL, kx_lA, kx_gl, kx_pI, kx_pL, kx_pR, kx_pA, kx_pV, kx_s1, kx_s2, kx_sl, kx_pre, kx_c2, kx_pl, kx_cmp, kx_oF, kx_eqN, kx_nil, kx_c1, kx_ft, kx_aI, kx_aL, kx_aR, kx_ln, Nat.reduceAdd, Option.toList, List.cons_append, List.nil_append, mW_o, mf_0, mf_31, m_108, mf_32, m_109, mf_40, m_117, mf_33, m_110, mf_34, m_111, mf_35, m_112, mf_27, m_104])
  repeat' apply And.intro
  all_goals try (first | with_reducible assumption | (with_reducible refine ck_nzI ?_; simp; done) | (with_reducible refine ck_nzL ?_; simp; done) | (with_reducible refine vp_in_nI ?_ ?_ <;> first | omega | decide) | (with_reducible refine Nat.le_of_ble_eq_true ?_; rfl) | omega)
  refine hC.1 358 _ _ _ _ _ _ _ 11 _ _ _ _ _ _ _ _ _ _ _ _ lX11_358 (ct_X11_isClock_t l G (M := upd M 0 0) h21 hcl hc rfl) ⟨by decide, rfl⟩ (mW_o) rfl rfl (Nat.le_of_ble_eq_true rfl) (by decide) (by decide) (by omega) (by omega) dX11_told_7 ?_
  refine hB bX11_told_10 _ _ _ _ _ _ _ kX11_told_10 ?_
  dsimp only [bX11_told_10, kx_wp, kx_step, kx_lI, kx_lL, kx_lA, kx_gl, kx_pI, kx_pL, kx_pR, kx_pA, kx_pV, kx_s1, kx_s2, kx_sl, kx_pre, kx_c2, kx_pl, kx_cmp, kx_oF, kx_eqN, kx_nil, kx_c1, kx_ft, kx_aI, kx_aL, kx_aR, kx_ln, Nat.reduceAdd, Option.toList, List.cons_append, List.nil_append, mW_o, mf_0, mf_31, m_108, mf_32, m_109, mf_40, m_117, mf_33, m_110, mf_34, m_111, mf_35, m_112, mf_27, m_104]
  repeat (simp only [mu_0, mW_so, ms_108, ms_109, ms_117, ms_110, ms_111, ms_112, ms_104, nI_clamp (show c < 2 ^ 31 by omega), va_us, va_upn, ne_eq, Nat.reduceEqDiff, not_false_eq_true, show upd M 0 0 3 = M 3 from rfl, zt1, zt2]; try dsimp only [kx_wp, kx_step, kx_lI, kx_lL, kx_lA, kx_gl, kx_pI, kx_pL, kx_pR, kx_pA, kx_pV, kx_s1, kx_s2, kx_sl, kx_pre, kx_c2, kx_pl, kx_cmp, kx_oF, kx_eqN, kx_nil, kx_c1, kx_ft, kx_aI, kx_aL, kx_aR, kx_ln, Nat.reduceAdd, Option.toList, List.cons_append, List.nil_append, mW_o, mf_0, mf_31, m_108, mf_32, m_109, mf_40, m_117, mf_33, m_110, mf_34, m_111, mf_35, m_112, mf_27, m_104])
  repeat' apply And.intro
  all_goals try (first | with_reducible assumption | (with_reducible refine ck_nzI ?_; simp; done) | (with_reducible refine ck_nzL ?_; simp; done) | (with_reducible refine vp_in_nI ?_ ?_ <;> first | omega | decide) | (with_reducible refine Nat.le_of_ble_eq_true ?_; rfl) | omega)
  · intro zc10
    first | exact absurd rfl zc10 | exact absurd zc10 (by decide) | exact absurd (by decide) zc10 | (exfalso; ((try clear hB hC); simp only [ck_lt, ck_le, ck_eq, not_true_eq_false, not_false_eq_true, Int32.reduceToInt, Int32.reduceAdd, Int32.reduceSub, Int32.reduceMul] at * <;> omega)) | (exfalso; simp_all; done)
  · intro zc10
    have ze10 := zc10
    refine hB bX11_told_13 _ _ _ _ _ _ _ kX11_told_13 ?_
    dsimp only [bX11_told_13, kx_wp, kx_step, kx_lI, kx_lL, kx_lA, kx_gl, kx_pI, kx_pL, kx_pR, kx_pA, kx_pV, kx_s1, kx_s2, kx_sl, kx_pre, kx_c2, kx_pl, kx_cmp, kx_oF, kx_eqN, kx_nil, kx_c1, kx_ft, kx_aI, kx_aL, kx_aR, kx_ln, Nat.reduceAdd, Option.toList, List.cons_append, List.nil_append, mW_o, mf_0, mf_31, m_108, mf_32, m_109, mf_40, m_117, mf_33, m_110, mf_34, m_111, mf_35, m_112, mf_27, m_104]
    repeat (simp only [mu_0, mW_so, ms_108, ms_109, ms_117, ms_110, ms_111, ms_112, ms_104, nI_clamp (show c < 2 ^ 31 by omega), va_us, va_upn, ne_eq, Nat.reduceEqDiff, not_false_eq_true, show upd M 0 0 3 = M 3 from rfl, zt1, zt2]; try dsimp only [kx_wp, kx_step, kx_lI, kx_lL, kx_lA, kx_gl, kx_pI, kx_pL, kx_pR, kx_pA, kx_pV, kx_s1, kx_s2, kx_sl, kx_pre, kx_c2, kx_pl, kx_cmp, kx_oF, kx_eqN, kx_nil, kx_c1, kx_ft, kx_aI, kx_aL, kx_aR, kx_ln, Nat.reduceAdd, Option.toList, List.cons_append, List.nil_append, mW_o, mf_0, mf_31, m_108, mf_32, m_109, mf_40, m_117, mf_33, m_110, mf_34, m_111, mf_35, m_112, mf_27, m_104])
    repeat' apply And.intro
    all_goals try (first | with_reducible assumption | (with_reducible refine ck_nzI ?_; simp; done) | (with_reducible refine ck_nzL ?_; simp; done) | (with_reducible refine vp_in_nI ?_ ?_ <;> first | omega | decide) | (with_reducible refine Nat.le_of_ble_eq_true ?_; rfl) | omega)
    refine hC.2.1 167 _ _ _ _ _ _ _ _ _ _ _ _ _ _ _ _ _ lX11_167 (ct_X11_within l G) rfl rfl (Nat.le_of_ble_eq_true rfl) (by decide) (by decide) (by omega) (by omega) dX11_told_18 ?_
    refine hB bX11_told_21 _ _ _ _ _ _ _ kX11_told_21 ?_
    dsimp only [bX11_told_21, kx_wp, kx_step, kx_lI, kx_lL, kx_lA, kx_gl, kx_pI, kx_pL, kx_pR, kx_pA, kx_pV, kx_s1, kx_s2, kx_sl, kx_pre, kx_c2, kx_pl, kx_cmp, kx_oF, kx_eqN, kx_nil, kx_c1, kx_ft, kx_aI, kx_aL, kx_aR, kx_ln, Nat.reduceAdd, Option.toList, List.cons_append, List.nil_append, mW_o, mf_0, mf_31, m_108, mf_32, m_109, mf_40, m_117, mf_33, m_110, mf_34, m_111, mf_35, m_112, mf_27, m_104]
    repeat (simp only [mu_0, mW_so, ms_108, ms_109, ms_117, ms_110, ms_111, ms_112, ms_104, nI_clamp (show c < 2 ^ 31 by omega), va_us, va_upn, ne_eq, Nat.reduceEqDiff, not_false_eq_true, show upd M 0 0 3 = M 3 from rfl, zt1, zt2]; try dsimp only [kx_wp, kx_step, kx_lI, kx_lL, kx_lA, kx_gl, kx_pI, kx_pL, kx_pR, kx_pA, kx_pV, kx_s1, kx_s2, kx_sl, kx_pre, kx_c2, kx_pl, kx_cmp, kx_oF, kx_eqN, kx_nil, kx_c1, kx_ft, kx_aI, kx_aL, kx_aR, kx_ln, Nat.reduceAdd, Option.toList, List.cons_append, List.nil_append, mW_o, mf_0, mf_31, m_108, mf_32, m_109, mf_40, m_117, mf_33, m_110, mf_34, m_111, mf_35, m_112, mf_27, m_104])
    repeat' apply And.intro
    all_goals try (first | with_reducible assumption | (with_reducible refine ck_nzI ?_; simp; done) | (with_reducible refine ck_nzL ?_; simp; done) | (with_reducible refine vp_in_nI ?_ ?_ <;> first | omega | decide) | (with_reducible refine Nat.le_of_ble_eq_true ?_; rfl) | omega)
    rw [if_pos (by decide)]
    refine hC.1 171 _ _ _ _ _ _ _ 11 _ _ _ _ _ _ _ _ _ _ _ _ lX11_171 (ct_X11_may_t l G (M := upd M 0 0) rfl) ⟨by decide, rfl⟩ (mW_o) rfl rfl (Nat.le_of_ble_eq_true rfl) (by decide) (by decide) (by omega) (by omega) dX11_told_22 ?_
    refine hB bX11_told_25 _ _ _ _ _ _ _ kX11_told_25 ?_
    dsimp only [bX11_told_25, kx_wp, kx_step, kx_lI, kx_lL, kx_lA, kx_gl, kx_pI, kx_pL, kx_pR, kx_pA, kx_pV, kx_s1, kx_s2, kx_sl, kx_pre, kx_c2, kx_pl, kx_cmp, kx_oF, kx_eqN, kx_nil, kx_c1, kx_ft, kx_aI, kx_aL, kx_aR, kx_ln, Nat.reduceAdd, Option.toList, List.cons_append, List.nil_append, mW_o, mf_0, mf_31, m_108, mf_32, m_109, mf_40, m_117, mf_33, m_110, mf_34, m_111, mf_35, m_112, mf_27, m_104]
    repeat (simp only [mu_0, mW_so, ms_108, ms_109, ms_117, ms_110, ms_111, ms_112, ms_104, nI_clamp (show c < 2 ^ 31 by omega), va_us, va_upn, ne_eq, Nat.reduceEqDiff, not_false_eq_true, show upd M 0 0 3 = M 3 from rfl, zt1, zt2]; try dsimp only [kx_wp, kx_step, kx_lI, kx_lL, kx_lA, kx_gl, kx_pI, kx_pL, kx_pR, kx_pA, kx_pV, kx_s1, kx_s2, kx_sl, kx_pre, kx_c2, kx_pl, kx_cmp, kx_oF, kx_eqN, kx_nil, kx_c1, kx_ft, kx_aI, kx_aL, kx_aR, kx_ln, Nat.reduceAdd, Option.toList, List.cons_append, List.nil_append, mW_o, mf_0, mf_31, m_108, mf_32, m_109, mf_40, m_117, mf_33, m_110, mf_34, m_111, mf_35, m_112, mf_27, m_104])
    repeat' apply And.intro
    all_goals try (first | with_reducible assumption | (with_reducible refine ck_nzI ?_; simp; done) | (with_reducible refine ck_nzL ?_; simp; done) | (with_reducible refine vp_in_nI ?_ ?_ <;> first | omega | decide) | (with_reducible refine Nat.le_of_ble_eq_true ?_; rfl) | omega)
    · intro zc25
      have ze25 := zc25
      refine hB bX11_told_30 _ _ _ _ _ _ _ kX11_told_30 ?_
      dsimp only [bX11_told_30, kx_wp, kx_step, kx_lI, kx_lL, kx_lA, kx_gl, kx_pI, kx_pL, kx_pR, kx_pA, kx_pV, kx_s1, kx_s2, kx_sl, kx_pre, kx_c2, kx_pl, kx_cmp, kx_oF, kx_eqN, kx_nil, kx_c1, kx_ft, kx_aI, kx_aL, kx_aR, kx_ln, Nat.reduceAdd, Option.toList, List.cons_append, List.nil_append, mW_o, mf_0, mf_31, m_108, mf_32, m_109, mf_40, m_117, mf_33, m_110, mf_34, m_111, mf_35, m_112, mf_27, m_104]
      repeat (simp only [mu_0, mW_so, ms_108, ms_109, ms_117, ms_110, ms_111, ms_112, ms_104, nI_clamp (show c < 2 ^ 31 by omega), va_us, va_upn, ne_eq, Nat.reduceEqDiff, not_false_eq_true, show upd M 0 0 3 = M 3 from rfl, zt1, zt2]; try dsimp only [kx_wp, kx_step, kx_lI, kx_lL, kx_lA, kx_gl, kx_pI, kx_pL, kx_pR, kx_pA, kx_pV, kx_s1, kx_s2, kx_sl, kx_pre, kx_c2, kx_pl, kx_cmp, kx_oF, kx_eqN, kx_nil, kx_c1, kx_ft, kx_aI, kx_aL, kx_aR, kx_ln, Nat.reduceAdd, Option.toList, List.cons_append, List.nil_append, mW_o, mf_0, mf_31, m_108, mf_32, m_109, mf_40, m_117, mf_33, m_110, mf_34, m_111, mf_35, m_112, mf_27, m_104])
      repeat' apply And.intro
      all_goals try (first | with_reducible assumption | (with_reducible refine ck_nzI ?_; simp; done) | (with_reducible refine ck_nzL ?_; simp; done) | (with_reducible refine vp_in_nI ?_ ?_ <;> first | omega | decide) | (with_reducible refine Nat.le_of_ble_eq_true ?_; rfl) | omega)
      · exact fun zc31 => absurd zc31 (by decide)
      refine kx_sw (ws := [76, 83, 90, 110, 117, 124, 139, 168]) rfl ?_
      dsimp only [kx_swl]
      refine ⟨fun zc31_0 => absurd zc31_0 (by decide), fun zc31_1 => absurd zc31_1 (by decide), fun zc31_2 => absurd zc31_2 (by decide), fun zc31_3 => absurd zc31_3 (by decide), fun zc31_4 => absurd zc31_4 (by decide), fun zc31_5 => absurd zc31_5 (by decide), fun zc31_6 => ?_, fun zc31_7 => absurd zc31_7 (by decide), trivial⟩
      refine hB bX11_told_139 _ _ _ _ _ _ _ kX11_told_139 ?_
      dsimp only [bX11_told_139, kx_wp, kx_step, kx_lI, kx_lL, kx_lA, kx_gl, kx_pI, kx_pL, kx_pR, kx_pA, kx_pV, kx_s1, kx_s2, kx_sl, kx_pre, kx_c2, kx_pl, kx_cmp, kx_oF, kx_eqN, kx_nil, kx_c1, kx_ft, kx_aI, kx_aL, kx_aR, kx_ln, Nat.reduceAdd, Option.toList, List.cons_append, List.nil_append, mW_o, mf_0, mf_31, m_108, mf_32, m_109, mf_40, m_117, mf_33, m_110, mf_34, m_111, mf_35, m_112, mf_27, m_104]
      repeat (simp only [mu_0, mW_so, ms_108, ms_109, ms_117, ms_110, ms_111, ms_112, ms_104, nI_clamp (show c < 2 ^ 31 by omega), va_us, va_upn, ne_eq, Nat.reduceEqDiff, not_false_eq_true, show upd M 0 0 3 = M 3 from rfl, zt1, zt2]; try dsimp only [kx_wp, kx_step, kx_lI, kx_lL, kx_lA, kx_gl, kx_pI, kx_pL, kx_pR, kx_pA, kx_pV, kx_s1, kx_s2, kx_sl, kx_pre, kx_c2, kx_pl, kx_cmp, kx_oF, kx_eqN, kx_nil, kx_c1, kx_ft, kx_aI, kx_aL, kx_aR, kx_ln, Nat.reduceAdd, Option.toList, List.cons_append, List.nil_append, mW_o, mf_0, mf_31, m_108, mf_32, m_109, mf_40, m_117, mf_33, m_110, mf_34, m_111, mf_35, m_112, mf_27, m_104])
      repeat' apply And.intro
      all_goals try (first | with_reducible assumption | (with_reducible refine ck_nzI ?_; simp; done) | (with_reducible refine ck_nzL ?_; simp; done) | (with_reducible refine vp_in_nI ?_ ?_ <;> first | omega | decide) | (with_reducible refine Nat.le_of_ble_eq_true ?_; rfl) | omega)
      refine hC.1 346 _ _ _ _ _ _ _ 11 _ _ _ _ _ _ _ _ _ _ _ _ lX11_346 (ct_X11_trueDate l G (M := upd M 0 0) h1b hd) ⟨by decide, rfl⟩ (mW_o) rfl rfl (Nat.le_of_ble_eq_true rfl) (by decide) (by decide) (by omega) (by omega) dX11_told_156 ?_
      refine hB bX11_told_159 _ _ _ _ _ _ _ kX11_told_159 ?_
      dsimp only [bX11_told_159, kx_wp, kx_step, kx_lI, kx_lL, kx_lA, kx_gl, kx_pI, kx_pL, kx_pR, kx_pA, kx_pV, kx_s1, kx_s2, kx_sl, kx_pre, kx_c2, kx_pl, kx_cmp, kx_oF, kx_eqN, kx_nil, kx_c1, kx_ft, kx_aI, kx_aL, kx_aR, kx_ln, Nat.reduceAdd, Option.toList, List.cons_append, List.nil_append, mW_o, mf_0, mf_31, m_108, mf_32, m_109, mf_40, m_117, mf_33, m_110, mf_34, m_111, mf_35, m_112, mf_27, m_104]
      repeat (simp only [mu_0, mW_so, ms_108, ms_109, ms_117, ms_110, ms_111, ms_112, ms_104, nI_clamp (show c < 2 ^ 31 by omega), va_us, va_upn, ne_eq, Nat.reduceEqDiff, not_false_eq_true, show upd M 0 0 3 = M 3 from rfl, zt1, zt2]; try dsimp only [kx_wp, kx_step, kx_lI, kx_lL, kx_lA, kx_gl, kx_pI, kx_pL, kx_pR, kx_pA, kx_pV, kx_s1, kx_s2, kx_sl, kx_pre, kx_c2, kx_pl, kx_cmp, kx_oF, kx_eqN, kx_nil, kx_c1, kx_ft, kx_aI, kx_aL, kx_aR, kx_ln, Nat.reduceAdd, Option.toList, List.cons_append, List.nil_append, mW_o, mf_0, mf_31, m_108, mf_32, m_109, mf_40, m_117, mf_33, m_110, mf_34, m_111, mf_35, m_112, mf_27, m_104])
      repeat' apply And.intro
      all_goals try (first | with_reducible assumption | (with_reducible refine ck_nzI ?_; simp; done) | (with_reducible refine ck_nzL ?_; simp; done) | (with_reducible refine vp_in_nI ?_ ?_ <;> first | omega | decide) | (with_reducible refine Nat.le_of_ble_eq_true ?_; rfl) | omega)
      · intro zc159
        have ze159 := zc159
        refine hB bX11_told_166 _ _ _ _ _ _ _ kX11_told_166 ?_
        dsimp only [bX11_told_166, kx_wp, kx_step, kx_lI, kx_lL, kx_lA, kx_gl, kx_pI, kx_pL, kx_pR, kx_pA, kx_pV, kx_s1, kx_s2, kx_sl, kx_pre, kx_c2, kx_pl, kx_cmp, kx_oF, kx_eqN, kx_nil, kx_c1, kx_ft, kx_aI, kx_aL, kx_aR, kx_ln, Nat.reduceAdd, Option.toList, List.cons_append, List.nil_append, mW_o, mf_0, mf_31, m_108, mf_32, m_109, mf_40, m_117, mf_33, m_110, mf_34, m_111, mf_35, m_112, mf_27, m_104]
        repeat (simp only [mu_0, mW_so, ms_108, ms_109, ms_117, ms_110, ms_111, ms_112, ms_104, nI_clamp (show c < 2 ^ 31 by omega), va_us, va_upn, ne_eq, Nat.reduceEqDiff, not_false_eq_true, show upd M 0 0 3 = M 3 from rfl, zt1, zt2]; try dsimp only [kx_wp, kx_step, kx_lI, kx_lL, kx_lA, kx_gl, kx_pI, kx_pL, kx_pR, kx_pA, kx_pV, kx_s1, kx_s2, kx_sl, kx_pre, kx_c2, kx_pl, kx_cmp, kx_oF, kx_eqN, kx_nil, kx_c1, kx_ft, kx_aI, kx_aL, kx_aR, kx_ln, Nat.reduceAdd, Option.toList, List.cons_append, List.nil_append, mW_o, mf_0, mf_31, m_108, mf_32, m_109, mf_40, m_117, mf_33, m_110, mf_34, m_111, mf_35, m_112, mf_27, m_104])
        repeat' apply And.intro
        all_goals try (first | with_reducible assumption | (with_reducible refine ck_nzI ?_; simp; done) | (with_reducible refine ck_nzL ?_; simp; done) | (with_reducible refine vp_in_nI ?_ ?_ <;> first | omega | decide) | (with_reducible refine Nat.le_of_ble_eq_true ?_; rfl) | omega)
        refine hB bX11_told_167 _ _ _ _ _ _ _ kX11_told_167 ?_
        dsimp only [bX11_told_167, kx_wp, kx_step, kx_lI, kx_lL, kx_lA, kx_gl, kx_pI, kx_pL, kx_pR, kx_pA, kx_pV, kx_s1, kx_s2, kx_sl, kx_pre, kx_c2, kx_pl, kx_cmp, kx_oF, kx_eqN, kx_nil, kx_c1, kx_ft, kx_aI, kx_aL, kx_aR, kx_ln, Nat.reduceAdd, Option.toList, List.cons_append, List.nil_append, mW_o, mf_0, mf_31, m_108, mf_32, m_109, mf_40, m_117, mf_33, m_110, mf_34, m_111, mf_35, m_112, mf_27, m_104]
        repeat (simp only [mu_0, mW_so, ms_108, ms_109, ms_117, ms_110, ms_111, ms_112, ms_104, nI_clamp (show c < 2 ^ 31 by omega), va_us, va_upn, ne_eq, Nat.reduceEqDiff, not_false_eq_true, show upd M 0 0 3 = M 3 from rfl, zt1, zt2]; try dsimp only [kx_wp, kx_step, kx_lI, kx_lL, kx_lA, kx_gl, kx_pI, kx_pL, kx_pR, kx_pA, kx_pV, kx_s1, kx_s2, kx_sl, kx_pre, kx_c2, kx_pl, kx_cmp, kx_oF, kx_eqN, kx_nil, kx_c1, kx_ft, kx_aI, kx_aL, kx_aR, kx_ln, Nat.reduceAdd, Option.toList, List.cons_append, List.nil_append, mW_o, mf_0, mf_31, m_108, mf_32, m_109, mf_40, m_117, mf_33, m_110, mf_34, m_111, mf_35, m_112, mf_27, m_104])
        all_goals (repeat' apply And.intro)
        all_goals ((try clear hB hC); first | exact True.intro | with_reducible rfl | with_reducible assumption | (with_reducible refine vp_in_nI ?_ ?_ <;> first | omega | decide) | exact Nat.le_of_ble_eq_true rfl | (with_reducible refine ck_nzI ?_; simp; done) | (with_reducible refine ck_nzL ?_; simp; done) | (simp only [pk_us, pk_uLs, ze10, ze25, ze159, ↓reduceIte, not_true_eq_false, not_false_eq_true]; done) | (simp only [ze10, ze25, ze159, ↓reduceIte, not_true_eq_false, not_false_eq_true]; with_reducible rfl) | skip)
      · intro zc159
        with_reducible first | have ze159 := Decidable.not_not.mp zc159 | have ze159 := zc159
        refine hB bX11_told_162 _ _ _ _ _ _ _ kX11_told_162 ?_
        dsimp only [bX11_told_162, kx_wp, kx_step, kx_lI, kx_lL, kx_lA, kx_gl, kx_pI, kx_pL, kx_pR, kx_pA, kx_pV, kx_s1, kx_s2, kx_sl, kx_pre, kx_c2, kx_pl, kx_cmp, kx_oF, kx_eqN, kx_nil, kx_c1, kx_ft, kx_aI, kx_aL, kx_aR, kx_ln, Nat.reduceAdd, Option.toList, List.cons_append, List.nil_append, mW_o, mf_0, mf_31, m_108, mf_32, m_109, mf_40, m_117, mf_33, m_110, mf_34, m_111, mf_35, m_112, mf_27, m_104]
        repeat (simp only [mu_0, mW_so, ms_108, ms_109, ms_117, ms_110, ms_111, ms_112, ms_104, nI_clamp (show c < 2 ^ 31 by omega), va_us, va_upn, ne_eq, Nat.reduceEqDiff, not_false_eq_true, show upd M 0 0 3 = M 3 from rfl, zt1, zt2]; try dsimp only [kx_wp, kx_step, kx_lI, kx_lL, kx_lA, kx_gl, kx_pI, kx_pL, kx_pR, kx_pA, kx_pV, kx_s1, kx_s2, kx_sl, kx_pre, kx_c2, kx_pl, kx_cmp, kx_oF, kx_eqN, kx_nil, kx_c1, kx_ft, kx_aI, kx_aL, kx_aR, kx_ln, Nat.reduceAdd, Option.toList, List.cons_append, List.nil_append, mW_o, mf_0, mf_31, m_108, mf_32, m_109, mf_40, m_117, mf_33, m_110, mf_34, m_111, mf_35, m_112, mf_27, m_104])
        repeat' apply And.intro
        all_goals try (first | with_reducible assumption | (with_reducible refine ck_nzI ?_; simp; done) | (with_reducible refine ck_nzL ?_; simp; done) | (with_reducible refine vp_in_nI ?_ ?_ <;> first | omega | decide) | (with_reducible refine Nat.le_of_ble_eq_true ?_; rfl) | omega)
        refine hB bX11_told_167 _ _ _ _ _ _ _ kX11_told_167 ?_
        dsimp only [bX11_told_167, kx_wp, kx_step, kx_lI, kx_lL, kx_lA, kx_gl, kx_pI, kx_pL, kx_pR, kx_pA, kx_pV, kx_s1, kx_s2, kx_sl, kx_pre, kx_c2, kx_pl, kx_cmp, kx_oF, kx_eqN, kx_nil, kx_c1, kx_ft, kx_aI, kx_aL, kx_aR, kx_ln, Nat.reduceAdd, Option.toList, List.cons_append, List.nil_append, mW_o, mf_0, mf_31, m_108, mf_32, m_109, mf_40, m_117, mf_33, m_110, mf_34, m_111, mf_35, m_112, mf_27, m_104]
        repeat (simp only [mu_0, mW_so, ms_108, ms_109, ms_117, ms_110, ms_111, ms_112, ms_104, nI_clamp (show c < 2 ^ 31 by omega), va_us, va_upn, ne_eq, Nat.reduceEqDiff, not_false_eq_true, show upd M 0 0 3 = M 3 from rfl, zt1, zt2]; try dsimp only [kx_wp, kx_step, kx_lI, kx_lL, kx_lA, kx_gl, kx_pI, kx_pL, kx_pR, kx_pA, kx_pV, kx_s1, kx_s2, kx_sl, kx_pre, kx_c2, kx_pl, kx_cmp, kx_oF, kx_eqN, kx_nil, kx_c1, kx_ft, kx_aI, kx_aL, kx_aR, kx_ln, Nat.reduceAdd, Option.toList, List.cons_append, List.nil_append, mW_o, mf_0, mf_31, m_108, mf_32, m_109, mf_40, m_117, mf_33, m_110, mf_34, m_111, mf_35, m_112, mf_27, m_104])
        all_goals (repeat' apply And.intro)
        all_goals ((try clear hB hC); first | exact True.intro | with_reducible rfl | with_reducible assumption | (with_reducible refine vp_in_nI ?_ ?_ <;> first | omega | decide) | exact Nat.le_of_ble_eq_true rfl | (with_reducible refine ck_nzI ?_; simp; done) | (with_reducible refine ck_nzL ?_; simp; done) | (simp only [pk_us, pk_uLs, ze10, ze25, eq_true ze159, ↓reduceIte, not_true_eq_false, not_false_eq_true]; done) | (simp only [ze10, ze25, eq_true ze159, ↓reduceIte, not_true_eq_false, not_false_eq_true]; with_reducible rfl) | skip)
    · intro zc25
      first | exact absurd rfl zc25 | exact absurd zc25 (by decide) | exact absurd (by decide) zc25 | (exfalso; ((try clear hB hC); simp only [ck_lt, ck_le, ck_eq, not_true_eq_false, not_false_eq_true, Int32.reduceToInt, Int32.reduceAdd, Int32.reduceSub, Int32.reduceMul] at * <;> omega)) | (exfalso; simp_all; done)

set_option maxRecDepth 100000 in
set_option maxHeartbeats 4000000 in
theorem ct_X11_told_7r (l : Launch) (G : kx_G) {M : Nat → Int32} {A : Nat → Nat → Int32} {L : Nat → Nat → Int64} {R : kx_P} {sz : Nat} {cl c : Nat} (h21 : M 21 = nI cl) (hcl : cl ≤ 8) (hc : c < cl) (h117 : A 117 c = 0)  : kx_M l G sX11_told 4 0 0 [.ref 93, .int (nI c), .int (7)] (mW M A L R) sz (some (.int (-1))) (mW (upd M 0 0) A L R) sz := by
  refine kx_mk kx_tab kxLok_X11 (ini := false) [some (.ref 93), some (.int (nI c)), some (.int (7))] ⟨by decide, rfl, by decide, by decide⟩ (⟨_, rfl⟩) rfl rfl (fun g hB hC => ?_)
  refine hB bX11_told_0 _ _ _ _ _ _ _ kX11_told_0 ?_
  dsimp only [bX11_told_0, kx_wp, kx_step, kx_lI, kx_lL, kx_lA, kx_gl, kx_pI, kx_pL, kx_pR, kx_pA, kx_pV, kx_s1, kx_s2, kx_sl, kx_pre, kx_c2, kx_pl, kx_cmp, kx_oF, kx_eqN, kx_nil, kx_c1, kx_ft, kx_aI, kx_aL, kx_aR, kx_ln, Nat.reduceAdd, Option.toList, List.cons_append, List.nil_append, mW_o, mf_0, mf_31, m_108, mf_32, m_109, mf_40, m_117, mf_33, m_110, mf_34, m_111, mf_35, m_112, mf_27, m_104]
  repeat (simp only [mu_0, mW_so, ms_108, ms_109, ms_117, ms_110, ms_111, ms_112, ms_104, nI_clamp (show c < 2 ^ 31 by omega), va_us, va_upn, ne_eq, Nat.reduceEqDiff, not_false_eq_true]; try dsimp only [kx_wp, kx_step, kx_lI, kx_lL, kx_lA, kx_gl, kx_pI, kx_pL, kx_pR, kx_pA, kx_pV, kx_s1, kx_s2, kx_sl, kx_pre, kx_c2, kx_pl, kx_cmp, kx_oF, kx_eqN, kx_nil, kx_c1, kx_ft, kx_aI, kx_aL, kx_aR, kx_ln, Nat.reduceAdd, Option.toList, List.cons_append, List.nil_append, mW_o, mf_0, mf_31, m_108, mf_32, m_109, mf_40, m_117, mf_33, m_110, mf_34, m_111, mf_35, m_112, mf_27, m_104])
  repeat' apply And.intro
  all_goals try (first | with_reducible assumption | (with_reducible refine ck_nzI ?_; simp; done) | (with_reducible refine ck_nzL ?_; simp; done) | (with_reducible refine vp_in_nI ?_ ?_ <;> first | omega | decide) | (with_reducible refine Nat.le_of_ble_eq_true ?_; rfl) | omega)
  refine hC.1 358 _ _ _ _ _ _ _ 11 _ _ _ _ _ _ _ _ _ _ _ _ lX11_358 (ct_X11_isClock_t l G (M := upd M 0 0) h21 hcl hc rfl) ⟨by decide, rfl⟩ (mW_o) rfl rfl (Nat.le_of_ble_eq_true rfl) (by decide) (by decide) (by omega) (by omega) dX11_told_7 ?_
  refine hB bX11_told_10 _ _ _ _ _ _ _ kX11_told_10 ?_
  dsimp only [bX11_told_10, kx_wp, kx_step, kx_lI, kx_lL, kx_lA, kx_gl, kx_pI, kx_pL, kx_pR, kx_pA, kx_pV, kx_s1, kx_s2, kx_sl, kx_pre, kx_c2, kx_pl, kx_cmp, kx_oF, kx_eqN, kx_nil, kx_c1, kx_ft, kx_aI, kx_aL, kx_aR, kx_ln, Nat.reduceAdd, Option.toList, List.cons_append, List.nil_append, mW_o, mf_0, mf_31, m_108, mf_32, m_109, mf_40, m_117, mf_33, m_110, mf_34, m_111, mf_35, m_112, mf_27, m_104]
  repeat (simp only [mu_0, mW_so, ms_108, ms_109, ms_117, ms_110, ms_111, ms_112, ms_104, nI_clamp (show c < 2 ^ 31 by omega), va_us, va_upn, ne_eq, Nat.reduceEqDiff, not_false_eq_true]; try dsimp only [kx_wp, kx_step, kx_lI, kx_lL, kx_lA, kx_gl, kx_pI, kx_pL, kx_pR, kx_pA, kx_pV, kx_s1, kx_s2, kx_sl, kx_pre, kx_c2, kx_pl, kx_cmp, kx_oF, kx_eqN, kx_nil, kx_c1, kx_ft, kx_aI, kx_aL, kx_aR, kx_ln, Nat.reduceAdd, Option.toList, List.cons_append, List.nil_append, mW_o, mf_0, mf_31, m_108, mf_32, m_109, mf_40, m_117, mf_33, m_110, mf_34, m_111, mf_35, m_112, mf_27, m_104])
  repeat' apply And.intro
  all_goals try (first | with_reducible assumption | (with_reducible refine ck_nzI ?_; simp; done) | (with_reducible refine ck_nzL ?_; simp; done) | (with_reducible refine vp_in_nI ?_ ?_ <;> first | omega | decide) | (with_reducible refine Nat.le_of_ble_eq_true ?_; rfl) | omega)
  · intro zc10
    first | exact absurd rfl zc10 | exact absurd zc10 (by decide) | exact absurd (by decide) zc10 | (exfalso; first | exact h117 zc174 | exact h117 (Decidable.not_not.mp zc174) | exact zc174 h117 | exact h117 zc207 | exact h117 (Decidable.not_not.mp zc207) | exact zc207 h117) | (exfalso; simp_all; done)
  · intro zc10
    have ze10 := zc10
    refine hB bX11_told_13 _ _ _ _ _ _ _ kX11_told_13 ?_
    dsimp only [bX11_told_13, kx_wp, kx_step, kx_lI, kx_lL, kx_lA, kx_gl, kx_pI, kx_pL, kx_pR, kx_pA, kx_pV, kx_s1, kx_s2, kx_sl, kx_pre, kx_c2, kx_pl, kx_cmp, kx_oF, kx_eqN, kx_nil, kx_c1, kx_ft, kx_aI, kx_aL, kx_aR, kx_ln, Nat.reduceAdd, Option.toList, List.cons_append, List.nil_append, mW_o, mf_0, mf_31, m_108, mf_32, m_109, mf_40, m_117, mf_33, m_110, mf_34, m_111, mf_35, m_112, mf_27, m_104]
    repeat (simp only [mu_0, mW_so, ms_108, ms_109, ms_117, ms_110, ms_111, ms_112, ms_104, nI_clamp (show c < 2 ^ 31 by omega), va_us, va_upn, ne_eq, Nat.reduceEqDiff, not_false_eq_true]; try dsimp only [kx_wp, kx_step, kx_lI, kx_lL, kx_lA, kx_gl, kx_pI, kx_pL, kx_pR, kx_pA, kx_pV, kx_s1, kx_s2, kx_sl, kx_pre, kx_c2, kx_pl, kx_cmp, kx_oF, kx_eqN, kx_nil, kx_c1, kx_ft, kx_aI, kx_aL, kx_aR, kx_ln, Nat.reduceAdd, Option.toList, List.cons_append, List.nil_append, mW_o, mf_0, mf_31, m_108, mf_32, m_109, mf_40, m_117, mf_33, m_110, mf_34, m_111, mf_35, m_112, mf_27, m_104])
    repeat' apply And.intro
    all_goals try (first | with_reducible assumption | (with_reducible refine ck_nzI ?_; simp; done) | (with_reducible refine ck_nzL ?_; simp; done) | (with_reducible refine vp_in_nI ?_ ?_ <;> first | omega | decide) | (with_reducible refine Nat.le_of_ble_eq_true ?_; rfl) | omega)
    refine hC.2.1 167 _ _ _ _ _ _ _ _ _ _ _ _ _ _ _ _ _ lX11_167 (ct_X11_within l G) rfl rfl (Nat.le_of_ble_eq_true rfl) (by decide) (by decide) (by omega) (by omega) dX11_told_18 ?_
    refine hB bX11_told_21 _ _ _ _ _ _ _ kX11_told_21 ?_
    dsimp only [bX11_told_21, kx_wp, kx_step, kx_lI, kx_lL, kx_lA, kx_gl, kx_pI, kx_pL, kx_pR, kx_pA, kx_pV, kx_s1, kx_s2, kx_sl, kx_pre, kx_c2, kx_pl, kx_cmp, kx_oF, kx_eqN, kx_nil, kx_c1, kx_ft, kx_aI, kx_aL, kx_aR, kx_ln, Nat.reduceAdd, Option.toList, List.cons_append, List.nil_append, mW_o, mf_0, mf_31, m_108, mf_32, m_109, mf_40, m_117, mf_33, m_110, mf_34, m_111, mf_35, m_112, mf_27, m_104]
    repeat (simp only [mu_0, mW_so, ms_108, ms_109, ms_117, ms_110, ms_111, ms_112, ms_104, nI_clamp (show c < 2 ^ 31 by omega), va_us, va_upn, ne_eq, Nat.reduceEqDiff, not_false_eq_true]; try dsimp only [kx_wp, kx_step, kx_lI, kx_lL, kx_lA, kx_gl, kx_pI, kx_pL, kx_pR, kx_pA, kx_pV, kx_s1, kx_s2, kx_sl, kx_pre, kx_c2, kx_pl, kx_cmp, kx_oF, kx_eqN, kx_nil, kx_c1, kx_ft, kx_aI, kx_aL, kx_aR, kx_ln, Nat.reduceAdd, Option.toList, List.cons_append, List.nil_append, mW_o, mf_0, mf_31, m_108, mf_32, m_109, mf_40, m_117, mf_33, m_110, mf_34, m_111, mf_35, m_112, mf_27, m_104])
    repeat' apply And.intro
    all_goals try (first | with_reducible assumption | (with_reducible refine ck_nzI ?_; simp; done) | (with_reducible refine ck_nzL ?_; simp; done) | (with_reducible refine vp_in_nI ?_ ?_ <;> first | omega | decide) | (with_reducible refine Nat.le_of_ble_eq_true ?_; rfl) | omega)
    rw [if_pos (by decide)]
    refine hC.1 171 _ _ _ _ _ _ _ 11 _ _ _ _ _ _ _ _ _ _ _ _ lX11_171 (ct_X11_may_t l G (M := upd M 0 0) rfl) ⟨by decide, rfl⟩ (mW_o) rfl rfl (Nat.le_of_ble_eq_true rfl) (by decide) (by decide) (by omega) (by omega) dX11_told_22 ?_
    refine hB bX11_told_25 _ _ _ _ _ _ _ kX11_told_25 ?_
    dsimp only [bX11_told_25, kx_wp, kx_step, kx_lI, kx_lL, kx_lA, kx_gl, kx_pI, kx_pL, kx_pR, kx_pA, kx_pV, kx_s1, kx_s2, kx_sl, kx_pre, kx_c2, kx_pl, kx_cmp, kx_oF, kx_eqN, kx_nil, kx_c1, kx_ft, kx_aI, kx_aL, kx_aR, kx_ln, Nat.reduceAdd, Option.toList, List.cons_append, List.nil_append, mW_o, mf_0, mf_31, m_108, mf_32, m_109, mf_40, m_117, mf_33, m_110, mf_34, m_111, mf_35, m_112, mf_27, m_104]
    repeat (simp only [mu_0, mW_so, ms_108, ms_109, ms_117, ms_110, ms_111, ms_112, ms_104, nI_clamp (show c < 2 ^ 31 by omega), va_us, va_upn, ne_eq, Nat.reduceEqDiff, not_false_eq_true]; try dsimp only [kx_wp, kx_step, kx_lI, kx_lL, kx_lA, kx_gl, kx_pI, kx_pL, kx_pR, kx_pA, kx_pV, kx_s1, kx_s2, kx_sl, kx_pre, kx_c2, kx_pl, kx_cmp, kx_oF, kx_eqN, kx_nil, kx_c1, kx_ft, kx_aI, kx_aL, kx_aR, kx_ln, Nat.reduceAdd, Option.toList, List.cons_append, List.nil_append, mW_o, mf_0, mf_31, m_108, mf_32, m_109, mf_40, m_117, mf_33, m_110, mf_34, m_111, mf_35, m_112, mf_27, m_104])
    repeat' apply And.intro
    all_goals try (first | with_reducible assumption | (with_reducible refine ck_nzI ?_; simp; done) | (with_reducible refine ck_nzL ?_; simp; done) | (with_reducible refine vp_in_nI ?_ ?_ <;> first | omega | decide) | (with_reducible refine Nat.le_of_ble_eq_true ?_; rfl) | omega)
    · intro zc25
      have ze25 := zc25
      refine hB bX11_told_30 _ _ _ _ _ _ _ kX11_told_30 ?_
      dsimp only [bX11_told_30, kx_wp, kx_step, kx_lI, kx_lL, kx_lA, kx_gl, kx_pI, kx_pL, kx_pR, kx_pA, kx_pV, kx_s1, kx_s2, kx_sl, kx_pre, kx_c2, kx_pl, kx_cmp, kx_oF, kx_eqN, kx_nil, kx_c1, kx_ft, kx_aI, kx_aL, kx_aR, kx_ln, Nat.reduceAdd, Option.toList, List.cons_append, List.nil_append, mW_o, mf_0, mf_31, m_108, mf_32, m_109, mf_40, m_117, mf_33, m_110, mf_34, m_111, mf_35, m_112, mf_27, m_104]
      repeat (simp only [mu_0, mW_so, ms_108, ms_109, ms_117, ms_110, ms_111, ms_112, ms_104, nI_clamp (show c < 2 ^ 31 by omega), va_us, va_upn, ne_eq, Nat.reduceEqDiff, not_false_eq_true]; try dsimp only [kx_wp, kx_step, kx_lI, kx_lL, kx_lA, kx_gl, kx_pI, kx_pL, kx_pR, kx_pA, kx_pV, kx_s1, kx_s2, kx_sl, kx_pre, kx_c2, kx_pl, kx_cmp, kx_oF, kx_eqN, kx_nil, kx_c1, kx_ft, kx_aI, kx_aL, kx_aR, kx_ln, Nat.reduceAdd, Option.toList, List.cons_append, List.nil_append, mW_o, mf_0, mf_31, m_108, mf_32, m_109, mf_40, m_117, mf_33, m_110, mf_34, m_111, mf_35, m_112, mf_27, m_104])
      repeat' apply And.intro
      all_goals try (first | with_reducible assumption | (with_reducible refine ck_nzI ?_; simp; done) | (with_reducible refine ck_nzL ?_; simp; done) | (with_reducible refine vp_in_nI ?_ ?_ <;> first | omega | decide) | (with_reducible refine Nat.le_of_ble_eq_true ?_; rfl) | omega)
      · exact fun zc31 => absurd zc31 (by decide)
      refine kx_sw (ws := [76, 83, 90, 110, 117, 124, 139, 168]) rfl ?_
      dsimp only [kx_swl]
      refine ⟨fun zc31_0 => absurd zc31_0 (by decide), fun zc31_1 => absurd zc31_1 (by decide), fun zc31_2 => absurd zc31_2 (by decide), fun zc31_3 => absurd zc31_3 (by decide), fun zc31_4 => absurd zc31_4 (by decide), fun zc31_5 => absurd zc31_5 (by decide), fun zc31_6 => absurd zc31_6 (by decide), fun zc31_7 => ?_, trivial⟩
      refine hB bX11_told_168 _ _ _ _ _ _ _ kX11_told_168 ?_
      dsimp only [bX11_told_168, kx_wp, kx_step, kx_lI, kx_lL, kx_lA, kx_gl, kx_pI, kx_pL, kx_pR, kx_pA, kx_pV, kx_s1, kx_s2, kx_sl, kx_pre, kx_c2, kx_pl, kx_cmp, kx_oF, kx_eqN, kx_nil, kx_c1, kx_ft, kx_aI, kx_aL, kx_aR, kx_ln, Nat.reduceAdd, Option.toList, List.cons_append, List.nil_append, mW_o, mf_0, mf_31, m_108, mf_32, m_109, mf_40, m_117, mf_33, m_110, mf_34, m_111, mf_35, m_112, mf_27, m_104]
      repeat (simp only [mu_0, mW_so, ms_108, ms_109, ms_117, ms_110, ms_111, ms_112, ms_104, nI_clamp (show c < 2 ^ 31 by omega), va_us, va_upn, ne_eq, Nat.reduceEqDiff, not_false_eq_true]; try dsimp only [kx_wp, kx_step, kx_lI, kx_lL, kx_lA, kx_gl, kx_pI, kx_pL, kx_pR, kx_pA, kx_pV, kx_s1, kx_s2, kx_sl, kx_pre, kx_c2, kx_pl, kx_cmp, kx_oF, kx_eqN, kx_nil, kx_c1, kx_ft, kx_aI, kx_aL, kx_aR, kx_ln, Nat.reduceAdd, Option.toList, List.cons_append, List.nil_append, mW_o, mf_0, mf_31, m_108, mf_32, m_109, mf_40, m_117, mf_33, m_110, mf_34, m_111, mf_35, m_112, mf_27, m_104])
      repeat' apply And.intro
      all_goals try (first | with_reducible assumption | (with_reducible refine ck_nzI ?_; simp; done) | (with_reducible refine ck_nzL ?_; simp; done) | (with_reducible refine vp_in_nI ?_ ?_ <;> first | omega | decide) | (with_reducible refine Nat.le_of_ble_eq_true ?_; rfl) | omega)
      · intro zc174
        first | exact absurd rfl zc174 | exact absurd zc174 (by decide) | exact absurd (by decide) zc174 | (exfalso; first | exact h117 zc174 | exact h117 (Decidable.not_not.mp zc174) | exact zc174 h117 | exact h117 zc207 | exact h117 (Decidable.not_not.mp zc207) | exact zc207 h117) | (exfalso; simp_all; done)
      · intro zc174
        with_reducible first | have ze174 := Decidable.not_not.mp zc174 | have ze174 := zc174
        refine hB bX11_told_177 _ _ _ _ _ _ _ kX11_told_177 ?_
        dsimp only [bX11_told_177, kx_wp, kx_step, kx_lI, kx_lL, kx_lA, kx_gl, kx_pI, kx_pL, kx_pR, kx_pA, kx_pV, kx_s1, kx_s2, kx_sl, kx_pre, kx_c2, kx_pl, kx_cmp, kx_oF, kx_eqN, kx_nil, kx_c1, kx_ft, kx_aI, kx_aL, kx_aR, kx_ln, Nat.reduceAdd, Option.toList, List.cons_append, List.nil_append, mW_o, mf_0, mf_31, m_108, mf_32, m_109, mf_40, m_117, mf_33, m_110, mf_34, m_111, mf_35, m_112, mf_27, m_104]
        repeat (simp only [mu_0, mW_so, ms_108, ms_109, ms_117, ms_110, ms_111, ms_112, ms_104, nI_clamp (show c < 2 ^ 31 by omega), va_us, va_upn, ne_eq, Nat.reduceEqDiff, not_false_eq_true]; try dsimp only [kx_wp, kx_step, kx_lI, kx_lL, kx_lA, kx_gl, kx_pI, kx_pL, kx_pR, kx_pA, kx_pV, kx_s1, kx_s2, kx_sl, kx_pre, kx_c2, kx_pl, kx_cmp, kx_oF, kx_eqN, kx_nil, kx_c1, kx_ft, kx_aI, kx_aL, kx_aR, kx_ln, Nat.reduceAdd, Option.toList, List.cons_append, List.nil_append, mW_o, mf_0, mf_31, m_108, mf_32, m_109, mf_40, m_117, mf_33, m_110, mf_34, m_111, mf_35, m_112, mf_27, m_104])
        repeat' apply And.intro
        all_goals try (first | with_reducible assumption | (with_reducible refine ck_nzI ?_; simp; done) | (with_reducible refine ck_nzL ?_; simp; done) | (with_reducible refine vp_in_nI ?_ ?_ <;> first | omega | decide) | (with_reducible refine Nat.le_of_ble_eq_true ?_; rfl) | omega)
        refine hB bX11_told_200 _ _ _ _ _ _ _ kX11_told_200 ?_
        dsimp only [bX11_told_200, kx_wp, kx_step, kx_lI, kx_lL, kx_lA, kx_gl, kx_pI, kx_pL, kx_pR, kx_pA, kx_pV, kx_s1, kx_s2, kx_sl, kx_pre, kx_c2, kx_pl, kx_cmp, kx_oF, kx_eqN, kx_nil, kx_c1, kx_ft, kx_aI, kx_aL, kx_aR, kx_ln, Nat.reduceAdd, Option.toList, List.cons_append, List.nil_append, mW_o, mf_0, mf_31, m_108, mf_32, m_109, mf_40, m_117, mf_33, m_110, mf_34, m_111, mf_35, m_112, mf_27, m_104]
        repeat (simp only [mu_0, mW_so, ms_108, ms_109, ms_117, ms_110, ms_111, ms_112, ms_104, nI_clamp (show c < 2 ^ 31 by omega), va_us, va_upn, ne_eq, Nat.reduceEqDiff, not_false_eq_true]; try dsimp only [kx_wp, kx_step, kx_lI, kx_lL, kx_lA, kx_gl, kx_pI, kx_pL, kx_pR, kx_pA, kx_pV, kx_s1, kx_s2, kx_sl, kx_pre, kx_c2, kx_pl, kx_cmp, kx_oF, kx_eqN, kx_nil, kx_c1, kx_ft, kx_aI, kx_aL, kx_aR, kx_ln, Nat.reduceAdd, Option.toList, List.cons_append, List.nil_append, mW_o, mf_0, mf_31, m_108, mf_32, m_109, mf_40, m_117, mf_33, m_110, mf_34, m_111, mf_35, m_112, mf_27, m_104])
        all_goals (repeat' apply And.intro)
        all_goals ((try clear hB hC); first | exact True.intro | with_reducible rfl | with_reducible assumption | (with_reducible refine vp_in_nI ?_ ?_ <;> first | omega | decide) | exact Nat.le_of_ble_eq_true rfl | (with_reducible refine ck_nzI ?_; simp; done) | (with_reducible refine ck_nzL ?_; simp; done) | (simp only [pk_us, pk_uLs, ze10, ze25, eq_true ze174, ↓reduceIte, not_true_eq_false, not_false_eq_true]; done) | (simp only [ze10, ze25, eq_true ze174, ↓reduceIte, not_true_eq_false, not_false_eq_true]; with_reducible rfl) | skip)
    · intro zc25
      first | exact absurd rfl zc25 | exact absurd zc25 (by decide) | exact absurd (by decide) zc25 | (exfalso; first | exact h117 zc174 | exact h117 (Decidable.not_not.mp zc174) | exact zc174 h117 | exact h117 zc207 | exact h117 (Decidable.not_not.mp zc207) | exact zc207 h117) | (exfalso; simp_all; done)

set_option maxRecDepth 100000 in
set_option maxHeartbeats 4000000 in
theorem ct_X11_told_7w (l : Launch) (G : kx_G) {M : Nat → Int32} {A : Nat → Nat → Int32} {L : Nat → Nat → Int64} {R : kx_P} {sz : Nat} {cl c : Nat} (h21 : M 21 = nI cl) (hcl : cl ≤ 8) (hc : c < cl) (h117 : ¬ A 117 c = 0) {p wm : Nat} (h110 : A 110 c = nI p) (h103 : A 103 c = nI wm) (hp : p < wm) (hwm : wm ≤ 24) {a : Nat} (ha : L 116 c = lN a) (haW : a < 86400000000)  : kx_M l G sX11_told 4 0 0 [.ref 93, .int (nI c), .int (7)] (mW M A L R) sz (some (.int (if ck_sx A c wm (a / 3600000000 + 1) p 24 0 = 0 then 0 else 1))) (mW (upd M 0 0) A L R) sz := by
  refine kx_mk kx_tab kxLok_X11 (ini := false) [some (.ref 93), some (.int (nI c)), some (.int (7))] ⟨by decide, rfl, by decide, by decide⟩ (⟨_, rfl⟩) rfl rfl (fun g hB hC => ?_)
  refine hB bX11_told_0 _ _ _ _ _ _ _ kX11_told_0 ?_
  dsimp only [bX11_told_0, kx_wp, kx_step, kx_lI, kx_lL, kx_lA, kx_gl, kx_pI, kx_pL, kx_pR, kx_pA, kx_pV, kx_s1, kx_s2, kx_sl, kx_pre, kx_c2, kx_pl, kx_cmp, kx_oF, kx_eqN, kx_nil, kx_c1, kx_ft, kx_aI, kx_aL, kx_aR, kx_ln, Nat.reduceAdd, Option.toList, List.cons_append, List.nil_append, mW_o, mf_0, mf_31, m_108, mf_32, m_109, mf_40, m_117, mf_33, m_110, mf_34, m_111, mf_35, m_112, mf_27, m_104]
  repeat (simp only [mu_0, mW_so, ms_108, ms_109, ms_117, ms_110, ms_111, ms_112, ms_104, nI_clamp (show c < 2 ^ 31 by omega), va_us, va_upn, ne_eq, Nat.reduceEqDiff, not_false_eq_true, h110]; try dsimp only [kx_wp, kx_step, kx_lI, kx_lL, kx_lA, kx_gl, kx_pI, kx_pL, kx_pR, kx_pA, kx_pV, kx_s1, kx_s2, kx_sl, kx_pre, kx_c2, kx_pl, kx_cmp, kx_oF, kx_eqN, kx_nil, kx_c1, kx_ft, kx_aI, kx_aL, kx_aR, kx_ln, Nat.reduceAdd, Option.toList, List.cons_append, List.nil_append, mW_o, mf_0, mf_31, m_108, mf_32, m_109, mf_40, m_117, mf_33, m_110, mf_34, m_111, mf_35, m_112, mf_27, m_104])
  repeat' apply And.intro
  all_goals try (first | with_reducible assumption | (with_reducible refine ck_nzI ?_; simp; done) | (with_reducible refine ck_nzL ?_; simp; done) | (with_reducible refine vp_in_nI ?_ ?_ <;> first | omega | decide) | (with_reducible refine Nat.le_of_ble_eq_true ?_; rfl) | omega)
  refine hC.1 358 _ _ _ _ _ _ _ 11 _ _ _ _ _ _ _ _ _ _ _ _ lX11_358 (ct_X11_isClock_t l G (M := upd M 0 0) h21 hcl hc rfl) ⟨by decide, rfl⟩ (mW_o) rfl rfl (Nat.le_of_ble_eq_true rfl) (by decide) (by decide) (by omega) (by omega) dX11_told_7 ?_
  refine hB bX11_told_10 _ _ _ _ _ _ _ kX11_told_10 ?_
  dsimp only [bX11_told_10, kx_wp, kx_step, kx_lI, kx_lL, kx_lA, kx_gl, kx_pI, kx_pL, kx_pR, kx_pA, kx_pV, kx_s1, kx_s2, kx_sl, kx_pre, kx_c2, kx_pl, kx_cmp, kx_oF, kx_eqN, kx_nil, kx_c1, kx_ft, kx_aI, kx_aL, kx_aR, kx_ln, Nat.reduceAdd, Option.toList, List.cons_append, List.nil_append, mW_o, mf_0, mf_31, m_108, mf_32, m_109, mf_40, m_117, mf_33, m_110, mf_34, m_111, mf_35, m_112, mf_27, m_104]
  repeat (simp only [mu_0, mW_so, ms_108, ms_109, ms_117, ms_110, ms_111, ms_112, ms_104, nI_clamp (show c < 2 ^ 31 by omega), va_us, va_upn, ne_eq, Nat.reduceEqDiff, not_false_eq_true, h110]; try dsimp only [kx_wp, kx_step, kx_lI, kx_lL, kx_lA, kx_gl, kx_pI, kx_pL, kx_pR, kx_pA, kx_pV, kx_s1, kx_s2, kx_sl, kx_pre, kx_c2, kx_pl, kx_cmp, kx_oF, kx_eqN, kx_nil, kx_c1, kx_ft, kx_aI, kx_aL, kx_aR, kx_ln, Nat.reduceAdd, Option.toList, List.cons_append, List.nil_append, mW_o, mf_0, mf_31, m_108, mf_32, m_109, mf_40, m_117, mf_33, m_110, mf_34, m_111, mf_35, m_112, mf_27, m_104])
  repeat' apply And.intro
  all_goals try (first | with_reducible assumption | (with_reducible refine ck_nzI ?_; simp; done) | (with_reducible refine ck_nzL ?_; simp; done) | (with_reducible refine vp_in_nI ?_ ?_ <;> first | omega | decide) | (with_reducible refine Nat.le_of_ble_eq_true ?_; rfl) | omega)
  · intro zc10
    first | exact absurd rfl zc10 | exact absurd zc10 (by decide) | exact absurd (by decide) zc10 | (exfalso; first | exact h117 zc174 | exact h117 (Decidable.not_not.mp zc174) | exact zc174 h117 | exact h117 zc207 | exact h117 (Decidable.not_not.mp zc207) | exact zc207 h117) | (exfalso; simp_all; done)
  · intro zc10
    have ze10 := zc10
    refine hB bX11_told_13 _ _ _ _ _ _ _ kX11_told_13 ?_
    dsimp only [bX11_told_13, kx_wp, kx_step, kx_lI, kx_lL, kx_lA, kx_gl, kx_pI, kx_pL, kx_pR, kx_pA, kx_pV, kx_s1, kx_s2, kx_sl, kx_pre, kx_c2, kx_pl, kx_cmp, kx_oF, kx_eqN, kx_nil, kx_c1, kx_ft, kx_aI, kx_aL, kx_aR, kx_ln, Nat.reduceAdd, Option.toList, List.cons_append, List.nil_append, mW_o, mf_0, mf_31, m_108, mf_32, m_109, mf_40, m_117, mf_33, m_110, mf_34, m_111, mf_35, m_112, mf_27, m_104]
    repeat (simp only [mu_0, mW_so, ms_108, ms_109, ms_117, ms_110, ms_111, ms_112, ms_104, nI_clamp (show c < 2 ^ 31 by omega), va_us, va_upn, ne_eq, Nat.reduceEqDiff, not_false_eq_true, h110]; try dsimp only [kx_wp, kx_step, kx_lI, kx_lL, kx_lA, kx_gl, kx_pI, kx_pL, kx_pR, kx_pA, kx_pV, kx_s1, kx_s2, kx_sl, kx_pre, kx_c2, kx_pl, kx_cmp, kx_oF, kx_eqN, kx_nil, kx_c1, kx_ft, kx_aI, kx_aL, kx_aR, kx_ln, Nat.reduceAdd, Option.toList, List.cons_append, List.nil_append, mW_o, mf_0, mf_31, m_108, mf_32, m_109, mf_40, m_117, mf_33, m_110, mf_34, m_111, mf_35, m_112, mf_27, m_104])
    repeat' apply And.intro
    all_goals try (first | with_reducible assumption | (with_reducible refine ck_nzI ?_; simp; done) | (with_reducible refine ck_nzL ?_; simp; done) | (with_reducible refine vp_in_nI ?_ ?_ <;> first | omega | decide) | (with_reducible refine Nat.le_of_ble_eq_true ?_; rfl) | omega)
    refine hC.2.1 167 _ _ _ _ _ _ _ _ _ _ _ _ _ _ _ _ _ lX11_167 (ct_X11_within l G) rfl rfl (Nat.le_of_ble_eq_true rfl) (by decide) (by decide) (by omega) (by omega) dX11_told_18 ?_
    refine hB bX11_told_21 _ _ _ _ _ _ _ kX11_told_21 ?_
    dsimp only [bX11_told_21, kx_wp, kx_step, kx_lI, kx_lL, kx_lA, kx_gl, kx_pI, kx_pL, kx_pR, kx_pA, kx_pV, kx_s1, kx_s2, kx_sl, kx_pre, kx_c2, kx_pl, kx_cmp, kx_oF, kx_eqN, kx_nil, kx_c1, kx_ft, kx_aI, kx_aL, kx_aR, kx_ln, Nat.reduceAdd, Option.toList, List.cons_append, List.nil_append, mW_o, mf_0, mf_31, m_108, mf_32, m_109, mf_40, m_117, mf_33, m_110, mf_34, m_111, mf_35, m_112, mf_27, m_104]
    repeat (simp only [mu_0, mW_so, ms_108, ms_109, ms_117, ms_110, ms_111, ms_112, ms_104, nI_clamp (show c < 2 ^ 31 by omega), va_us, va_upn, ne_eq, Nat.reduceEqDiff, not_false_eq_true, h110]; try dsimp only [kx_wp, kx_step, kx_lI, kx_lL, kx_lA, kx_gl, kx_pI, kx_pL, kx_pR, kx_pA, kx_pV, kx_s1, kx_s2, kx_sl, kx_pre, kx_c2, kx_pl, kx_cmp, kx_oF, kx_eqN, kx_nil, kx_c1, kx_ft, kx_aI, kx_aL, kx_aR, kx_ln, Nat.reduceAdd, Option.toList, List.cons_append, List.nil_append, mW_o, mf_0, mf_31, m_108, mf_32, m_109, mf_40, m_117, mf_33, m_110, mf_34, m_111, mf_35, m_112, mf_27, m_104])
    repeat' apply And.intro
    all_goals try (first | with_reducible assumption | (with_reducible refine ck_nzI ?_; simp; done) | (with_reducible refine ck_nzL ?_; simp; done) | (with_reducible refine vp_in_nI ?_ ?_ <;> first | omega | decide) | (with_reducible refine Nat.le_of_ble_eq_true ?_; rfl) | omega)
    rw [if_pos (by decide)]
    refine hC.1 171 _ _ _ _ _ _ _ 11 _ _ _ _ _ _ _ _ _ _ _ _ lX11_171 (ct_X11_may_t l G (M := upd M 0 0) rfl) ⟨by decide, rfl⟩ (mW_o) rfl rfl (Nat.le_of_ble_eq_true rfl) (by decide) (by decide) (by omega) (by omega) dX11_told_22 ?_
    refine hB bX11_told_25 _ _ _ _ _ _ _ kX11_told_25 ?_
    dsimp only [bX11_told_25, kx_wp, kx_step, kx_lI, kx_lL, kx_lA, kx_gl, kx_pI, kx_pL, kx_pR, kx_pA, kx_pV, kx_s1, kx_s2, kx_sl, kx_pre, kx_c2, kx_pl, kx_cmp, kx_oF, kx_eqN, kx_nil, kx_c1, kx_ft, kx_aI, kx_aL, kx_aR, kx_ln, Nat.reduceAdd, Option.toList, List.cons_append, List.nil_append, mW_o, mf_0, mf_31, m_108, mf_32, m_109, mf_40, m_117, mf_33, m_110, mf_34, m_111, mf_35, m_112, mf_27, m_104]
    repeat (simp only [mu_0, mW_so, ms_108, ms_109, ms_117, ms_110, ms_111, ms_112, ms_104, nI_clamp (show c < 2 ^ 31 by omega), va_us, va_upn, ne_eq, Nat.reduceEqDiff, not_false_eq_true, h110]; try dsimp only [kx_wp, kx_step, kx_lI, kx_lL, kx_lA, kx_gl, kx_pI, kx_pL, kx_pR, kx_pA, kx_pV, kx_s1, kx_s2, kx_sl, kx_pre, kx_c2, kx_pl, kx_cmp, kx_oF, kx_eqN, kx_nil, kx_c1, kx_ft, kx_aI, kx_aL, kx_aR, kx_ln, Nat.reduceAdd, Option.toList, List.cons_append, List.nil_append, mW_o, mf_0, mf_31, m_108, mf_32, m_109, mf_40, m_117, mf_33, m_110, mf_34, m_111, mf_35, m_112, mf_27, m_104])
    repeat' apply And.intro
    all_goals try (first | with_reducible assumption | (with_reducible refine ck_nzI ?_; simp; done) | (with_reducible refine ck_nzL ?_; simp; done) | (with_reducible refine vp_in_nI ?_ ?_ <;> first | omega | decide) | (with_reducible refine Nat.le_of_ble_eq_true ?_; rfl) | omega)
    · intro zc25
      have ze25 := zc25
      refine hB bX11_told_30 _ _ _ _ _ _ _ kX11_told_30 ?_
      dsimp only [bX11_told_30, kx_wp, kx_step, kx_lI, kx_lL, kx_lA, kx_gl, kx_pI, kx_pL, kx_pR, kx_pA, kx_pV, kx_s1, kx_s2, kx_sl, kx_pre, kx_c2, kx_pl, kx_cmp, kx_oF, kx_eqN, kx_nil, kx_c1, kx_ft, kx_aI, kx_aL, kx_aR, kx_ln, Nat.reduceAdd, Option.toList, List.cons_append, List.nil_append, mW_o, mf_0, mf_31, m_108, mf_32, m_109, mf_40, m_117, mf_33, m_110, mf_34, m_111, mf_35, m_112, mf_27, m_104]
      repeat (simp only [mu_0, mW_so, ms_108, ms_109, ms_117, ms_110, ms_111, ms_112, ms_104, nI_clamp (show c < 2 ^ 31 by omega), va_us, va_upn, ne_eq, Nat.reduceEqDiff, not_false_eq_true, h110]; try dsimp only [kx_wp, kx_step, kx_lI, kx_lL, kx_lA, kx_gl, kx_pI, kx_pL, kx_pR, kx_pA, kx_pV, kx_s1, kx_s2, kx_sl, kx_pre, kx_c2, kx_pl, kx_cmp, kx_oF, kx_eqN, kx_nil, kx_c1, kx_ft, kx_aI, kx_aL, kx_aR, kx_ln, Nat.reduceAdd, Option.toList, List.cons_append, List.nil_append, mW_o, mf_0, mf_31, m_108, mf_32, m_109, mf_40, m_117, mf_33, m_110, mf_34, m_111, mf_35, m_112, mf_27, m_104])
      repeat' apply And.intro
      all_goals try (first | with_reducible assumption | (with_reducible refine ck_nzI ?_; simp; done) | (with_reducible refine ck_nzL ?_; simp; done) | (with_reducible refine vp_in_nI ?_ ?_ <;> first | omega | decide) | (with_reducible refine Nat.le_of_ble_eq_true ?_; rfl) | omega)
      · exact fun zc31 => absurd zc31 (by decide)
      refine kx_sw (ws := [76, 83, 90, 110, 117, 124, 139, 168]) rfl ?_
      dsimp only [kx_swl]
      refine ⟨fun zc31_0 => absurd zc31_0 (by decide), fun zc31_1 => absurd zc31_1 (by decide), fun zc31_2 => absurd zc31_2 (by decide), fun zc31_3 => absurd zc31_3 (by decide), fun zc31_4 => absurd zc31_4 (by decide), fun zc31_5 => absurd zc31_5 (by decide), fun zc31_6 => absurd zc31_6 (by decide), fun zc31_7 => ?_, trivial⟩
      refine hB bX11_told_168 _ _ _ _ _ _ _ kX11_told_168 ?_
      dsimp only [bX11_told_168, kx_wp, kx_step, kx_lI, kx_lL, kx_lA, kx_gl, kx_pI, kx_pL, kx_pR, kx_pA, kx_pV, kx_s1, kx_s2, kx_sl, kx_pre, kx_c2, kx_pl, kx_cmp, kx_oF, kx_eqN, kx_nil, kx_c1, kx_ft, kx_aI, kx_aL, kx_aR, kx_ln, Nat.reduceAdd, Option.toList, List.cons_append, List.nil_append, mW_o, mf_0, mf_31, m_108, mf_32, m_109, mf_40, m_117, mf_33, m_110, mf_34, m_111, mf_35, m_112, mf_27, m_104]
      repeat (simp only [mu_0, mW_so, ms_108, ms_109, ms_117, ms_110, ms_111, ms_112, ms_104, nI_clamp (show c < 2 ^ 31 by omega), va_us, va_upn, ne_eq, Nat.reduceEqDiff, not_false_eq_true, h110]; try dsimp only [kx_wp, kx_step, kx_lI, kx_lL, kx_lA, kx_gl, kx_pI, kx_pL, kx_pR, kx_pA, kx_pV, kx_s1, kx_s2, kx_sl, kx_pre, kx_c2, kx_pl, kx_cmp, kx_oF, kx_eqN, kx_nil, kx_c1, kx_ft, kx_aI, kx_aL, kx_aR, kx_ln, Nat.reduceAdd, Option.toList, List.cons_append, List.nil_append, mW_o, mf_0, mf_31, m_108, mf_32, m_109, mf_40, m_117, mf_33, m_110, mf_34, m_111, mf_35, m_112, mf_27, m_104])
      repeat' apply And.intro
      all_goals try (first | with_reducible assumption | (with_reducible refine ck_nzI ?_; simp; done) | (with_reducible refine ck_nzL ?_; simp; done) | (with_reducible refine vp_in_nI ?_ ?_ <;> first | omega | decide) | (with_reducible refine Nat.le_of_ble_eq_true ?_; rfl) | omega)
      · intro zc174
        have ze174 := zc174
        refine hB bX11_told_181 _ _ _ _ _ _ _ kX11_told_181 ?_
        dsimp only [bX11_told_181, kx_wp, kx_step, kx_lI, kx_lL, kx_lA, kx_gl, kx_pI, kx_pL, kx_pR, kx_pA, kx_pV, kx_s1, kx_s2, kx_sl, kx_pre, kx_c2, kx_pl, kx_cmp, kx_oF, kx_eqN, kx_nil, kx_c1, kx_ft, kx_aI, kx_aL, kx_aR, kx_ln, Nat.reduceAdd, Option.toList, List.cons_append, List.nil_append, mW_o, mf_0, mf_31, m_108, mf_32, m_109, mf_40, m_117, mf_33, m_110, mf_34, m_111, mf_35, m_112, mf_27, m_104]
        repeat (simp only [mu_0, mW_so, ms_108, ms_109, ms_117, ms_110, ms_111, ms_112, ms_104, nI_clamp (show c < 2 ^ 31 by omega), va_us, va_upn, ne_eq, Nat.reduceEqDiff, not_false_eq_true, h110]; try dsimp only [kx_wp, kx_step, kx_lI, kx_lL, kx_lA, kx_gl, kx_pI, kx_pL, kx_pR, kx_pA, kx_pV, kx_s1, kx_s2, kx_sl, kx_pre, kx_c2, kx_pl, kx_cmp, kx_oF, kx_eqN, kx_nil, kx_c1, kx_ft, kx_aI, kx_aL, kx_aR, kx_ln, Nat.reduceAdd, Option.toList, List.cons_append, List.nil_append, mW_o, mf_0, mf_31, m_108, mf_32, m_109, mf_40, m_117, mf_33, m_110, mf_34, m_111, mf_35, m_112, mf_27, m_104])
        repeat' apply And.intro
        all_goals try (first | with_reducible assumption | (with_reducible refine ck_nzI ?_; simp; done) | (with_reducible refine ck_nzL ?_; simp; done) | (with_reducible refine vp_in_nI ?_ ?_ <;> first | omega | decide) | (with_reducible refine Nat.le_of_ble_eq_true ?_; rfl) | omega)
        refine hC.1 445 _ _ _ _ _ _ _ 11 _ _ _ _ _ _ _ _ _ _ _ _ lX11_445 (ct_X11_isInStep l G (M := upd M 0 0) (by omega) h103 ⟨by omega, hwm⟩ (by omega) ha haW) ⟨by decide, rfl⟩ (mW_o) rfl rfl (Nat.le_of_ble_eq_true rfl) (by decide) (by decide) (by omega) (by omega) dX11_told_189 ?_
        refine hB bX11_told_192 _ _ _ _ _ _ _ kX11_told_192 ?_
        dsimp only [bX11_told_192, kx_wp, kx_step, kx_lI, kx_lL, kx_lA, kx_gl, kx_pI, kx_pL, kx_pR, kx_pA, kx_pV, kx_s1, kx_s2, kx_sl, kx_pre, kx_c2, kx_pl, kx_cmp, kx_oF, kx_eqN, kx_nil, kx_c1, kx_ft, kx_aI, kx_aL, kx_aR, kx_ln, Nat.reduceAdd, Option.toList, List.cons_append, List.nil_append, mW_o, mf_0, mf_31, m_108, mf_32, m_109, mf_40, m_117, mf_33, m_110, mf_34, m_111, mf_35, m_112, mf_27, m_104]
        repeat (simp only [mu_0, mW_so, ms_108, ms_109, ms_117, ms_110, ms_111, ms_112, ms_104, nI_clamp (show c < 2 ^ 31 by omega), va_us, va_upn, ne_eq, Nat.reduceEqDiff, not_false_eq_true, h110]; try dsimp only [kx_wp, kx_step, kx_lI, kx_lL, kx_lA, kx_gl, kx_pI, kx_pL, kx_pR, kx_pA, kx_pV, kx_s1, kx_s2, kx_sl, kx_pre, kx_c2, kx_pl, kx_cmp, kx_oF, kx_eqN, kx_nil, kx_c1, kx_ft, kx_aI, kx_aL, kx_aR, kx_ln, Nat.reduceAdd, Option.toList, List.cons_append, List.nil_append, mW_o, mf_0, mf_31, m_108, mf_32, m_109, mf_40, m_117, mf_33, m_110, mf_34, m_111, mf_35, m_112, mf_27, m_104])
        repeat' apply And.intro
        all_goals try (first | with_reducible assumption | (with_reducible refine ck_nzI ?_; simp; done) | (with_reducible refine ck_nzL ?_; simp; done) | (with_reducible refine vp_in_nI ?_ ?_ <;> first | omega | decide) | (with_reducible refine Nat.le_of_ble_eq_true ?_; rfl) | omega)
        · intro zc192
          have ze192 := zc192
          refine hB bX11_told_199 _ _ _ _ _ _ _ kX11_told_199 ?_
          dsimp only [bX11_told_199, kx_wp, kx_step, kx_lI, kx_lL, kx_lA, kx_gl, kx_pI, kx_pL, kx_pR, kx_pA, kx_pV, kx_s1, kx_s2, kx_sl, kx_pre, kx_c2, kx_pl, kx_cmp, kx_oF, kx_eqN, kx_nil, kx_c1, kx_ft, kx_aI, kx_aL, kx_aR, kx_ln, Nat.reduceAdd, Option.toList, List.cons_append, List.nil_append, mW_o, mf_0, mf_31, m_108, mf_32, m_109, mf_40, m_117, mf_33, m_110, mf_34, m_111, mf_35, m_112, mf_27, m_104]
          repeat (simp only [mu_0, mW_so, ms_108, ms_109, ms_117, ms_110, ms_111, ms_112, ms_104, nI_clamp (show c < 2 ^ 31 by omega), va_us, va_upn, ne_eq, Nat.reduceEqDiff, not_false_eq_true, h110]; try dsimp only [kx_wp, kx_step, kx_lI, kx_lL, kx_lA, kx_gl, kx_pI, kx_pL, kx_pR, kx_pA, kx_pV, kx_s1, kx_s2, kx_sl, kx_pre, kx_c2, kx_pl, kx_cmp, kx_oF, kx_eqN, kx_nil, kx_c1, kx_ft, kx_aI, kx_aL, kx_aR, kx_ln, Nat.reduceAdd, Option.toList, List.cons_append, List.nil_append, mW_o, mf_0, mf_31, m_108, mf_32, m_109, mf_40, m_117, mf_33, m_110, mf_34, m_111, mf_35, m_112, mf_27, m_104])
          repeat' apply And.intro
          all_goals try (first | with_reducible assumption | (with_reducible refine ck_nzI ?_; simp; done) | (with_reducible refine ck_nzL ?_; simp; done) | (with_reducible refine vp_in_nI ?_ ?_ <;> first | omega | decide) | (with_reducible refine Nat.le_of_ble_eq_true ?_; rfl) | omega)
          refine hB bX11_told_200 _ _ _ _ _ _ _ kX11_told_200 ?_
          dsimp only [bX11_told_200, kx_wp, kx_step, kx_lI, kx_lL, kx_lA, kx_gl, kx_pI, kx_pL, kx_pR, kx_pA, kx_pV, kx_s1, kx_s2, kx_sl, kx_pre, kx_c2, kx_pl, kx_cmp, kx_oF, kx_eqN, kx_nil, kx_c1, kx_ft, kx_aI, kx_aL, kx_aR, kx_ln, Nat.reduceAdd, Option.toList, List.cons_append, List.nil_append, mW_o, mf_0, mf_31, m_108, mf_32, m_109, mf_40, m_117, mf_33, m_110, mf_34, m_111, mf_35, m_112, mf_27, m_104]
          repeat (simp only [mu_0, mW_so, ms_108, ms_109, ms_117, ms_110, ms_111, ms_112, ms_104, nI_clamp (show c < 2 ^ 31 by omega), va_us, va_upn, ne_eq, Nat.reduceEqDiff, not_false_eq_true, h110]; try dsimp only [kx_wp, kx_step, kx_lI, kx_lL, kx_lA, kx_gl, kx_pI, kx_pL, kx_pR, kx_pA, kx_pV, kx_s1, kx_s2, kx_sl, kx_pre, kx_c2, kx_pl, kx_cmp, kx_oF, kx_eqN, kx_nil, kx_c1, kx_ft, kx_aI, kx_aL, kx_aR, kx_ln, Nat.reduceAdd, Option.toList, List.cons_append, List.nil_append, mW_o, mf_0, mf_31, m_108, mf_32, m_109, mf_40, m_117, mf_33, m_110, mf_34, m_111, mf_35, m_112, mf_27, m_104])
          all_goals (repeat' apply And.intro)
          all_goals ((try clear hB hC); first | exact True.intro | with_reducible rfl | with_reducible assumption | (with_reducible refine vp_in_nI ?_ ?_ <;> first | omega | decide) | exact Nat.le_of_ble_eq_true rfl | (with_reducible refine ck_nzI ?_; simp; done) | (with_reducible refine ck_nzL ?_; simp; done) | (simp only [pk_us, pk_uLs, ze10, ze25, ze174, eq_true ze192, ↓reduceIte, not_true_eq_false, not_false_eq_true]; done) | (simp only [ze10, ze25, ze174, eq_true ze192, ↓reduceIte, not_true_eq_false, not_false_eq_true]; with_reducible rfl) | skip)
        · intro zc192
          have ze192 := zc192
          refine hB bX11_told_195 _ _ _ _ _ _ _ kX11_told_195 ?_
          dsimp only [bX11_told_195, kx_wp, kx_step, kx_lI, kx_lL, kx_lA, kx_gl, kx_pI, kx_pL, kx_pR, kx_pA, kx_pV, kx_s1, kx_s2, kx_sl, kx_pre, kx_c2, kx_pl, kx_cmp, kx_oF, kx_eqN, kx_nil, kx_c1, kx_ft, kx_aI, kx_aL, kx_aR, kx_ln, Nat.reduceAdd, Option.toList, List.cons_append, List.nil_append, mW_o, mf_0, mf_31, m_108, mf_32, m_109, mf_40, m_117, mf_33, m_110, mf_34, m_111, mf_35, m_112, mf_27, m_104]
          repeat (simp only [mu_0, mW_so, ms_108, ms_109, ms_117, ms_110, ms_111, ms_112, ms_104, nI_clamp (show c < 2 ^ 31 by omega), va_us, va_upn, ne_eq, Nat.reduceEqDiff, not_false_eq_true, h110]; try dsimp only [kx_wp, kx_step, kx_lI, kx_lL, kx_lA, kx_gl, kx_pI, kx_pL, kx_pR, kx_pA, kx_pV, kx_s1, kx_s2, kx_sl, kx_pre, kx_c2, kx_pl, kx_cmp, kx_oF, kx_eqN, kx_nil, kx_c1, kx_ft, kx_aI, kx_aL, kx_aR, kx_ln, Nat.reduceAdd, Option.toList, List.cons_append, List.nil_append, mW_o, mf_0, mf_31, m_108, mf_32, m_109, mf_40, m_117, mf_33, m_110, mf_34, m_111, mf_35, m_112, mf_27, m_104])
          repeat' apply And.intro
          all_goals try (first | with_reducible assumption | (with_reducible refine ck_nzI ?_; simp; done) | (with_reducible refine ck_nzL ?_; simp; done) | (with_reducible refine vp_in_nI ?_ ?_ <;> first | omega | decide) | (with_reducible refine Nat.le_of_ble_eq_true ?_; rfl) | omega)
          refine hB bX11_told_200 _ _ _ _ _ _ _ kX11_told_200 ?_
          dsimp only [bX11_told_200, kx_wp, kx_step, kx_lI, kx_lL, kx_lA, kx_gl, kx_pI, kx_pL, kx_pR, kx_pA, kx_pV, kx_s1, kx_s2, kx_sl, kx_pre, kx_c2, kx_pl, kx_cmp, kx_oF, kx_eqN, kx_nil, kx_c1, kx_ft, kx_aI, kx_aL, kx_aR, kx_ln, Nat.reduceAdd, Option.toList, List.cons_append, List.nil_append, mW_o, mf_0, mf_31, m_108, mf_32, m_109, mf_40, m_117, mf_33, m_110, mf_34, m_111, mf_35, m_112, mf_27, m_104]
          repeat (simp only [mu_0, mW_so, ms_108, ms_109, ms_117, ms_110, ms_111, ms_112, ms_104, nI_clamp (show c < 2 ^ 31 by omega), va_us, va_upn, ne_eq, Nat.reduceEqDiff, not_false_eq_true, h110]; try dsimp only [kx_wp, kx_step, kx_lI, kx_lL, kx_lA, kx_gl, kx_pI, kx_pL, kx_pR, kx_pA, kx_pV, kx_s1, kx_s2, kx_sl, kx_pre, kx_c2, kx_pl, kx_cmp, kx_oF, kx_eqN, kx_nil, kx_c1, kx_ft, kx_aI, kx_aL, kx_aR, kx_ln, Nat.reduceAdd, Option.toList, List.cons_append, List.nil_append, mW_o, mf_0, mf_31, m_108, mf_32, m_109, mf_40, m_117, mf_33, m_110, mf_34, m_111, mf_35, m_112, mf_27, m_104])
          all_goals (repeat' apply And.intro)
          all_goals ((try clear hB hC); first | exact True.intro | with_reducible rfl | with_reducible assumption | (with_reducible refine vp_in_nI ?_ ?_ <;> first | omega | decide) | exact Nat.le_of_ble_eq_true rfl | (with_reducible refine ck_nzI ?_; simp; done) | (with_reducible refine ck_nzL ?_; simp; done) | (simp only [pk_us, pk_uLs, ze10, ze25, ze174, ze192, ↓reduceIte, not_true_eq_false, not_false_eq_true]; done) | (simp only [ze10, ze25, ze174, ze192, ↓reduceIte, not_true_eq_false, not_false_eq_true]; with_reducible rfl) | skip)
      · intro zc174
        first | exact absurd rfl zc174 | exact absurd zc174 (by decide) | exact absurd (by decide) zc174 | (exfalso; first | exact h117 zc174 | exact h117 (Decidable.not_not.mp zc174) | exact zc174 h117 | exact h117 zc207 | exact h117 (Decidable.not_not.mp zc207) | exact zc207 h117) | (exfalso; simp_all; done)
    · intro zc25
      first | exact absurd rfl zc25 | exact absurd zc25 (by decide) | exact absurd (by decide) zc25 | (exfalso; first | exact h117 zc174 | exact h117 (Decidable.not_not.mp zc174) | exact zc174 h117 | exact h117 zc207 | exact h117 (Decidable.not_not.mp zc207) | exact zc207 h117) | (exfalso; simp_all; done)

set_option maxRecDepth 100000 in
set_option maxHeartbeats 4000000 in
theorem ct_X11_told_8w (l : Launch) (G : kx_G) {M : Nat → Int32} {A : Nat → Nat → Int32} {L : Nat → Nat → Int64} {R : kx_P} {sz : Nat} {cl c : Nat} (h21 : M 21 = nI cl) (hcl : cl ≤ 8) (hc : c < cl) (h117 : ¬ A 117 c = 0) {p wm : Nat} (h110 : A 110 c = nI p) (h103 : A 103 c = nI wm) (hp : p < wm) (hwm : wm ≤ 24)  : kx_M l G sX11_told 4 0 0 [.ref 93, .int (nI c), .int (8)] (mW M A L R) sz (some (.int (A 104 (24 * c + p)))) (mW (upd M 0 0) A L R) sz := by
  refine kx_mk kx_tab kxLok_X11 (ini := false) [some (.ref 93), some (.int (nI c)), some (.int (8))] ⟨by decide, rfl, by decide, by decide⟩ (⟨_, rfl⟩) rfl rfl (fun g hB hC => ?_)
  refine hB bX11_told_0 _ _ _ _ _ _ _ kX11_told_0 ?_
  dsimp only [bX11_told_0, kx_wp, kx_step, kx_lI, kx_lL, kx_lA, kx_gl, kx_pI, kx_pL, kx_pR, kx_pA, kx_pV, kx_s1, kx_s2, kx_sl, kx_pre, kx_c2, kx_pl, kx_cmp, kx_oF, kx_eqN, kx_nil, kx_c1, kx_ft, kx_aI, kx_aL, kx_aR, kx_ln, Nat.reduceAdd, Option.toList, List.cons_append, List.nil_append, mW_o, mf_0, mf_31, m_108, mf_32, m_109, mf_40, m_117, mf_33, m_110, mf_34, m_111, mf_35, m_112, mf_27, m_104]
  repeat (simp only [mu_0, mW_so, ms_108, ms_109, ms_117, ms_110, ms_111, ms_112, ms_104, nI_clamp (show c < 2 ^ 31 by omega), va_us, va_upn, ne_eq, Nat.reduceEqDiff, not_false_eq_true, h110, ck_i24, nI_clamp (show 24 * c + p < 2 ^ 31 by omega)]; try dsimp only [kx_wp, kx_step, kx_lI, kx_lL, kx_lA, kx_gl, kx_pI, kx_pL, kx_pR, kx_pA, kx_pV, kx_s1, kx_s2, kx_sl, kx_pre, kx_c2, kx_pl, kx_cmp, kx_oF, kx_eqN, kx_nil, kx_c1, kx_ft, kx_aI, kx_aL, kx_aR, kx_ln, Nat.reduceAdd, Option.toList, List.cons_append, List.nil_append, mW_o, mf_0, mf_31, m_108, mf_32, m_109, mf_40, m_117, mf_33, m_110, mf_34, m_111, mf_35, m_112, mf_27, m_104])
  repeat' apply And.intro
  all_goals try (first | with_reducible assumption | (with_reducible refine ck_nzI ?_; simp; done) | (with_reducible refine ck_nzL ?_; simp; done) | (with_reducible refine vp_in_nI ?_ ?_ <;> first | omega | decide) | (with_reducible refine Nat.le_of_ble_eq_true ?_; rfl) | omega)
  refine hC.1 358 _ _ _ _ _ _ _ 11 _ _ _ _ _ _ _ _ _ _ _ _ lX11_358 (ct_X11_isClock_t l G (M := upd M 0 0) h21 hcl hc rfl) ⟨by decide, rfl⟩ (mW_o) rfl rfl (Nat.le_of_ble_eq_true rfl) (by decide) (by decide) (by omega) (by omega) dX11_told_7 ?_
  refine hB bX11_told_10 _ _ _ _ _ _ _ kX11_told_10 ?_
  dsimp only [bX11_told_10, kx_wp, kx_step, kx_lI, kx_lL, kx_lA, kx_gl, kx_pI, kx_pL, kx_pR, kx_pA, kx_pV, kx_s1, kx_s2, kx_sl, kx_pre, kx_c2, kx_pl, kx_cmp, kx_oF, kx_eqN, kx_nil, kx_c1, kx_ft, kx_aI, kx_aL, kx_aR, kx_ln, Nat.reduceAdd, Option.toList, List.cons_append, List.nil_append, mW_o, mf_0, mf_31, m_108, mf_32, m_109, mf_40, m_117, mf_33, m_110, mf_34, m_111, mf_35, m_112, mf_27, m_104]
  repeat (simp only [mu_0, mW_so, ms_108, ms_109, ms_117, ms_110, ms_111, ms_112, ms_104, nI_clamp (show c < 2 ^ 31 by omega), va_us, va_upn, ne_eq, Nat.reduceEqDiff, not_false_eq_true, h110, ck_i24, nI_clamp (show 24 * c + p < 2 ^ 31 by omega)]; try dsimp only [kx_wp, kx_step, kx_lI, kx_lL, kx_lA, kx_gl, kx_pI, kx_pL, kx_pR, kx_pA, kx_pV, kx_s1, kx_s2, kx_sl, kx_pre, kx_c2, kx_pl, kx_cmp, kx_oF, kx_eqN, kx_nil, kx_c1, kx_ft, kx_aI, kx_aL, kx_aR, kx_ln, Nat.reduceAdd, Option.toList, List.cons_append, List.nil_append, mW_o, mf_0, mf_31, m_108, mf_32, m_109, mf_40, m_117, mf_33, m_110, mf_34, m_111, mf_35, m_112, mf_27, m_104])
  repeat' apply And.intro
  all_goals try (first | with_reducible assumption | (with_reducible refine ck_nzI ?_; simp; done) | (with_reducible refine ck_nzL ?_; simp; done) | (with_reducible refine vp_in_nI ?_ ?_ <;> first | omega | decide) | (with_reducible refine Nat.le_of_ble_eq_true ?_; rfl) | omega)
  · intro zc10
    first | exact absurd rfl zc10 | exact absurd zc10 (by decide) | exact absurd (by decide) zc10 | (exfalso; first | exact h117 zc174 | exact h117 (Decidable.not_not.mp zc174) | exact zc174 h117 | exact h117 zc207 | exact h117 (Decidable.not_not.mp zc207) | exact zc207 h117) | (exfalso; simp_all; done)
  · intro zc10
    have ze10 := zc10
    refine hB bX11_told_13 _ _ _ _ _ _ _ kX11_told_13 ?_
    dsimp only [bX11_told_13, kx_wp, kx_step, kx_lI, kx_lL, kx_lA, kx_gl, kx_pI, kx_pL, kx_pR, kx_pA, kx_pV, kx_s1, kx_s2, kx_sl, kx_pre, kx_c2, kx_pl, kx_cmp, kx_oF, kx_eqN, kx_nil, kx_c1, kx_ft, kx_aI, kx_aL, kx_aR, kx_ln, Nat.reduceAdd, Option.toList, List.cons_append, List.nil_append, mW_o, mf_0, mf_31, m_108, mf_32, m_109, mf_40, m_117, mf_33, m_110, mf_34, m_111, mf_35, m_112, mf_27, m_104]
    repeat (simp only [mu_0, mW_so, ms_108, ms_109, ms_117, ms_110, ms_111, ms_112, ms_104, nI_clamp (show c < 2 ^ 31 by omega), va_us, va_upn, ne_eq, Nat.reduceEqDiff, not_false_eq_true, h110, ck_i24, nI_clamp (show 24 * c + p < 2 ^ 31 by omega)]; try dsimp only [kx_wp, kx_step, kx_lI, kx_lL, kx_lA, kx_gl, kx_pI, kx_pL, kx_pR, kx_pA, kx_pV, kx_s1, kx_s2, kx_sl, kx_pre, kx_c2, kx_pl, kx_cmp, kx_oF, kx_eqN, kx_nil, kx_c1, kx_ft, kx_aI, kx_aL, kx_aR, kx_ln, Nat.reduceAdd, Option.toList, List.cons_append, List.nil_append, mW_o, mf_0, mf_31, m_108, mf_32, m_109, mf_40, m_117, mf_33, m_110, mf_34, m_111, mf_35, m_112, mf_27, m_104])
    repeat' apply And.intro
    all_goals try (first | with_reducible assumption | (with_reducible refine ck_nzI ?_; simp; done) | (with_reducible refine ck_nzL ?_; simp; done) | (with_reducible refine vp_in_nI ?_ ?_ <;> first | omega | decide) | (with_reducible refine Nat.le_of_ble_eq_true ?_; rfl) | omega)
    refine hC.2.1 167 _ _ _ _ _ _ _ _ _ _ _ _ _ _ _ _ _ lX11_167 (ct_X11_within l G) rfl rfl (Nat.le_of_ble_eq_true rfl) (by decide) (by decide) (by omega) (by omega) dX11_told_18 ?_
    refine hB bX11_told_21 _ _ _ _ _ _ _ kX11_told_21 ?_
    dsimp only [bX11_told_21, kx_wp, kx_step, kx_lI, kx_lL, kx_lA, kx_gl, kx_pI, kx_pL, kx_pR, kx_pA, kx_pV, kx_s1, kx_s2, kx_sl, kx_pre, kx_c2, kx_pl, kx_cmp, kx_oF, kx_eqN, kx_nil, kx_c1, kx_ft, kx_aI, kx_aL, kx_aR, kx_ln, Nat.reduceAdd, Option.toList, List.cons_append, List.nil_append, mW_o, mf_0, mf_31, m_108, mf_32, m_109, mf_40, m_117, mf_33, m_110, mf_34, m_111, mf_35, m_112, mf_27, m_104]
    repeat (simp only [mu_0, mW_so, ms_108, ms_109, ms_117, ms_110, ms_111, ms_112, ms_104, nI_clamp (show c < 2 ^ 31 by omega), va_us, va_upn, ne_eq, Nat.reduceEqDiff, not_false_eq_true, h110, ck_i24, nI_clamp (show 24 * c + p < 2 ^ 31 by omega)]; try dsimp only [kx_wp, kx_step, kx_lI, kx_lL, kx_lA, kx_gl, kx_pI, kx_pL, kx_pR, kx_pA, kx_pV, kx_s1, kx_s2, kx_sl, kx_pre, kx_c2, kx_pl, kx_cmp, kx_oF, kx_eqN, kx_nil, kx_c1, kx_ft, kx_aI, kx_aL, kx_aR, kx_ln, Nat.reduceAdd, Option.toList, List.cons_append, List.nil_append, mW_o, mf_0, mf_31, m_108, mf_32, m_109, mf_40, m_117, mf_33, m_110, mf_34, m_111, mf_35, m_112, mf_27, m_104])
    repeat' apply And.intro
    all_goals try (first | with_reducible assumption | (with_reducible refine ck_nzI ?_; simp; done) | (with_reducible refine ck_nzL ?_; simp; done) | (with_reducible refine vp_in_nI ?_ ?_ <;> first | omega | decide) | (with_reducible refine Nat.le_of_ble_eq_true ?_; rfl) | omega)
    rw [if_pos (by decide)]
    refine hC.1 171 _ _ _ _ _ _ _ 11 _ _ _ _ _ _ _ _ _ _ _ _ lX11_171 (ct_X11_may_t l G (M := upd M 0 0) rfl) ⟨by decide, rfl⟩ (mW_o) rfl rfl (Nat.le_of_ble_eq_true rfl) (by decide) (by decide) (by omega) (by omega) dX11_told_22 ?_
    refine hB bX11_told_25 _ _ _ _ _ _ _ kX11_told_25 ?_
    dsimp only [bX11_told_25, kx_wp, kx_step, kx_lI, kx_lL, kx_lA, kx_gl, kx_pI, kx_pL, kx_pR, kx_pA, kx_pV, kx_s1, kx_s2, kx_sl, kx_pre, kx_c2, kx_pl, kx_cmp, kx_oF, kx_eqN, kx_nil, kx_c1, kx_ft, kx_aI, kx_aL, kx_aR, kx_ln, Nat.reduceAdd, Option.toList, List.cons_append, List.nil_append, mW_o, mf_0, mf_31, m_108, mf_32, m_109, mf_40, m_117, mf_33, m_110, mf_34, m_111, mf_35, m_112, mf_27, m_104]
    repeat (simp only [mu_0, mW_so, ms_108, ms_109, ms_117, ms_110, ms_111, ms_112, ms_104, nI_clamp (show c < 2 ^ 31 by omega), va_us, va_upn, ne_eq, Nat.reduceEqDiff, not_false_eq_true, h110, ck_i24, nI_clamp (show 24 * c + p < 2 ^ 31 by omega)]; try dsimp only [kx_wp, kx_step, kx_lI, kx_lL, kx_lA, kx_gl, kx_pI, kx_pL, kx_pR, kx_pA, kx_pV, kx_s1, kx_s2, kx_sl, kx_pre, kx_c2, kx_pl, kx_cmp, kx_oF, kx_eqN, kx_nil, kx_c1, kx_ft, kx_aI, kx_aL, kx_aR, kx_ln, Nat.reduceAdd, Option.toList, List.cons_append, List.nil_append, mW_o, mf_0, mf_31, m_108, mf_32, m_109, mf_40, m_117, mf_33, m_110, mf_34, m_111, mf_35, m_112, mf_27, m_104])
    repeat' apply And.intro
    all_goals try (first | with_reducible assumption | (with_reducible refine ck_nzI ?_; simp; done) | (with_reducible refine ck_nzL ?_; simp; done) | (with_reducible refine vp_in_nI ?_ ?_ <;> first | omega | decide) | (with_reducible refine Nat.le_of_ble_eq_true ?_; rfl) | omega)
    · intro zc25
      have ze25 := zc25
      refine hB bX11_told_30 _ _ _ _ _ _ _ kX11_told_30 ?_
      dsimp only [bX11_told_30, kx_wp, kx_step, kx_lI, kx_lL, kx_lA, kx_gl, kx_pI, kx_pL, kx_pR, kx_pA, kx_pV, kx_s1, kx_s2, kx_sl, kx_pre, kx_c2, kx_pl, kx_cmp, kx_oF, kx_eqN, kx_nil, kx_c1, kx_ft, kx_aI, kx_aL, kx_aR, kx_ln, Nat.reduceAdd, Option.toList, List.cons_append, List.nil_append, mW_o, mf_0, mf_31, m_108, mf_32, m_109, mf_40, m_117, mf_33, m_110, mf_34, m_111, mf_35, m_112, mf_27, m_104]
      repeat (simp only [mu_0, mW_so, ms_108, ms_109, ms_117, ms_110, ms_111, ms_112, ms_104, nI_clamp (show c < 2 ^ 31 by omega), va_us, va_upn, ne_eq, Nat.reduceEqDiff, not_false_eq_true, h110, ck_i24, nI_clamp (show 24 * c + p < 2 ^ 31 by omega)]; try dsimp only [kx_wp, kx_step, kx_lI, kx_lL, kx_lA, kx_gl, kx_pI, kx_pL, kx_pR, kx_pA, kx_pV, kx_s1, kx_s2, kx_sl, kx_pre, kx_c2, kx_pl, kx_cmp, kx_oF, kx_eqN, kx_nil, kx_c1, kx_ft, kx_aI, kx_aL, kx_aR, kx_ln, Nat.reduceAdd, Option.toList, List.cons_append, List.nil_append, mW_o, mf_0, mf_31, m_108, mf_32, m_109, mf_40, m_117, mf_33, m_110, mf_34, m_111, mf_35, m_112, mf_27, m_104])
      repeat' apply And.intro
      all_goals try (first | with_reducible assumption | (with_reducible refine ck_nzI ?_; simp; done) | (with_reducible refine ck_nzL ?_; simp; done) | (with_reducible refine vp_in_nI ?_ ?_ <;> first | omega | decide) | (with_reducible refine Nat.le_of_ble_eq_true ?_; rfl) | omega)
      · intro zc31
        refine hB bX11_told_201 _ _ _ _ _ _ _ kX11_told_201 ?_
        dsimp only [bX11_told_201, kx_wp, kx_step, kx_lI, kx_lL, kx_lA, kx_gl, kx_pI, kx_pL, kx_pR, kx_pA, kx_pV, kx_s1, kx_s2, kx_sl, kx_pre, kx_c2, kx_pl, kx_cmp, kx_oF, kx_eqN, kx_nil, kx_c1, kx_ft, kx_aI, kx_aL, kx_aR, kx_ln, Nat.reduceAdd, Option.toList, List.cons_append, List.nil_append, mW_o, mf_0, mf_31, m_108, mf_32, m_109, mf_40, m_117, mf_33, m_110, mf_34, m_111, mf_35, m_112, mf_27, m_104]
        repeat (simp only [mu_0, mW_so, ms_108, ms_109, ms_117, ms_110, ms_111, ms_112, ms_104, nI_clamp (show c < 2 ^ 31 by omega), va_us, va_upn, ne_eq, Nat.reduceEqDiff, not_false_eq_true, h110, ck_i24, nI_clamp (show 24 * c + p < 2 ^ 31 by omega)]; try dsimp only [kx_wp, kx_step, kx_lI, kx_lL, kx_lA, kx_gl, kx_pI, kx_pL, kx_pR, kx_pA, kx_pV, kx_s1, kx_s2, kx_sl, kx_pre, kx_c2, kx_pl, kx_cmp, kx_oF, kx_eqN, kx_nil, kx_c1, kx_ft, kx_aI, kx_aL, kx_aR, kx_ln, Nat.reduceAdd, Option.toList, List.cons_append, List.nil_append, mW_o, mf_0, mf_31, m_108, mf_32, m_109, mf_40, m_117, mf_33, m_110, mf_34, m_111, mf_35, m_112, mf_27, m_104])
        repeat' apply And.intro
        all_goals try (first | with_reducible assumption | (with_reducible refine ck_nzI ?_; simp; done) | (with_reducible refine ck_nzL ?_; simp; done) | (with_reducible refine vp_in_nI ?_ ?_ <;> first | omega | decide) | (with_reducible refine Nat.le_of_ble_eq_true ?_; rfl) | omega)
        · intro zc207
          first | exact absurd rfl zc207 | exact absurd zc207 (by decide) | exact absurd (by decide) zc207 | (exfalso; first | exact h117 zc174 | exact h117 (Decidable.not_not.mp zc174) | exact zc174 h117 | exact h117 zc207 | exact h117 (Decidable.not_not.mp zc207) | exact zc207 h117) | (exfalso; simp_all; done)
        · intro zc207
          have ze207 := zc207
          refine hB bX11_told_210 _ _ _ _ _ _ _ kX11_told_210 ?_
          dsimp only [bX11_told_210, kx_wp, kx_step, kx_lI, kx_lL, kx_lA, kx_gl, kx_pI, kx_pL, kx_pR, kx_pA, kx_pV, kx_s1, kx_s2, kx_sl, kx_pre, kx_c2, kx_pl, kx_cmp, kx_oF, kx_eqN, kx_nil, kx_c1, kx_ft, kx_aI, kx_aL, kx_aR, kx_ln, Nat.reduceAdd, Option.toList, List.cons_append, List.nil_append, mW_o, mf_0, mf_31, m_108, mf_32, m_109, mf_40, m_117, mf_33, m_110, mf_34, m_111, mf_35, m_112, mf_27, m_104]
          repeat (simp only [mu_0, mW_so, ms_108, ms_109, ms_117, ms_110, ms_111, ms_112, ms_104, nI_clamp (show c < 2 ^ 31 by omega), va_us, va_upn, ne_eq, Nat.reduceEqDiff, not_false_eq_true, h110, ck_i24, nI_clamp (show 24 * c + p < 2 ^ 31 by omega)]; try dsimp only [kx_wp, kx_step, kx_lI, kx_lL, kx_lA, kx_gl, kx_pI, kx_pL, kx_pR, kx_pA, kx_pV, kx_s1, kx_s2, kx_sl, kx_pre, kx_c2, kx_pl, kx_cmp, kx_oF, kx_eqN, kx_nil, kx_c1, kx_ft, kx_aI, kx_aL, kx_aR, kx_ln, Nat.reduceAdd, Option.toList, List.cons_append, List.nil_append, mW_o, mf_0, mf_31, m_108, mf_32, m_109, mf_40, m_117, mf_33, m_110, mf_34, m_111, mf_35, m_112, mf_27, m_104])
          repeat' apply And.intro
          all_goals try (first | with_reducible assumption | (with_reducible refine ck_nzI ?_; simp; done) | (with_reducible refine ck_nzL ?_; simp; done) | (with_reducible refine vp_in_nI ?_ ?_ <;> first | omega | decide) | (with_reducible refine Nat.le_of_ble_eq_true ?_; rfl) | omega)
          refine hB bX11_told_234 _ _ _ _ _ _ _ kX11_told_234 ?_
          dsimp only [bX11_told_234, kx_wp, kx_step, kx_lI, kx_lL, kx_lA, kx_gl, kx_pI, kx_pL, kx_pR, kx_pA, kx_pV, kx_s1, kx_s2, kx_sl, kx_pre, kx_c2, kx_pl, kx_cmp, kx_oF, kx_eqN, kx_nil, kx_c1, kx_ft, kx_aI, kx_aL, kx_aR, kx_ln, Nat.reduceAdd, Option.toList, List.cons_append, List.nil_append, mW_o, mf_0, mf_31, m_108, mf_32, m_109, mf_40, m_117, mf_33, m_110, mf_34, m_111, mf_35, m_112, mf_27, m_104]
          repeat (simp only [mu_0, mW_so, ms_108, ms_109, ms_117, ms_110, ms_111, ms_112, ms_104, nI_clamp (show c < 2 ^ 31 by omega), va_us, va_upn, ne_eq, Nat.reduceEqDiff, not_false_eq_true, h110, ck_i24, nI_clamp (show 24 * c + p < 2 ^ 31 by omega)]; try dsimp only [kx_wp, kx_step, kx_lI, kx_lL, kx_lA, kx_gl, kx_pI, kx_pL, kx_pR, kx_pA, kx_pV, kx_s1, kx_s2, kx_sl, kx_pre, kx_c2, kx_pl, kx_cmp, kx_oF, kx_eqN, kx_nil, kx_c1, kx_ft, kx_aI, kx_aL, kx_aR, kx_ln, Nat.reduceAdd, Option.toList, List.cons_append, List.nil_append, mW_o, mf_0, mf_31, m_108, mf_32, m_109, mf_40, m_117, mf_33, m_110, mf_34, m_111, mf_35, m_112, mf_27, m_104])
          all_goals (repeat' apply And.intro)
          all_goals ((try clear hB hC); first | exact True.intro | with_reducible rfl | with_reducible assumption | (with_reducible refine vp_in_nI ?_ ?_ <;> first | omega | decide) | exact Nat.le_of_ble_eq_true rfl | (with_reducible refine ck_nzI ?_; simp; done) | (with_reducible refine ck_nzL ?_; simp; done) | (simp only [pk_us, pk_uLs, ze10, ze25, ze207, ↓reduceIte, not_true_eq_false, not_false_eq_true]; done) | (simp only [ze10, ze25, ze207, ↓reduceIte, not_true_eq_false, not_false_eq_true]; with_reducible rfl) | skip)
      refine kx_sw (ws := [76, 83, 90, 110, 117, 124, 139, 168]) rfl ?_
      dsimp only [kx_swl]
      exact ⟨fun zc31_0 => absurd zc31_0 (by decide), fun zc31_1 => absurd zc31_1 (by decide), fun zc31_2 => absurd zc31_2 (by decide), fun zc31_3 => absurd zc31_3 (by decide), fun zc31_4 => absurd zc31_4 (by decide), fun zc31_5 => absurd zc31_5 (by decide), fun zc31_6 => absurd zc31_6 (by decide), fun zc31_7 => absurd zc31_7 (by decide), trivial⟩
    · intro zc25
      first | exact absurd rfl zc25 | exact absurd zc25 (by decide) | exact absurd (by decide) zc25 | (exfalso; first | exact h117 zc174 | exact h117 (Decidable.not_not.mp zc174) | exact zc174 h117 | exact h117 zc207 | exact h117 (Decidable.not_not.mp zc207) | exact zc207 h117) | (exfalso; simp_all; done)

set_option maxRecDepth 100000 in
set_option maxHeartbeats 4000000 in
theorem ct_X11_told_8r (l : Launch) (G : kx_G) {M : Nat → Int32} {A : Nat → Nat → Int32} {L : Nat → Nat → Int64} {R : kx_P} {sz : Nat} {cl c : Nat} (h21 : M 21 = nI cl) (hcl : cl ≤ 8) (hc : c < cl) (hdl : ck_dl L c) (hw : ck_wf A c) (h117 : A 117 c = 0)  : kx_M l G sX11_told 4 0 0 [.ref 93, .int (nI c), .int (8)] (mW M A L R) sz (some (.int (ck_cl (ck_cR (upd M 0 0) A c (ck_nx L c) 0)))) (mW (upd M 0 0) (va_up A 123 (ck_cR (upd M 0 0) A c (ck_nx L c))) L R) sz := by
  refine kx_mk kx_tab kxLok_X11 (ini := false) [some (.ref 93), some (.int (nI c)), some (.int (8))] ⟨by decide, rfl, by decide, by decide⟩ (⟨_, rfl⟩) rfl rfl (fun g hB hC => ?_)
  refine hB bX11_told_0 _ _ _ _ _ _ _ kX11_told_0 ?_
  dsimp only [bX11_told_0, kx_wp, kx_step, kx_lI, kx_lL, kx_lA, kx_gl, kx_pI, kx_pL, kx_pR, kx_pA, kx_pV, kx_s1, kx_s2, kx_sl, kx_pre, kx_c2, kx_pl, kx_cmp, kx_oF, kx_eqN, kx_nil, kx_c1, kx_ft, kx_aI, kx_aL, kx_aR, kx_ln, Nat.reduceAdd, Option.toList, List.cons_append, List.nil_append, mW_o, mf_0, mf_31, m_108, mf_32, m_109, mf_40, m_117, mf_33, m_110, mf_34, m_111, mf_35, m_112, mf_27, m_104]
  repeat (simp only [mu_0, mW_so, ms_108, ms_109, ms_117, ms_110, ms_111, ms_112, ms_104, nI_clamp (show c < 2 ^ 31 by omega), va_us, va_upn, ne_eq, Nat.reduceEqDiff, not_false_eq_true]; try dsimp only [kx_wp, kx_step, kx_lI, kx_lL, kx_lA, kx_gl, kx_pI, kx_pL, kx_pR, kx_pA, kx_pV, kx_s1, kx_s2, kx_sl, kx_pre, kx_c2, kx_pl, kx_cmp, kx_oF, kx_eqN, kx_nil, kx_c1, kx_ft, kx_aI, kx_aL, kx_aR, kx_ln, Nat.reduceAdd, Option.toList, List.cons_append, List.nil_append, mW_o, mf_0, mf_31, m_108, mf_32, m_109, mf_40, m_117, mf_33, m_110, mf_34, m_111, mf_35, m_112, mf_27, m_104])
  repeat' apply And.intro
  all_goals try (first | with_reducible assumption | (with_reducible refine ck_nzI ?_; simp; done) | (with_reducible refine ck_nzL ?_; simp; done) | (with_reducible refine vp_in_nI ?_ ?_ <;> first | omega | decide) | (with_reducible refine Nat.le_of_ble_eq_true ?_; rfl) | omega)
  refine hC.1 358 _ _ _ _ _ _ _ 11 _ _ _ _ _ _ _ _ _ _ _ _ lX11_358 (ct_X11_isClock_t l G (M := upd M 0 0) h21 hcl hc rfl) ⟨by decide, rfl⟩ (mW_o) rfl rfl (Nat.le_of_ble_eq_true rfl) (by decide) (by decide) (by omega) (by omega) dX11_told_7 ?_
  refine hB bX11_told_10 _ _ _ _ _ _ _ kX11_told_10 ?_
  dsimp only [bX11_told_10, kx_wp, kx_step, kx_lI, kx_lL, kx_lA, kx_gl, kx_pI, kx_pL, kx_pR, kx_pA, kx_pV, kx_s1, kx_s2, kx_sl, kx_pre, kx_c2, kx_pl, kx_cmp, kx_oF, kx_eqN, kx_nil, kx_c1, kx_ft, kx_aI, kx_aL, kx_aR, kx_ln, Nat.reduceAdd, Option.toList, List.cons_append, List.nil_append, mW_o, mf_0, mf_31, m_108, mf_32, m_109, mf_40, m_117, mf_33, m_110, mf_34, m_111, mf_35, m_112, mf_27, m_104]
  repeat (simp only [mu_0, mW_so, ms_108, ms_109, ms_117, ms_110, ms_111, ms_112, ms_104, nI_clamp (show c < 2 ^ 31 by omega), va_us, va_upn, ne_eq, Nat.reduceEqDiff, not_false_eq_true]; try dsimp only [kx_wp, kx_step, kx_lI, kx_lL, kx_lA, kx_gl, kx_pI, kx_pL, kx_pR, kx_pA, kx_pV, kx_s1, kx_s2, kx_sl, kx_pre, kx_c2, kx_pl, kx_cmp, kx_oF, kx_eqN, kx_nil, kx_c1, kx_ft, kx_aI, kx_aL, kx_aR, kx_ln, Nat.reduceAdd, Option.toList, List.cons_append, List.nil_append, mW_o, mf_0, mf_31, m_108, mf_32, m_109, mf_40, m_117, mf_33, m_110, mf_34, m_111, mf_35, m_112, mf_27, m_104])
  repeat' apply And.intro
  all_goals try (first | with_reducible assumption | (with_reducible refine ck_nzI ?_; simp; done) | (with_reducible refine ck_nzL ?_; simp; done) | (with_reducible refine vp_in_nI ?_ ?_ <;> first | omega | decide) | (with_reducible refine Nat.le_of_ble_eq_true ?_; rfl) | omega)
  · intro zc10
    first | exact absurd rfl zc10 | exact absurd zc10 (by decide) | exact absurd (by decide) zc10 | (exfalso; first | exact h117 zc174 | exact h117 (Decidable.not_not.mp zc174) | exact zc174 h117 | exact h117 zc207 | exact h117 (Decidable.not_not.mp zc207) | exact zc207 h117) | (exfalso; simp_all; done)
  · intro zc10
    have ze10 := zc10
    refine hB bX11_told_13 _ _ _ _ _ _ _ kX11_told_13 ?_
    dsimp only [bX11_told_13, kx_wp, kx_step, kx_lI, kx_lL, kx_lA, kx_gl, kx_pI, kx_pL, kx_pR, kx_pA, kx_pV, kx_s1, kx_s2, kx_sl, kx_pre, kx_c2, kx_pl, kx_cmp, kx_oF, kx_eqN, kx_nil, kx_c1, kx_ft, kx_aI, kx_aL, kx_aR, kx_ln, Nat.reduceAdd, Option.toList, List.cons_append, List.nil_append, mW_o, mf_0, mf_31, m_108, mf_32, m_109, mf_40, m_117, mf_33, m_110, mf_34, m_111, mf_35, m_112, mf_27, m_104]
    repeat (simp only [mu_0, mW_so, ms_108, ms_109, ms_117, ms_110, ms_111, ms_112, ms_104, nI_clamp (show c < 2 ^ 31 by omega), va_us, va_upn, ne_eq, Nat.reduceEqDiff, not_false_eq_true]; try dsimp only [kx_wp, kx_step, kx_lI, kx_lL, kx_lA, kx_gl, kx_pI, kx_pL, kx_pR, kx_pA, kx_pV, kx_s1, kx_s2, kx_sl, kx_pre, kx_c2, kx_pl, kx_cmp, kx_oF, kx_eqN, kx_nil, kx_c1, kx_ft, kx_aI, kx_aL, kx_aR, kx_ln, Nat.reduceAdd, Option.toList, List.cons_append, List.nil_append, mW_o, mf_0, mf_31, m_108, mf_32, m_109, mf_40, m_117, mf_33, m_110, mf_34, m_111, mf_35, m_112, mf_27, m_104])
    repeat' apply And.intro
    all_goals try (first | with_reducible assumption | (with_reducible refine ck_nzI ?_; simp; done) | (with_reducible refine ck_nzL ?_; simp; done) | (with_reducible refine vp_in_nI ?_ ?_ <;> first | omega | decide) | (with_reducible refine Nat.le_of_ble_eq_true ?_; rfl) | omega)
    refine hC.2.1 167 _ _ _ _ _ _ _ _ _ _ _ _ _ _ _ _ _ lX11_167 (ct_X11_within l G) rfl rfl (Nat.le_of_ble_eq_true rfl) (by decide) (by decide) (by omega) (by omega) dX11_told_18 ?_
    refine hB bX11_told_21 _ _ _ _ _ _ _ kX11_told_21 ?_
    dsimp only [bX11_told_21, kx_wp, kx_step, kx_lI, kx_lL, kx_lA, kx_gl, kx_pI, kx_pL, kx_pR, kx_pA, kx_pV, kx_s1, kx_s2, kx_sl, kx_pre, kx_c2, kx_pl, kx_cmp, kx_oF, kx_eqN, kx_nil, kx_c1, kx_ft, kx_aI, kx_aL, kx_aR, kx_ln, Nat.reduceAdd, Option.toList, List.cons_append, List.nil_append, mW_o, mf_0, mf_31, m_108, mf_32, m_109, mf_40, m_117, mf_33, m_110, mf_34, m_111, mf_35, m_112, mf_27, m_104]
    repeat (simp only [mu_0, mW_so, ms_108, ms_109, ms_117, ms_110, ms_111, ms_112, ms_104, nI_clamp (show c < 2 ^ 31 by omega), va_us, va_upn, ne_eq, Nat.reduceEqDiff, not_false_eq_true]; try dsimp only [kx_wp, kx_step, kx_lI, kx_lL, kx_lA, kx_gl, kx_pI, kx_pL, kx_pR, kx_pA, kx_pV, kx_s1, kx_s2, kx_sl, kx_pre, kx_c2, kx_pl, kx_cmp, kx_oF, kx_eqN, kx_nil, kx_c1, kx_ft, kx_aI, kx_aL, kx_aR, kx_ln, Nat.reduceAdd, Option.toList, List.cons_append, List.nil_append, mW_o, mf_0, mf_31, m_108, mf_32, m_109, mf_40, m_117, mf_33, m_110, mf_34, m_111, mf_35, m_112, mf_27, m_104])
    repeat' apply And.intro
    all_goals try (first | with_reducible assumption | (with_reducible refine ck_nzI ?_; simp; done) | (with_reducible refine ck_nzL ?_; simp; done) | (with_reducible refine vp_in_nI ?_ ?_ <;> first | omega | decide) | (with_reducible refine Nat.le_of_ble_eq_true ?_; rfl) | omega)
    rw [if_pos (by decide)]
    refine hC.1 171 _ _ _ _ _ _ _ 11 _ _ _ _ _ _ _ _ _ _ _ _ lX11_171 (ct_X11_may_t l G (M := upd M 0 0) rfl) ⟨by decide, rfl⟩ (mW_o) rfl rfl (Nat.le_of_ble_eq_true rfl) (by decide) (by decide) (by omega) (by omega) dX11_told_22 ?_
    refine hB bX11_told_25 _ _ _ _ _ _ _ kX11_told_25 ?_
    dsimp only [bX11_told_25, kx_wp, kx_step, kx_lI, kx_lL, kx_lA, kx_gl, kx_pI, kx_pL, kx_pR, kx_pA, kx_pV, kx_s1, kx_s2, kx_sl, kx_pre, kx_c2, kx_pl, kx_cmp, kx_oF, kx_eqN, kx_nil, kx_c1, kx_ft, kx_aI, kx_aL, kx_aR, kx_ln, Nat.reduceAdd, Option.toList, List.cons_append, List.nil_append, mW_o, mf_0, mf_31, m_108, mf_32, m_109, mf_40, m_117, mf_33, m_110, mf_34, m_111, mf_35, m_112, mf_27, m_104]
    repeat (simp only [mu_0, mW_so, ms_108, ms_109, ms_117, ms_110, ms_111, ms_112, ms_104, nI_clamp (show c < 2 ^ 31 by omega), va_us, va_upn, ne_eq, Nat.reduceEqDiff, not_false_eq_true]; try dsimp only [kx_wp, kx_step, kx_lI, kx_lL, kx_lA, kx_gl, kx_pI, kx_pL, kx_pR, kx_pA, kx_pV, kx_s1, kx_s2, kx_sl, kx_pre, kx_c2, kx_pl, kx_cmp, kx_oF, kx_eqN, kx_nil, kx_c1, kx_ft, kx_aI, kx_aL, kx_aR, kx_ln, Nat.reduceAdd, Option.toList, List.cons_append, List.nil_append, mW_o, mf_0, mf_31, m_108, mf_32, m_109, mf_40, m_117, mf_33, m_110, mf_34, m_111, mf_35, m_112, mf_27, m_104])
    repeat' apply And.intro
    all_goals try (first | with_reducible assumption | (with_reducible refine ck_nzI ?_; simp; done) | (with_reducible refine ck_nzL ?_; simp; done) | (with_reducible refine vp_in_nI ?_ ?_ <;> first | omega | decide) | (with_reducible refine Nat.le_of_ble_eq_true ?_; rfl) | omega)
    · intro zc25
      have ze25 := zc25
      refine hB bX11_told_30 _ _ _ _ _ _ _ kX11_told_30 ?_
      dsimp only [bX11_told_30, kx_wp, kx_step, kx_lI, kx_lL, kx_lA, kx_gl, kx_pI, kx_pL, kx_pR, kx_pA, kx_pV, kx_s1, kx_s2, kx_sl, kx_pre, kx_c2, kx_pl, kx_cmp, kx_oF, kx_eqN, kx_nil, kx_c1, kx_ft, kx_aI, kx_aL, kx_aR, kx_ln, Nat.reduceAdd, Option.toList, List.cons_append, List.nil_append, mW_o, mf_0, mf_31, m_108, mf_32, m_109, mf_40, m_117, mf_33, m_110, mf_34, m_111, mf_35, m_112, mf_27, m_104]
      repeat (simp only [mu_0, mW_so, ms_108, ms_109, ms_117, ms_110, ms_111, ms_112, ms_104, nI_clamp (show c < 2 ^ 31 by omega), va_us, va_upn, ne_eq, Nat.reduceEqDiff, not_false_eq_true]; try dsimp only [kx_wp, kx_step, kx_lI, kx_lL, kx_lA, kx_gl, kx_pI, kx_pL, kx_pR, kx_pA, kx_pV, kx_s1, kx_s2, kx_sl, kx_pre, kx_c2, kx_pl, kx_cmp, kx_oF, kx_eqN, kx_nil, kx_c1, kx_ft, kx_aI, kx_aL, kx_aR, kx_ln, Nat.reduceAdd, Option.toList, List.cons_append, List.nil_append, mW_o, mf_0, mf_31, m_108, mf_32, m_109, mf_40, m_117, mf_33, m_110, mf_34, m_111, mf_35, m_112, mf_27, m_104])
      repeat' apply And.intro
      all_goals try (first | with_reducible assumption | (with_reducible refine ck_nzI ?_; simp; done) | (with_reducible refine ck_nzL ?_; simp; done) | (with_reducible refine vp_in_nI ?_ ?_ <;> first | omega | decide) | (with_reducible refine Nat.le_of_ble_eq_true ?_; rfl) | omega)
      · intro zc31
        refine hB bX11_told_201 _ _ _ _ _ _ _ kX11_told_201 ?_
        dsimp only [bX11_told_201, kx_wp, kx_step, kx_lI, kx_lL, kx_lA, kx_gl, kx_pI, kx_pL, kx_pR, kx_pA, kx_pV, kx_s1, kx_s2, kx_sl, kx_pre, kx_c2, kx_pl, kx_cmp, kx_oF, kx_eqN, kx_nil, kx_c1, kx_ft, kx_aI, kx_aL, kx_aR, kx_ln, Nat.reduceAdd, Option.toList, List.cons_append, List.nil_append, mW_o, mf_0, mf_31, m_108, mf_32, m_109, mf_40, m_117, mf_33, m_110, mf_34, m_111, mf_35, m_112, mf_27, m_104]
        repeat (simp only [mu_0, mW_so, ms_108, ms_109, ms_117, ms_110, ms_111, ms_112, ms_104, nI_clamp (show c < 2 ^ 31 by omega), va_us, va_upn, ne_eq, Nat.reduceEqDiff, not_false_eq_true]; try dsimp only [kx_wp, kx_step, kx_lI, kx_lL, kx_lA, kx_gl, kx_pI, kx_pL, kx_pR, kx_pA, kx_pV, kx_s1, kx_s2, kx_sl, kx_pre, kx_c2, kx_pl, kx_cmp, kx_oF, kx_eqN, kx_nil, kx_c1, kx_ft, kx_aI, kx_aL, kx_aR, kx_ln, Nat.reduceAdd, Option.toList, List.cons_append, List.nil_append, mW_o, mf_0, mf_31, m_108, mf_32, m_109, mf_40, m_117, mf_33, m_110, mf_34, m_111, mf_35, m_112, mf_27, m_104])
        repeat' apply And.intro
        all_goals try (first | with_reducible assumption | (with_reducible refine ck_nzI ?_; simp; done) | (with_reducible refine ck_nzL ?_; simp; done) | (with_reducible refine vp_in_nI ?_ ?_ <;> first | omega | decide) | (with_reducible refine Nat.le_of_ble_eq_true ?_; rfl) | omega)
        · intro zc207
          have ze207 := zc207
          refine hB bX11_told_229 _ _ _ _ _ _ _ kX11_told_229 ?_
          dsimp only [bX11_told_229, kx_wp, kx_step, kx_lI, kx_lL, kx_lA, kx_gl, kx_pI, kx_pL, kx_pR, kx_pA, kx_pV, kx_s1, kx_s2, kx_sl, kx_pre, kx_c2, kx_pl, kx_cmp, kx_oF, kx_eqN, kx_nil, kx_c1, kx_ft, kx_aI, kx_aL, kx_aR, kx_ln, Nat.reduceAdd, Option.toList, List.cons_append, List.nil_append, mW_o, mf_0, mf_31, m_108, mf_32, m_109, mf_40, m_117, mf_33, m_110, mf_34, m_111, mf_35, m_112, mf_27, m_104]
          repeat (simp only [mu_0, mW_so, ms_108, ms_109, ms_117, ms_110, ms_111, ms_112, ms_104, nI_clamp (show c < 2 ^ 31 by omega), va_us, va_upn, ne_eq, Nat.reduceEqDiff, not_false_eq_true]; try dsimp only [kx_wp, kx_step, kx_lI, kx_lL, kx_lA, kx_gl, kx_pI, kx_pL, kx_pR, kx_pA, kx_pV, kx_s1, kx_s2, kx_sl, kx_pre, kx_c2, kx_pl, kx_cmp, kx_oF, kx_eqN, kx_nil, kx_c1, kx_ft, kx_aI, kx_aL, kx_aR, kx_ln, Nat.reduceAdd, Option.toList, List.cons_append, List.nil_append, mW_o, mf_0, mf_31, m_108, mf_32, m_109, mf_40, m_117, mf_33, m_110, mf_34, m_111, mf_35, m_112, mf_27, m_104])
          repeat' apply And.intro
          all_goals try (first | with_reducible assumption | (with_reducible refine ck_nzI ?_; simp; done) | (with_reducible refine ck_nzL ?_; simp; done) | (with_reducible refine vp_in_nI ?_ ?_ <;> first | omega | decide) | (with_reducible refine Nat.le_of_ble_eq_true ?_; rfl) | omega)
          refine hC.1 448 _ _ _ _ _ _ _ 11 _ _ _ _ _ _ _ _ _ _ _ _ lX11_448 (ct_X11_comingRack l G (M := upd M 0 0) (by omega) hdl hw h117) ⟨by decide, rfl⟩ (mW_o) rfl rfl (Nat.le_of_ble_eq_true rfl) (by decide) (by decide) (by omega) (by omega) dX11_told_231 ?_
          refine hB bX11_told_234 _ _ _ _ _ _ _ kX11_told_234 ?_
          dsimp only [bX11_told_234, kx_wp, kx_step, kx_lI, kx_lL, kx_lA, kx_gl, kx_pI, kx_pL, kx_pR, kx_pA, kx_pV, kx_s1, kx_s2, kx_sl, kx_pre, kx_c2, kx_pl, kx_cmp, kx_oF, kx_eqN, kx_nil, kx_c1, kx_ft, kx_aI, kx_aL, kx_aR, kx_ln, Nat.reduceAdd, Option.toList, List.cons_append, List.nil_append, mW_o, mf_0, mf_31, m_108, mf_32, m_109, mf_40, m_117, mf_33, m_110, mf_34, m_111, mf_35, m_112, mf_27, m_104]
          repeat (simp only [mu_0, mW_so, ms_108, ms_109, ms_117, ms_110, ms_111, ms_112, ms_104, nI_clamp (show c < 2 ^ 31 by omega), va_us, va_upn, ne_eq, Nat.reduceEqDiff, not_false_eq_true]; try dsimp only [kx_wp, kx_step, kx_lI, kx_lL, kx_lA, kx_gl, kx_pI, kx_pL, kx_pR, kx_pA, kx_pV, kx_s1, kx_s2, kx_sl, kx_pre, kx_c2, kx_pl, kx_cmp, kx_oF, kx_eqN, kx_nil, kx_c1, kx_ft, kx_aI, kx_aL, kx_aR, kx_ln, Nat.reduceAdd, Option.toList, List.cons_append, List.nil_append, mW_o, mf_0, mf_31, m_108, mf_32, m_109, mf_40, m_117, mf_33, m_110, mf_34, m_111, mf_35, m_112, mf_27, m_104])
          all_goals (repeat' apply And.intro)
          all_goals ((try clear hB hC); first | exact True.intro | with_reducible rfl | with_reducible assumption | (with_reducible refine vp_in_nI ?_ ?_ <;> first | omega | decide) | exact Nat.le_of_ble_eq_true rfl | (with_reducible refine ck_nzI ?_; simp; done) | (with_reducible refine ck_nzL ?_; simp; done) | (simp only [pk_us, pk_uLs, ze10, ze25, eq_true ze207, ↓reduceIte, not_true_eq_false, not_false_eq_true]; done) | (simp only [ze10, ze25, eq_true ze207, ↓reduceIte, not_true_eq_false, not_false_eq_true]; with_reducible rfl) | skip)
        · intro zc207
          first | exact absurd rfl zc207 | exact absurd zc207 (by decide) | exact absurd (by decide) zc207 | (exfalso; first | exact h117 zc174 | exact h117 (Decidable.not_not.mp zc174) | exact zc174 h117 | exact h117 zc207 | exact h117 (Decidable.not_not.mp zc207) | exact zc207 h117) | (exfalso; simp_all; done)
      refine kx_sw (ws := [76, 83, 90, 110, 117, 124, 139, 168]) rfl ?_
      dsimp only [kx_swl]
      exact ⟨fun zc31_0 => absurd zc31_0 (by decide), fun zc31_1 => absurd zc31_1 (by decide), fun zc31_2 => absurd zc31_2 (by decide), fun zc31_3 => absurd zc31_3 (by decide), fun zc31_4 => absurd zc31_4 (by decide), fun zc31_5 => absurd zc31_5 (by decide), fun zc31_6 => absurd zc31_6 (by decide), fun zc31_7 => absurd zc31_7 (by decide), trivial⟩
    · intro zc25
      first | exact absurd rfl zc25 | exact absurd zc25 (by decide) | exact absurd (by decide) zc25 | (exfalso; first | exact h117 zc174 | exact h117 (Decidable.not_not.mp zc174) | exact zc174 h117 | exact h117 zc207 | exact h117 (Decidable.not_not.mp zc207) | exact zc207 h117) | (exfalso; simp_all; done)

set_option maxRecDepth 100000 in
set_option maxHeartbeats 4000000 in
theorem ct_X11_told_b (l : Launch) (G : kx_G) {M : Nat → Int32} {A : Nat → Nat → Int32} {L : Nat → Nat → Int64} {R : kx_P} {sz : Nat} {cl c : Nat} (h21 : M 21 = nI cl) (hcl : cl ≤ 8) (hc : c < cl) {w : Int32} (hi : ¬ (0 ≤ w ∧ w ≤ 8))  : kx_M l G sX11_told 4 0 0 [.ref 93, .int (nI c), .int (w)] (mW M A L R) sz (some (.int (0))) (mW (upd (upd M 0 0) 0 2) A L R) sz := by
  refine kx_mk kx_tab kxLok_X11 (ini := false) [some (.ref 93), some (.int (nI c)), some (.int (w))] ⟨by decide, rfl, by decide, by decide⟩ (⟨_, rfl⟩) rfl rfl (fun g hB hC => ?_)
  refine hB bX11_told_0 _ _ _ _ _ _ _ kX11_told_0 ?_
  dsimp only [bX11_told_0, kx_wp, kx_step, kx_lI, kx_lL, kx_lA, kx_gl, kx_pI, kx_pL, kx_pR, kx_pA, kx_pV, kx_s1, kx_s2, kx_sl, kx_pre, kx_c2, kx_pl, kx_cmp, kx_oF, kx_eqN, kx_nil, kx_c1, kx_ft, kx_aI, kx_aL, kx_aR, kx_ln, Nat.reduceAdd, Option.toList, List.cons_append, List.nil_append, mW_o, mf_0, mf_31, m_108, mf_32, m_109, mf_40, m_117, mf_33, m_110, mf_34, m_111, mf_35, m_112, mf_27, m_104]
  repeat (simp only [mu_0, mW_so, ms_108, ms_109, ms_117, ms_110, ms_111, ms_112, ms_104]; try dsimp only [kx_wp, kx_step, kx_lI, kx_lL, kx_lA, kx_gl, kx_pI, kx_pL, kx_pR, kx_pA, kx_pV, kx_s1, kx_s2, kx_sl, kx_pre, kx_c2, kx_pl, kx_cmp, kx_oF, kx_eqN, kx_nil, kx_c1, kx_ft, kx_aI, kx_aL, kx_aR, kx_ln, Nat.reduceAdd, Option.toList, List.cons_append, List.nil_append, mW_o, mf_0, mf_31, m_108, mf_32, m_109, mf_40, m_117, mf_33, m_110, mf_34, m_111, mf_35, m_112, mf_27, m_104])
  repeat' apply And.intro
  all_goals try (first | with_reducible assumption | (with_reducible refine ck_nzI ?_; simp; done) | (with_reducible refine ck_nzL ?_; simp; done) | (with_reducible refine vp_in_nI ?_ ?_ <;> first | omega | decide) | (with_reducible refine Nat.le_of_ble_eq_true ?_; rfl) | omega)
  refine hC.1 358 _ _ _ _ _ _ _ 11 _ _ _ _ _ _ _ _ _ _ _ _ lX11_358 (ct_X11_isClock_t l G (M := upd M 0 0) h21 hcl hc rfl) ⟨by decide, rfl⟩ (mW_o) rfl rfl (Nat.le_of_ble_eq_true rfl) (by decide) (by decide) (by omega) (by omega) dX11_told_7 ?_
  refine hB bX11_told_10 _ _ _ _ _ _ _ kX11_told_10 ?_
  dsimp only [bX11_told_10, kx_wp, kx_step, kx_lI, kx_lL, kx_lA, kx_gl, kx_pI, kx_pL, kx_pR, kx_pA, kx_pV, kx_s1, kx_s2, kx_sl, kx_pre, kx_c2, kx_pl, kx_cmp, kx_oF, kx_eqN, kx_nil, kx_c1, kx_ft, kx_aI, kx_aL, kx_aR, kx_ln, Nat.reduceAdd, Option.toList, List.cons_append, List.nil_append, mW_o, mf_0, mf_31, m_108, mf_32, m_109, mf_40, m_117, mf_33, m_110, mf_34, m_111, mf_35, m_112, mf_27, m_104]
  repeat (simp only [mu_0, mW_so, ms_108, ms_109, ms_117, ms_110, ms_111, ms_112, ms_104]; try dsimp only [kx_wp, kx_step, kx_lI, kx_lL, kx_lA, kx_gl, kx_pI, kx_pL, kx_pR, kx_pA, kx_pV, kx_s1, kx_s2, kx_sl, kx_pre, kx_c2, kx_pl, kx_cmp, kx_oF, kx_eqN, kx_nil, kx_c1, kx_ft, kx_aI, kx_aL, kx_aR, kx_ln, Nat.reduceAdd, Option.toList, List.cons_append, List.nil_append, mW_o, mf_0, mf_31, m_108, mf_32, m_109, mf_40, m_117, mf_33, m_110, mf_34, m_111, mf_35, m_112, mf_27, m_104])
  repeat' apply And.intro
  all_goals try (first | with_reducible assumption | (with_reducible refine ck_nzI ?_; simp; done) | (with_reducible refine ck_nzL ?_; simp; done) | (with_reducible refine vp_in_nI ?_ ?_ <;> first | omega | decide) | (with_reducible refine Nat.le_of_ble_eq_true ?_; rfl) | omega)
  · intro zc10
    first | exact absurd rfl zc10 | exact absurd zc10 (by decide) | exact absurd (by decide) zc10 | (exfalso; ((try clear hB hC); simp only [ck_lt, ck_le, ck_eq, not_true_eq_false, not_false_eq_true, Int32.reduceToInt, Int32.reduceAdd, Int32.reduceSub, Int32.reduceMul] at * <;> omega)) | (exfalso; simp_all; done)
  · intro zc10
    have ze10 := zc10
    refine hB bX11_told_13 _ _ _ _ _ _ _ kX11_told_13 ?_
    dsimp only [bX11_told_13, kx_wp, kx_step, kx_lI, kx_lL, kx_lA, kx_gl, kx_pI, kx_pL, kx_pR, kx_pA, kx_pV, kx_s1, kx_s2, kx_sl, kx_pre, kx_c2, kx_pl, kx_cmp, kx_oF, kx_eqN, kx_nil, kx_c1, kx_ft, kx_aI, kx_aL, kx_aR, kx_ln, Nat.reduceAdd, Option.toList, List.cons_append, List.nil_append, mW_o, mf_0, mf_31, m_108, mf_32, m_109, mf_40, m_117, mf_33, m_110, mf_34, m_111, mf_35, m_112, mf_27, m_104]
    repeat (simp only [mu_0, mW_so, ms_108, ms_109, ms_117, ms_110, ms_111, ms_112, ms_104]; try dsimp only [kx_wp, kx_step, kx_lI, kx_lL, kx_lA, kx_gl, kx_pI, kx_pL, kx_pR, kx_pA, kx_pV, kx_s1, kx_s2, kx_sl, kx_pre, kx_c2, kx_pl, kx_cmp, kx_oF, kx_eqN, kx_nil, kx_c1, kx_ft, kx_aI, kx_aL, kx_aR, kx_ln, Nat.reduceAdd, Option.toList, List.cons_append, List.nil_append, mW_o, mf_0, mf_31, m_108, mf_32, m_109, mf_40, m_117, mf_33, m_110, mf_34, m_111, mf_35, m_112, mf_27, m_104])
    repeat' apply And.intro
    all_goals try (first | with_reducible assumption | (with_reducible refine ck_nzI ?_; simp; done) | (with_reducible refine ck_nzL ?_; simp; done) | (with_reducible refine vp_in_nI ?_ ?_ <;> first | omega | decide) | (with_reducible refine Nat.le_of_ble_eq_true ?_; rfl) | omega)
    refine hC.2.1 167 _ _ _ _ _ _ _ _ _ _ _ _ _ _ _ _ _ lX11_167 (ct_X11_within l G) rfl rfl (Nat.le_of_ble_eq_true rfl) (by decide) (by decide) (by omega) (by omega) dX11_told_18 ?_
    refine hB bX11_told_21 _ _ _ _ _ _ _ kX11_told_21 ?_
    dsimp only [bX11_told_21, kx_wp, kx_step, kx_lI, kx_lL, kx_lA, kx_gl, kx_pI, kx_pL, kx_pR, kx_pA, kx_pV, kx_s1, kx_s2, kx_sl, kx_pre, kx_c2, kx_pl, kx_cmp, kx_oF, kx_eqN, kx_nil, kx_c1, kx_ft, kx_aI, kx_aL, kx_aR, kx_ln, Nat.reduceAdd, Option.toList, List.cons_append, List.nil_append, mW_o, mf_0, mf_31, m_108, mf_32, m_109, mf_40, m_117, mf_33, m_110, mf_34, m_111, mf_35, m_112, mf_27, m_104]
    repeat (simp only [mu_0, mW_so, ms_108, ms_109, ms_117, ms_110, ms_111, ms_112, ms_104]; try dsimp only [kx_wp, kx_step, kx_lI, kx_lL, kx_lA, kx_gl, kx_pI, kx_pL, kx_pR, kx_pA, kx_pV, kx_s1, kx_s2, kx_sl, kx_pre, kx_c2, kx_pl, kx_cmp, kx_oF, kx_eqN, kx_nil, kx_c1, kx_ft, kx_aI, kx_aL, kx_aR, kx_ln, Nat.reduceAdd, Option.toList, List.cons_append, List.nil_append, mW_o, mf_0, mf_31, m_108, mf_32, m_109, mf_40, m_117, mf_33, m_110, mf_34, m_111, mf_35, m_112, mf_27, m_104])
    repeat' apply And.intro
    all_goals try (first | with_reducible assumption | (with_reducible refine ck_nzI ?_; simp; done) | (with_reducible refine ck_nzL ?_; simp; done) | (with_reducible refine vp_in_nI ?_ ?_ <;> first | omega | decide) | (with_reducible refine Nat.le_of_ble_eq_true ?_; rfl) | omega)
    rw [if_neg hi]
    refine hC.1 171 _ _ _ _ _ _ _ 11 _ _ _ _ _ _ _ _ _ _ _ _ lX11_171 (ct_X11_may_f l G (M := upd M 0 0) rfl (by decide)) ⟨by decide, rfl⟩ (mW_o) rfl rfl (Nat.le_of_ble_eq_true rfl) (by decide) (by decide) (by omega) (by omega) dX11_told_22 ?_
    refine hB bX11_told_25 _ _ _ _ _ _ _ kX11_told_25 ?_
    dsimp only [bX11_told_25, kx_wp, kx_step, kx_lI, kx_lL, kx_lA, kx_gl, kx_pI, kx_pL, kx_pR, kx_pA, kx_pV, kx_s1, kx_s2, kx_sl, kx_pre, kx_c2, kx_pl, kx_cmp, kx_oF, kx_eqN, kx_nil, kx_c1, kx_ft, kx_aI, kx_aL, kx_aR, kx_ln, Nat.reduceAdd, Option.toList, List.cons_append, List.nil_append, mW_o, mf_0, mf_31, m_108, mf_32, m_109, mf_40, m_117, mf_33, m_110, mf_34, m_111, mf_35, m_112, mf_27, m_104]
    repeat (simp only [mu_0, mW_so, ms_108, ms_109, ms_117, ms_110, ms_111, ms_112, ms_104]; try dsimp only [kx_wp, kx_step, kx_lI, kx_lL, kx_lA, kx_gl, kx_pI, kx_pL, kx_pR, kx_pA, kx_pV, kx_s1, kx_s2, kx_sl, kx_pre, kx_c2, kx_pl, kx_cmp, kx_oF, kx_eqN, kx_nil, kx_c1, kx_ft, kx_aI, kx_aL, kx_aR, kx_ln, Nat.reduceAdd, Option.toList, List.cons_append, List.nil_append, mW_o, mf_0, mf_31, m_108, mf_32, m_109, mf_40, m_117, mf_33, m_110, mf_34, m_111, mf_35, m_112, mf_27, m_104])
    repeat' apply And.intro
    all_goals try (first | with_reducible assumption | (with_reducible refine ck_nzI ?_; simp; done) | (with_reducible refine ck_nzL ?_; simp; done) | (with_reducible refine vp_in_nI ?_ ?_ <;> first | omega | decide) | (with_reducible refine Nat.le_of_ble_eq_true ?_; rfl) | omega)
    · intro zc25
      first | exact absurd rfl zc25 | exact absurd zc25 (by decide) | exact absurd (by decide) zc25 | (exfalso; ((try clear hB hC); simp only [ck_lt, ck_le, ck_eq, not_true_eq_false, not_false_eq_true, Int32.reduceToInt, Int32.reduceAdd, Int32.reduceSub, Int32.reduceMul] at * <;> omega)) | (exfalso; simp_all; done)
    · intro zc25
      with_reducible first | have ze25 := Decidable.not_not.mp zc25 | have ze25 := zc25
      refine hB bX11_told_28 _ _ _ _ _ _ _ kX11_told_28 ?_
      dsimp only [bX11_told_28, kx_wp, kx_step, kx_lI, kx_lL, kx_lA, kx_gl, kx_pI, kx_pL, kx_pR, kx_pA, kx_pV, kx_s1, kx_s2, kx_sl, kx_pre, kx_c2, kx_pl, kx_cmp, kx_oF, kx_eqN, kx_nil, kx_c1, kx_ft, kx_aI, kx_aL, kx_aR, kx_ln, Nat.reduceAdd, Option.toList, List.cons_append, List.nil_append, mW_o, mf_0, mf_31, m_108, mf_32, m_109, mf_40, m_117, mf_33, m_110, mf_34, m_111, mf_35, m_112, mf_27, m_104]
      repeat (simp only [mu_0, mW_so, ms_108, ms_109, ms_117, ms_110, ms_111, ms_112, ms_104]; try dsimp only [kx_wp, kx_step, kx_lI, kx_lL, kx_lA, kx_gl, kx_pI, kx_pL, kx_pR, kx_pA, kx_pV, kx_s1, kx_s2, kx_sl, kx_pre, kx_c2, kx_pl, kx_cmp, kx_oF, kx_eqN, kx_nil, kx_c1, kx_ft, kx_aI, kx_aL, kx_aR, kx_ln, Nat.reduceAdd, Option.toList, List.cons_append, List.nil_append, mW_o, mf_0, mf_31, m_108, mf_32, m_109, mf_40, m_117, mf_33, m_110, mf_34, m_111, mf_35, m_112, mf_27, m_104])
      all_goals (repeat' apply And.intro)
      all_goals ((try clear hB hC); first | exact True.intro | with_reducible rfl | with_reducible assumption | (with_reducible refine vp_in_nI ?_ ?_ <;> first | omega | decide) | exact Nat.le_of_ble_eq_true rfl | (with_reducible refine ck_nzI ?_; simp; done) | (with_reducible refine ck_nzL ?_; simp; done) | (simp only [pk_us, pk_uLs, ze10, eq_true ze25, ↓reduceIte, not_true_eq_false, not_false_eq_true]; done) | (simp only [ze10, eq_true ze25, ↓reduceIte, not_true_eq_false, not_false_eq_true]; with_reducible rfl) | skip)

set_option maxRecDepth 100000 in
set_option maxHeartbeats 4000000 in
theorem ct_X11_told_f (l : Launch) (G : kx_G) {M : Nat → Int32} {A : Nat → Nat → Int32} {L : Nat → Nat → Int64} {R : kx_P} {sz : Nat} {x : Int32} {w : Int32} (hx : ¬ (0 ≤ x ∧ x ≤ M 21 - 1)) : kx_M l G sX11_told 4 0 0 [.ref 93, .int (x), .int (w)] (mW M A L R) sz (some (.int (0))) (mW (upd (upd M 0 0) 0 1) A L R) sz := by
  refine kx_mk kx_tab kxLok_X11 (ini := false) [some (.ref 93), some (.int (x)), some (.int (w))] ⟨by decide, rfl, by decide, by decide⟩ (⟨_, rfl⟩) rfl rfl (fun g hB hC => ?_)
  refine hB bX11_told_0 _ _ _ _ _ _ _ kX11_told_0 ?_
  dsimp only [bX11_told_0, kx_wp, kx_step, kx_lI, kx_lL, kx_lA, kx_gl, kx_pI, kx_pL, kx_pR, kx_pA, kx_pV, kx_s1, kx_s2, kx_sl, kx_pre, kx_c2, kx_pl, kx_cmp, kx_oF, kx_eqN, kx_nil, kx_c1, kx_ft, kx_aI, kx_aL, kx_aR, kx_ln, Nat.reduceAdd, Option.toList, List.cons_append, List.nil_append, mW_o, mf_0, mf_31, m_108, mf_32, m_109, mf_40, m_117, mf_33, m_110, mf_34, m_111, mf_35, m_112, mf_27, m_104]
  repeat (simp only [mu_0, mW_so, ms_108, ms_109, ms_117, ms_110, ms_111, ms_112, ms_104]; try dsimp only [kx_wp, kx_step, kx_lI, kx_lL, kx_lA, kx_gl, kx_pI, kx_pL, kx_pR, kx_pA, kx_pV, kx_s1, kx_s2, kx_sl, kx_pre, kx_c2, kx_pl, kx_cmp, kx_oF, kx_eqN, kx_nil, kx_c1, kx_ft, kx_aI, kx_aL, kx_aR, kx_ln, Nat.reduceAdd, Option.toList, List.cons_append, List.nil_append, mW_o, mf_0, mf_31, m_108, mf_32, m_109, mf_40, m_117, mf_33, m_110, mf_34, m_111, mf_35, m_112, mf_27, m_104])
  repeat' apply And.intro
  all_goals try (first | with_reducible assumption | (with_reducible refine ck_nzI ?_; simp; done) | (with_reducible refine ck_nzL ?_; simp; done) | (with_reducible refine vp_in_nI ?_ ?_ <;> first | omega | decide) | (with_reducible refine Nat.le_of_ble_eq_true ?_; rfl) | omega)
  have hx2 : ¬ (0 ≤ x ∧ x ≤ upd M 0 0 21 - 1) := by rw [show upd M 0 0 21 = M 21 from rfl]; exact hx
  refine hC.1 358 _ _ _ _ _ _ _ 11 _ _ _ _ _ _ _ _ _ _ _ _ lX11_358 (ct_X11_isClock_f l G (M := upd M 0 0) hx2 rfl) ⟨by decide, rfl⟩ (mW_o) rfl rfl (Nat.le_of_ble_eq_true rfl) (by decide) (by decide) (by omega) (by omega) dX11_told_7 ?_
  refine hB bX11_told_10 _ _ _ _ _ _ _ kX11_told_10 ?_
  dsimp only [bX11_told_10, kx_wp, kx_step, kx_lI, kx_lL, kx_lA, kx_gl, kx_pI, kx_pL, kx_pR, kx_pA, kx_pV, kx_s1, kx_s2, kx_sl, kx_pre, kx_c2, kx_pl, kx_cmp, kx_oF, kx_eqN, kx_nil, kx_c1, kx_ft, kx_aI, kx_aL, kx_aR, kx_ln, Nat.reduceAdd, Option.toList, List.cons_append, List.nil_append, mW_o, mf_0, mf_31, m_108, mf_32, m_109, mf_40, m_117, mf_33, m_110, mf_34, m_111, mf_35, m_112, mf_27, m_104]
  repeat (simp only [mu_0, mW_so, ms_108, ms_109, ms_117, ms_110, ms_111, ms_112, ms_104]; try dsimp only [kx_wp, kx_step, kx_lI, kx_lL, kx_lA, kx_gl, kx_pI, kx_pL, kx_pR, kx_pA, kx_pV, kx_s1, kx_s2, kx_sl, kx_pre, kx_c2, kx_pl, kx_cmp, kx_oF, kx_eqN, kx_nil, kx_c1, kx_ft, kx_aI, kx_aL, kx_aR, kx_ln, Nat.reduceAdd, Option.toList, List.cons_append, List.nil_append, mW_o, mf_0, mf_31, m_108, mf_32, m_109, mf_40, m_117, mf_33, m_110, mf_34, m_111, mf_35, m_112, mf_27, m_104])
  repeat' apply And.intro
  all_goals try (first | with_reducible assumption | (with_reducible refine ck_nzI ?_; simp; done) | (with_reducible refine ck_nzL ?_; simp; done) | (with_reducible refine vp_in_nI ?_ ?_ <;> first | omega | decide) | (with_reducible refine Nat.le_of_ble_eq_true ?_; rfl) | omega)
  · intro zc10
    have ze10 := zc10
    refine hB bX11_told_28 _ _ _ _ _ _ _ kX11_told_28 ?_
    dsimp only [bX11_told_28, kx_wp, kx_step, kx_lI, kx_lL, kx_lA, kx_gl, kx_pI, kx_pL, kx_pR, kx_pA, kx_pV, kx_s1, kx_s2, kx_sl, kx_pre, kx_c2, kx_pl, kx_cmp, kx_oF, kx_eqN, kx_nil, kx_c1, kx_ft, kx_aI, kx_aL, kx_aR, kx_ln, Nat.reduceAdd, Option.toList, List.cons_append, List.nil_append, mW_o, mf_0, mf_31, m_108, mf_32, m_109, mf_40, m_117, mf_33, m_110, mf_34, m_111, mf_35, m_112, mf_27, m_104]
    repeat (simp only [mu_0, mW_so, ms_108, ms_109, ms_117, ms_110, ms_111, ms_112, ms_104]; try dsimp only [kx_wp, kx_step, kx_lI, kx_lL, kx_lA, kx_gl, kx_pI, kx_pL, kx_pR, kx_pA, kx_pV, kx_s1, kx_s2, kx_sl, kx_pre, kx_c2, kx_pl, kx_cmp, kx_oF, kx_eqN, kx_nil, kx_c1, kx_ft, kx_aI, kx_aL, kx_aR, kx_ln, Nat.reduceAdd, Option.toList, List.cons_append, List.nil_append, mW_o, mf_0, mf_31, m_108, mf_32, m_109, mf_40, m_117, mf_33, m_110, mf_34, m_111, mf_35, m_112, mf_27, m_104])
    all_goals (repeat' apply And.intro)
    all_goals ((try clear hB hC); first | exact True.intro | with_reducible rfl | with_reducible assumption | (with_reducible refine vp_in_nI ?_ ?_ <;> first | omega | decide) | exact Nat.le_of_ble_eq_true rfl | (with_reducible refine ck_nzI ?_; simp; done) | (with_reducible refine ck_nzL ?_; simp; done) | (simp only [pk_us, pk_uLs, eq_true ze10, ↓reduceIte, not_true_eq_false, not_false_eq_true]; done) | (simp only [eq_true ze10, ↓reduceIte, not_true_eq_false, not_false_eq_true]; with_reducible rfl) | skip)
  · intro zc10
    first | exact absurd rfl zc10 | exact absurd zc10 (by decide) | exact absurd (by decide) zc10 | (exfalso; ((try clear hB hC); simp only [ck_lt, ck_le, ck_eq, not_true_eq_false, not_false_eq_true, Int32.reduceToInt, Int32.reduceAdd, Int32.reduceSub, Int32.reduceMul] at * <;> omega)) | (exfalso; simp_all; done)

def bX11_seen_0 : List kx_O := [(.iload_n 2, 2, 0, 0, .null), (.tableswitch 91 0 5 #[39, 45, 52, 59, 79, 86], 92, 39, 0, .null)]
theorem kX11_seen_0 : kx_oks kxL_X11 false cX11_seen 0 bX11_seen_0 = true := by decide +kernel
def bX11_seen_40 : List kx_O := [(.aload_n 0, 0, 0, 0, .null), (.iload_n 1, 1, 0, 0, .null)]
theorem kX11_seen_40 : kx_oks kxL_X11 false cX11_seen 40 bX11_seen_40 = true := by decide +kernel
def bX11_seen_45 : List kx_O := [(.ireturn, 0, 0, 0, .null)]
theorem kX11_seen_45 : kx_oks kxL_X11 false cX11_seen 45 bX11_seen_45 = true := by decide +kernel
def bX11_seen_46 : List kx_O := [(.aload_n 0, 0, 0, 0, .null), (.getfield 59, 11, 31, 0, .null), (.iload_n 1, 1, 0, 0, .null), (.iaload, 0, 0, 0, .null), (.ireturn, 0, 0, 0, .null)]
theorem kX11_seen_46 : kx_oks kxL_X11 false cX11_seen 46 bX11_seen_46 = true := by decide +kernel
def bX11_seen_53 : List kx_O := [(.aload_n 0, 0, 0, 0, .null), (.getfield 62, 11, 32, 0, .null), (.iload_n 1, 1, 0, 0, .null), (.iaload, 0, 0, 0, .null), (.ireturn, 0, 0, 0, .null)]
theorem kX11_seen_53 : kx_oks kxL_X11 false cX11_seen 53 bX11_seen_53 = true := by decide +kernel
def bX11_seen_60 : List kx_O := [(.aload_n 0, 0, 0, 0, .null), (.getfield 87, 11, 40, 0, .null), (.iload_n 1, 1, 0, 0, .null), (.baload, 0, 0, 0, .null), (.ifCond .eq 12, 78, 0, 0, .null)]
theorem kX11_seen_60 : kx_oks kxL_X11 false cX11_seen 60 bX11_seen_60 = true := by decide +kernel
def bX11_seen_69 : List kx_O := [(.aload_n 0, 0, 0, 0, .null), (.getfield 65, 11, 33, 0, .null), (.iload_n 1, 1, 0, 0, .null), (.iaload, 0, 0, 0, .null), (.goto 4, 79, 0, 0, .null)]
theorem kX11_seen_69 : kx_oks kxL_X11 false cX11_seen 69 bX11_seen_69 = true := by decide +kernel
def bX11_seen_78 : List kx_O := [(.iconst (-1), 0, 0, 0, .int (-1))]
theorem kX11_seen_78 : kx_oks kxL_X11 false cX11_seen 78 bX11_seen_78 = true := by decide +kernel
def bX11_seen_79 : List kx_O := [(.ireturn, 0, 0, 0, .null)]
theorem kX11_seen_79 : kx_oks kxL_X11 false cX11_seen 79 bX11_seen_79 = true := by decide +kernel
def bX11_seen_80 : List kx_O := [(.aload_n 0, 0, 0, 0, .null), (.getfield 68, 11, 34, 0, .null), (.iload_n 1, 1, 0, 0, .null), (.iaload, 0, 0, 0, .null), (.ireturn, 0, 0, 0, .null)]
theorem kX11_seen_80 : kx_oks kxL_X11 false cX11_seen 80 bX11_seen_80 = true := by decide +kernel
def bX11_seen_87 : List kx_O := [(.aload_n 0, 0, 0, 0, .null), (.getfield 418, 11, 51, 0, .null), (.ireturn, 0, 0, 0, .null)]
theorem kX11_seen_87 : kx_oks kxL_X11 false cX11_seen 87 bX11_seen_87 = true := by decide +kernel
def bX11_seen_92 : List kx_O := [(.aload_n 0, 0, 0, 0, .null), (.getfield 421, 11, 52, 0, .null), (.ireturn, 0, 0, 0, .null)]
theorem kX11_seen_92 : kx_oks kxL_X11 false cX11_seen 92 bX11_seen_92 = true := by decide +kernel
theorem dX11_seen_42 : decode cX11_seen 42 = .ok (.invokevirtual 439, 3) := by decide +kernel
set_option maxRecDepth 100000 in
set_option maxHeartbeats 4000000 in
theorem ct_X11_seen_0 (l : Launch) (G : kx_G) {M : Nat → Int32} {A : Nat → Nat → Int32} {L : Nat → Nat → Int64} {R : kx_P} {sz : Nat} {c : Nat} (hc : c < 8)  : kx_M l G sX11_seen 2 0 0 [.ref 93, .int (nI c), .int (0)] (mW M A L R) sz (some (.int (ck_err (L 116 c) (M 1)))) (mW M A L R) sz := by
  refine kx_mk kx_tab kxLok_X11 (ini := false) [some (.ref 93), some (.int (nI c)), some (.int (0))] ⟨by decide, rfl, by decide, by decide⟩ (⟨_, rfl⟩) rfl rfl (fun g hB hC => ?_)
  refine hB bX11_seen_0 _ _ _ _ _ _ _ kX11_seen_0 ?_
  dsimp only [bX11_seen_0, kx_wp, kx_step, kx_lI, kx_lL, kx_lA, kx_gl, kx_pI, kx_pL, kx_pR, kx_pA, kx_pV, kx_s1, kx_s2, kx_sl, kx_pre, kx_c2, kx_pl, kx_cmp, kx_oF, kx_eqN, kx_nil, kx_c1, kx_ft, kx_aI, kx_aL, kx_aR, kx_ln, Nat.reduceAdd, Option.toList, List.cons_append, List.nil_append, mW_o, mf_31, m_108, mf_32, m_109, mf_40, m_117, mf_33, m_110, mf_34, m_111, mf_51, mf_52]
  repeat (simp only [ms_108, ms_109, ms_117, ms_110, ms_111, nI_clamp (show c < 2 ^ 31 by omega)]; try dsimp only [kx_wp, kx_step, kx_lI, kx_lL, kx_lA, kx_gl, kx_pI, kx_pL, kx_pR, kx_pA, kx_pV, kx_s1, kx_s2, kx_sl, kx_pre, kx_c2, kx_pl, kx_cmp, kx_oF, kx_eqN, kx_nil, kx_c1, kx_ft, kx_aI, kx_aL, kx_aR, kx_ln, Nat.reduceAdd, Option.toList, List.cons_append, List.nil_append, mW_o, mf_31, m_108, mf_32, m_109, mf_40, m_117, mf_33, m_110, mf_34, m_111, mf_51, mf_52])
  repeat' apply And.intro
  all_goals try (first | with_reducible assumption | (with_reducible refine ck_nzI ?_; simp; done) | (with_reducible refine ck_nzL ?_; simp; done) | (with_reducible refine vp_in_nI ?_ ?_ <;> first | omega | decide) | (with_reducible refine Nat.le_of_ble_eq_true ?_; rfl) | omega)
  · exact fun zc1 => absurd zc1 (by decide)
  refine kx_sw (ws := [40, 46, 53, 60, 80, 87]) rfl ?_
  dsimp only [kx_swl]
  refine ⟨fun zc1_0 => ?_, fun zc1_1 => absurd zc1_1 (by decide), fun zc1_2 => absurd zc1_2 (by decide), fun zc1_3 => absurd zc1_3 (by decide), fun zc1_4 => absurd zc1_4 (by decide), fun zc1_5 => absurd zc1_5 (by decide), trivial⟩
  refine hB bX11_seen_40 _ _ _ _ _ _ _ kX11_seen_40 ?_
  dsimp only [bX11_seen_40, kx_wp, kx_step, kx_lI, kx_lL, kx_lA, kx_gl, kx_pI, kx_pL, kx_pR, kx_pA, kx_pV, kx_s1, kx_s2, kx_sl, kx_pre, kx_c2, kx_pl, kx_cmp, kx_oF, kx_eqN, kx_nil, kx_c1, kx_ft, kx_aI, kx_aL, kx_aR, kx_ln, Nat.reduceAdd, Option.toList, List.cons_append, List.nil_append, mW_o, mf_31, m_108, mf_32, m_109, mf_40, m_117, mf_33, m_110, mf_34, m_111, mf_51, mf_52]
  repeat (simp only [ms_108, ms_109, ms_117, ms_110, ms_111, nI_clamp (show c < 2 ^ 31 by omega)]; try dsimp only [kx_wp, kx_step, kx_lI, kx_lL, kx_lA, kx_gl, kx_pI, kx_pL, kx_pR, kx_pA, kx_pV, kx_s1, kx_s2, kx_sl, kx_pre, kx_c2, kx_pl, kx_cmp, kx_oF, kx_eqN, kx_nil, kx_c1, kx_ft, kx_aI, kx_aL, kx_aR, kx_ln, Nat.reduceAdd, Option.toList, List.cons_append, List.nil_append, mW_o, mf_31, m_108, mf_32, m_109, mf_40, m_117, mf_33, m_110, mf_34, m_111, mf_51, mf_52])
  repeat' apply And.intro
  all_goals try (first | with_reducible assumption | (with_reducible refine ck_nzI ?_; simp; done) | (with_reducible refine ck_nzL ?_; simp; done) | (with_reducible refine vp_in_nI ?_ ?_ <;> first | omega | decide) | (with_reducible refine Nat.le_of_ble_eq_true ?_; rfl) | omega)
  refine hC.1 439 _ _ _ _ _ _ _ 11 _ _ _ _ _ _ _ _ _ _ _ _ lX11_439 (ct_X11_errorOf l G hc) ⟨by decide, rfl⟩ (mW_o) rfl rfl (Nat.le_of_ble_eq_true rfl) (by decide) (by decide) (by omega) (by omega) dX11_seen_42 ?_
  refine hB bX11_seen_45 _ _ _ _ _ _ _ kX11_seen_45 ?_
  dsimp only [bX11_seen_45, kx_wp, kx_step, kx_lI, kx_lL, kx_lA, kx_gl, kx_pI, kx_pL, kx_pR, kx_pA, kx_pV, kx_s1, kx_s2, kx_sl, kx_pre, kx_c2, kx_pl, kx_cmp, kx_oF, kx_eqN, kx_nil, kx_c1, kx_ft, kx_aI, kx_aL, kx_aR, kx_ln, Nat.reduceAdd, Option.toList, List.cons_append, List.nil_append, mW_o, mf_31, m_108, mf_32, m_109, mf_40, m_117, mf_33, m_110, mf_34, m_111, mf_51, mf_52]
  repeat (simp only [ms_108, ms_109, ms_117, ms_110, ms_111, nI_clamp (show c < 2 ^ 31 by omega)]; try dsimp only [kx_wp, kx_step, kx_lI, kx_lL, kx_lA, kx_gl, kx_pI, kx_pL, kx_pR, kx_pA, kx_pV, kx_s1, kx_s2, kx_sl, kx_pre, kx_c2, kx_pl, kx_cmp, kx_oF, kx_eqN, kx_nil, kx_c1, kx_ft, kx_aI, kx_aL, kx_aR, kx_ln, Nat.reduceAdd, Option.toList, List.cons_append, List.nil_append, mW_o, mf_31, m_108, mf_32, m_109, mf_40, m_117, mf_33, m_110, mf_34, m_111, mf_51, mf_52])
  all_goals (repeat' apply And.intro)
  all_goals ((try clear hB hC); first | exact True.intro | with_reducible rfl | with_reducible assumption | (with_reducible refine vp_in_nI ?_ ?_ <;> first | omega | decide) | exact Nat.le_of_ble_eq_true rfl | (with_reducible refine ck_nzI ?_; simp; done) | (with_reducible refine ck_nzL ?_; simp; done) | (simp only [pk_us, pk_uLs, ↓reduceIte, not_true_eq_false, not_false_eq_true]; done) | (simp only [↓reduceIte, not_true_eq_false, not_false_eq_true]; with_reducible rfl) | skip)

set_option maxRecDepth 100000 in
set_option maxHeartbeats 4000000 in
theorem ct_X11_seen_1 (l : Launch) (G : kx_G) {M : Nat → Int32} {A : Nat → Nat → Int32} {L : Nat → Nat → Int64} {R : kx_P} {sz : Nat} {c : Nat} (hc : c < 8)  : kx_M l G sX11_seen 2 0 0 [.ref 93, .int (nI c), .int (1)] (mW M A L R) sz (some (.int (A 108 c))) (mW M A L R) sz := by
  refine kx_mk kx_tab kxLok_X11 (ini := false) [some (.ref 93), some (.int (nI c)), some (.int (1))] ⟨by decide, rfl, by decide, by decide⟩ (⟨_, rfl⟩) rfl rfl (fun g hB hC => ?_)
  refine hB bX11_seen_0 _ _ _ _ _ _ _ kX11_seen_0 ?_
  dsimp only [bX11_seen_0, kx_wp, kx_step, kx_lI, kx_lL, kx_lA, kx_gl, kx_pI, kx_pL, kx_pR, kx_pA, kx_pV, kx_s1, kx_s2, kx_sl, kx_pre, kx_c2, kx_pl, kx_cmp, kx_oF, kx_eqN, kx_nil, kx_c1, kx_ft, kx_aI, kx_aL, kx_aR, kx_ln, Nat.reduceAdd, Option.toList, List.cons_append, List.nil_append, mW_o, mf_31, m_108, mf_32, m_109, mf_40, m_117, mf_33, m_110, mf_34, m_111, mf_51, mf_52]
  repeat (simp only [ms_108, ms_109, ms_117, ms_110, ms_111, nI_clamp (show c < 2 ^ 31 by omega)]; try dsimp only [kx_wp, kx_step, kx_lI, kx_lL, kx_lA, kx_gl, kx_pI, kx_pL, kx_pR, kx_pA, kx_pV, kx_s1, kx_s2, kx_sl, kx_pre, kx_c2, kx_pl, kx_cmp, kx_oF, kx_eqN, kx_nil, kx_c1, kx_ft, kx_aI, kx_aL, kx_aR, kx_ln, Nat.reduceAdd, Option.toList, List.cons_append, List.nil_append, mW_o, mf_31, m_108, mf_32, m_109, mf_40, m_117, mf_33, m_110, mf_34, m_111, mf_51, mf_52])
  repeat' apply And.intro
  all_goals try (first | with_reducible assumption | (with_reducible refine ck_nzI ?_; simp; done) | (with_reducible refine ck_nzL ?_; simp; done) | (with_reducible refine vp_in_nI ?_ ?_ <;> first | omega | decide) | (with_reducible refine Nat.le_of_ble_eq_true ?_; rfl) | omega)
  · exact fun zc1 => absurd zc1 (by decide)
  refine kx_sw (ws := [40, 46, 53, 60, 80, 87]) rfl ?_
  dsimp only [kx_swl]
  refine ⟨fun zc1_0 => absurd zc1_0 (by decide), fun zc1_1 => ?_, fun zc1_2 => absurd zc1_2 (by decide), fun zc1_3 => absurd zc1_3 (by decide), fun zc1_4 => absurd zc1_4 (by decide), fun zc1_5 => absurd zc1_5 (by decide), trivial⟩
  refine hB bX11_seen_46 _ _ _ _ _ _ _ kX11_seen_46 ?_
  dsimp only [bX11_seen_46, kx_wp, kx_step, kx_lI, kx_lL, kx_lA, kx_gl, kx_pI, kx_pL, kx_pR, kx_pA, kx_pV, kx_s1, kx_s2, kx_sl, kx_pre, kx_c2, kx_pl, kx_cmp, kx_oF, kx_eqN, kx_nil, kx_c1, kx_ft, kx_aI, kx_aL, kx_aR, kx_ln, Nat.reduceAdd, Option.toList, List.cons_append, List.nil_append, mW_o, mf_31, m_108, mf_32, m_109, mf_40, m_117, mf_33, m_110, mf_34, m_111, mf_51, mf_52]
  repeat (simp only [ms_108, ms_109, ms_117, ms_110, ms_111, nI_clamp (show c < 2 ^ 31 by omega)]; try dsimp only [kx_wp, kx_step, kx_lI, kx_lL, kx_lA, kx_gl, kx_pI, kx_pL, kx_pR, kx_pA, kx_pV, kx_s1, kx_s2, kx_sl, kx_pre, kx_c2, kx_pl, kx_cmp, kx_oF, kx_eqN, kx_nil, kx_c1, kx_ft, kx_aI, kx_aL, kx_aR, kx_ln, Nat.reduceAdd, Option.toList, List.cons_append, List.nil_append, mW_o, mf_31, m_108, mf_32, m_109, mf_40, m_117, mf_33, m_110, mf_34, m_111, mf_51, mf_52])
  all_goals (repeat' apply And.intro)
  all_goals ((try clear hB hC); first | exact True.intro | with_reducible rfl | with_reducible assumption | (with_reducible refine vp_in_nI ?_ ?_ <;> first | omega | decide) | exact Nat.le_of_ble_eq_true rfl | (with_reducible refine ck_nzI ?_; simp; done) | (with_reducible refine ck_nzL ?_; simp; done) | (simp only [pk_us, pk_uLs, ↓reduceIte, not_true_eq_false, not_false_eq_true]; done) | (simp only [↓reduceIte, not_true_eq_false, not_false_eq_true]; with_reducible rfl) | skip)

set_option maxRecDepth 100000 in
set_option maxHeartbeats 4000000 in
theorem ct_X11_seen_2 (l : Launch) (G : kx_G) {M : Nat → Int32} {A : Nat → Nat → Int32} {L : Nat → Nat → Int64} {R : kx_P} {sz : Nat} {c : Nat} (hc : c < 8)  : kx_M l G sX11_seen 2 0 0 [.ref 93, .int (nI c), .int (2)] (mW M A L R) sz (some (.int (A 109 c))) (mW M A L R) sz := by
  refine kx_mk kx_tab kxLok_X11 (ini := false) [some (.ref 93), some (.int (nI c)), some (.int (2))] ⟨by decide, rfl, by decide, by decide⟩ (⟨_, rfl⟩) rfl rfl (fun g hB hC => ?_)
  refine hB bX11_seen_0 _ _ _ _ _ _ _ kX11_seen_0 ?_
  dsimp only [bX11_seen_0, kx_wp, kx_step, kx_lI, kx_lL, kx_lA, kx_gl, kx_pI, kx_pL, kx_pR, kx_pA, kx_pV, kx_s1, kx_s2, kx_sl, kx_pre, kx_c2, kx_pl, kx_cmp, kx_oF, kx_eqN, kx_nil, kx_c1, kx_ft, kx_aI, kx_aL, kx_aR, kx_ln, Nat.reduceAdd, Option.toList, List.cons_append, List.nil_append, mW_o, mf_31, m_108, mf_32, m_109, mf_40, m_117, mf_33, m_110, mf_34, m_111, mf_51, mf_52]
  repeat (simp only [ms_108, ms_109, ms_117, ms_110, ms_111, nI_clamp (show c < 2 ^ 31 by omega)]; try dsimp only [kx_wp, kx_step, kx_lI, kx_lL, kx_lA, kx_gl, kx_pI, kx_pL, kx_pR, kx_pA, kx_pV, kx_s1, kx_s2, kx_sl, kx_pre, kx_c2, kx_pl, kx_cmp, kx_oF, kx_eqN, kx_nil, kx_c1, kx_ft, kx_aI, kx_aL, kx_aR, kx_ln, Nat.reduceAdd, Option.toList, List.cons_append, List.nil_append, mW_o, mf_31, m_108, mf_32, m_109, mf_40, m_117, mf_33, m_110, mf_34, m_111, mf_51, mf_52])
  repeat' apply And.intro
  all_goals try (first | with_reducible assumption | (with_reducible refine ck_nzI ?_; simp; done) | (with_reducible refine ck_nzL ?_; simp; done) | (with_reducible refine vp_in_nI ?_ ?_ <;> first | omega | decide) | (with_reducible refine Nat.le_of_ble_eq_true ?_; rfl) | omega)
  · exact fun zc1 => absurd zc1 (by decide)
  refine kx_sw (ws := [40, 46, 53, 60, 80, 87]) rfl ?_
  dsimp only [kx_swl]
  refine ⟨fun zc1_0 => absurd zc1_0 (by decide), fun zc1_1 => absurd zc1_1 (by decide), fun zc1_2 => ?_, fun zc1_3 => absurd zc1_3 (by decide), fun zc1_4 => absurd zc1_4 (by decide), fun zc1_5 => absurd zc1_5 (by decide), trivial⟩
  refine hB bX11_seen_53 _ _ _ _ _ _ _ kX11_seen_53 ?_
  dsimp only [bX11_seen_53, kx_wp, kx_step, kx_lI, kx_lL, kx_lA, kx_gl, kx_pI, kx_pL, kx_pR, kx_pA, kx_pV, kx_s1, kx_s2, kx_sl, kx_pre, kx_c2, kx_pl, kx_cmp, kx_oF, kx_eqN, kx_nil, kx_c1, kx_ft, kx_aI, kx_aL, kx_aR, kx_ln, Nat.reduceAdd, Option.toList, List.cons_append, List.nil_append, mW_o, mf_31, m_108, mf_32, m_109, mf_40, m_117, mf_33, m_110, mf_34, m_111, mf_51, mf_52]
  repeat (simp only [ms_108, ms_109, ms_117, ms_110, ms_111, nI_clamp (show c < 2 ^ 31 by omega)]; try dsimp only [kx_wp, kx_step, kx_lI, kx_lL, kx_lA, kx_gl, kx_pI, kx_pL, kx_pR, kx_pA, kx_pV, kx_s1, kx_s2, kx_sl, kx_pre, kx_c2, kx_pl, kx_cmp, kx_oF, kx_eqN, kx_nil, kx_c1, kx_ft, kx_aI, kx_aL, kx_aR, kx_ln, Nat.reduceAdd, Option.toList, List.cons_append, List.nil_append, mW_o, mf_31, m_108, mf_32, m_109, mf_40, m_117, mf_33, m_110, mf_34, m_111, mf_51, mf_52])
  all_goals (repeat' apply And.intro)
  all_goals ((try clear hB hC); first | exact True.intro | with_reducible rfl | with_reducible assumption | (with_reducible refine vp_in_nI ?_ ?_ <;> first | omega | decide) | exact Nat.le_of_ble_eq_true rfl | (with_reducible refine ck_nzI ?_; simp; done) | (with_reducible refine ck_nzL ?_; simp; done) | (simp only [pk_us, pk_uLs, ↓reduceIte, not_true_eq_false, not_false_eq_true]; done) | (simp only [↓reduceIte, not_true_eq_false, not_false_eq_true]; with_reducible rfl) | skip)

set_option maxRecDepth 100000 in
set_option maxHeartbeats 4000000 in
theorem ct_X11_seen_3 (l : Launch) (G : kx_G) {M : Nat → Int32} {A : Nat → Nat → Int32} {L : Nat → Nat → Int64} {R : kx_P} {sz : Nat} {c : Nat} (hc : c < 8)  : kx_M l G sX11_seen 2 0 0 [.ref 93, .int (nI c), .int (3)] (mW M A L R) sz (some (.int (if A 117 c = 0 then -1 else A 110 c))) (mW M A L R) sz := by
  refine kx_mk kx_tab kxLok_X11 (ini := false) [some (.ref 93), some (.int (nI c)), some (.int (3))] ⟨by decide, rfl, by decide, by decide⟩ (⟨_, rfl⟩) rfl rfl (fun g hB hC => ?_)
  refine hB bX11_seen_0 _ _ _ _ _ _ _ kX11_seen_0 ?_
  dsimp only [bX11_seen_0, kx_wp, kx_step, kx_lI, kx_lL, kx_lA, kx_gl, kx_pI, kx_pL, kx_pR, kx_pA, kx_pV, kx_s1, kx_s2, kx_sl, kx_pre, kx_c2, kx_pl, kx_cmp, kx_oF, kx_eqN, kx_nil, kx_c1, kx_ft, kx_aI, kx_aL, kx_aR, kx_ln, Nat.reduceAdd, Option.toList, List.cons_append, List.nil_append, mW_o, mf_31, m_108, mf_32, m_109, mf_40, m_117, mf_33, m_110, mf_34, m_111, mf_51, mf_52]
  repeat (simp only [ms_108, ms_109, ms_117, ms_110, ms_111, nI_clamp (show c < 2 ^ 31 by omega)]; try dsimp only [kx_wp, kx_step, kx_lI, kx_lL, kx_lA, kx_gl, kx_pI, kx_pL, kx_pR, kx_pA, kx_pV, kx_s1, kx_s2, kx_sl, kx_pre, kx_c2, kx_pl, kx_cmp, kx_oF, kx_eqN, kx_nil, kx_c1, kx_ft, kx_aI, kx_aL, kx_aR, kx_ln, Nat.reduceAdd, Option.toList, List.cons_append, List.nil_append, mW_o, mf_31, m_108, mf_32, m_109, mf_40, m_117, mf_33, m_110, mf_34, m_111, mf_51, mf_52])
  repeat' apply And.intro
  all_goals try (first | with_reducible assumption | (with_reducible refine ck_nzI ?_; simp; done) | (with_reducible refine ck_nzL ?_; simp; done) | (with_reducible refine vp_in_nI ?_ ?_ <;> first | omega | decide) | (with_reducible refine Nat.le_of_ble_eq_true ?_; rfl) | omega)
  · exact fun zc1 => absurd zc1 (by decide)
  refine kx_sw (ws := [40, 46, 53, 60, 80, 87]) rfl ?_
  dsimp only [kx_swl]
  refine ⟨fun zc1_0 => absurd zc1_0 (by decide), fun zc1_1 => absurd zc1_1 (by decide), fun zc1_2 => absurd zc1_2 (by decide), fun zc1_3 => ?_, fun zc1_4 => absurd zc1_4 (by decide), fun zc1_5 => absurd zc1_5 (by decide), trivial⟩
  refine hB bX11_seen_60 _ _ _ _ _ _ _ kX11_seen_60 ?_
  dsimp only [bX11_seen_60, kx_wp, kx_step, kx_lI, kx_lL, kx_lA, kx_gl, kx_pI, kx_pL, kx_pR, kx_pA, kx_pV, kx_s1, kx_s2, kx_sl, kx_pre, kx_c2, kx_pl, kx_cmp, kx_oF, kx_eqN, kx_nil, kx_c1, kx_ft, kx_aI, kx_aL, kx_aR, kx_ln, Nat.reduceAdd, Option.toList, List.cons_append, List.nil_append, mW_o, mf_31, m_108, mf_32, m_109, mf_40, m_117, mf_33, m_110, mf_34, m_111, mf_51, mf_52]
  repeat (simp only [ms_108, ms_109, ms_117, ms_110, ms_111, nI_clamp (show c < 2 ^ 31 by omega)]; try dsimp only [kx_wp, kx_step, kx_lI, kx_lL, kx_lA, kx_gl, kx_pI, kx_pL, kx_pR, kx_pA, kx_pV, kx_s1, kx_s2, kx_sl, kx_pre, kx_c2, kx_pl, kx_cmp, kx_oF, kx_eqN, kx_nil, kx_c1, kx_ft, kx_aI, kx_aL, kx_aR, kx_ln, Nat.reduceAdd, Option.toList, List.cons_append, List.nil_append, mW_o, mf_31, m_108, mf_32, m_109, mf_40, m_117, mf_33, m_110, mf_34, m_111, mf_51, mf_52])
  repeat' apply And.intro
  all_goals try (first | with_reducible assumption | (with_reducible refine ck_nzI ?_; simp; done) | (with_reducible refine ck_nzL ?_; simp; done) | (with_reducible refine vp_in_nI ?_ ?_ <;> first | omega | decide) | (with_reducible refine Nat.le_of_ble_eq_true ?_; rfl) | omega)
  · intro zc66
    have ze66 := zc66
    refine hB bX11_seen_78 _ _ _ _ _ _ _ kX11_seen_78 ?_
    dsimp only [bX11_seen_78, kx_wp, kx_step, kx_lI, kx_lL, kx_lA, kx_gl, kx_pI, kx_pL, kx_pR, kx_pA, kx_pV, kx_s1, kx_s2, kx_sl, kx_pre, kx_c2, kx_pl, kx_cmp, kx_oF, kx_eqN, kx_nil, kx_c1, kx_ft, kx_aI, kx_aL, kx_aR, kx_ln, Nat.reduceAdd, Option.toList, List.cons_append, List.nil_append, mW_o, mf_31, m_108, mf_32, m_109, mf_40, m_117, mf_33, m_110, mf_34, m_111, mf_51, mf_52]
    repeat (simp only [ms_108, ms_109, ms_117, ms_110, ms_111, nI_clamp (show c < 2 ^ 31 by omega)]; try dsimp only [kx_wp, kx_step, kx_lI, kx_lL, kx_lA, kx_gl, kx_pI, kx_pL, kx_pR, kx_pA, kx_pV, kx_s1, kx_s2, kx_sl, kx_pre, kx_c2, kx_pl, kx_cmp, kx_oF, kx_eqN, kx_nil, kx_c1, kx_ft, kx_aI, kx_aL, kx_aR, kx_ln, Nat.reduceAdd, Option.toList, List.cons_append, List.nil_append, mW_o, mf_31, m_108, mf_32, m_109, mf_40, m_117, mf_33, m_110, mf_34, m_111, mf_51, mf_52])
    repeat' apply And.intro
    all_goals try (first | with_reducible assumption | (with_reducible refine ck_nzI ?_; simp; done) | (with_reducible refine ck_nzL ?_; simp; done) | (with_reducible refine vp_in_nI ?_ ?_ <;> first | omega | decide) | (with_reducible refine Nat.le_of_ble_eq_true ?_; rfl) | omega)
    refine hB bX11_seen_79 _ _ _ _ _ _ _ kX11_seen_79 ?_
    dsimp only [bX11_seen_79, kx_wp, kx_step, kx_lI, kx_lL, kx_lA, kx_gl, kx_pI, kx_pL, kx_pR, kx_pA, kx_pV, kx_s1, kx_s2, kx_sl, kx_pre, kx_c2, kx_pl, kx_cmp, kx_oF, kx_eqN, kx_nil, kx_c1, kx_ft, kx_aI, kx_aL, kx_aR, kx_ln, Nat.reduceAdd, Option.toList, List.cons_append, List.nil_append, mW_o, mf_31, m_108, mf_32, m_109, mf_40, m_117, mf_33, m_110, mf_34, m_111, mf_51, mf_52]
    repeat (simp only [ms_108, ms_109, ms_117, ms_110, ms_111, nI_clamp (show c < 2 ^ 31 by omega)]; try dsimp only [kx_wp, kx_step, kx_lI, kx_lL, kx_lA, kx_gl, kx_pI, kx_pL, kx_pR, kx_pA, kx_pV, kx_s1, kx_s2, kx_sl, kx_pre, kx_c2, kx_pl, kx_cmp, kx_oF, kx_eqN, kx_nil, kx_c1, kx_ft, kx_aI, kx_aL, kx_aR, kx_ln, Nat.reduceAdd, Option.toList, List.cons_append, List.nil_append, mW_o, mf_31, m_108, mf_32, m_109, mf_40, m_117, mf_33, m_110, mf_34, m_111, mf_51, mf_52])
    all_goals (repeat' apply And.intro)
    all_goals ((try clear hB hC); first | exact True.intro | with_reducible rfl | with_reducible assumption | (with_reducible refine vp_in_nI ?_ ?_ <;> first | omega | decide) | exact Nat.le_of_ble_eq_true rfl | (with_reducible refine ck_nzI ?_; simp; done) | (with_reducible refine ck_nzL ?_; simp; done) | (simp only [pk_us, pk_uLs, eq_true ze66, ↓reduceIte, not_true_eq_false, not_false_eq_true]; done) | (simp only [eq_true ze66, ↓reduceIte, not_true_eq_false, not_false_eq_true]; with_reducible rfl) | skip)
  · intro zc66
    have ze66 := zc66
    refine hB bX11_seen_69 _ _ _ _ _ _ _ kX11_seen_69 ?_
    dsimp only [bX11_seen_69, kx_wp, kx_step, kx_lI, kx_lL, kx_lA, kx_gl, kx_pI, kx_pL, kx_pR, kx_pA, kx_pV, kx_s1, kx_s2, kx_sl, kx_pre, kx_c2, kx_pl, kx_cmp, kx_oF, kx_eqN, kx_nil, kx_c1, kx_ft, kx_aI, kx_aL, kx_aR, kx_ln, Nat.reduceAdd, Option.toList, List.cons_append, List.nil_append, mW_o, mf_31, m_108, mf_32, m_109, mf_40, m_117, mf_33, m_110, mf_34, m_111, mf_51, mf_52]
    repeat (simp only [ms_108, ms_109, ms_117, ms_110, ms_111, nI_clamp (show c < 2 ^ 31 by omega)]; try dsimp only [kx_wp, kx_step, kx_lI, kx_lL, kx_lA, kx_gl, kx_pI, kx_pL, kx_pR, kx_pA, kx_pV, kx_s1, kx_s2, kx_sl, kx_pre, kx_c2, kx_pl, kx_cmp, kx_oF, kx_eqN, kx_nil, kx_c1, kx_ft, kx_aI, kx_aL, kx_aR, kx_ln, Nat.reduceAdd, Option.toList, List.cons_append, List.nil_append, mW_o, mf_31, m_108, mf_32, m_109, mf_40, m_117, mf_33, m_110, mf_34, m_111, mf_51, mf_52])
    repeat' apply And.intro
    all_goals try (first | with_reducible assumption | (with_reducible refine ck_nzI ?_; simp; done) | (with_reducible refine ck_nzL ?_; simp; done) | (with_reducible refine vp_in_nI ?_ ?_ <;> first | omega | decide) | (with_reducible refine Nat.le_of_ble_eq_true ?_; rfl) | omega)
    refine hB bX11_seen_79 _ _ _ _ _ _ _ kX11_seen_79 ?_
    dsimp only [bX11_seen_79, kx_wp, kx_step, kx_lI, kx_lL, kx_lA, kx_gl, kx_pI, kx_pL, kx_pR, kx_pA, kx_pV, kx_s1, kx_s2, kx_sl, kx_pre, kx_c2, kx_pl, kx_cmp, kx_oF, kx_eqN, kx_nil, kx_c1, kx_ft, kx_aI, kx_aL, kx_aR, kx_ln, Nat.reduceAdd, Option.toList, List.cons_append, List.nil_append, mW_o, mf_31, m_108, mf_32, m_109, mf_40, m_117, mf_33, m_110, mf_34, m_111, mf_51, mf_52]
    repeat (simp only [ms_108, ms_109, ms_117, ms_110, ms_111, nI_clamp (show c < 2 ^ 31 by omega)]; try dsimp only [kx_wp, kx_step, kx_lI, kx_lL, kx_lA, kx_gl, kx_pI, kx_pL, kx_pR, kx_pA, kx_pV, kx_s1, kx_s2, kx_sl, kx_pre, kx_c2, kx_pl, kx_cmp, kx_oF, kx_eqN, kx_nil, kx_c1, kx_ft, kx_aI, kx_aL, kx_aR, kx_ln, Nat.reduceAdd, Option.toList, List.cons_append, List.nil_append, mW_o, mf_31, m_108, mf_32, m_109, mf_40, m_117, mf_33, m_110, mf_34, m_111, mf_51, mf_52])
    all_goals (repeat' apply And.intro)
    all_goals ((try clear hB hC); first | exact True.intro | with_reducible rfl | with_reducible assumption | (with_reducible refine vp_in_nI ?_ ?_ <;> first | omega | decide) | exact Nat.le_of_ble_eq_true rfl | (with_reducible refine ck_nzI ?_; simp; done) | (with_reducible refine ck_nzL ?_; simp; done) | (simp only [pk_us, pk_uLs, ze66, ↓reduceIte, not_true_eq_false, not_false_eq_true]; done) | (simp only [ze66, ↓reduceIte, not_true_eq_false, not_false_eq_true]; with_reducible rfl) | skip)

set_option maxRecDepth 100000 in
set_option maxHeartbeats 4000000 in
theorem ct_X11_seen_4 (l : Launch) (G : kx_G) {M : Nat → Int32} {A : Nat → Nat → Int32} {L : Nat → Nat → Int64} {R : kx_P} {sz : Nat} {c : Nat} (hc : c < 8)  : kx_M l G sX11_seen 2 0 0 [.ref 93, .int (nI c), .int (4)] (mW M A L R) sz (some (.int (A 111 c))) (mW M A L R) sz := by
  refine kx_mk kx_tab kxLok_X11 (ini := false) [some (.ref 93), some (.int (nI c)), some (.int (4))] ⟨by decide, rfl, by decide, by decide⟩ (⟨_, rfl⟩) rfl rfl (fun g hB hC => ?_)
  refine hB bX11_seen_0 _ _ _ _ _ _ _ kX11_seen_0 ?_
  dsimp only [bX11_seen_0, kx_wp, kx_step, kx_lI, kx_lL, kx_lA, kx_gl, kx_pI, kx_pL, kx_pR, kx_pA, kx_pV, kx_s1, kx_s2, kx_sl, kx_pre, kx_c2, kx_pl, kx_cmp, kx_oF, kx_eqN, kx_nil, kx_c1, kx_ft, kx_aI, kx_aL, kx_aR, kx_ln, Nat.reduceAdd, Option.toList, List.cons_append, List.nil_append, mW_o, mf_31, m_108, mf_32, m_109, mf_40, m_117, mf_33, m_110, mf_34, m_111, mf_51, mf_52]
  repeat (simp only [ms_108, ms_109, ms_117, ms_110, ms_111, nI_clamp (show c < 2 ^ 31 by omega)]; try dsimp only [kx_wp, kx_step, kx_lI, kx_lL, kx_lA, kx_gl, kx_pI, kx_pL, kx_pR, kx_pA, kx_pV, kx_s1, kx_s2, kx_sl, kx_pre, kx_c2, kx_pl, kx_cmp, kx_oF, kx_eqN, kx_nil, kx_c1, kx_ft, kx_aI, kx_aL, kx_aR, kx_ln, Nat.reduceAdd, Option.toList, List.cons_append, List.nil_append, mW_o, mf_31, m_108, mf_32, m_109, mf_40, m_117, mf_33, m_110, mf_34, m_111, mf_51, mf_52])
  repeat' apply And.intro
  all_goals try (first | with_reducible assumption | (with_reducible refine ck_nzI ?_; simp; done) | (with_reducible refine ck_nzL ?_; simp; done) | (with_reducible refine vp_in_nI ?_ ?_ <;> first | omega | decide) | (with_reducible refine Nat.le_of_ble_eq_true ?_; rfl) | omega)
  · exact fun zc1 => absurd zc1 (by decide)
  refine kx_sw (ws := [40, 46, 53, 60, 80, 87]) rfl ?_
  dsimp only [kx_swl]
  refine ⟨fun zc1_0 => absurd zc1_0 (by decide), fun zc1_1 => absurd zc1_1 (by decide), fun zc1_2 => absurd zc1_2 (by decide), fun zc1_3 => absurd zc1_3 (by decide), fun zc1_4 => ?_, fun zc1_5 => absurd zc1_5 (by decide), trivial⟩
  refine hB bX11_seen_80 _ _ _ _ _ _ _ kX11_seen_80 ?_
  dsimp only [bX11_seen_80, kx_wp, kx_step, kx_lI, kx_lL, kx_lA, kx_gl, kx_pI, kx_pL, kx_pR, kx_pA, kx_pV, kx_s1, kx_s2, kx_sl, kx_pre, kx_c2, kx_pl, kx_cmp, kx_oF, kx_eqN, kx_nil, kx_c1, kx_ft, kx_aI, kx_aL, kx_aR, kx_ln, Nat.reduceAdd, Option.toList, List.cons_append, List.nil_append, mW_o, mf_31, m_108, mf_32, m_109, mf_40, m_117, mf_33, m_110, mf_34, m_111, mf_51, mf_52]
  repeat (simp only [ms_108, ms_109, ms_117, ms_110, ms_111, nI_clamp (show c < 2 ^ 31 by omega)]; try dsimp only [kx_wp, kx_step, kx_lI, kx_lL, kx_lA, kx_gl, kx_pI, kx_pL, kx_pR, kx_pA, kx_pV, kx_s1, kx_s2, kx_sl, kx_pre, kx_c2, kx_pl, kx_cmp, kx_oF, kx_eqN, kx_nil, kx_c1, kx_ft, kx_aI, kx_aL, kx_aR, kx_ln, Nat.reduceAdd, Option.toList, List.cons_append, List.nil_append, mW_o, mf_31, m_108, mf_32, m_109, mf_40, m_117, mf_33, m_110, mf_34, m_111, mf_51, mf_52])
  all_goals (repeat' apply And.intro)
  all_goals ((try clear hB hC); first | exact True.intro | with_reducible rfl | with_reducible assumption | (with_reducible refine vp_in_nI ?_ ?_ <;> first | omega | decide) | exact Nat.le_of_ble_eq_true rfl | (with_reducible refine ck_nzI ?_; simp; done) | (with_reducible refine ck_nzL ?_; simp; done) | (simp only [pk_us, pk_uLs, ↓reduceIte, not_true_eq_false, not_false_eq_true]; done) | (simp only [↓reduceIte, not_true_eq_false, not_false_eq_true]; with_reducible rfl) | skip)

set_option maxRecDepth 100000 in
set_option maxHeartbeats 4000000 in
theorem ct_X11_seen_5 (l : Launch) (G : kx_G) {M : Nat → Int32} {A : Nat → Nat → Int32} {L : Nat → Nat → Int64} {R : kx_P} {sz : Nat} {c : Nat} (hc : c < 8)  : kx_M l G sX11_seen 2 0 0 [.ref 93, .int (nI c), .int (5)] (mW M A L R) sz (some (.int (M 51))) (mW M A L R) sz := by
  refine kx_mk kx_tab kxLok_X11 (ini := false) [some (.ref 93), some (.int (nI c)), some (.int (5))] ⟨by decide, rfl, by decide, by decide⟩ (⟨_, rfl⟩) rfl rfl (fun g hB hC => ?_)
  refine hB bX11_seen_0 _ _ _ _ _ _ _ kX11_seen_0 ?_
  dsimp only [bX11_seen_0, kx_wp, kx_step, kx_lI, kx_lL, kx_lA, kx_gl, kx_pI, kx_pL, kx_pR, kx_pA, kx_pV, kx_s1, kx_s2, kx_sl, kx_pre, kx_c2, kx_pl, kx_cmp, kx_oF, kx_eqN, kx_nil, kx_c1, kx_ft, kx_aI, kx_aL, kx_aR, kx_ln, Nat.reduceAdd, Option.toList, List.cons_append, List.nil_append, mW_o, mf_31, m_108, mf_32, m_109, mf_40, m_117, mf_33, m_110, mf_34, m_111, mf_51, mf_52]
  repeat (simp only [ms_108, ms_109, ms_117, ms_110, ms_111, nI_clamp (show c < 2 ^ 31 by omega)]; try dsimp only [kx_wp, kx_step, kx_lI, kx_lL, kx_lA, kx_gl, kx_pI, kx_pL, kx_pR, kx_pA, kx_pV, kx_s1, kx_s2, kx_sl, kx_pre, kx_c2, kx_pl, kx_cmp, kx_oF, kx_eqN, kx_nil, kx_c1, kx_ft, kx_aI, kx_aL, kx_aR, kx_ln, Nat.reduceAdd, Option.toList, List.cons_append, List.nil_append, mW_o, mf_31, m_108, mf_32, m_109, mf_40, m_117, mf_33, m_110, mf_34, m_111, mf_51, mf_52])
  repeat' apply And.intro
  all_goals try (first | with_reducible assumption | (with_reducible refine ck_nzI ?_; simp; done) | (with_reducible refine ck_nzL ?_; simp; done) | (with_reducible refine vp_in_nI ?_ ?_ <;> first | omega | decide) | (with_reducible refine Nat.le_of_ble_eq_true ?_; rfl) | omega)
  · exact fun zc1 => absurd zc1 (by decide)
  refine kx_sw (ws := [40, 46, 53, 60, 80, 87]) rfl ?_
  dsimp only [kx_swl]
  refine ⟨fun zc1_0 => absurd zc1_0 (by decide), fun zc1_1 => absurd zc1_1 (by decide), fun zc1_2 => absurd zc1_2 (by decide), fun zc1_3 => absurd zc1_3 (by decide), fun zc1_4 => absurd zc1_4 (by decide), fun zc1_5 => ?_, trivial⟩
  refine hB bX11_seen_87 _ _ _ _ _ _ _ kX11_seen_87 ?_
  dsimp only [bX11_seen_87, kx_wp, kx_step, kx_lI, kx_lL, kx_lA, kx_gl, kx_pI, kx_pL, kx_pR, kx_pA, kx_pV, kx_s1, kx_s2, kx_sl, kx_pre, kx_c2, kx_pl, kx_cmp, kx_oF, kx_eqN, kx_nil, kx_c1, kx_ft, kx_aI, kx_aL, kx_aR, kx_ln, Nat.reduceAdd, Option.toList, List.cons_append, List.nil_append, mW_o, mf_31, m_108, mf_32, m_109, mf_40, m_117, mf_33, m_110, mf_34, m_111, mf_51, mf_52]
  repeat (simp only [ms_108, ms_109, ms_117, ms_110, ms_111, nI_clamp (show c < 2 ^ 31 by omega)]; try dsimp only [kx_wp, kx_step, kx_lI, kx_lL, kx_lA, kx_gl, kx_pI, kx_pL, kx_pR, kx_pA, kx_pV, kx_s1, kx_s2, kx_sl, kx_pre, kx_c2, kx_pl, kx_cmp, kx_oF, kx_eqN, kx_nil, kx_c1, kx_ft, kx_aI, kx_aL, kx_aR, kx_ln, Nat.reduceAdd, Option.toList, List.cons_append, List.nil_append, mW_o, mf_31, m_108, mf_32, m_109, mf_40, m_117, mf_33, m_110, mf_34, m_111, mf_51, mf_52])
  all_goals (repeat' apply And.intro)
  all_goals ((try clear hB hC); first | exact True.intro | with_reducible rfl | with_reducible assumption | (with_reducible refine vp_in_nI ?_ ?_ <;> first | omega | decide) | exact Nat.le_of_ble_eq_true rfl | (with_reducible refine ck_nzI ?_; simp; done) | (with_reducible refine ck_nzL ?_; simp; done) | (simp only [pk_us, pk_uLs, ↓reduceIte, not_true_eq_false, not_false_eq_true]; done) | (simp only [↓reduceIte, not_true_eq_false, not_false_eq_true]; with_reducible rfl) | skip)

set_option maxRecDepth 100000 in
set_option maxHeartbeats 4000000 in
theorem ct_X11_seen_6 (l : Launch) (G : kx_G) {M : Nat → Int32} {A : Nat → Nat → Int32} {L : Nat → Nat → Int64} {R : kx_P} {sz : Nat} {c : Nat} (hc : c < 8)  : kx_M l G sX11_seen 2 0 0 [.ref 93, .int (nI c), .int (6)] (mW M A L R) sz (some (.int (M 52))) (mW M A L R) sz := by
  refine kx_mk kx_tab kxLok_X11 (ini := false) [some (.ref 93), some (.int (nI c)), some (.int (6))] ⟨by decide, rfl, by decide, by decide⟩ (⟨_, rfl⟩) rfl rfl (fun g hB hC => ?_)
  refine hB bX11_seen_0 _ _ _ _ _ _ _ kX11_seen_0 ?_
  dsimp only [bX11_seen_0, kx_wp, kx_step, kx_lI, kx_lL, kx_lA, kx_gl, kx_pI, kx_pL, kx_pR, kx_pA, kx_pV, kx_s1, kx_s2, kx_sl, kx_pre, kx_c2, kx_pl, kx_cmp, kx_oF, kx_eqN, kx_nil, kx_c1, kx_ft, kx_aI, kx_aL, kx_aR, kx_ln, Nat.reduceAdd, Option.toList, List.cons_append, List.nil_append, mW_o, mf_31, m_108, mf_32, m_109, mf_40, m_117, mf_33, m_110, mf_34, m_111, mf_51, mf_52]
  repeat (simp only [ms_108, ms_109, ms_117, ms_110, ms_111, nI_clamp (show c < 2 ^ 31 by omega)]; try dsimp only [kx_wp, kx_step, kx_lI, kx_lL, kx_lA, kx_gl, kx_pI, kx_pL, kx_pR, kx_pA, kx_pV, kx_s1, kx_s2, kx_sl, kx_pre, kx_c2, kx_pl, kx_cmp, kx_oF, kx_eqN, kx_nil, kx_c1, kx_ft, kx_aI, kx_aL, kx_aR, kx_ln, Nat.reduceAdd, Option.toList, List.cons_append, List.nil_append, mW_o, mf_31, m_108, mf_32, m_109, mf_40, m_117, mf_33, m_110, mf_34, m_111, mf_51, mf_52])
  repeat' apply And.intro
  all_goals try (first | with_reducible assumption | (with_reducible refine ck_nzI ?_; simp; done) | (with_reducible refine ck_nzL ?_; simp; done) | (with_reducible refine vp_in_nI ?_ ?_ <;> first | omega | decide) | (with_reducible refine Nat.le_of_ble_eq_true ?_; rfl) | omega)
  · intro zc1
    refine hB bX11_seen_92 _ _ _ _ _ _ _ kX11_seen_92 ?_
    dsimp only [bX11_seen_92, kx_wp, kx_step, kx_lI, kx_lL, kx_lA, kx_gl, kx_pI, kx_pL, kx_pR, kx_pA, kx_pV, kx_s1, kx_s2, kx_sl, kx_pre, kx_c2, kx_pl, kx_cmp, kx_oF, kx_eqN, kx_nil, kx_c1, kx_ft, kx_aI, kx_aL, kx_aR, kx_ln, Nat.reduceAdd, Option.toList, List.cons_append, List.nil_append, mW_o, mf_31, m_108, mf_32, m_109, mf_40, m_117, mf_33, m_110, mf_34, m_111, mf_51, mf_52]
    repeat (simp only [ms_108, ms_109, ms_117, ms_110, ms_111, nI_clamp (show c < 2 ^ 31 by omega)]; try dsimp only [kx_wp, kx_step, kx_lI, kx_lL, kx_lA, kx_gl, kx_pI, kx_pL, kx_pR, kx_pA, kx_pV, kx_s1, kx_s2, kx_sl, kx_pre, kx_c2, kx_pl, kx_cmp, kx_oF, kx_eqN, kx_nil, kx_c1, kx_ft, kx_aI, kx_aL, kx_aR, kx_ln, Nat.reduceAdd, Option.toList, List.cons_append, List.nil_append, mW_o, mf_31, m_108, mf_32, m_109, mf_40, m_117, mf_33, m_110, mf_34, m_111, mf_51, mf_52])
    all_goals (repeat' apply And.intro)
    all_goals ((try clear hB hC); first | exact True.intro | with_reducible rfl | with_reducible assumption | (with_reducible refine vp_in_nI ?_ ?_ <;> first | omega | decide) | exact Nat.le_of_ble_eq_true rfl | (with_reducible refine ck_nzI ?_; simp; done) | (with_reducible refine ck_nzL ?_; simp; done) | (simp only [pk_us, pk_uLs, ↓reduceIte, not_true_eq_false, not_false_eq_true]; done) | (simp only [↓reduceIte, not_true_eq_false, not_false_eq_true]; with_reducible rfl) | skip)
  refine kx_sw (ws := [40, 46, 53, 60, 80, 87]) rfl ?_
  dsimp only [kx_swl]
  exact ⟨fun zc1_0 => absurd zc1_0 (by decide), fun zc1_1 => absurd zc1_1 (by decide), fun zc1_2 => absurd zc1_2 (by decide), fun zc1_3 => absurd zc1_3 (by decide), fun zc1_4 => absurd zc1_4 (by decide), fun zc1_5 => absurd zc1_5 (by decide), trivial⟩

def ck_count (M : Nat → Int32) (d : Nat) (w : Int32) : Int32 := if w = 0 then M 1 else if w = 1 then M 21 else if w = 2 then M 2 else if w = 3 then M 71 else if w = 4 then M 80 else if w = 5 then M 22 else if w = 6 then M 5 else if w = 7 then nI (ck_da (d / 1440) (ck_feb (M 3))) else if w = 8 then nI (ck_mo (d / 1440) (ck_feb (M 3))) else -1
def bX11_count_0 : List kx_O := [(.aload_n 0, 0, 0, 0, .null), (.iconst 0, 0, 0, 0, .int 0), (.putfield 1, 11, 0, 0, .null), (.iload_n 1, 1, 0, 0, .null), (.tableswitch 101 0 8 #[50, 55, 60, 65, 70, 75, 80, 85, 93], 107, 50, 0, .null)]
theorem kX11_count_0 : kx_oks kxL_X11 false cX11_count 0 bX11_count_0 = true := by decide +kernel
def bX11_count_56 : List kx_O := [(.aload_n 0, 0, 0, 0, .null), (.getfield 182, 11, 1, 0, .null), (.ireturn, 0, 0, 0, .null)]
theorem kX11_count_56 : kx_oks kxL_X11 false cX11_count 56 bX11_count_56 = true := by decide +kernel
def bX11_count_61 : List kx_O := [(.aload_n 0, 0, 0, 0, .null), (.getfield 337, 11, 21, 0, .null), (.ireturn, 0, 0, 0, .null)]
theorem kX11_count_61 : kx_oks kxL_X11 false cX11_count 61 bX11_count_61 = true := by decide +kernel
def bX11_count_66 : List kx_O := [(.aload_n 0, 0, 0, 0, .null), (.getfield 175, 11, 2, 0, .null), (.ireturn, 0, 0, 0, .null)]
theorem kX11_count_66 : kx_oks kxL_X11 false cX11_count 66 bX11_count_66 = true := by decide +kernel
def bX11_count_71 : List kx_O := [(.aload_n 0, 0, 0, 0, .null), (.getfield 533, 11, 71, 0, .null), (.ireturn, 0, 0, 0, .null)]
theorem kX11_count_71 : kx_oks kxL_X11 false cX11_count 71 bX11_count_71 = true := by decide +kernel
def bX11_count_76 : List kx_O := [(.aload_n 0, 0, 0, 0, .null), (.getfield 567, 11, 80, 0, .null), (.ireturn, 0, 0, 0, .null)]
theorem kX11_count_76 : kx_oks kxL_X11 false cX11_count 76 bX11_count_76 = true := by decide +kernel
def bX11_count_81 : List kx_O := [(.aload_n 0, 0, 0, 0, .null), (.getfield 424, 11, 22, 0, .null), (.ireturn, 0, 0, 0, .null)]
theorem kX11_count_81 : kx_oks kxL_X11 false cX11_count 81 bX11_count_81 = true := by decide +kernel
def bX11_count_86 : List kx_O := [(.aload_n 0, 0, 0, 0, .null), (.getfield 189, 11, 5, 0, .null), (.ireturn, 0, 0, 0, .null)]
theorem kX11_count_86 : kx_oks kxL_X11 false cX11_count 86 bX11_count_86 = true := by decide +kernel
def bX11_count_91 : List kx_O := [(.aload_n 0, 0, 0, 0, .null)]
theorem kX11_count_91 : kx_oks kxL_X11 false cX11_count 91 bX11_count_91 = true := by decide +kernel
def bX11_count_95 : List kx_O := [(.bipush 100, 0, 0, 0, .int 100), (.irem, 0, 0, 0, .null), (.ireturn, 0, 0, 0, .null)]
theorem kX11_count_95 : kx_oks kxL_X11 false cX11_count 95 bX11_count_95 = true := by decide +kernel
def bX11_count_99 : List kx_O := [(.aload_n 0, 0, 0, 0, .null)]
theorem kX11_count_99 : kx_oks kxL_X11 false cX11_count 99 bX11_count_99 = true := by decide +kernel
def bX11_count_103 : List kx_O := [(.bipush 100, 0, 0, 0, .int 100), (.idiv, 0, 0, 0, .null), (.ireturn, 0, 0, 0, .null)]
theorem kX11_count_103 : kx_oks kxL_X11 false cX11_count 103 bX11_count_103 = true := by decide +kernel
def bX11_count_107 : List kx_O := [(.iconst (-1), 0, 0, 0, .int (-1)), (.ireturn, 0, 0, 0, .null)]
theorem kX11_count_107 : kx_oks kxL_X11 false cX11_count 107 bX11_count_107 = true := by decide +kernel
theorem dX11_count_92 : decode cX11_count 92 = .ok (.invokevirtual 346, 3) := by decide +kernel
theorem dX11_count_100 : decode cX11_count 100 = .ok (.invokevirtual 346, 3) := by decide +kernel
set_option maxRecDepth 100000 in
set_option maxHeartbeats 4000000 in
theorem ct_X11_count (l : Launch) (G : kx_G) {M : Nat → Int32} {A : Nat → Nat → Int32} {L : Nat → Nat → Int64} {R : kx_P} {sz : Nat} {d : Nat} (h1 : M 1 = nI d) (hd : d ≤ 100000) {w : Int32}  : kx_M l G sX11_count 3 0 0 [.ref 93, .int (w)] (mW M A L R) sz (some (.int (ck_count M d w))) (mW (upd M 0 0) A L R) sz := by
  have hf := ck_feb_le (M 3)
  have hda := ck_da_le (show d / 1440 ≤ 69 by omega) hf
  have hmo := ck_mo_le (d / 1440) (ck_feb (M 3))
  have h1b : upd M 0 0 1 = nI d := by rw [show upd M 0 0 1 = M 1 from rfl]; exact h1
  have zt1 := ck_t1 (show ck_mo (d / 1440) (ck_feb (M 3)) ≤ 12 by omega) hda.2
  have zt2 := ck_t2 (show ck_mo (d / 1440) (ck_feb (M 3)) ≤ 12 by omega) hda.2
  refine kx_mk kx_tab kxLok_X11 (ini := false) [some (.ref 93), some (.int (w))] ⟨by decide, rfl, by decide, by decide⟩ (⟨_, rfl⟩) rfl rfl (fun g hB hC => ?_)
  refine hB bX11_count_0 _ _ _ _ _ _ _ kX11_count_0 ?_
  dsimp only [bX11_count_0, kx_wp, kx_step, kx_lI, kx_lL, kx_lA, kx_gl, kx_pI, kx_pL, kx_pR, kx_pA, kx_pV, kx_s1, kx_s2, kx_sl, kx_pre, kx_c2, kx_pl, kx_cmp, kx_oF, kx_eqN, kx_nil, kx_c1, kx_ft, kx_aI, kx_aL, kx_aR, kx_ln, Nat.reduceAdd, Option.toList, List.cons_append, List.nil_append, mW_o, mf_0, mf_1, mf_21, mf_2, mf_71, mf_80, mf_22, mf_5]
  repeat (simp only [mu_0, mW_so, show upd M 0 0 1 = M 1 from rfl, show upd M 0 0 21 = M 21 from rfl, show upd M 0 0 2 = M 2 from rfl, show upd M 0 0 71 = M 71 from rfl, show upd M 0 0 80 = M 80 from rfl, show upd M 0 0 22 = M 22 from rfl, show upd M 0 0 5 = M 5 from rfl, show upd M 0 0 3 = M 3 from rfl, zt1, zt2]; try dsimp only [kx_wp, kx_step, kx_lI, kx_lL, kx_lA, kx_gl, kx_pI, kx_pL, kx_pR, kx_pA, kx_pV, kx_s1, kx_s2, kx_sl, kx_pre, kx_c2, kx_pl, kx_cmp, kx_oF, kx_eqN, kx_nil, kx_c1, kx_ft, kx_aI, kx_aL, kx_aR, kx_ln, Nat.reduceAdd, Option.toList, List.cons_append, List.nil_append, mW_o, mf_0, mf_1, mf_21, mf_2, mf_71, mf_80, mf_22, mf_5])
  repeat' apply And.intro
  all_goals try (first | with_reducible assumption | (with_reducible refine ck_nzI ?_; simp; done) | (with_reducible refine ck_nzL ?_; simp; done) | (with_reducible refine vp_in_nI ?_ ?_ <;> first | omega | decide) | (with_reducible refine Nat.le_of_ble_eq_true ?_; rfl) | omega)
  · intro zc6
    have zn6_0 : ¬ w = 0 := fun h => by rw [h] at zc6; exact absurd zc6 (by decide)
    have zn6_1 : ¬ w = 1 := fun h => by rw [h] at zc6; exact absurd zc6 (by decide)
    have zn6_2 : ¬ w = 2 := fun h => by rw [h] at zc6; exact absurd zc6 (by decide)
    have zn6_3 : ¬ w = 3 := fun h => by rw [h] at zc6; exact absurd zc6 (by decide)
    have zn6_4 : ¬ w = 4 := fun h => by rw [h] at zc6; exact absurd zc6 (by decide)
    have zn6_5 : ¬ w = 5 := fun h => by rw [h] at zc6; exact absurd zc6 (by decide)
    have zn6_6 : ¬ w = 6 := fun h => by rw [h] at zc6; exact absurd zc6 (by decide)
    have zn6_7 : ¬ w = 7 := fun h => by rw [h] at zc6; exact absurd zc6 (by decide)
    have zn6_8 : ¬ w = 8 := fun h => by rw [h] at zc6; exact absurd zc6 (by decide)
    refine hB bX11_count_107 _ _ _ _ _ _ _ kX11_count_107 ?_
    dsimp only [bX11_count_107, kx_wp, kx_step, kx_lI, kx_lL, kx_lA, kx_gl, kx_pI, kx_pL, kx_pR, kx_pA, kx_pV, kx_s1, kx_s2, kx_sl, kx_pre, kx_c2, kx_pl, kx_cmp, kx_oF, kx_eqN, kx_nil, kx_c1, kx_ft, kx_aI, kx_aL, kx_aR, kx_ln, Nat.reduceAdd, Option.toList, List.cons_append, List.nil_append, mW_o, mf_0, mf_1, mf_21, mf_2, mf_71, mf_80, mf_22, mf_5]
    repeat (simp only [mu_0, mW_so, show upd M 0 0 1 = M 1 from rfl, show upd M 0 0 21 = M 21 from rfl, show upd M 0 0 2 = M 2 from rfl, show upd M 0 0 71 = M 71 from rfl, show upd M 0 0 80 = M 80 from rfl, show upd M 0 0 22 = M 22 from rfl, show upd M 0 0 5 = M 5 from rfl, show upd M 0 0 3 = M 3 from rfl, zt1, zt2]; try dsimp only [kx_wp, kx_step, kx_lI, kx_lL, kx_lA, kx_gl, kx_pI, kx_pL, kx_pR, kx_pA, kx_pV, kx_s1, kx_s2, kx_sl, kx_pre, kx_c2, kx_pl, kx_cmp, kx_oF, kx_eqN, kx_nil, kx_c1, kx_ft, kx_aI, kx_aL, kx_aR, kx_ln, Nat.reduceAdd, Option.toList, List.cons_append, List.nil_append, mW_o, mf_0, mf_1, mf_21, mf_2, mf_71, mf_80, mf_22, mf_5])
    all_goals (repeat' apply And.intro)
    all_goals ((try clear hB hC); first | exact True.intro | with_reducible rfl | with_reducible assumption | (with_reducible refine vp_in_nI ?_ ?_ <;> first | omega | decide) | exact Nat.le_of_ble_eq_true rfl | (with_reducible refine ck_nzI ?_; simp; done) | (with_reducible refine ck_nzL ?_; simp; done) | (simp only [pk_us, pk_uLs, ck_count, zn6_0, zn6_1, zn6_2, zn6_3, zn6_4, zn6_5, zn6_6, zn6_7, zn6_8, ↓reduceIte, not_true_eq_false, not_false_eq_true]; done) | (simp only [ck_count, zn6_0, zn6_1, zn6_2, zn6_3, zn6_4, zn6_5, zn6_6, zn6_7, zn6_8, ↓reduceIte, not_true_eq_false, not_false_eq_true]; with_reducible rfl) | skip)
  refine kx_sw (ws := [56, 61, 66, 71, 76, 81, 86, 91, 99]) rfl ?_
  dsimp only [kx_swl]
  refine ⟨fun zc6_0 => ?_, fun zc6_1 => ?_, fun zc6_2 => ?_, fun zc6_3 => ?_, fun zc6_4 => ?_, fun zc6_5 => ?_, fun zc6_6 => ?_, fun zc6_7 => ?_, fun zc6_8 => ?_, trivial⟩
  · have ze6_0 : w = 0 := Int32.toInt_inj.mp (zc6_0.trans (by decide))
    have zn6_1 : ¬ w = 1 := by rw [ze6_0]; decide
    have zn6_2 : ¬ w = 2 := by rw [ze6_0]; decide
    have zn6_3 : ¬ w = 3 := by rw [ze6_0]; decide
    have zn6_4 : ¬ w = 4 := by rw [ze6_0]; decide
    have zn6_5 : ¬ w = 5 := by rw [ze6_0]; decide
    have zn6_6 : ¬ w = 6 := by rw [ze6_0]; decide
    have zn6_7 : ¬ w = 7 := by rw [ze6_0]; decide
    have zn6_8 : ¬ w = 8 := by rw [ze6_0]; decide
    refine hB bX11_count_56 _ _ _ _ _ _ _ kX11_count_56 ?_
    dsimp only [bX11_count_56, kx_wp, kx_step, kx_lI, kx_lL, kx_lA, kx_gl, kx_pI, kx_pL, kx_pR, kx_pA, kx_pV, kx_s1, kx_s2, kx_sl, kx_pre, kx_c2, kx_pl, kx_cmp, kx_oF, kx_eqN, kx_nil, kx_c1, kx_ft, kx_aI, kx_aL, kx_aR, kx_ln, Nat.reduceAdd, Option.toList, List.cons_append, List.nil_append, mW_o, mf_0, mf_1, mf_21, mf_2, mf_71, mf_80, mf_22, mf_5]
    repeat (simp only [mu_0, mW_so, show upd M 0 0 1 = M 1 from rfl, show upd M 0 0 21 = M 21 from rfl, show upd M 0 0 2 = M 2 from rfl, show upd M 0 0 71 = M 71 from rfl, show upd M 0 0 80 = M 80 from rfl, show upd M 0 0 22 = M 22 from rfl, show upd M 0 0 5 = M 5 from rfl, show upd M 0 0 3 = M 3 from rfl, zt1, zt2]; try dsimp only [kx_wp, kx_step, kx_lI, kx_lL, kx_lA, kx_gl, kx_pI, kx_pL, kx_pR, kx_pA, kx_pV, kx_s1, kx_s2, kx_sl, kx_pre, kx_c2, kx_pl, kx_cmp, kx_oF, kx_eqN, kx_nil, kx_c1, kx_ft, kx_aI, kx_aL, kx_aR, kx_ln, Nat.reduceAdd, Option.toList, List.cons_append, List.nil_append, mW_o, mf_0, mf_1, mf_21, mf_2, mf_71, mf_80, mf_22, mf_5])
    all_goals (repeat' apply And.intro)
    all_goals ((try clear hB hC); first | exact True.intro | with_reducible rfl | with_reducible assumption | (with_reducible refine vp_in_nI ?_ ?_ <;> first | omega | decide) | exact Nat.le_of_ble_eq_true rfl | (with_reducible refine ck_nzI ?_; simp; done) | (with_reducible refine ck_nzL ?_; simp; done) | (simp only [pk_us, pk_uLs, ck_count, eq_true ze6_0, zn6_1, zn6_2, zn6_3, zn6_4, zn6_5, zn6_6, zn6_7, zn6_8, ↓reduceIte, not_true_eq_false, not_false_eq_true]; done) | (simp only [ck_count, eq_true ze6_0, zn6_1, zn6_2, zn6_3, zn6_4, zn6_5, zn6_6, zn6_7, zn6_8, ↓reduceIte, not_true_eq_false, not_false_eq_true]; with_reducible rfl) | skip)
  · have ze6_1 : w = 1 := Int32.toInt_inj.mp (zc6_1.trans (by decide))
    have zn6_0 : ¬ w = 0 := by rw [ze6_1]; decide
    have zn6_2 : ¬ w = 2 := by rw [ze6_1]; decide
    have zn6_3 : ¬ w = 3 := by rw [ze6_1]; decide
    have zn6_4 : ¬ w = 4 := by rw [ze6_1]; decide
    have zn6_5 : ¬ w = 5 := by rw [ze6_1]; decide
    have zn6_6 : ¬ w = 6 := by rw [ze6_1]; decide
    have zn6_7 : ¬ w = 7 := by rw [ze6_1]; decide
    have zn6_8 : ¬ w = 8 := by rw [ze6_1]; decide
    refine hB bX11_count_61 _ _ _ _ _ _ _ kX11_count_61 ?_
    dsimp only [bX11_count_61, kx_wp, kx_step, kx_lI, kx_lL, kx_lA, kx_gl, kx_pI, kx_pL, kx_pR, kx_pA, kx_pV, kx_s1, kx_s2, kx_sl, kx_pre, kx_c2, kx_pl, kx_cmp, kx_oF, kx_eqN, kx_nil, kx_c1, kx_ft, kx_aI, kx_aL, kx_aR, kx_ln, Nat.reduceAdd, Option.toList, List.cons_append, List.nil_append, mW_o, mf_0, mf_1, mf_21, mf_2, mf_71, mf_80, mf_22, mf_5]
    repeat (simp only [mu_0, mW_so, show upd M 0 0 1 = M 1 from rfl, show upd M 0 0 21 = M 21 from rfl, show upd M 0 0 2 = M 2 from rfl, show upd M 0 0 71 = M 71 from rfl, show upd M 0 0 80 = M 80 from rfl, show upd M 0 0 22 = M 22 from rfl, show upd M 0 0 5 = M 5 from rfl, show upd M 0 0 3 = M 3 from rfl, zt1, zt2]; try dsimp only [kx_wp, kx_step, kx_lI, kx_lL, kx_lA, kx_gl, kx_pI, kx_pL, kx_pR, kx_pA, kx_pV, kx_s1, kx_s2, kx_sl, kx_pre, kx_c2, kx_pl, kx_cmp, kx_oF, kx_eqN, kx_nil, kx_c1, kx_ft, kx_aI, kx_aL, kx_aR, kx_ln, Nat.reduceAdd, Option.toList, List.cons_append, List.nil_append, mW_o, mf_0, mf_1, mf_21, mf_2, mf_71, mf_80, mf_22, mf_5])
    all_goals (repeat' apply And.intro)
    all_goals ((try clear hB hC); first | exact True.intro | with_reducible rfl | with_reducible assumption | (with_reducible refine vp_in_nI ?_ ?_ <;> first | omega | decide) | exact Nat.le_of_ble_eq_true rfl | (with_reducible refine ck_nzI ?_; simp; done) | (with_reducible refine ck_nzL ?_; simp; done) | (simp only [pk_us, pk_uLs, ck_count, eq_true ze6_1, zn6_0, zn6_2, zn6_3, zn6_4, zn6_5, zn6_6, zn6_7, zn6_8, ↓reduceIte, not_true_eq_false, not_false_eq_true]; done) | (simp only [ck_count, eq_true ze6_1, zn6_0, zn6_2, zn6_3, zn6_4, zn6_5, zn6_6, zn6_7, zn6_8, ↓reduceIte, not_true_eq_false, not_false_eq_true]; with_reducible rfl) | skip)
  · have ze6_2 : w = 2 := Int32.toInt_inj.mp (zc6_2.trans (by decide))
    have zn6_0 : ¬ w = 0 := by rw [ze6_2]; decide
    have zn6_1 : ¬ w = 1 := by rw [ze6_2]; decide
    have zn6_3 : ¬ w = 3 := by rw [ze6_2]; decide
    have zn6_4 : ¬ w = 4 := by rw [ze6_2]; decide
    have zn6_5 : ¬ w = 5 := by rw [ze6_2]; decide
    have zn6_6 : ¬ w = 6 := by rw [ze6_2]; decide
    have zn6_7 : ¬ w = 7 := by rw [ze6_2]; decide
    have zn6_8 : ¬ w = 8 := by rw [ze6_2]; decide
    refine hB bX11_count_66 _ _ _ _ _ _ _ kX11_count_66 ?_
    dsimp only [bX11_count_66, kx_wp, kx_step, kx_lI, kx_lL, kx_lA, kx_gl, kx_pI, kx_pL, kx_pR, kx_pA, kx_pV, kx_s1, kx_s2, kx_sl, kx_pre, kx_c2, kx_pl, kx_cmp, kx_oF, kx_eqN, kx_nil, kx_c1, kx_ft, kx_aI, kx_aL, kx_aR, kx_ln, Nat.reduceAdd, Option.toList, List.cons_append, List.nil_append, mW_o, mf_0, mf_1, mf_21, mf_2, mf_71, mf_80, mf_22, mf_5]
    repeat (simp only [mu_0, mW_so, show upd M 0 0 1 = M 1 from rfl, show upd M 0 0 21 = M 21 from rfl, show upd M 0 0 2 = M 2 from rfl, show upd M 0 0 71 = M 71 from rfl, show upd M 0 0 80 = M 80 from rfl, show upd M 0 0 22 = M 22 from rfl, show upd M 0 0 5 = M 5 from rfl, show upd M 0 0 3 = M 3 from rfl, zt1, zt2]; try dsimp only [kx_wp, kx_step, kx_lI, kx_lL, kx_lA, kx_gl, kx_pI, kx_pL, kx_pR, kx_pA, kx_pV, kx_s1, kx_s2, kx_sl, kx_pre, kx_c2, kx_pl, kx_cmp, kx_oF, kx_eqN, kx_nil, kx_c1, kx_ft, kx_aI, kx_aL, kx_aR, kx_ln, Nat.reduceAdd, Option.toList, List.cons_append, List.nil_append, mW_o, mf_0, mf_1, mf_21, mf_2, mf_71, mf_80, mf_22, mf_5])
    all_goals (repeat' apply And.intro)
    all_goals ((try clear hB hC); first | exact True.intro | with_reducible rfl | with_reducible assumption | (with_reducible refine vp_in_nI ?_ ?_ <;> first | omega | decide) | exact Nat.le_of_ble_eq_true rfl | (with_reducible refine ck_nzI ?_; simp; done) | (with_reducible refine ck_nzL ?_; simp; done) | (simp only [pk_us, pk_uLs, ck_count, eq_true ze6_2, zn6_0, zn6_1, zn6_3, zn6_4, zn6_5, zn6_6, zn6_7, zn6_8, ↓reduceIte, not_true_eq_false, not_false_eq_true]; done) | (simp only [ck_count, eq_true ze6_2, zn6_0, zn6_1, zn6_3, zn6_4, zn6_5, zn6_6, zn6_7, zn6_8, ↓reduceIte, not_true_eq_false, not_false_eq_true]; with_reducible rfl) | skip)
  · have ze6_3 : w = 3 := Int32.toInt_inj.mp (zc6_3.trans (by decide))
    have zn6_0 : ¬ w = 0 := by rw [ze6_3]; decide
    have zn6_1 : ¬ w = 1 := by rw [ze6_3]; decide
    have zn6_2 : ¬ w = 2 := by rw [ze6_3]; decide
    have zn6_4 : ¬ w = 4 := by rw [ze6_3]; decide
    have zn6_5 : ¬ w = 5 := by rw [ze6_3]; decide
    have zn6_6 : ¬ w = 6 := by rw [ze6_3]; decide
    have zn6_7 : ¬ w = 7 := by rw [ze6_3]; decide
    have zn6_8 : ¬ w = 8 := by rw [ze6_3]; decide
    refine hB bX11_count_71 _ _ _ _ _ _ _ kX11_count_71 ?_
    dsimp only [bX11_count_71, kx_wp, kx_step, kx_lI, kx_lL, kx_lA, kx_gl, kx_pI, kx_pL, kx_pR, kx_pA, kx_pV, kx_s1, kx_s2, kx_sl, kx_pre, kx_c2, kx_pl, kx_cmp, kx_oF, kx_eqN, kx_nil, kx_c1, kx_ft, kx_aI, kx_aL, kx_aR, kx_ln, Nat.reduceAdd, Option.toList, List.cons_append, List.nil_append, mW_o, mf_0, mf_1, mf_21, mf_2, mf_71, mf_80, mf_22, mf_5]
    repeat (simp only [mu_0, mW_so, show upd M 0 0 1 = M 1 from rfl, show upd M 0 0 21 = M 21 from rfl, show upd M 0 0 2 = M 2 from rfl, show upd M 0 0 71 = M 71 from rfl, show upd M 0 0 80 = M 80 from rfl, show upd M 0 0 22 = M 22 from rfl, show upd M 0 0 5 = M 5 from rfl, show upd M 0 0 3 = M 3 from rfl, zt1, zt2]; try dsimp only [kx_wp, kx_step, kx_lI, kx_lL, kx_lA, kx_gl, kx_pI, kx_pL, kx_pR, kx_pA, kx_pV, kx_s1, kx_s2, kx_sl, kx_pre, kx_c2, kx_pl, kx_cmp, kx_oF, kx_eqN, kx_nil, kx_c1, kx_ft, kx_aI, kx_aL, kx_aR, kx_ln, Nat.reduceAdd, Option.toList, List.cons_append, List.nil_append, mW_o, mf_0, mf_1, mf_21, mf_2, mf_71, mf_80, mf_22, mf_5])
    all_goals (repeat' apply And.intro)
    all_goals ((try clear hB hC); first | exact True.intro | with_reducible rfl | with_reducible assumption | (with_reducible refine vp_in_nI ?_ ?_ <;> first | omega | decide) | exact Nat.le_of_ble_eq_true rfl | (with_reducible refine ck_nzI ?_; simp; done) | (with_reducible refine ck_nzL ?_; simp; done) | (simp only [pk_us, pk_uLs, ck_count, eq_true ze6_3, zn6_0, zn6_1, zn6_2, zn6_4, zn6_5, zn6_6, zn6_7, zn6_8, ↓reduceIte, not_true_eq_false, not_false_eq_true]; done) | (simp only [ck_count, eq_true ze6_3, zn6_0, zn6_1, zn6_2, zn6_4, zn6_5, zn6_6, zn6_7, zn6_8, ↓reduceIte, not_true_eq_false, not_false_eq_true]; with_reducible rfl) | skip)
  · have ze6_4 : w = 4 := Int32.toInt_inj.mp (zc6_4.trans (by decide))
    have zn6_0 : ¬ w = 0 := by rw [ze6_4]; decide
    have zn6_1 : ¬ w = 1 := by rw [ze6_4]; decide
    have zn6_2 : ¬ w = 2 := by rw [ze6_4]; decide
    have zn6_3 : ¬ w = 3 := by rw [ze6_4]; decide
    have zn6_5 : ¬ w = 5 := by rw [ze6_4]; decide
    have zn6_6 : ¬ w = 6 := by rw [ze6_4]; decide
    have zn6_7 : ¬ w = 7 := by rw [ze6_4]; decide
    have zn6_8 : ¬ w = 8 := by rw [ze6_4]; decide
    refine hB bX11_count_76 _ _ _ _ _ _ _ kX11_count_76 ?_
    dsimp only [bX11_count_76, kx_wp, kx_step, kx_lI, kx_lL, kx_lA, kx_gl, kx_pI, kx_pL, kx_pR, kx_pA, kx_pV, kx_s1, kx_s2, kx_sl, kx_pre, kx_c2, kx_pl, kx_cmp, kx_oF, kx_eqN, kx_nil, kx_c1, kx_ft, kx_aI, kx_aL, kx_aR, kx_ln, Nat.reduceAdd, Option.toList, List.cons_append, List.nil_append, mW_o, mf_0, mf_1, mf_21, mf_2, mf_71, mf_80, mf_22, mf_5]
    repeat (simp only [mu_0, mW_so, show upd M 0 0 1 = M 1 from rfl, show upd M 0 0 21 = M 21 from rfl, show upd M 0 0 2 = M 2 from rfl, show upd M 0 0 71 = M 71 from rfl, show upd M 0 0 80 = M 80 from rfl, show upd M 0 0 22 = M 22 from rfl, show upd M 0 0 5 = M 5 from rfl, show upd M 0 0 3 = M 3 from rfl, zt1, zt2]; try dsimp only [kx_wp, kx_step, kx_lI, kx_lL, kx_lA, kx_gl, kx_pI, kx_pL, kx_pR, kx_pA, kx_pV, kx_s1, kx_s2, kx_sl, kx_pre, kx_c2, kx_pl, kx_cmp, kx_oF, kx_eqN, kx_nil, kx_c1, kx_ft, kx_aI, kx_aL, kx_aR, kx_ln, Nat.reduceAdd, Option.toList, List.cons_append, List.nil_append, mW_o, mf_0, mf_1, mf_21, mf_2, mf_71, mf_80, mf_22, mf_5])
    all_goals (repeat' apply And.intro)
    all_goals ((try clear hB hC); first | exact True.intro | with_reducible rfl | with_reducible assumption | (with_reducible refine vp_in_nI ?_ ?_ <;> first | omega | decide) | exact Nat.le_of_ble_eq_true rfl | (with_reducible refine ck_nzI ?_; simp; done) | (with_reducible refine ck_nzL ?_; simp; done) | (simp only [pk_us, pk_uLs, ck_count, eq_true ze6_4, zn6_0, zn6_1, zn6_2, zn6_3, zn6_5, zn6_6, zn6_7, zn6_8, ↓reduceIte, not_true_eq_false, not_false_eq_true]; done) | (simp only [ck_count, eq_true ze6_4, zn6_0, zn6_1, zn6_2, zn6_3, zn6_5, zn6_6, zn6_7, zn6_8, ↓reduceIte, not_true_eq_false, not_false_eq_true]; with_reducible rfl) | skip)
  · have ze6_5 : w = 5 := Int32.toInt_inj.mp (zc6_5.trans (by decide))
    have zn6_0 : ¬ w = 0 := by rw [ze6_5]; decide
    have zn6_1 : ¬ w = 1 := by rw [ze6_5]; decide
    have zn6_2 : ¬ w = 2 := by rw [ze6_5]; decide
    have zn6_3 : ¬ w = 3 := by rw [ze6_5]; decide
    have zn6_4 : ¬ w = 4 := by rw [ze6_5]; decide
    have zn6_6 : ¬ w = 6 := by rw [ze6_5]; decide
    have zn6_7 : ¬ w = 7 := by rw [ze6_5]; decide
    have zn6_8 : ¬ w = 8 := by rw [ze6_5]; decide
    refine hB bX11_count_81 _ _ _ _ _ _ _ kX11_count_81 ?_
    dsimp only [bX11_count_81, kx_wp, kx_step, kx_lI, kx_lL, kx_lA, kx_gl, kx_pI, kx_pL, kx_pR, kx_pA, kx_pV, kx_s1, kx_s2, kx_sl, kx_pre, kx_c2, kx_pl, kx_cmp, kx_oF, kx_eqN, kx_nil, kx_c1, kx_ft, kx_aI, kx_aL, kx_aR, kx_ln, Nat.reduceAdd, Option.toList, List.cons_append, List.nil_append, mW_o, mf_0, mf_1, mf_21, mf_2, mf_71, mf_80, mf_22, mf_5]
    repeat (simp only [mu_0, mW_so, show upd M 0 0 1 = M 1 from rfl, show upd M 0 0 21 = M 21 from rfl, show upd M 0 0 2 = M 2 from rfl, show upd M 0 0 71 = M 71 from rfl, show upd M 0 0 80 = M 80 from rfl, show upd M 0 0 22 = M 22 from rfl, show upd M 0 0 5 = M 5 from rfl, show upd M 0 0 3 = M 3 from rfl, zt1, zt2]; try dsimp only [kx_wp, kx_step, kx_lI, kx_lL, kx_lA, kx_gl, kx_pI, kx_pL, kx_pR, kx_pA, kx_pV, kx_s1, kx_s2, kx_sl, kx_pre, kx_c2, kx_pl, kx_cmp, kx_oF, kx_eqN, kx_nil, kx_c1, kx_ft, kx_aI, kx_aL, kx_aR, kx_ln, Nat.reduceAdd, Option.toList, List.cons_append, List.nil_append, mW_o, mf_0, mf_1, mf_21, mf_2, mf_71, mf_80, mf_22, mf_5])
    all_goals (repeat' apply And.intro)
    all_goals ((try clear hB hC); first | exact True.intro | with_reducible rfl | with_reducible assumption | (with_reducible refine vp_in_nI ?_ ?_ <;> first | omega | decide) | exact Nat.le_of_ble_eq_true rfl | (with_reducible refine ck_nzI ?_; simp; done) | (with_reducible refine ck_nzL ?_; simp; done) | (simp only [pk_us, pk_uLs, ck_count, eq_true ze6_5, zn6_0, zn6_1, zn6_2, zn6_3, zn6_4, zn6_6, zn6_7, zn6_8, ↓reduceIte, not_true_eq_false, not_false_eq_true]; done) | (simp only [ck_count, eq_true ze6_5, zn6_0, zn6_1, zn6_2, zn6_3, zn6_4, zn6_6, zn6_7, zn6_8, ↓reduceIte, not_true_eq_false, not_false_eq_true]; with_reducible rfl) | skip)
  · have ze6_6 : w = 6 := Int32.toInt_inj.mp (zc6_6.trans (by decide))
    have zn6_0 : ¬ w = 0 := by rw [ze6_6]; decide
    have zn6_1 : ¬ w = 1 := by rw [ze6_6]; decide
    have zn6_2 : ¬ w = 2 := by rw [ze6_6]; decide
    have zn6_3 : ¬ w = 3 := by rw [ze6_6]; decide
    have zn6_4 : ¬ w = 4 := by rw [ze6_6]; decide
    have zn6_5 : ¬ w = 5 := by rw [ze6_6]; decide
    have zn6_7 : ¬ w = 7 := by rw [ze6_6]; decide
    have zn6_8 : ¬ w = 8 := by rw [ze6_6]; decide
    refine hB bX11_count_86 _ _ _ _ _ _ _ kX11_count_86 ?_
    dsimp only [bX11_count_86, kx_wp, kx_step, kx_lI, kx_lL, kx_lA, kx_gl, kx_pI, kx_pL, kx_pR, kx_pA, kx_pV, kx_s1, kx_s2, kx_sl, kx_pre, kx_c2, kx_pl, kx_cmp, kx_oF, kx_eqN, kx_nil, kx_c1, kx_ft, kx_aI, kx_aL, kx_aR, kx_ln, Nat.reduceAdd, Option.toList, List.cons_append, List.nil_append, mW_o, mf_0, mf_1, mf_21, mf_2, mf_71, mf_80, mf_22, mf_5]
    repeat (simp only [mu_0, mW_so, show upd M 0 0 1 = M 1 from rfl, show upd M 0 0 21 = M 21 from rfl, show upd M 0 0 2 = M 2 from rfl, show upd M 0 0 71 = M 71 from rfl, show upd M 0 0 80 = M 80 from rfl, show upd M 0 0 22 = M 22 from rfl, show upd M 0 0 5 = M 5 from rfl, show upd M 0 0 3 = M 3 from rfl, zt1, zt2]; try dsimp only [kx_wp, kx_step, kx_lI, kx_lL, kx_lA, kx_gl, kx_pI, kx_pL, kx_pR, kx_pA, kx_pV, kx_s1, kx_s2, kx_sl, kx_pre, kx_c2, kx_pl, kx_cmp, kx_oF, kx_eqN, kx_nil, kx_c1, kx_ft, kx_aI, kx_aL, kx_aR, kx_ln, Nat.reduceAdd, Option.toList, List.cons_append, List.nil_append, mW_o, mf_0, mf_1, mf_21, mf_2, mf_71, mf_80, mf_22, mf_5])
    all_goals (repeat' apply And.intro)
    all_goals ((try clear hB hC); first | exact True.intro | with_reducible rfl | with_reducible assumption | (with_reducible refine vp_in_nI ?_ ?_ <;> first | omega | decide) | exact Nat.le_of_ble_eq_true rfl | (with_reducible refine ck_nzI ?_; simp; done) | (with_reducible refine ck_nzL ?_; simp; done) | (simp only [pk_us, pk_uLs, ck_count, eq_true ze6_6, zn6_0, zn6_1, zn6_2, zn6_3, zn6_4, zn6_5, zn6_7, zn6_8, ↓reduceIte, not_true_eq_false, not_false_eq_true]; done) | (simp only [ck_count, eq_true ze6_6, zn6_0, zn6_1, zn6_2, zn6_3, zn6_4, zn6_5, zn6_7, zn6_8, ↓reduceIte, not_true_eq_false, not_false_eq_true]; with_reducible rfl) | skip)
  · have ze6_7 : w = 7 := Int32.toInt_inj.mp (zc6_7.trans (by decide))
    have zn6_0 : ¬ w = 0 := by rw [ze6_7]; decide
    have zn6_1 : ¬ w = 1 := by rw [ze6_7]; decide
    have zn6_2 : ¬ w = 2 := by rw [ze6_7]; decide
    have zn6_3 : ¬ w = 3 := by rw [ze6_7]; decide
    have zn6_4 : ¬ w = 4 := by rw [ze6_7]; decide
    have zn6_5 : ¬ w = 5 := by rw [ze6_7]; decide
    have zn6_6 : ¬ w = 6 := by rw [ze6_7]; decide
    have zn6_8 : ¬ w = 8 := by rw [ze6_7]; decide
    refine hB bX11_count_91 _ _ _ _ _ _ _ kX11_count_91 ?_
    dsimp only [bX11_count_91, kx_wp, kx_step, kx_lI, kx_lL, kx_lA, kx_gl, kx_pI, kx_pL, kx_pR, kx_pA, kx_pV, kx_s1, kx_s2, kx_sl, kx_pre, kx_c2, kx_pl, kx_cmp, kx_oF, kx_eqN, kx_nil, kx_c1, kx_ft, kx_aI, kx_aL, kx_aR, kx_ln, Nat.reduceAdd, Option.toList, List.cons_append, List.nil_append, mW_o, mf_0, mf_1, mf_21, mf_2, mf_71, mf_80, mf_22, mf_5]
    repeat (simp only [mu_0, mW_so, show upd M 0 0 1 = M 1 from rfl, show upd M 0 0 21 = M 21 from rfl, show upd M 0 0 2 = M 2 from rfl, show upd M 0 0 71 = M 71 from rfl, show upd M 0 0 80 = M 80 from rfl, show upd M 0 0 22 = M 22 from rfl, show upd M 0 0 5 = M 5 from rfl, show upd M 0 0 3 = M 3 from rfl, zt1, zt2]; try dsimp only [kx_wp, kx_step, kx_lI, kx_lL, kx_lA, kx_gl, kx_pI, kx_pL, kx_pR, kx_pA, kx_pV, kx_s1, kx_s2, kx_sl, kx_pre, kx_c2, kx_pl, kx_cmp, kx_oF, kx_eqN, kx_nil, kx_c1, kx_ft, kx_aI, kx_aL, kx_aR, kx_ln, Nat.reduceAdd, Option.toList, List.cons_append, List.nil_append, mW_o, mf_0, mf_1, mf_21, mf_2, mf_71, mf_80, mf_22, mf_5])
    repeat' apply And.intro
    all_goals try (first | with_reducible assumption | (with_reducible refine ck_nzI ?_; simp; done) | (with_reducible refine ck_nzL ?_; simp; done) | (with_reducible refine vp_in_nI ?_ ?_ <;> first | omega | decide) | (with_reducible refine Nat.le_of_ble_eq_true ?_; rfl) | omega)
    refine hC.1 346 _ _ _ _ _ _ _ 11 _ _ _ _ _ _ _ _ _ _ _ _ lX11_346 (ct_X11_trueDate l G (M := upd M 0 0) h1b hd) ⟨by decide, rfl⟩ (mW_o) rfl rfl (Nat.le_of_ble_eq_true rfl) (by decide) (by decide) (by omega) (by omega) dX11_count_92 ?_
    refine hB bX11_count_95 _ _ _ _ _ _ _ kX11_count_95 ?_
    dsimp only [bX11_count_95, kx_wp, kx_step, kx_lI, kx_lL, kx_lA, kx_gl, kx_pI, kx_pL, kx_pR, kx_pA, kx_pV, kx_s1, kx_s2, kx_sl, kx_pre, kx_c2, kx_pl, kx_cmp, kx_oF, kx_eqN, kx_nil, kx_c1, kx_ft, kx_aI, kx_aL, kx_aR, kx_ln, Nat.reduceAdd, Option.toList, List.cons_append, List.nil_append, mW_o, mf_0, mf_1, mf_21, mf_2, mf_71, mf_80, mf_22, mf_5]
    repeat (simp only [mu_0, mW_so, show upd M 0 0 1 = M 1 from rfl, show upd M 0 0 21 = M 21 from rfl, show upd M 0 0 2 = M 2 from rfl, show upd M 0 0 71 = M 71 from rfl, show upd M 0 0 80 = M 80 from rfl, show upd M 0 0 22 = M 22 from rfl, show upd M 0 0 5 = M 5 from rfl, show upd M 0 0 3 = M 3 from rfl, zt1, zt2]; try dsimp only [kx_wp, kx_step, kx_lI, kx_lL, kx_lA, kx_gl, kx_pI, kx_pL, kx_pR, kx_pA, kx_pV, kx_s1, kx_s2, kx_sl, kx_pre, kx_c2, kx_pl, kx_cmp, kx_oF, kx_eqN, kx_nil, kx_c1, kx_ft, kx_aI, kx_aL, kx_aR, kx_ln, Nat.reduceAdd, Option.toList, List.cons_append, List.nil_append, mW_o, mf_0, mf_1, mf_21, mf_2, mf_71, mf_80, mf_22, mf_5])
    all_goals (repeat' apply And.intro)
    all_goals ((try clear hB hC); first | exact True.intro | with_reducible rfl | with_reducible assumption | (with_reducible refine vp_in_nI ?_ ?_ <;> first | omega | decide) | exact Nat.le_of_ble_eq_true rfl | (with_reducible refine ck_nzI ?_; simp; done) | (with_reducible refine ck_nzL ?_; simp; done) | (simp only [pk_us, pk_uLs, ck_count, eq_true ze6_7, zn6_0, zn6_1, zn6_2, zn6_3, zn6_4, zn6_5, zn6_6, zn6_8, ↓reduceIte, not_true_eq_false, not_false_eq_true]; done) | (simp only [ck_count, eq_true ze6_7, zn6_0, zn6_1, zn6_2, zn6_3, zn6_4, zn6_5, zn6_6, zn6_8, ↓reduceIte, not_true_eq_false, not_false_eq_true]; with_reducible rfl) | skip)
  · have ze6_8 : w = 8 := Int32.toInt_inj.mp (zc6_8.trans (by decide))
    have zn6_0 : ¬ w = 0 := by rw [ze6_8]; decide
    have zn6_1 : ¬ w = 1 := by rw [ze6_8]; decide
    have zn6_2 : ¬ w = 2 := by rw [ze6_8]; decide
    have zn6_3 : ¬ w = 3 := by rw [ze6_8]; decide
    have zn6_4 : ¬ w = 4 := by rw [ze6_8]; decide
    have zn6_5 : ¬ w = 5 := by rw [ze6_8]; decide
    have zn6_6 : ¬ w = 6 := by rw [ze6_8]; decide
    have zn6_7 : ¬ w = 7 := by rw [ze6_8]; decide
    refine hB bX11_count_99 _ _ _ _ _ _ _ kX11_count_99 ?_
    dsimp only [bX11_count_99, kx_wp, kx_step, kx_lI, kx_lL, kx_lA, kx_gl, kx_pI, kx_pL, kx_pR, kx_pA, kx_pV, kx_s1, kx_s2, kx_sl, kx_pre, kx_c2, kx_pl, kx_cmp, kx_oF, kx_eqN, kx_nil, kx_c1, kx_ft, kx_aI, kx_aL, kx_aR, kx_ln, Nat.reduceAdd, Option.toList, List.cons_append, List.nil_append, mW_o, mf_0, mf_1, mf_21, mf_2, mf_71, mf_80, mf_22, mf_5]
    repeat (simp only [mu_0, mW_so, show upd M 0 0 1 = M 1 from rfl, show upd M 0 0 21 = M 21 from rfl, show upd M 0 0 2 = M 2 from rfl, show upd M 0 0 71 = M 71 from rfl, show upd M 0 0 80 = M 80 from rfl, show upd M 0 0 22 = M 22 from rfl, show upd M 0 0 5 = M 5 from rfl, show upd M 0 0 3 = M 3 from rfl, zt1, zt2]; try dsimp only [kx_wp, kx_step, kx_lI, kx_lL, kx_lA, kx_gl, kx_pI, kx_pL, kx_pR, kx_pA, kx_pV, kx_s1, kx_s2, kx_sl, kx_pre, kx_c2, kx_pl, kx_cmp, kx_oF, kx_eqN, kx_nil, kx_c1, kx_ft, kx_aI, kx_aL, kx_aR, kx_ln, Nat.reduceAdd, Option.toList, List.cons_append, List.nil_append, mW_o, mf_0, mf_1, mf_21, mf_2, mf_71, mf_80, mf_22, mf_5])
    repeat' apply And.intro
    all_goals try (first | with_reducible assumption | (with_reducible refine ck_nzI ?_; simp; done) | (with_reducible refine ck_nzL ?_; simp; done) | (with_reducible refine vp_in_nI ?_ ?_ <;> first | omega | decide) | (with_reducible refine Nat.le_of_ble_eq_true ?_; rfl) | omega)
    refine hC.1 346 _ _ _ _ _ _ _ 11 _ _ _ _ _ _ _ _ _ _ _ _ lX11_346 (ct_X11_trueDate l G (M := upd M 0 0) h1b hd) ⟨by decide, rfl⟩ (mW_o) rfl rfl (Nat.le_of_ble_eq_true rfl) (by decide) (by decide) (by omega) (by omega) dX11_count_100 ?_
    refine hB bX11_count_103 _ _ _ _ _ _ _ kX11_count_103 ?_
    dsimp only [bX11_count_103, kx_wp, kx_step, kx_lI, kx_lL, kx_lA, kx_gl, kx_pI, kx_pL, kx_pR, kx_pA, kx_pV, kx_s1, kx_s2, kx_sl, kx_pre, kx_c2, kx_pl, kx_cmp, kx_oF, kx_eqN, kx_nil, kx_c1, kx_ft, kx_aI, kx_aL, kx_aR, kx_ln, Nat.reduceAdd, Option.toList, List.cons_append, List.nil_append, mW_o, mf_0, mf_1, mf_21, mf_2, mf_71, mf_80, mf_22, mf_5]
    repeat (simp only [mu_0, mW_so, show upd M 0 0 1 = M 1 from rfl, show upd M 0 0 21 = M 21 from rfl, show upd M 0 0 2 = M 2 from rfl, show upd M 0 0 71 = M 71 from rfl, show upd M 0 0 80 = M 80 from rfl, show upd M 0 0 22 = M 22 from rfl, show upd M 0 0 5 = M 5 from rfl, show upd M 0 0 3 = M 3 from rfl, zt1, zt2]; try dsimp only [kx_wp, kx_step, kx_lI, kx_lL, kx_lA, kx_gl, kx_pI, kx_pL, kx_pR, kx_pA, kx_pV, kx_s1, kx_s2, kx_sl, kx_pre, kx_c2, kx_pl, kx_cmp, kx_oF, kx_eqN, kx_nil, kx_c1, kx_ft, kx_aI, kx_aL, kx_aR, kx_ln, Nat.reduceAdd, Option.toList, List.cons_append, List.nil_append, mW_o, mf_0, mf_1, mf_21, mf_2, mf_71, mf_80, mf_22, mf_5])
    all_goals (repeat' apply And.intro)
    all_goals ((try clear hB hC); first | exact True.intro | with_reducible rfl | with_reducible assumption | (with_reducible refine vp_in_nI ?_ ?_ <;> first | omega | decide) | exact Nat.le_of_ble_eq_true rfl | (with_reducible refine ck_nzI ?_; simp; done) | (with_reducible refine ck_nzL ?_; simp; done) | (simp only [pk_us, pk_uLs, ck_count, eq_true ze6_8, zn6_0, zn6_1, zn6_2, zn6_3, zn6_4, zn6_5, zn6_6, zn6_7, ↓reduceIte, not_true_eq_false, not_false_eq_true]; done) | (simp only [ck_count, eq_true ze6_8, zn6_0, zn6_1, zn6_2, zn6_3, zn6_4, zn6_5, zn6_6, zn6_7, ↓reduceIte, not_true_eq_false, not_false_eq_true]; with_reducible rfl) | skip)

/-- what told answers -/
def ck_told (M : Nat → Int32) (A : Nat → Nat → Int32) (L : Nat → Nat → Int64) (c d : Nat) : Nat → Int32
  | 0 => A 108 c
  | 1 => A 109 c
  | 2 => if A 117 c = 0 then -1 else A 110 c
  | 3 => A 111 c
  | 4 => A 112 c
  | 5 => if A 108 c = 0 then 1 else 0
  | 6 => if 100 * A 112 c + A 111 c = nI (100 * ck_mo (d / 1440) (ck_feb (M 3)) + ck_da (d / 1440) (ck_feb (M 3))) then 1 else 0
  | 7 => if A 117 c = 0 then -1 else if ck_sx A c (A 103 c).toNatClampNeg (ck_nx L c) (A 110 c).toNatClampNeg 24 0 = 0 then 0 else 1
  | _ => if A 117 c = 0 then ck_cl (ck_cR (upd M 0 0) A c (ck_nx L c) 0) else A 104 (24 * c + (A 110 c).toNatClampNeg)
theorem ct_X11_told_t (l : Launch) (G : kx_G) {M : Nat → Int32} {A : Nat → Nat → Int32} {L : Nat → Nat → Int64} {R : kx_P} {sz cl c : Nat} (h21 : M 21 = nI cl) (hcl : cl ≤ 8) (hc : c < cl) {d : Nat} (h1 : M 1 = nI d) (hd : d ≤ 100000) (hdl : ck_dl L c) (hw : ck_wf A c) {k : Nat} (hk : k ≤ 8) :
    ∃ S, kx_M l G sX11_told 4 0 0 [.ref 93, .int (nI c), .int (nI k)] (mW M A L R) sz (some (.int (ck_told M A L c d k))) (mW (upd M 0 0) (va_up A 123 S) L R) sz := by
  obtain ⟨a, haW, ha⟩ := hdl
  have ea : ck_nx L c = a / 3600000000 + 1 := by unfold ck_nx; rw [ha, ck_tn_l (by omega)]
  have es : ∀ {v : Option Value}, kx_M l G sX11_told 4 0 0 [.ref 93, .int (nI c), .int (nI k)] (mW M A L R) sz v (mW (upd M 0 0) A L R) sz → ∃ S, kx_M l G sX11_told 4 0 0 [.ref 93, .int (nI c), .int (nI k)] (mW M A L R) sz v (mW (upd M 0 0) (va_up A 123 S) L R) sz := fun h => ⟨A 123, by rw [va_upself]; exact h⟩
  obtain ⟨-, ⟨p, wm, h110, h103, hwm, hpw⟩, -⟩ := id hw
  match k, hk with
  | 0, _ => exact es (ct_X11_told_0 l G h21 hcl hc)
  | 1, _ => exact es (ct_X11_told_1 l G h21 hcl hc)
  | 2, _ => exact es (ct_X11_told_2 l G h21 hcl hc)
  | 3, _ => exact es (ct_X11_told_3 l G h21 hcl hc)
  | 4, _ => exact es (ct_X11_told_4 l G h21 hcl hc)
  | 5, _ => exact es (ct_X11_told_5 l G h21 hcl hc)
  | 6, _ => exact es (ct_X11_told_6 l G h21 hcl hc h1 hd)
  | 7, _ =>
    refine es ?_
    rw [show ck_told M A L c d 7 = (if A 117 c = 0 then -1 else if ck_sx A c (A 103 c).toNatClampNeg (ck_nx L c) (A 110 c).toNatClampNeg 24 0 = 0 then 0 else 1) from rfl]
    by_cases h : A 117 c = 0
    · rw [if_pos h]; exact ct_X11_told_7r l G h21 hcl hc h
    · have hp := hpw h
      have en : (A 110 c).toNatClampNeg = p := by rw [h110, nI_clamp (by omega)]
      have em : (A 103 c).toNatClampNeg = wm := by rw [h103, nI_clamp (by omega)]
      rw [if_neg h, en, em, ea]; exact ct_X11_told_7w l G h21 hcl hc h h110 h103 hp hwm ha haW
  | 8, _ =>
    rw [show ck_told M A L c d 8 = (if A 117 c = 0 then ck_cl (ck_cR (upd M 0 0) A c (ck_nx L c) 0) else A 104 (24 * c + (A 110 c).toNatClampNeg)) from rfl]
    by_cases h : A 117 c = 0
    · rw [if_pos h]; exact ⟨_, ct_X11_told_8r l G h21 hcl hc ⟨a, haW, ha⟩ hw h⟩
    · have hp := hpw h
      have en : (A 110 c).toNatClampNeg = p := by rw [h110, nI_clamp (by omega)]
      rw [if_neg h, en]; exact ⟨A 123, by rw [va_upself]; exact ct_X11_told_8w l G h21 hcl hc h h110 h103 hp hwm⟩


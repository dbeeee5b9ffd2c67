theorem ck_da_le {d f : Nat} (hd : d ≤ 69) (hf : 28 ≤ f ∧ f ≤ 29) : 1 ≤ ck_da d f ∧ ck_da d f ≤ 31 := by
  unfold ck_da
  split
  · omega
  · split <;> omega
theorem ck_mo_le (d f : Nat) : 1 ≤ ck_mo d f ∧ ck_mo d f ≤ 3 := by
  unfold ck_mo
  split
  · omega
  · split <;> omega
theorem ck_t1 {m d : Nat} (hm : m ≤ 12) (hd : d ≤ 31) : nI (100 * m + d) - nI m * 100 = nI d := by
  rw [show (100 : Int32) = nI 100 from rfl, pk_mul, pk_sub (by omega)]
  congr 1; omega
theorem ck_t2 {m d : Nat} (hm : m ≤ 12) (hd : d ≤ 31) : nI (100 * m + d) / 100 = nI m := by
  rw [show (100 : Int32) = nI 100 from rfl, pk_div (by omega) (by decide) (by decide)]
  congr 1; omega
def bX11_date_0 : List kx_O := [(.aload_n 0, 0, 0, 0, .null), (.iconst 0, 0, 0, 0, .int 0), (.putfield 1, 11, 0, 0, .null), (.aload_n 0, 0, 0, 0, .null), (.iload_n 1, 1, 0, 0, .null)]
theorem kX11_date_0 : kx_oks kxL_X11 false cX11_date 0 bX11_date_0 = true := by decide +kernel
def bX11_date_10 : List kx_O := [(.ifCond .ne 5, 15, 0, 0, .null)]
theorem kX11_date_10 : kx_oks kxL_X11 false cX11_date 10 bX11_date_10 = true := by decide +kernel
def bX11_date_13 : List kx_O := [(.iconst 0, 0, 0, 0, .int 0), (.ireturn, 0, 0, 0, .null)]
theorem kX11_date_13 : kx_oks kxL_X11 false cX11_date 13 bX11_date_13 = true := by decide +kernel
def bX11_date_15 : List kx_O := [(.bipush 100, 0, 0, 0, .int 100), (.aload_n 0, 0, 0, 0, .null), (.getfield 71, 11, 35, 0, .null), (.iload_n 1, 1, 0, 0, .null), (.iaload, 0, 0, 0, .null), (.imul, 0, 0, 0, .null), (.aload_n 0, 0, 0, 0, .null), (.getfield 68, 11, 34, 0, .null), (.iload_n 1, 1, 0, 0, .null), (.iaload, 0, 0, 0, .null), (.iadd, 0, 0, 0, .null), (.aload_n 0, 0, 0, 0, .null)]
theorem kX11_date_15 : kx_oks kxL_X11 false cX11_date 15 bX11_date_15 = true := by decide +kernel
def bX11_date_35 : List kx_O := [(.if_icmp .ne 7, 42, 0, 0, .null)]
theorem kX11_date_35 : kx_oks kxL_X11 false cX11_date 35 bX11_date_35 = true := by decide +kernel
def bX11_date_38 : List kx_O := [(.iconst 1, 0, 0, 0, .int 1), (.goto 4, 43, 0, 0, .null)]
theorem kX11_date_38 : kx_oks kxL_X11 false cX11_date 38 bX11_date_38 = true := by decide +kernel
def bX11_date_42 : List kx_O := [(.iconst 0, 0, 0, 0, .int 0)]
theorem kX11_date_42 : kx_oks kxL_X11 false cX11_date 42 bX11_date_42 = true := by decide +kernel
def bX11_date_43 : List kx_O := [(.istore_n 2, 2, 0, 0, .null), (.aload_n 0, 0, 0, 0, .null), (.getfield 68, 11, 34, 0, .null), (.iload_n 1, 1, 0, 0, .null), (.aload_n 0, 0, 0, 0, .null)]
theorem kX11_date_43 : kx_oks kxL_X11 false cX11_date 43 bX11_date_43 = true := by decide +kernel
def bX11_date_53 : List kx_O := [(.bipush 100, 0, 0, 0, .int 100), (.irem, 0, 0, 0, .null), (.iastore, 0, 0, 0, .null), (.aload_n 0, 0, 0, 0, .null), (.getfield 71, 11, 35, 0, .null), (.iload_n 1, 1, 0, 0, .null), (.aload_n 0, 0, 0, 0, .null)]
theorem kX11_date_53 : kx_oks kxL_X11 false cX11_date 53 bX11_date_53 = true := by decide +kernel
def bX11_date_66 : List kx_O := [(.bipush 100, 0, 0, 0, .int 100), (.idiv, 0, 0, 0, .null), (.iastore, 0, 0, 0, .null), (.iload_n 2, 2, 0, 0, .null), (.ifCond .eq 7, 78, 0, 0, .null)]
theorem kX11_date_66 : kx_oks kxL_X11 false cX11_date 66 bX11_date_66 = true := by decide +kernel
def bX11_date_74 : List kx_O := [(.iconst 0, 0, 0, 0, .int 0), (.goto 4, 79, 0, 0, .null)]
theorem kX11_date_74 : kx_oks kxL_X11 false cX11_date 74 bX11_date_74 = true := by decide +kernel
def bX11_date_78 : List kx_O := [(.iconst 1, 0, 0, 0, .int 1)]
theorem kX11_date_78 : kx_oks kxL_X11 false cX11_date 78 bX11_date_78 = true := by decide +kernel
def bX11_date_79 : List kx_O := [(.ireturn, 0, 0, 0, .null)]
theorem kX11_date_79 : kx_oks kxL_X11 false cX11_date 79 bX11_date_79 = true := by decide +kernel
theorem dX11_date_7 : decode cX11_date 7 = .ok (.invokevirtual 358, 3) := by decide +kernel
theorem dX11_date_32 : decode cX11_date 32 = .ok (.invokevirtual 346, 3) := by decide +kernel
theorem dX11_date_50 : decode cX11_date 50 = .ok (.invokevirtual 346, 3) := by decide +kernel
theorem dX11_date_63 : decode cX11_date 63 = .ok (.invokevirtual 346, 3) := by decide +kernel
set_option maxRecDepth 100000 in
set_option maxHeartbeats 4000000 in
theorem ct_X11_date_y (l : Launch) (G : kx_G) {M : Nat → Int32} {A : Nat → Nat → Int32} {L : Nat → Nat → Int64} {R : kx_P} {sz : Nat} {cl c : Nat} (h21 : M 21 = nI cl) (hcl : cl ≤ 8) (hc : c < cl) {d : Nat} (h1 : M 1 = nI d) (hd : d ≤ 100000) (he : 100 * A 112 c + A 111 c = nI (100 * ck_mo (d / 1440) (ck_feb (M 3)) + ck_da (d / 1440) (ck_feb (M 3))))  : kx_M l G sX11_date 3 0 0 [.ref 93, .int (nI c)] (mW M A L R) sz (some (.int (0))) (mW (upd M 0 0) (va_up (va_up A 111 (upd (A 111) c (nI (ck_da (d / 1440) (ck_feb (M 3)))))) 112 (upd (A 112) c (nI (ck_mo (d / 1440) (ck_feb (M 3)))))) L R) sz := by
  have hf := ck_feb_le (M 3)
  have hda := ck_da_le (show d / 1440 ≤ 69 by omega) hf
  have hmo := ck_mo_le (d / 1440) (ck_feb (M 3))
  have h1b : upd M 0 0 1 = nI d := by rw [show upd M 0 0 1 = M 1 from rfl]; exact h1
  have zt1 := ck_t1 (show ck_mo (d / 1440) (ck_feb (M 3)) ≤ 12 by omega) hda.2
  have zt2 := ck_t2 (show ck_mo (d / 1440) (ck_feb (M 3)) ≤ 12 by omega) hda.2
  refine kx_mk kx_tab kxLok_X11 (ini := false) [some (.ref 93), some (.int (nI c)), none] ⟨by decide, rfl, by decide, by decide⟩ (⟨_, rfl⟩) rfl rfl (fun g hB hC => ?_)
  refine hB bX11_date_0 _ _ _ _ _ _ _ kX11_date_0 ?_
  dsimp only [bX11_date_0, kx_wp, kx_step, kx_lI, kx_lL, kx_lA, kx_gl, kx_pI, kx_pL, kx_pR, kx_pA, kx_pV, kx_s1, kx_s2, kx_sl, kx_pre, kx_c2, kx_pl, kx_cmp, kx_oF, kx_eqN, kx_nil, kx_c1, kx_ft, kx_aI, kx_aL, kx_aR, kx_ln, Nat.reduceAdd, Option.toList, List.cons_append, List.nil_append, mW_o, mf_0, mf_35, m_112, mf_34, m_111]
  repeat (simp only [mu_0, mW_so, ms_112, ms_111, show upd M 0 0 3 = M 3 from rfl, zt1, zt2, nI_clamp (show c < 2 ^ 31 by omega), va_us, va_upn, ne_eq, Nat.reduceEqDiff, not_false_eq_true]; try dsimp only [kx_wp, kx_step, kx_lI, kx_lL, kx_lA, kx_gl, kx_pI, kx_pL, kx_pR, kx_pA, kx_pV, kx_s1, kx_s2, kx_sl, kx_pre, kx_c2, kx_pl, kx_cmp, kx_oF, kx_eqN, kx_nil, kx_c1, kx_ft, kx_aI, kx_aL, kx_aR, kx_ln, Nat.reduceAdd, Option.toList, List.cons_append, List.nil_append, mW_o, mf_0, mf_35, m_112, mf_34, m_111])
  repeat' apply And.intro
  all_goals try (first | with_reducible assumption | (with_reducible refine ck_nzI ?_; simp; done) | (with_reducible refine ck_nzL ?_; simp; done) | (with_reducible refine vp_in_nI ?_ ?_ <;> first | omega | decide) | (with_reducible refine Nat.le_of_ble_eq_true ?_; rfl) | omega)
  refine hC.1 358 _ _ _ _ _ _ _ 11 _ _ _ _ _ _ _ _ _ _ _ _ lX11_358 (ct_X11_isClock_t l G (M := upd M 0 0) h21 hcl hc rfl) ⟨by decide, rfl⟩ (mW_o) rfl rfl (Nat.le_of_ble_eq_true rfl) (by decide) (by decide) (by omega) (by omega) dX11_date_7 ?_
  refine hB bX11_date_10 _ _ _ _ _ _ _ kX11_date_10 ?_
  dsimp only [bX11_date_10, kx_wp, kx_step, kx_lI, kx_lL, kx_lA, kx_gl, kx_pI, kx_pL, kx_pR, kx_pA, kx_pV, kx_s1, kx_s2, kx_sl, kx_pre, kx_c2, kx_pl, kx_cmp, kx_oF, kx_eqN, kx_nil, kx_c1, kx_ft, kx_aI, kx_aL, kx_aR, kx_ln, Nat.reduceAdd, Option.toList, List.cons_append, List.nil_append, mW_o, mf_0, mf_35, m_112, mf_34, m_111]
  repeat (simp only [mu_0, mW_so, ms_112, ms_111, show upd M 0 0 3 = M 3 from rfl, zt1, zt2, nI_clamp (show c < 2 ^ 31 by omega), va_us, va_upn, ne_eq, Nat.reduceEqDiff, not_false_eq_true]; try dsimp only [kx_wp, kx_step, kx_lI, kx_lL, kx_lA, kx_gl, kx_pI, kx_pL, kx_pR, kx_pA, kx_pV, kx_s1, kx_s2, kx_sl, kx_pre, kx_c2, kx_pl, kx_cmp, kx_oF, kx_eqN, kx_nil, kx_c1, kx_ft, kx_aI, kx_aL, kx_aR, kx_ln, Nat.reduceAdd, Option.toList, List.cons_append, List.nil_append, mW_o, mf_0, mf_35, m_112, mf_34, m_111])
  repeat' apply And.intro
  all_goals try (first | with_reducible assumption | (with_reducible refine ck_nzI ?_; simp; done) | (with_reducible refine ck_nzL ?_; simp; done) | (with_reducible refine vp_in_nI ?_ ?_ <;> first | omega | decide) | (with_reducible refine Nat.le_of_ble_eq_true ?_; rfl) | omega)
  · intro zc10
    have ze10 := zc10
    refine hB bX11_date_15 _ _ _ _ _ _ _ kX11_date_15 ?_
    dsimp only [bX11_date_15, kx_wp, kx_step, kx_lI, kx_lL, kx_lA, kx_gl, kx_pI, kx_pL, kx_pR, kx_pA, kx_pV, kx_s1, kx_s2, kx_sl, kx_pre, kx_c2, kx_pl, kx_cmp, kx_oF, kx_eqN, kx_nil, kx_c1, kx_ft, kx_aI, kx_aL, kx_aR, kx_ln, Nat.reduceAdd, Option.toList, List.cons_append, List.nil_append, mW_o, mf_0, mf_35, m_112, mf_34, m_111]
    repeat (simp only [mu_0, mW_so, ms_112, ms_111, show upd M 0 0 3 = M 3 from rfl, zt1, zt2, nI_clamp (show c < 2 ^ 31 by omega), va_us, va_upn, ne_eq, Nat.reduceEqDiff, not_false_eq_true]; try dsimp only [kx_wp, kx_step, kx_lI, kx_lL, kx_lA, kx_gl, kx_pI, kx_pL, kx_pR, kx_pA, kx_pV, kx_s1, kx_s2, kx_sl, kx_pre, kx_c2, kx_pl, kx_cmp, kx_oF, kx_eqN, kx_nil, kx_c1, kx_ft, kx_aI, kx_aL, kx_aR, kx_ln, Nat.reduceAdd, Option.toList, List.cons_append, List.nil_append, mW_o, mf_0, mf_35, m_112, mf_34, m_111])
    repeat' apply And.intro
    all_goals try (first | with_reducible assumption | (with_reducible refine ck_nzI ?_; simp; done) | (with_reducible refine ck_nzL ?_; simp; done) | (with_reducible refine vp_in_nI ?_ ?_ <;> first | omega | decide) | (with_reducible refine Nat.le_of_ble_eq_true ?_; rfl) | omega)
    refine hC.1 346 _ _ _ _ _ _ _ 11 _ _ _ _ _ _ _ _ _ _ _ _ lX11_346 (ct_X11_trueDate l G (M := upd M 0 0) h1b hd) ⟨by decide, rfl⟩ (mW_o) rfl rfl (Nat.le_of_ble_eq_true rfl) (by decide) (by decide) (by omega) (by omega) dX11_date_32 ?_
    refine hB bX11_date_35 _ _ _ _ _ _ _ kX11_date_35 ?_
    dsimp only [bX11_date_35, kx_wp, kx_step, kx_lI, kx_lL, kx_lA, kx_gl, kx_pI, kx_pL, kx_pR, kx_pA, kx_pV, kx_s1, kx_s2, kx_sl, kx_pre, kx_c2, kx_pl, kx_cmp, kx_oF, kx_eqN, kx_nil, kx_c1, kx_ft, kx_aI, kx_aL, kx_aR, kx_ln, Nat.reduceAdd, Option.toList, List.cons_append, List.nil_append, mW_o, mf_0, mf_35, m_112, mf_34, m_111]
    repeat (simp only [mu_0, mW_so, ms_112, ms_111, show upd M 0 0 3 = M 3 from rfl, zt1, zt2, nI_clamp (show c < 2 ^ 31 by omega), va_us, va_upn, ne_eq, Nat.reduceEqDiff, not_false_eq_true]; try dsimp only [kx_wp, kx_step, kx_lI, kx_lL, kx_lA, kx_gl, kx_pI, kx_pL, kx_pR, kx_pA, kx_pV, kx_s1, kx_s2, kx_sl, kx_pre, kx_c2, kx_pl, kx_cmp, kx_oF, kx_eqN, kx_nil, kx_c1, kx_ft, kx_aI, kx_aL, kx_aR, kx_ln, Nat.reduceAdd, Option.toList, List.cons_append, List.nil_append, mW_o, mf_0, mf_35, m_112, mf_34, m_111])
    repeat' apply And.intro
    all_goals try (first | with_reducible assumption | (with_reducible refine ck_nzI ?_; simp; done) | (with_reducible refine ck_nzL ?_; simp; done) | (with_reducible refine vp_in_nI ?_ ?_ <;> first | omega | decide) | (with_reducible refine Nat.le_of_ble_eq_true ?_; rfl) | omega)
    · intro zc35
      first | exact absurd rfl zc35 | exact absurd zc35 (by decide) | exact absurd (by decide) zc35 | (exfalso; exact zc35 he) | (exfalso; simp_all; done)
    · intro zc35
      with_reducible first | have ze35 := Decidable.not_not.mp zc35 | have ze35 := zc35
      refine hB bX11_date_38 _ _ _ _ _ _ _ kX11_date_38 ?_
      dsimp only [bX11_date_38, kx_wp, kx_step, kx_lI, kx_lL, kx_lA, kx_gl, kx_pI, kx_pL, kx_pR, kx_pA, kx_pV, kx_s1, kx_s2, kx_sl, kx_pre, kx_c2, kx_pl, kx_cmp, kx_oF, kx_eqN, kx_nil, kx_c1, kx_ft, kx_aI, kx_aL, kx_aR, kx_ln, Nat.reduceAdd, Option.toList, List.cons_append, List.nil_append, mW_o, mf_0, mf_35, m_112, mf_34, m_111]
      repeat (simp only [mu_0, mW_so, ms_112, ms_111, show upd M 0 0 3 = M 3 from rfl, zt1, zt2, nI_clamp (show c < 2 ^ 31 by omega), va_us, va_upn, ne_eq, Nat.reduceEqDiff, not_false_eq_true]; try dsimp only [kx_wp, kx_step, kx_lI, kx_lL, kx_lA, kx_gl, kx_pI, kx_pL, kx_pR, kx_pA, kx_pV, kx_s1, kx_s2, kx_sl, kx_pre, kx_c2, kx_pl, kx_cmp, kx_oF, kx_eqN, kx_nil, kx_c1, kx_ft, kx_aI, kx_aL, kx_aR, kx_ln, Nat.reduceAdd, Option.toList, List.cons_append, List.nil_append, mW_o, mf_0, mf_35, m_112, mf_34, m_111])
      repeat' apply And.intro
      all_goals try (first | with_reducible assumption | (with_reducible refine ck_nzI ?_; simp; done) | (with_reducible refine ck_nzL ?_; simp; done) | (with_reducible refine vp_in_nI ?_ ?_ <;> first | omega | decide) | (with_reducible refine Nat.le_of_ble_eq_true ?_; rfl) | omega)
      refine hB bX11_date_43 _ _ _ _ _ _ _ kX11_date_43 ?_
      dsimp only [bX11_date_43, kx_wp, kx_step, kx_lI, kx_lL, kx_lA, kx_gl, kx_pI, kx_pL, kx_pR, kx_pA, kx_pV, kx_s1, kx_s2, kx_sl, kx_pre, kx_c2, kx_pl, kx_cmp, kx_oF, kx_eqN, kx_nil, kx_c1, kx_ft, kx_aI, kx_aL, kx_aR, kx_ln, Nat.reduceAdd, Option.toList, List.cons_append, List.nil_append, mW_o, mf_0, mf_35, m_112, mf_34, m_111]
      repeat (simp only [mu_0, mW_so, ms_112, ms_111, show upd M 0 0 3 = M 3 from rfl, zt1, zt2, nI_clamp (show c < 2 ^ 31 by omega), va_us, va_upn, ne_eq, Nat.reduceEqDiff, not_false_eq_true]; try dsimp only [kx_wp, kx_step, kx_lI, kx_lL, kx_lA, kx_gl, kx_pI, kx_pL, kx_pR, kx_pA, kx_pV, kx_s1, kx_s2, kx_sl, kx_pre, kx_c2, kx_pl, kx_cmp, kx_oF, kx_eqN, kx_nil, kx_c1, kx_ft, kx_aI, kx_aL, kx_aR, kx_ln, Nat.reduceAdd, Option.toList, List.cons_append, List.nil_append, mW_o, mf_0, mf_35, m_112, mf_34, m_111])
      repeat' apply And.intro
      all_goals try (first | with_reducible assumption | (with_reducible refine ck_nzI ?_; simp; done) | (with_reducible refine ck_nzL ?_; simp; done) | (with_reducible refine vp_in_nI ?_ ?_ <;> first | omega | decide) | (with_reducible refine Nat.le_of_ble_eq_true ?_; rfl) | omega)
      refine hC.1 346 _ _ _ _ _ _ _ 11 _ _ _ _ _ _ _ _ _ _ _ _ lX11_346 (ct_X11_trueDate l G (M := upd M 0 0) h1b hd) ⟨by decide, rfl⟩ (mW_o) rfl rfl (Nat.le_of_ble_eq_true rfl) (by decide) (by decide) (by omega) (by omega) dX11_date_50 ?_
      refine hB bX11_date_53 _ _ _ _ _ _ _ kX11_date_53 ?_
      dsimp only [bX11_date_53, kx_wp, kx_step, kx_lI, kx_lL, kx_lA, kx_gl, kx_pI, kx_pL, kx_pR, kx_pA, kx_pV, kx_s1, kx_s2, kx_sl, kx_pre, kx_c2, kx_pl, kx_cmp, kx_oF, kx_eqN, kx_nil, kx_c1, kx_ft, kx_aI, kx_aL, kx_aR, kx_ln, Nat.reduceAdd, Option.toList, List.cons_append, List.nil_append, mW_o, mf_0, mf_35, m_112, mf_34, m_111]
      repeat (simp only [mu_0, mW_so, ms_112, ms_111, show upd M 0 0 3 = M 3 from rfl, zt1, zt2, nI_clamp (show c < 2 ^ 31 by omega), va_us, va_upn, ne_eq, Nat.reduceEqDiff, not_false_eq_true]; try dsimp only [kx_wp, kx_step, kx_lI, kx_lL, kx_lA, kx_gl, kx_pI, kx_pL, kx_pR, kx_pA, kx_pV, kx_s1, kx_s2, kx_sl, kx_pre, kx_c2, kx_pl, kx_cmp, kx_oF, kx_eqN, kx_nil, kx_c1, kx_ft, kx_aI, kx_aL, kx_aR, kx_ln, Nat.reduceAdd, Option.toList, List.cons_append, List.nil_append, mW_o, mf_0, mf_35, m_112, mf_34, m_111])
      repeat' apply And.intro
      all_goals try (first | with_reducible assumption | (with_reducible refine ck_nzI ?_; simp; done) | (with_reducible refine ck_nzL ?_; simp; done) | (with_reducible refine vp_in_nI ?_ ?_ <;> first | omega | decide) | (with_reducible refine Nat.le_of_ble_eq_true ?_; rfl) | omega)
      refine hC.1 346 _ _ _ _ _ _ _ 11 _ _ _ _ _ _ _ _ _ _ _ _ lX11_346 (ct_X11_trueDate l G (M := upd M 0 0) h1b hd) ⟨by decide, rfl⟩ (mW_o) rfl rfl (Nat.le_of_ble_eq_true rfl) (by decide) (by decide) (by omega) (by omega) dX11_date_63 ?_
      refine hB bX11_date_66 _ _ _ _ _ _ _ kX11_date_66 ?_
      dsimp only [bX11_date_66, kx_wp, kx_step, kx_lI, kx_lL, kx_lA, kx_gl, kx_pI, kx_pL, kx_pR, kx_pA, kx_pV, kx_s1, kx_s2, kx_sl, kx_pre, kx_c2, kx_pl, kx_cmp, kx_oF, kx_eqN, kx_nil, kx_c1, kx_ft, kx_aI, kx_aL, kx_aR, kx_ln, Nat.reduceAdd, Option.toList, List.cons_append, List.nil_append, mW_o, mf_0, mf_35, m_112, mf_34, m_111]
      repeat (simp only [mu_0, mW_so, ms_112, ms_111, show upd M 0 0 3 = M 3 from rfl, zt1, zt2, nI_clamp (show c < 2 ^ 31 by omega), va_us, va_upn, ne_eq, Nat.reduceEqDiff, not_false_eq_true]; try dsimp only [kx_wp, kx_step, kx_lI, kx_lL, kx_lA, kx_gl, kx_pI, kx_pL, kx_pR, kx_pA, kx_pV, kx_s1, kx_s2, kx_sl, kx_pre, kx_c2, kx_pl, kx_cmp, kx_oF, kx_eqN, kx_nil, kx_c1, kx_ft, kx_aI, kx_aL, kx_aR, kx_ln, Nat.reduceAdd, Option.toList, List.cons_append, List.nil_append, mW_o, mf_0, mf_35, m_112, mf_34, m_111])
      repeat' apply And.intro
      all_goals try (first | with_reducible assumption | (with_reducible refine ck_nzI ?_; simp; done) | (with_reducible refine ck_nzL ?_; simp; done) | (with_reducible refine vp_in_nI ?_ ?_ <;> first | omega | decide) | (with_reducible refine Nat.le_of_ble_eq_true ?_; rfl) | omega)
      · intro zc71
        first | exact absurd rfl zc71 | exact absurd zc71 (by decide) | exact absurd (by decide) zc71 | (exfalso; exact zc35 he) | (exfalso; simp_all; done)
      · intro zc71
        have ze71 := zc71
        refine hB bX11_date_74 _ _ _ _ _ _ _ kX11_date_74 ?_
        dsimp only [bX11_date_74, kx_wp, kx_step, kx_lI, kx_lL, kx_lA, kx_gl, kx_pI, kx_pL, kx_pR, kx_pA, kx_pV, kx_s1, kx_s2, kx_sl, kx_pre, kx_c2, kx_pl, kx_cmp, kx_oF, kx_eqN, kx_nil, kx_c1, kx_ft, kx_aI, kx_aL, kx_aR, kx_ln, Nat.reduceAdd, Option.toList, List.cons_append, List.nil_append, mW_o, mf_0, mf_35, m_112, mf_34, m_111]
        repeat (simp only [mu_0, mW_so, ms_112, ms_111, show upd M 0 0 3 = M 3 from rfl, zt1, zt2, nI_clamp (show c < 2 ^ 31 by omega), va_us, va_upn, ne_eq, Nat.reduceEqDiff, not_false_eq_true]; try dsimp only [kx_wp, kx_step, kx_lI, kx_lL, kx_lA, kx_gl, kx_pI, kx_pL, kx_pR, kx_pA, kx_pV, kx_s1, kx_s2, kx_sl, kx_pre, kx_c2, kx_pl, kx_cmp, kx_oF, kx_eqN, kx_nil, kx_c1, kx_ft, kx_aI, kx_aL, kx_aR, kx_ln, Nat.reduceAdd, Option.toList, List.cons_append, List.nil_append, mW_o, mf_0, mf_35, m_112, mf_34, m_111])
        repeat' apply And.intro
        all_goals try (first | with_reducible assumption | (with_reducible refine ck_nzI ?_; simp; done) | (with_reducible refine ck_nzL ?_; simp; done) | (with_reducible refine vp_in_nI ?_ ?_ <;> first | omega | decide) | (with_reducible refine Nat.le_of_ble_eq_true ?_; rfl) | omega)
        refine hB bX11_date_79 _ _ _ _ _ _ _ kX11_date_79 ?_
        dsimp only [bX11_date_79, kx_wp, kx_step, kx_lI, kx_lL, kx_lA, kx_gl, kx_pI, kx_pL, kx_pR, kx_pA, kx_pV, kx_s1, kx_s2, kx_sl, kx_pre, kx_c2, kx_pl, kx_cmp, kx_oF, kx_eqN, kx_nil, kx_c1, kx_ft, kx_aI, kx_aL, kx_aR, kx_ln, Nat.reduceAdd, Option.toList, List.cons_append, List.nil_append, mW_o, mf_0, mf_35, m_112, mf_34, m_111]
        repeat (simp only [mu_0, mW_so, ms_112, ms_111, show upd M 0 0 3 = M 3 from rfl, zt1, zt2, nI_clamp (show c < 2 ^ 31 by omega), va_us, va_upn, ne_eq, Nat.reduceEqDiff, not_false_eq_true]; try dsimp only [kx_wp, kx_step, kx_lI, kx_lL, kx_lA, kx_gl, kx_pI, kx_pL, kx_pR, kx_pA, kx_pV, kx_s1, kx_s2, kx_sl, kx_pre, kx_c2, kx_pl, kx_cmp, kx_oF, kx_eqN, kx_nil, kx_c1, kx_ft, kx_aI, kx_aL, kx_aR, kx_ln, Nat.reduceAdd, Option.toList, List.cons_append, List.nil_append, mW_o, mf_0, mf_35, m_112, mf_34, m_111])
        all_goals (repeat' apply And.intro)
        all_goals ((try clear hB hC); first | exact True.intro | with_reducible rfl | with_reducible assumption | (with_reducible refine vp_in_nI ?_ ?_ <;> first | omega | decide) | exact Nat.le_of_ble_eq_true rfl | (with_reducible refine ck_nzI ?_; simp; done) | (with_reducible refine ck_nzL ?_; simp; done) | (simp only [pk_us, pk_uLs, ze10, eq_true ze35, ze71, ↓reduceIte, not_true_eq_false, not_false_eq_true]; done) | (simp only [ze10, eq_true ze35, ze71, ↓reduceIte, not_true_eq_false, not_false_eq_true]; with_reducible rfl) | skip)
  · intro zc10
    first | exact absurd rfl zc10 | exact absurd zc10 (by decide) | exact absurd (by decide) zc10 | (exfalso; exact zc35 he) | (exfalso; simp_all; done)

set_option maxRecDepth 100000 in
set_option maxHeartbeats 4000000 in
theorem ct_X11_date_n (l : Launch) (G : kx_G) {M : Nat → Int32} {A : Nat → Nat → Int32} {L : Nat → Nat → Int64} {R : kx_P} {sz : Nat} {cl c : Nat} (h21 : M 21 = nI cl) (hcl : cl ≤ 8) (hc : c < cl) {d : Nat} (h1 : M 1 = nI d) (hd : d ≤ 100000) (he : ¬ 100 * A 112 c + A 111 c = nI (100 * ck_mo (d / 1440) (ck_feb (M 3)) + ck_da (d / 1440) (ck_feb (M 3))))  : kx_M l G sX11_date 3 0 0 [.ref 93, .int (nI c)] (mW M A L R) sz (some (.int (1))) (mW (upd M 0 0) (va_up (va_up A 111 (upd (A 111) c (nI (ck_da (d / 1440) (ck_feb (M 3)))))) 112 (upd (A 112) c (nI (ck_mo (d / 1440) (ck_feb (M 3)))))) L R) sz := by
  have hf := ck_feb_le (M 3)
  have hda := ck_da_le (show d / 1440 ≤ 69 by omega) hf
  have hmo := ck_mo_le (d / 1440) (ck_feb (M 3))
  have h1b : upd M 0 0 1 = nI d := by rw [show upd M 0 0 1 = M 1 from rfl]; exact h1
  have zt1 := ck_t1 (show ck_mo (d / 1440) (ck_feb (M 3)) ≤ 12 by omega) hda.2
  have zt2 := ck_t2 (show ck_mo (d / 1440) (ck_feb (M 3)) ≤ 12 by omega) hda.2
  refine kx_mk kx_tab kxLok_X11 (ini := false) [some (.ref 93), some (.int (nI c)), none] ⟨by decide, rfl, by decide, by decide⟩ (⟨_, rfl⟩) rfl rfl (fun g hB hC => ?_)
  refine hB bX11_date_0 _ _ _ _ _ _ _ kX11_date_0 ?_
  dsimp only [bX11_date_0, kx_wp, kx_step, kx_lI, kx_lL, kx_lA, kx_gl, kx_pI, kx_pL, kx_pR, kx_pA, kx_pV, kx_s1, kx_s2, kx_sl, kx_pre, kx_c2, kx_pl, kx_cmp, kx_oF, kx_eqN, kx_nil, kx_c1, kx_ft, kx_aI, kx_aL, kx_aR, kx_ln, Nat.reduceAdd, Option.toList, List.cons_append, List.nil_append, mW_o, mf_0, mf_35, m_112, mf_34, m_111]
  repeat (simp only [mu_0, mW_so, ms_112, ms_111, show upd M 0 0 3 = M 3 from rfl, zt1, zt2, nI_clamp (show c < 2 ^ 31 by omega), va_us, va_upn, ne_eq, Nat.reduceEqDiff, not_false_eq_true]; try dsimp only [kx_wp, kx_step, kx_lI, kx_lL, kx_lA, kx_gl, kx_pI, kx_pL, kx_pR, kx_pA, kx_pV, kx_s1, kx_s2, kx_sl, kx_pre, kx_c2, kx_pl, kx_cmp, kx_oF, kx_eqN, kx_nil, kx_c1, kx_ft, kx_aI, kx_aL, kx_aR, kx_ln, Nat.reduceAdd, Option.toList, List.cons_append, List.nil_append, mW_o, mf_0, mf_35, m_112, mf_34, m_111])
  repeat' apply And.intro
  all_goals try (first | with_reducible assumption | (with_reducible refine ck_nzI ?_; simp; done) | (with_reducible refine ck_nzL ?_; simp; done) | (with_reducible refine vp_in_nI ?_ ?_ <;> first | omega | decide) | (with_reducible refine Nat.le_of_ble_eq_true ?_; rfl) | omega)
  refine hC.1 358 _ _ _ _ _ _ _ 11 _ _ _ _ _ _ _ _ _ _ _ _ lX11_358 (ct_X11_isClock_t l G (M := upd M 0 0) h21 hcl hc rfl) ⟨by decide, rfl⟩ (mW_o) rfl rfl (Nat.le_of_ble_eq_true rfl) (by decide) (by decide) (by omega) (by omega) dX11_date_7 ?_
  refine hB bX11_date_10 _ _ _ _ _ _ _ kX11_date_10 ?_
  dsimp only [bX11_date_10, kx_wp, kx_step, kx_lI, kx_lL, kx_lA, kx_gl, kx_pI, kx_pL, kx_pR, kx_pA, kx_pV, kx_s1, kx_s2, kx_sl, kx_pre, kx_c2, kx_pl, kx_cmp, kx_oF, kx_eqN, kx_nil, kx_c1, kx_ft, kx_aI, kx_aL, kx_aR, kx_ln, Nat.reduceAdd, Option.toList, List.cons_append, List.nil_append, mW_o, mf_0, mf_35, m_112, mf_34, m_111]
  repeat (simp only [mu_0, mW_so, ms_112, ms_111, show upd M 0 0 3 = M 3 from rfl, zt1, zt2, nI_clamp (show c < 2 ^ 31 by omega), va_us, va_upn, ne_eq, Nat.reduceEqDiff, not_false_eq_true]; try dsimp only [kx_wp, kx_step, kx_lI, kx_lL, kx_lA, kx_gl, kx_pI, kx_pL, kx_pR, kx_pA, kx_pV, kx_s1, kx_s2, kx_sl, kx_pre, kx_c2, kx_pl, kx_cmp, kx_oF, kx_eqN, kx_nil, kx_c1, kx_ft, kx_aI, kx_aL, kx_aR, kx_ln, Nat.reduceAdd, Option.toList, List.cons_append, List.nil_append, mW_o, mf_0, mf_35, m_112, mf_34, m_111])
  repeat' apply And.intro
  all_goals try (first | with_reducible assumption | (with_reducible refine ck_nzI ?_; simp; done) | (with_reducible refine ck_nzL ?_; simp; done) | (with_reducible refine vp_in_nI ?_ ?_ <;> first | omega | decide) | (with_reducible refine Nat.le_of_ble_eq_true ?_; rfl) | omega)
  · intro zc10
    have ze10 := zc10
    refine hB bX11_date_15 _ _ _ _ _ _ _ kX11_date_15 ?_
    dsimp only [bX11_date_15, kx_wp, kx_step, kx_lI, kx_lL, kx_lA, kx_gl, kx_pI, kx_pL, kx_pR, kx_pA, kx_pV, kx_s1, kx_s2, kx_sl, kx_pre, kx_c2, kx_pl, kx_cmp, kx_oF, kx_eqN, kx_nil, kx_c1, kx_ft, kx_aI, kx_aL, kx_aR, kx_ln, Nat.reduceAdd, Option.toList, List.cons_append, List.nil_append, mW_o, mf_0, mf_35, m_112, mf_34, m_111]
    repeat (simp only [mu_0, mW_so, ms_112, ms_111, show upd M 0 0 3 = M 3 from rfl, zt1, zt2, nI_clamp (show c < 2 ^ 31 by omega), va_us, va_upn, ne_eq, Nat.reduceEqDiff, not_false_eq_true]; try dsimp only [kx_wp, kx_step, kx_lI, kx_lL, kx_lA, kx_gl, kx_pI, kx_pL, kx_pR, kx_pA, kx_pV, kx_s1, kx_s2, kx_sl, kx_pre, kx_c2, kx_pl, kx_cmp, kx_oF, kx_eqN, kx_nil, kx_c1, kx_ft, kx_aI, kx_aL, kx_aR, kx_ln, Nat.reduceAdd, Option.toList, List.cons_append, List.nil_append, mW_o, mf_0, mf_35, m_112, mf_34, m_111])
    repeat' apply And.intro
    all_goals try (first | with_reducible assumption | (with_reducible refine ck_nzI ?_; simp; done) | (with_reducible refine ck_nzL ?_; simp; done) | (with_reducible refine vp_in_nI ?_ ?_ <;> first | omega | decide) | (with_reducible refine Nat.le_of_ble_eq_true ?_; rfl) | omega)
    refine hC.1 346 _ _ _ _ _ _ _ 11 _ _ _ _ _ _ _ _ _ _ _ _ lX11_346 (ct_X11_trueDate l G (M := upd M 0 0) h1b hd) ⟨by decide, rfl⟩ (mW_o) rfl rfl (Nat.le_of_ble_eq_true rfl) (by decide) (by decide) (by omega) (by omega) dX11_date_32 ?_
    refine hB bX11_date_35 _ _ _ _ _ _ _ kX11_date_35 ?_
    dsimp only [bX11_date_35, kx_wp, kx_step, kx_lI, kx_lL, kx_lA, kx_gl, kx_pI, kx_pL, kx_pR, kx_pA, kx_pV, kx_s1, kx_s2, kx_sl, kx_pre, kx_c2, kx_pl, kx_cmp, kx_oF, kx_eqN, kx_nil, kx_c1, kx_ft, kx_aI, kx_aL, kx_aR, kx_ln, Nat.reduceAdd, Option.toList, List.cons_append, List.nil_append, mW_o, mf_0, mf_35, m_112, mf_34, m_111]
    repeat (simp only [mu_0, mW_so, ms_112, ms_111, show upd M 0 0 3 = M 3 from rfl, zt1, zt2, nI_clamp (show c < 2 ^ 31 by omega), va_us, va_upn, ne_eq, Nat.reduceEqDiff, not_false_eq_true]; try dsimp only [kx_wp, kx_step, kx_lI, kx_lL, kx_lA, kx_gl, kx_pI, kx_pL, kx_pR, kx_pA, kx_pV, kx_s1, kx_s2, kx_sl, kx_pre, kx_c2, kx_pl, kx_cmp, kx_oF, kx_eqN, kx_nil, kx_c1, kx_ft, kx_aI, kx_aL, kx_aR, kx_ln, Nat.reduceAdd, Option.toList, List.cons_append, List.nil_append, mW_o, mf_0, mf_35, m_112, mf_34, m_111])
    repeat' apply And.intro
    all_goals try (first | with_reducible assumption | (with_reducible refine ck_nzI ?_; simp; done) | (with_reducible refine ck_nzL ?_; simp; done) | (with_reducible refine vp_in_nI ?_ ?_ <;> first | omega | decide) | (with_reducible refine Nat.le_of_ble_eq_true ?_; rfl) | omega)
    · intro zc35
      have ze35 := zc35
      refine hB bX11_date_42 _ _ _ _ _ _ _ kX11_date_42 ?_
      dsimp only [bX11_date_42, kx_wp, kx_step, kx_lI, kx_lL, kx_lA, kx_gl, kx_pI, kx_pL, kx_pR, kx_pA, kx_pV, kx_s1, kx_s2, kx_sl, kx_pre, kx_c2, kx_pl, kx_cmp, kx_oF, kx_eqN, kx_nil, kx_c1, kx_ft, kx_aI, kx_aL, kx_aR, kx_ln, Nat.reduceAdd, Option.toList, List.cons_append, List.nil_append, mW_o, mf_0, mf_35, m_112, mf_34, m_111]
      repeat (simp only [mu_0, mW_so, ms_112, ms_111, show upd M 0 0 3 = M 3 from rfl, zt1, zt2, nI_clamp (show c < 2 ^ 31 by omega), va_us, va_upn, ne_eq, Nat.reduceEqDiff, not_false_eq_true]; try dsimp only [kx_wp, kx_step, kx_lI, kx_lL, kx_lA, kx_gl, kx_pI, kx_pL, kx_pR, kx_pA, kx_pV, kx_s1, kx_s2, kx_sl, kx_pre, kx_c2, kx_pl, kx_cmp, kx_oF, kx_eqN, kx_nil, kx_c1, kx_ft, kx_aI, kx_aL, kx_aR, kx_ln, Nat.reduceAdd, Option.toList, List.cons_append, List.nil_append, mW_o, mf_0, mf_35, m_112, mf_34, m_111])
      repeat' apply And.intro
      all_goals try (first | with_reducible assumption | (with_reducible refine ck_nzI ?_; simp; done) | (with_reducible refine ck_nzL ?_; simp; done) | (with_reducible refine vp_in_nI ?_ ?_ <;> first | omega | decide) | (with_reducible refine Nat.le_of_ble_eq_true ?_; rfl) | omega)
      refine hB bX11_date_43 _ _ _ _ _ _ _ kX11_date_43 ?_
      dsimp only [bX11_date_43, kx_wp, kx_step, kx_lI, kx_lL, kx_lA, kx_gl, kx_pI, kx_pL, kx_pR, kx_pA, kx_pV, kx_s1, kx_s2, kx_sl, kx_pre, kx_c2, kx_pl, kx_cmp, kx_oF, kx_eqN, kx_nil, kx_c1, kx_ft, kx_aI, kx_aL, kx_aR, kx_ln, Nat.reduceAdd, Option.toList, List.cons_append, List.nil_append, mW_o, mf_0, mf_35, m_112, mf_34, m_111]
      repeat (simp only [mu_0, mW_so, ms_112, ms_111, show upd M 0 0 3 = M 3 from rfl, zt1, zt2, nI_clamp (show c < 2 ^ 31 by omega), va_us, va_upn, ne_eq, Nat.reduceEqDiff, not_false_eq_true]; try dsimp only [kx_wp, kx_step, kx_lI, kx_lL, kx_lA, kx_gl, kx_pI, kx_pL, kx_pR, kx_pA, kx_pV, kx_s1, kx_s2, kx_sl, kx_pre, kx_c2, kx_pl, kx_cmp, kx_oF, kx_eqN, kx_nil, kx_c1, kx_ft, kx_aI, kx_aL, kx_aR, kx_ln, Nat.reduceAdd, Option.toList, List.cons_append, List.nil_append, mW_o, mf_0, mf_35, m_112, mf_34, m_111])
      repeat' apply And.intro
      all_goals try (first | with_reducible assumption | (with_reducible refine ck_nzI ?_; simp; done) | (with_reducible refine ck_nzL ?_; simp; done) | (with_reducible refine vp_in_nI ?_ ?_ <;> first | omega | decide) | (with_reducible refine Nat.le_of_ble_eq_true ?_; rfl) | omega)
      refine hC.1 346 _ _ _ _ _ _ _ 11 _ _ _ _ _ _ _ _ _ _ _ _ lX11_346 (ct_X11_trueDate l G (M := upd M 0 0) h1b hd) ⟨by decide, rfl⟩ (mW_o) rfl rfl (Nat.le_of_ble_eq_true rfl) (by decide) (by decide) (by omega) (by omega) dX11_date_50 ?_
      refine hB bX11_date_53 _ _ _ _ _ _ _ kX11_date_53 ?_
      dsimp only [bX11_date_53, kx_wp, kx_step, kx_lI, kx_lL, kx_lA, kx_gl, kx_pI, kx_pL, kx_pR, kx_pA, kx_pV, kx_s1, kx_s2, kx_sl, kx_pre, kx_c2, kx_pl, kx_cmp, kx_oF, kx_eqN, kx_nil, kx_c1, kx_ft, kx_aI, kx_aL, kx_aR, kx_ln, Nat.reduceAdd, Option.toList, List.cons_append, List.nil_append, mW_o, mf_0, mf_35, m_112, mf_34, m_111]
      repeat (simp only [mu_0, mW_so, ms_112, ms_111, show upd M 0 0 3 = M 3 from rfl, zt1, zt2, nI_clamp (show c < 2 ^ 31 by omega), va_us, va_upn, ne_eq, Nat.reduceEqDiff, not_false_eq_true]; try dsimp only [kx_wp, kx_step, kx_lI, kx_lL, kx_lA, kx_gl, kx_pI, kx_pL, kx_pR, kx_pA, kx_pV, kx_s1, kx_s2, kx_sl, kx_pre, kx_c2, kx_pl, kx_cmp, kx_oF, kx_eqN, kx_nil, kx_c1, kx_ft, kx_aI, kx_aL, kx_aR, kx_ln, Nat.reduceAdd, Option.toList, List.cons_append, List.nil_append, mW_o, mf_0, mf_35, m_112, mf_34, m_111])
      repeat' apply And.intro
      all_goals try (first | with_reducible assumption | (with_reducible refine ck_nzI ?_; simp; done) | (with_reducible refine ck_nzL ?_; simp; done) | (with_reducible refine vp_in_nI ?_ ?_ <;> first | omega | decide) | (with_reducible refine Nat.le_of_ble_eq_true ?_; rfl) | omega)
      refine hC.1 346 _ _ _ _ _ _ _ 11 _ _ _ _ _ _ _ _ _ _ _ _ lX11_346 (ct_X11_trueDate l G (M := upd M 0 0) h1b hd) ⟨by decide, rfl⟩ (mW_o) rfl rfl (Nat.le_of_ble_eq_true rfl) (by decide) (by decide) (by omega) (by omega) dX11_date_63 ?_
      refine hB bX11_date_66 _ _ _ _ _ _ _ kX11_date_66 ?_
      dsimp only [bX11_date_66, kx_wp, kx_step, kx_lI, kx_lL, kx_lA, kx_gl, kx_pI, kx_pL, kx_pR, kx_pA, kx_pV, kx_s1, kx_s2, kx_sl, kx_pre, kx_c2, kx_pl, kx_cmp, kx_oF, kx_eqN, kx_nil, kx_c1, kx_ft, kx_aI, kx_aL, kx_aR, kx_ln, Nat.reduceAdd, Option.toList, List.cons_append, List.nil_append, mW_o, mf_0, mf_35, m_112, mf_34, m_111]
      repeat (simp only [mu_0, mW_so, ms_112, ms_111, show upd M 0 0 3 = M 3 from rfl, zt1, zt2, nI_clamp (show c < 2 ^ 31 by omega), va_us, va_upn, ne_eq, Nat.reduceEqDiff, not_false_eq_true]; try dsimp only [kx_wp, kx_step, kx_lI, kx_lL, kx_lA, kx_gl, kx_pI, kx_pL, kx_pR, kx_pA, kx_pV, kx_s1, kx_s2, kx_sl, kx_pre, kx_c2, kx_pl, kx_cmp, kx_oF, kx_eqN, kx_nil, kx_c1, kx_ft, kx_aI, kx_aL, kx_aR, kx_ln, Nat.reduceAdd, Option.toList, List.cons_append, List.nil_append, mW_o, mf_0, mf_35, m_112, mf_34, m_111])
      repeat' apply And.intro
      all_goals try (first | with_reducible assumption | (with_reducible refine ck_nzI ?_; simp; done) | (with_reducible refine ck_nzL ?_; simp; done) | (with_reducible refine vp_in_nI ?_ ?_ <;> first | omega | decide) | (with_reducible refine Nat.le_of_ble_eq_true ?_; rfl) | omega)
      · intro zc71
        have ze71 := zc71
        refine hB bX11_date_78 _ _ _ _ _ _ _ kX11_date_78 ?_
        dsimp only [bX11_date_78, kx_wp, kx_step, kx_lI, kx_lL, kx_lA, kx_gl, kx_pI, kx_pL, kx_pR, kx_pA, kx_pV, kx_s1, kx_s2, kx_sl, kx_pre, kx_c2, kx_pl, kx_cmp, kx_oF, kx_eqN, kx_nil, kx_c1, kx_ft, kx_aI, kx_aL, kx_aR, kx_ln, Nat.reduceAdd, Option.toList, List.cons_append, List.nil_append, mW_o, mf_0, mf_35, m_112, mf_34, m_111]
        repeat (simp only [mu_0, mW_so, ms_112, ms_111, show upd M 0 0 3 = M 3 from rfl, zt1, zt2, nI_clamp (show c < 2 ^ 31 by omega), va_us, va_upn, ne_eq, Nat.reduceEqDiff, not_false_eq_true]; try dsimp only [kx_wp, kx_step, kx_lI, kx_lL, kx_lA, kx_gl, kx_pI, kx_pL, kx_pR, kx_pA, kx_pV, kx_s1, kx_s2, kx_sl, kx_pre, kx_c2, kx_pl, kx_cmp, kx_oF, kx_eqN, kx_nil, kx_c1, kx_ft, kx_aI, kx_aL, kx_aR, kx_ln, Nat.reduceAdd, Option.toList, List.cons_append, List.nil_append, mW_o, mf_0, mf_35, m_112, mf_34, m_111])
        repeat' apply And.intro
        all_goals try (first | with_reducible assumption | (with_reducible refine ck_nzI ?_; simp; done) | (with_reducible refine ck_nzL ?_; simp; done) | (with_reducible refine vp_in_nI ?_ ?_ <;> first | omega | decide) | (with_reducible refine Nat.le_of_ble_eq_true ?_; rfl) | omega)
        refine hB bX11_date_79 _ _ _ _ _ _ _ kX11_date_79 ?_
        dsimp only [bX11_date_79, kx_wp, kx_step, kx_lI, kx_lL, kx_lA, kx_gl, kx_pI, kx_pL, kx_pR, kx_pA, kx_pV, kx_s1, kx_s2, kx_sl, kx_pre, kx_c2, kx_pl, kx_cmp, kx_oF, kx_eqN, kx_nil, kx_c1, kx_ft, kx_aI, kx_aL, kx_aR, kx_ln, Nat.reduceAdd, Option.toList, List.cons_append, List.nil_append, mW_o, mf_0, mf_35, m_112, mf_34, m_111]
        repeat (simp only [mu_0, mW_so, ms_112, ms_111, show upd M 0 0 3 = M 3 from rfl, zt1, zt2, nI_clamp (show c < 2 ^ 31 by omega), va_us, va_upn, ne_eq, Nat.reduceEqDiff, not_false_eq_true]; try dsimp only [kx_wp, kx_step, kx_lI, kx_lL, kx_lA, kx_gl, kx_pI, kx_pL, kx_pR, kx_pA, kx_pV, kx_s1, kx_s2, kx_sl, kx_pre, kx_c2, kx_pl, kx_cmp, kx_oF, kx_eqN, kx_nil, kx_c1, kx_ft, kx_aI, kx_aL, kx_aR, kx_ln, Nat.reduceAdd, Option.toList, List.cons_append, List.nil_append, mW_o, mf_0, mf_35, m_112, mf_34, m_111])
        all_goals (repeat' apply And.intro)
        all_goals ((try clear hB hC); first | exact True.intro | with_reducible rfl | with_reducible assumption | (with_reducible refine vp_in_nI ?_ ?_ <;> first | omega | decide) | exact Nat.le_of_ble_eq_true rfl | (with_reducible refine ck_nzI ?_; simp; done) | (with_reducible refine ck_nzL ?_; simp; done) | (simp only [pk_us, pk_uLs, ze10, ze35, eq_true ze71, ↓reduceIte, not_true_eq_false, not_false_eq_true]; done) | (simp only [ze10, ze35, eq_true ze71, ↓reduceIte, not_true_eq_false, not_false_eq_true]; with_reducible rfl) | skip)
      · intro zc71
        first | exact absurd rfl zc71 | exact absurd zc71 (by decide) | exact absurd (by decide) zc71 | (exfalso; exact zc35 he) | (exfalso; simp_all; done)
    · intro zc35
      first | exact absurd rfl zc35 | exact absurd zc35 (by decide) | exact absurd (by decide) zc35 | (exfalso; exact zc35 he) | (exfalso; simp_all; done)
  · intro zc10
    first | exact absurd rfl zc10 | exact absurd zc10 (by decide) | exact absurd (by decide) zc10 | (exfalso; exact zc35 he) | (exfalso; simp_all; done)

set_option maxRecDepth 100000 in
set_option maxHeartbeats 4000000 in
theorem ct_X11_date_f (l : Launch) (G : kx_G) {M : Nat → Int32} {A : Nat → Nat → Int32} {L : Nat → Nat → Int64} {R : kx_P} {sz : Nat} {x : Int32} (hx : ¬ (0 ≤ x ∧ x ≤ M 21 - 1)) : kx_M l G sX11_date 3 0 0 [.ref 93, .int (x)] (mW M A L R) sz (some (.int (0))) (mW (upd (upd M 0 0) 0 1) A L R) sz := by
  refine kx_mk kx_tab kxLok_X11 (ini := false) [some (.ref 93), some (.int (x)), none] ⟨by decide, rfl, by decide, by decide⟩ (⟨_, rfl⟩) rfl rfl (fun g hB hC => ?_)
  refine hB bX11_date_0 _ _ _ _ _ _ _ kX11_date_0 ?_
  dsimp only [bX11_date_0, kx_wp, kx_step, kx_lI, kx_lL, kx_lA, kx_gl, kx_pI, kx_pL, kx_pR, kx_pA, kx_pV, kx_s1, kx_s2, kx_sl, kx_pre, kx_c2, kx_pl, kx_cmp, kx_oF, kx_eqN, kx_nil, kx_c1, kx_ft, kx_aI, kx_aL, kx_aR, kx_ln, Nat.reduceAdd, Option.toList, List.cons_append, List.nil_append, mW_o, mf_0, mf_35, m_112, mf_34, m_111]
  repeat (simp only [mu_0, mW_so, ms_112, ms_111]; try dsimp only [kx_wp, kx_step, kx_lI, kx_lL, kx_lA, kx_gl, kx_pI, kx_pL, kx_pR, kx_pA, kx_pV, kx_s1, kx_s2, kx_sl, kx_pre, kx_c2, kx_pl, kx_cmp, kx_oF, kx_eqN, kx_nil, kx_c1, kx_ft, kx_aI, kx_aL, kx_aR, kx_ln, Nat.reduceAdd, Option.toList, List.cons_append, List.nil_append, mW_o, mf_0, mf_35, m_112, mf_34, m_111])
  repeat' apply And.intro
  all_goals try (first | with_reducible assumption | (with_reducible refine ck_nzI ?_; simp; done) | (with_reducible refine ck_nzL ?_; simp; done) | (with_reducible refine vp_in_nI ?_ ?_ <;> first | omega | decide) | (with_reducible refine Nat.le_of_ble_eq_true ?_; rfl) | omega)
  have hx2 : ¬ (0 ≤ x ∧ x ≤ upd M 0 0 21 - 1) := by rw [show upd M 0 0 21 = M 21 from rfl]; exact hx
  refine hC.1 358 _ _ _ _ _ _ _ 11 _ _ _ _ _ _ _ _ _ _ _ _ lX11_358 (ct_X11_isClock_f l G (M := upd M 0 0) hx2 rfl) ⟨by decide, rfl⟩ (mW_o) rfl rfl (Nat.le_of_ble_eq_true rfl) (by decide) (by decide) (by omega) (by omega) dX11_date_7 ?_
  refine hB bX11_date_10 _ _ _ _ _ _ _ kX11_date_10 ?_
  dsimp only [bX11_date_10, kx_wp, kx_step, kx_lI, kx_lL, kx_lA, kx_gl, kx_pI, kx_pL, kx_pR, kx_pA, kx_pV, kx_s1, kx_s2, kx_sl, kx_pre, kx_c2, kx_pl, kx_cmp, kx_oF, kx_eqN, kx_nil, kx_c1, kx_ft, kx_aI, kx_aL, kx_aR, kx_ln, Nat.reduceAdd, Option.toList, List.cons_append, List.nil_append, mW_o, mf_0, mf_35, m_112, mf_34, m_111]
  repeat (simp only [mu_0, mW_so, ms_112, ms_111]; try dsimp only [kx_wp, kx_step, kx_lI, kx_lL, kx_lA, kx_gl, kx_pI, kx_pL, kx_pR, kx_pA, kx_pV, kx_s1, kx_s2, kx_sl, kx_pre, kx_c2, kx_pl, kx_cmp, kx_oF, kx_eqN, kx_nil, kx_c1, kx_ft, kx_aI, kx_aL, kx_aR, kx_ln, Nat.reduceAdd, Option.toList, List.cons_append, List.nil_append, mW_o, mf_0, mf_35, m_112, mf_34, m_111])
  repeat' apply And.intro
  all_goals try (first | with_reducible assumption | (with_reducible refine ck_nzI ?_; simp; done) | (with_reducible refine ck_nzL ?_; simp; done) | (with_reducible refine vp_in_nI ?_ ?_ <;> first | omega | decide) | (with_reducible refine Nat.le_of_ble_eq_true ?_; rfl) | omega)
  · intro zc10
    first | exact absurd rfl zc10 | exact absurd zc10 (by decide) | exact absurd (by decide) zc10 | (exfalso; ((try clear hB hC); simp only [ck_lt, ck_le, ck_eq, not_true_eq_false, not_false_eq_true, Int32.reduceToInt, Int32.reduceAdd, Int32.reduceSub, Int32.reduceMul] at * <;> omega)) | (exfalso; simp_all; done)
  · intro zc10
    with_reducible first | have ze10 := Decidable.not_not.mp zc10 | have ze10 := zc10
    refine hB bX11_date_13 _ _ _ _ _ _ _ kX11_date_13 ?_
    dsimp only [bX11_date_13, kx_wp, kx_step, kx_lI, kx_lL, kx_lA, kx_gl, kx_pI, kx_pL, kx_pR, kx_pA, kx_pV, kx_s1, kx_s2, kx_sl, kx_pre, kx_c2, kx_pl, kx_cmp, kx_oF, kx_eqN, kx_nil, kx_c1, kx_ft, kx_aI, kx_aL, kx_aR, kx_ln, Nat.reduceAdd, Option.toList, List.cons_append, List.nil_append, mW_o, mf_0, mf_35, m_112, mf_34, m_111]
    repeat (simp only [mu_0, mW_so, ms_112, ms_111]; try dsimp only [kx_wp, kx_step, kx_lI, kx_lL, kx_lA, kx_gl, kx_pI, kx_pL, kx_pR, kx_pA, kx_pV, kx_s1, kx_s2, kx_sl, kx_pre, kx_c2, kx_pl, kx_cmp, kx_oF, kx_eqN, kx_nil, kx_c1, kx_ft, kx_aI, kx_aL, kx_aR, kx_ln, Nat.reduceAdd, Option.toList, List.cons_append, List.nil_append, mW_o, mf_0, mf_35, m_112, mf_34, m_111])
    all_goals (repeat' apply And.intro)
    all_goals ((try clear hB hC); first | exact True.intro | with_reducible rfl | with_reducible assumption | (with_reducible refine vp_in_nI ?_ ?_ <;> first | omega | decide) | exact Nat.le_of_ble_eq_true rfl | (with_reducible refine ck_nzI ?_; simp; done) | (with_reducible refine ck_nzL ?_; simp; done) | (simp only [pk_us, pk_uLs, eq_true ze10, ↓reduceIte, not_true_eq_false, not_false_eq_true]; done) | (simp only [eq_true ze10, ↓reduceIte, not_true_eq_false, not_false_eq_true]; with_reducible rfl) | skip)

def bX11_keeps_0 : List kx_O := [(.aload_n 0, 0, 0, 0, .null), (.getfield 412, 11, 49, 0, .null), (.ifCond .eq 40, 44, 0, 0, .null)]
theorem kX11_keeps_0 : kx_oks kxL_X11 false cX11_keeps 0 bX11_keeps_0 = true := by decide +kernel
def bX11_keeps_7 : List kx_O := [(.iload_n 1, 1, 0, 0, .null), (.aload_n 0, 0, 0, 0, .null), (.getfield 415, 11, 50, 0, .null), (.if_icmp .ne 31, 43, 0, 0, .null)]
theorem kX11_keeps_7 : kx_oks kxL_X11 false cX11_keeps 7 bX11_keeps_7 = true := by decide +kernel
def bX11_keeps_15 : List kx_O := [(.aload_n 0, 0, 0, 0, .null), (.dup, 0, 0, 0, .null), (.getfield 418, 11, 51, 0, .null), (.iconst 1, 0, 0, 0, .int 1), (.iadd, 0, 0, 0, .null), (.putfield 418, 11, 51, 0, .null), (.aload_n 0, 0, 0, 0, .null), (.dup, 0, 0, 0, .null), (.getfield 421, 11, 52, 0, .null), (.aload_n 0, 0, 0, 0, .null), (.getfield 376, 11, 47, 0, .null), (.aload_n 0, 0, 0, 0, .null), (.getfield 379, 11, 48, 0, .null), (.iadd, 0, 0, 0, .null), (.iadd, 0, 0, 0, .null), (.putfield 421, 11, 52, 0, .null)]
theorem kX11_keeps_15 : kx_oks kxL_X11 false cX11_keeps 15 bX11_keeps_15 = true := by decide +kernel
def bX11_keeps_43 : List kx_O := [(.return_, 0, 0, 0, .null)]
theorem kX11_keeps_43 : kx_oks kxL_X11 false cX11_keeps 43 bX11_keeps_43 = true := by decide +kernel
def bX11_keeps_44 : List kx_O := [(.aload_n 0, 0, 0, 0, .null), (.getfield 424, 11, 22, 0, .null), (.sipush 200, 0, 0, 0, .int 200), (.irem, 0, 0, 0, .null), (.istore_n 3, 3, 0, 0, .null), (.aload_n 0, 0, 0, 0, .null), (.getfield 91, 11, 41, 0, .null), (.iload_n 3, 3, 0, 0, .null), (.iload_n 1, 1, 0, 0, .null), (.iastore, 0, 0, 0, .null), (.aload_n 0, 0, 0, 0, .null), (.getfield 94, 11, 42, 0, .null), (.iload_n 3, 3, 0, 0, .null), (.iload_n 2, 2, 0, 0, .null), (.iastore, 0, 0, 0, .null), (.aload_n 0, 0, 0, 0, .null), (.getfield 97, 11, 43, 0, .null), (.iload_n 3, 3, 0, 0, .null), (.aload_n 0, 0, 0, 0, .null), (.getfield 376, 11, 47, 0, .null), (.iastore, 0, 0, 0, .null), (.aload_n 0, 0, 0, 0, .null), (.getfield 100, 11, 44, 0, .null), (.iload_n 3, 3, 0, 0, .null), (.aload_n 0, 0, 0, 0, .null), (.getfield 379, 11, 48, 0, .null), (.iastore, 0, 0, 0, .null), (.aload_n 0, 0, 0, 0, .null), (.dup, 0, 0, 0, .null), (.getfield 424, 11, 22, 0, .null), (.iconst 1, 0, 0, 0, .int 1), (.iadd, 0, 0, 0, .null), (.putfield 424, 11, 22, 0, .null), (.return_, 0, 0, 0, .null)]
theorem kX11_keeps_44 : kx_oks kxL_X11 false cX11_keeps 44 bX11_keeps_44 = true := by decide +kernel
set_option maxRecDepth 100000 in
set_option maxHeartbeats 4000000 in
theorem ct_X11_keeps_f (l : Launch) (G : kx_G) {M : Nat → Int32} {A : Nat → Nat → Int32} {L : Nat → Nat → Int64} {R : kx_P} {sz : Nat} {c s : Int32} (h49 : ¬ M 49 = 0) (h50 : c = M 50)  : kx_M l G sX11_keeps 1 0 0 [.ref 93, .int (c), .int (s)] (mW M A L R) sz none (mW (upd (upd M 51 (M 51 + 1)) 52 (M 52 + (M 47 + M 48))) A L R) sz := by
  refine kx_mk kx_tab kxLok_X11 (ini := false) [some (.ref 93), some (.int (c)), some (.int (s)), none] ⟨by decide, rfl, by decide, by decide⟩ (rfl) rfl rfl (fun g hB hC => ?_)
  refine hB bX11_keeps_0 _ _ _ _ _ _ _ kX11_keeps_0 ?_
  dsimp only [bX11_keeps_0, kx_wp, kx_step, kx_lI, kx_lL, kx_lA, kx_gl, kx_pI, kx_pL, kx_pR, kx_pA, kx_pV, kx_s1, kx_s2, kx_sl, kx_pre, kx_c2, kx_pl, kx_cmp, kx_oF, kx_eqN, kx_nil, kx_c1, kx_ft, kx_aI, kx_aL, kx_aR, kx_ln, Nat.reduceAdd, Option.toList, List.cons_append, List.nil_append, mW_o, mf_49, mf_50, mf_51, mf_52, mf_47, mf_48, mf_22, mf_41, m_118, mf_42, m_119, mf_43, m_120, mf_44, m_121]
  repeat (simp only [mu_51, mW_so, mu_52, ms_118, ms_119, ms_120, ms_121, mu_22, show ∀ q, upd M 51 q 47 = M 47 from fun _ => rfl, show ∀ q, upd M 51 q 48 = M 48 from fun _ => rfl, show ∀ q, upd M 51 q 52 = M 52 from fun _ => rfl]; try dsimp only [kx_wp, kx_step, kx_lI, kx_lL, kx_lA, kx_gl, kx_pI, kx_pL, kx_pR, kx_pA, kx_pV, kx_s1, kx_s2, kx_sl, kx_pre, kx_c2, kx_pl, kx_cmp, kx_oF, kx_eqN, kx_nil, kx_c1, kx_ft, kx_aI, kx_aL, kx_aR, kx_ln, Nat.reduceAdd, Option.toList, List.cons_append, List.nil_append, mW_o, mf_49, mf_50, mf_51, mf_52, mf_47, mf_48, mf_22, mf_41, m_118, mf_42, m_119, mf_43, m_120, mf_44, m_121])
  repeat' apply And.intro
  all_goals try (first | with_reducible assumption | (with_reducible refine ck_nzI ?_; simp; done) | (with_reducible refine ck_nzL ?_; simp; done) | (with_reducible refine vp_in_nI ?_ ?_ <;> first | omega | decide) | (with_reducible refine Nat.le_of_ble_eq_true ?_; rfl) | omega)
  · intro zc4
    first | exact absurd rfl zc4 | exact absurd zc4 (by decide) | exact absurd (by decide) zc4 | (exfalso; first | exact h49 zc4 | exact zc12 h50) | (exfalso; simp_all; done)
  · intro zc4
    have ze4 := zc4
    refine hB bX11_keeps_7 _ _ _ _ _ _ _ kX11_keeps_7 ?_
    dsimp only [bX11_keeps_7, kx_wp, kx_step, kx_lI, kx_lL, kx_lA, kx_gl, kx_pI, kx_pL, kx_pR, kx_pA, kx_pV, kx_s1, kx_s2, kx_sl, kx_pre, kx_c2, kx_pl, kx_cmp, kx_oF, kx_eqN, kx_nil, kx_c1, kx_ft, kx_aI, kx_aL, kx_aR, kx_ln, Nat.reduceAdd, Option.toList, List.cons_append, List.nil_append, mW_o, mf_49, mf_50, mf_51, mf_52, mf_47, mf_48, mf_22, mf_41, m_118, mf_42, m_119, mf_43, m_120, mf_44, m_121]
    repeat (simp only [mu_51, mW_so, mu_52, ms_118, ms_119, ms_120, ms_121, mu_22, show ∀ q, upd M 51 q 47 = M 47 from fun _ => rfl, show ∀ q, upd M 51 q 48 = M 48 from fun _ => rfl, show ∀ q, upd M 51 q 52 = M 52 from fun _ => rfl]; try dsimp only [kx_wp, kx_step, kx_lI, kx_lL, kx_lA, kx_gl, kx_pI, kx_pL, kx_pR, kx_pA, kx_pV, kx_s1, kx_s2, kx_sl, kx_pre, kx_c2, kx_pl, kx_cmp, kx_oF, kx_eqN, kx_nil, kx_c1, kx_ft, kx_aI, kx_aL, kx_aR, kx_ln, Nat.reduceAdd, Option.toList, List.cons_append, List.nil_append, mW_o, mf_49, mf_50, mf_51, mf_52, mf_47, mf_48, mf_22, mf_41, m_118, mf_42, m_119, mf_43, m_120, mf_44, m_121])
    repeat' apply And.intro
    all_goals try (first | with_reducible assumption | (with_reducible refine ck_nzI ?_; simp; done) | (with_reducible refine ck_nzL ?_; simp; done) | (with_reducible refine vp_in_nI ?_ ?_ <;> first | omega | decide) | (with_reducible refine Nat.le_of_ble_eq_true ?_; rfl) | omega)
    · intro zc12
      first | exact absurd rfl zc12 | exact absurd zc12 (by decide) | exact absurd (by decide) zc12 | (exfalso; first | exact h49 zc4 | exact zc12 h50) | (exfalso; simp_all; done)
    · intro zc12
      with_reducible first | have ze12 := Decidable.not_not.mp zc12 | have ze12 := zc12
      refine hB bX11_keeps_15 _ _ _ _ _ _ _ kX11_keeps_15 ?_
      dsimp only [bX11_keeps_15, kx_wp, kx_step, kx_lI, kx_lL, kx_lA, kx_gl, kx_pI, kx_pL, kx_pR, kx_pA, kx_pV, kx_s1, kx_s2, kx_sl, kx_pre, kx_c2, kx_pl, kx_cmp, kx_oF, kx_eqN, kx_nil, kx_c1, kx_ft, kx_aI, kx_aL, kx_aR, kx_ln, Nat.reduceAdd, Option.toList, List.cons_append, List.nil_append, mW_o, mf_49, mf_50, mf_51, mf_52, mf_47, mf_48, mf_22, mf_41, m_118, mf_42, m_119, mf_43, m_120, mf_44, m_121]
      repeat (simp only [mu_51, mW_so, mu_52, ms_118, ms_119, ms_120, ms_121, mu_22, show ∀ q, upd M 51 q 47 = M 47 from fun _ => rfl, show ∀ q, upd M 51 q 48 = M 48 from fun _ => rfl, show ∀ q, upd M 51 q 52 = M 52 from fun _ => rfl]; try dsimp only [kx_wp, kx_step, kx_lI, kx_lL, kx_lA, kx_gl, kx_pI, kx_pL, kx_pR, kx_pA, kx_pV, kx_s1, kx_s2, kx_sl, kx_pre, kx_c2, kx_pl, kx_cmp, kx_oF, kx_eqN, kx_nil, kx_c1, kx_ft, kx_aI, kx_aL, kx_aR, kx_ln, Nat.reduceAdd, Option.toList, List.cons_append, List.nil_append, mW_o, mf_49, mf_50, mf_51, mf_52, mf_47, mf_48, mf_22, mf_41, m_118, mf_42, m_119, mf_43, m_120, mf_44, m_121])
      repeat' apply And.intro
      all_goals try (first | with_reducible assumption | (with_reducible refine ck_nzI ?_; simp; done) | (with_reducible refine ck_nzL ?_; simp; done) | (with_reducible refine vp_in_nI ?_ ?_ <;> first | omega | decide) | (with_reducible refine Nat.le_of_ble_eq_true ?_; rfl) | omega)
      refine hB bX11_keeps_43 _ _ _ _ _ _ _ kX11_keeps_43 ?_
      dsimp only [bX11_keeps_43, kx_wp, kx_step, kx_lI, kx_lL, kx_lA, kx_gl, kx_pI, kx_pL, kx_pR, kx_pA, kx_pV, kx_s1, kx_s2, kx_sl, kx_pre, kx_c2, kx_pl, kx_cmp, kx_oF, kx_eqN, kx_nil, kx_c1, kx_ft, kx_aI, kx_aL, kx_aR, kx_ln, Nat.reduceAdd, Option.toList, List.cons_append, List.nil_append, mW_o, mf_49, mf_50, mf_51, mf_52, mf_47, mf_48, mf_22, mf_41, m_118, mf_42, m_119, mf_43, m_120, mf_44, m_121]
      repeat (simp only [mu_51, mW_so, mu_52, ms_118, ms_119, ms_120, ms_121, mu_22, show ∀ q, upd M 51 q 47 = M 47 from fun _ => rfl, show ∀ q, upd M 51 q 48 = M 48 from fun _ => rfl, show ∀ q, upd M 51 q 52 = M 52 from fun _ => rfl]; try dsimp only [kx_wp, kx_step, kx_lI, kx_lL, kx_lA, kx_gl, kx_pI, kx_pL, kx_pR, kx_pA, kx_pV, kx_s1, kx_s2, kx_sl, kx_pre, kx_c2, kx_pl, kx_cmp, kx_oF, kx_eqN, kx_nil, kx_c1, kx_ft, kx_aI, kx_aL, kx_aR, kx_ln, Nat.reduceAdd, Option.toList, List.cons_append, List.nil_append, mW_o, mf_49, mf_50, mf_51, mf_52, mf_47, mf_48, mf_22, mf_41, m_118, mf_42, m_119, mf_43, m_120, mf_44, m_121])
      all_goals (repeat' apply And.intro)
      all_goals ((try clear hB hC); first | exact True.intro | with_reducible rfl | with_reducible assumption | (with_reducible refine vp_in_nI ?_ ?_ <;> first | omega | decide) | exact Nat.le_of_ble_eq_true rfl | (with_reducible refine ck_nzI ?_; simp; done) | (with_reducible refine ck_nzL ?_; simp; done) | (simp only [pk_us, pk_uLs, ze4, eq_true ze12, ↓reduceIte, not_true_eq_false, not_false_eq_true]; done) | (simp only [ze4, eq_true ze12, ↓reduceIte, not_true_eq_false, not_false_eq_true]; with_reducible rfl) | skip)

set_option maxRecDepth 100000 in
set_option maxHeartbeats 4000000 in
theorem ct_X11_keeps_o (l : Launch) (G : kx_G) {M : Nat → Int32} {A : Nat → Nat → Int32} {L : Nat → Nat → Int64} {R : kx_P} {sz : Nat} {c s : Int32} (h49 : ¬ M 49 = 0) (h50 : ¬ c = M 50)  : kx_M l G sX11_keeps 1 0 0 [.ref 93, .int (c), .int (s)] (mW M A L R) sz none (mW M A L R) sz := by
  refine kx_mk kx_tab kxLok_X11 (ini := false) [some (.ref 93), some (.int (c)), some (.int (s)), none] ⟨by decide, rfl, by decide, by decide⟩ (rfl) rfl rfl (fun g hB hC => ?_)
  refine hB bX11_keeps_0 _ _ _ _ _ _ _ kX11_keeps_0 ?_
  dsimp only [bX11_keeps_0, kx_wp, kx_step, kx_lI, kx_lL, kx_lA, kx_gl, kx_pI, kx_pL, kx_pR, kx_pA, kx_pV, kx_s1, kx_s2, kx_sl, kx_pre, kx_c2, kx_pl, kx_cmp, kx_oF, kx_eqN, kx_nil, kx_c1, kx_ft, kx_aI, kx_aL, kx_aR, kx_ln, Nat.reduceAdd, Option.toList, List.cons_append, List.nil_append, mW_o, mf_49, mf_50, mf_51, mf_52, mf_47, mf_48, mf_22, mf_41, m_118, mf_42, m_119, mf_43, m_120, mf_44, m_121]
  repeat (simp only [mu_51, mW_so, mu_52, ms_118, ms_119, ms_120, ms_121, mu_22]; try dsimp only [kx_wp, kx_step, kx_lI, kx_lL, kx_lA, kx_gl, kx_pI, kx_pL, kx_pR, kx_pA, kx_pV, kx_s1, kx_s2, kx_sl, kx_pre, kx_c2, kx_pl, kx_cmp, kx_oF, kx_eqN, kx_nil, kx_c1, kx_ft, kx_aI, kx_aL, kx_aR, kx_ln, Nat.reduceAdd, Option.toList, List.cons_append, List.nil_append, mW_o, mf_49, mf_50, mf_51, mf_52, mf_47, mf_48, mf_22, mf_41, m_118, mf_42, m_119, mf_43, m_120, mf_44, m_121])
  repeat' apply And.intro
  all_goals try (first | with_reducible assumption | (with_reducible refine ck_nzI ?_; simp; done) | (with_reducible refine ck_nzL ?_; simp; done) | (with_reducible refine vp_in_nI ?_ ?_ <;> first | omega | decide) | (with_reducible refine Nat.le_of_ble_eq_true ?_; rfl) | omega)
  · intro zc4
    first | exact absurd rfl zc4 | exact absurd zc4 (by decide) | exact absurd (by decide) zc4 | (exfalso; first | exact h49 zc4 | exact zc12 h50) | (exfalso; simp_all; done)
  · intro zc4
    have ze4 := zc4
    refine hB bX11_keeps_7 _ _ _ _ _ _ _ kX11_keeps_7 ?_
    dsimp only [bX11_keeps_7, kx_wp, kx_step, kx_lI, kx_lL, kx_lA, kx_gl, kx_pI, kx_pL, kx_pR, kx_pA, kx_pV, kx_s1, kx_s2, kx_sl, kx_pre, kx_c2, kx_pl, kx_cmp, kx_oF, kx_eqN, kx_nil, kx_c1, kx_ft, kx_aI, kx_aL, kx_aR, kx_ln, Nat.reduceAdd, Option.toList, List.cons_append, List.nil_append, mW_o, mf_49, mf_50, mf_51, mf_52, mf_47, mf_48, mf_22, mf_41, m_118, mf_42, m_119, mf_43, m_120, mf_44, m_121]
    repeat (simp only [mu_51, mW_so, mu_52, ms_118, ms_119, ms_120, ms_121, mu_22]; try dsimp only [kx_wp, kx_step, kx_lI, kx_lL, kx_lA, kx_gl, kx_pI, kx_pL, kx_pR, kx_pA, kx_pV, kx_s1, kx_s2, kx_sl, kx_pre, kx_c2, kx_pl, kx_cmp, kx_oF, kx_eqN, kx_nil, kx_c1, kx_ft, kx_aI, kx_aL, kx_aR, kx_ln, Nat.reduceAdd, Option.toList, List.cons_append, List.nil_append, mW_o, mf_49, mf_50, mf_51, mf_52, mf_47, mf_48, mf_22, mf_41, m_118, mf_42, m_119, mf_43, m_120, mf_44, m_121])
    repeat' apply And.intro
    all_goals try (first | with_reducible assumption | (with_reducible refine ck_nzI ?_; simp; done) | (with_reducible refine ck_nzL ?_; simp; done) | (with_reducible refine vp_in_nI ?_ ?_ <;> first | omega | decide) | (with_reducible refine Nat.le_of_ble_eq_true ?_; rfl) | omega)
    · intro zc12
      have ze12 := zc12
      refine hB bX11_keeps_43 _ _ _ _ _ _ _ kX11_keeps_43 ?_
      dsimp only [bX11_keeps_43, kx_wp, kx_step, kx_lI, kx_lL, kx_lA, kx_gl, kx_pI, kx_pL, kx_pR, kx_pA, kx_pV, kx_s1, kx_s2, kx_sl, kx_pre, kx_c2, kx_pl, kx_cmp, kx_oF, kx_eqN, kx_nil, kx_c1, kx_ft, kx_aI, kx_aL, kx_aR, kx_ln, Nat.reduceAdd, Option.toList, List.cons_append, List.nil_append, mW_o, mf_49, mf_50, mf_51, mf_52, mf_47, mf_48, mf_22, mf_41, m_118, mf_42, m_119, mf_43, m_120, mf_44, m_121]
      repeat (simp only [mu_51, mW_so, mu_52, ms_118, ms_119, ms_120, ms_121, mu_22]; try dsimp only [kx_wp, kx_step, kx_lI, kx_lL, kx_lA, kx_gl, kx_pI, kx_pL, kx_pR, kx_pA, kx_pV, kx_s1, kx_s2, kx_sl, kx_pre, kx_c2, kx_pl, kx_cmp, kx_oF, kx_eqN, kx_nil, kx_c1, kx_ft, kx_aI, kx_aL, kx_aR, kx_ln, Nat.reduceAdd, Option.toList, List.cons_append, List.nil_append, mW_o, mf_49, mf_50, mf_51, mf_52, mf_47, mf_48, mf_22, mf_41, m_118, mf_42, m_119, mf_43, m_120, mf_44, m_121])
      all_goals (repeat' apply And.intro)
      all_goals ((try clear hB hC); first | exact True.intro | with_reducible rfl | with_reducible assumption | (with_reducible refine vp_in_nI ?_ ?_ <;> first | omega | decide) | exact Nat.le_of_ble_eq_true rfl | (with_reducible refine ck_nzI ?_; simp; done) | (with_reducible refine ck_nzL ?_; simp; done) | (simp only [pk_us, pk_uLs, ze4, ze12, ↓reduceIte, not_true_eq_false, not_false_eq_true]; done) | (simp only [ze4, ze12, ↓reduceIte, not_true_eq_false, not_false_eq_true]; with_reducible rfl) | skip)
    · intro zc12
      first | exact absurd rfl zc12 | exact absurd zc12 (by decide) | exact absurd (by decide) zc12 | (exfalso; first | exact h49 zc4 | exact zc12 h50) | (exfalso; simp_all; done)

def ck_keepA (A : Nat → Nat → Int32) (k : Nat) (c s a b : Int32) : Nat → Nat → Int32 := va_up (va_up (va_up (va_up A 118 (upd (A 118) k c)) 119 (upd (A 119) k s)) 120 (upd (A 120) k a)) 121 (upd (A 121) k b)
set_option maxRecDepth 100000 in
set_option maxHeartbeats 4000000 in
theorem ct_X11_keeps_k (l : Launch) (G : kx_G) {M : Nat → Int32} {A : Nat → Nat → Int32} {L : Nat → Nat → Int64} {R : kx_P} {sz : Nat} {c s : Int32} (h49 : M 49 = 0) {n : Nat} (h22 : M 22 = nI n) (hn : n < 2 ^ 30)  : kx_M l G sX11_keeps 1 0 0 [.ref 93, .int (c), .int (s)] (mW M A L R) sz none (mW (upd M 22 (nI (n + 1))) (ck_keepA A (n % 200) c s (M 47) (M 48)) L R) sz := by
  have zr : nI n - nI n / 200 * 200 = nI (n % 200) := by rw [show (200 : Int32) = nI 200 from rfl, pk_rem (by omega) (by decide) (by decide)]
  refine kx_mk kx_tab kxLok_X11 (ini := false) [some (.ref 93), some (.int (c)), some (.int (s)), none] ⟨by decide, rfl, by decide, by decide⟩ (rfl) rfl rfl (fun g hB hC => ?_)
  refine hB bX11_keeps_0 _ _ _ _ _ _ _ kX11_keeps_0 ?_
  dsimp only [bX11_keeps_0, kx_wp, kx_step, kx_lI, kx_lL, kx_lA, kx_gl, kx_pI, kx_pL, kx_pR, kx_pA, kx_pV, kx_s1, kx_s2, kx_sl, kx_pre, kx_c2, kx_pl, kx_cmp, kx_oF, kx_eqN, kx_nil, kx_c1, kx_ft, kx_aI, kx_aL, kx_aR, kx_ln, Nat.reduceAdd, Option.toList, List.cons_append, List.nil_append, mW_o, mf_49, mf_50, mf_51, mf_52, mf_47, mf_48, mf_22, mf_41, m_118, mf_42, m_119, mf_43, m_120, mf_44, m_121]
  repeat (simp only [mu_51, mW_so, mu_52, ms_118, ms_119, ms_120, ms_121, mu_22, h22, zr, nI_1, nI_clamp (show n % 200 < 2 ^ 31 by omega), va_us, va_upn, ne_eq, Nat.reduceEqDiff, not_false_eq_true]; try dsimp only [kx_wp, kx_step, kx_lI, kx_lL, kx_lA, kx_gl, kx_pI, kx_pL, kx_pR, kx_pA, kx_pV, kx_s1, kx_s2, kx_sl, kx_pre, kx_c2, kx_pl, kx_cmp, kx_oF, kx_eqN, kx_nil, kx_c1, kx_ft, kx_aI, kx_aL, kx_aR, kx_ln, Nat.reduceAdd, Option.toList, List.cons_append, List.nil_append, mW_o, mf_49, mf_50, mf_51, mf_52, mf_47, mf_48, mf_22, mf_41, m_118, mf_42, m_119, mf_43, m_120, mf_44, m_121])
  repeat' apply And.intro
  all_goals try (first | with_reducible assumption | (with_reducible refine ck_nzI ?_; simp; done) | (with_reducible refine ck_nzL ?_; simp; done) | (with_reducible refine vp_in_nI ?_ ?_ <;> first | omega | decide) | (with_reducible refine Nat.le_of_ble_eq_true ?_; rfl) | omega)
  · intro zc4
    have ze4 := zc4
    refine hB bX11_keeps_44 _ _ _ _ _ _ _ kX11_keeps_44 ?_
    dsimp only [bX11_keeps_44, kx_wp, kx_step, kx_lI, kx_lL, kx_lA, kx_gl, kx_pI, kx_pL, kx_pR, kx_pA, kx_pV, kx_s1, kx_s2, kx_sl, kx_pre, kx_c2, kx_pl, kx_cmp, kx_oF, kx_eqN, kx_nil, kx_c1, kx_ft, kx_aI, kx_aL, kx_aR, kx_ln, Nat.reduceAdd, Option.toList, List.cons_append, List.nil_append, mW_o, mf_49, mf_50, mf_51, mf_52, mf_47, mf_48, mf_22, mf_41, m_118, mf_42, m_119, mf_43, m_120, mf_44, m_121]
    repeat (simp only [mu_51, mW_so, mu_52, ms_118, ms_119, ms_120, ms_121, mu_22, h22, zr, nI_1, nI_clamp (show n % 200 < 2 ^ 31 by omega), va_us, va_upn, ne_eq, Nat.reduceEqDiff, not_false_eq_true]; try dsimp only [kx_wp, kx_step, kx_lI, kx_lL, kx_lA, kx_gl, kx_pI, kx_pL, kx_pR, kx_pA, kx_pV, kx_s1, kx_s2, kx_sl, kx_pre, kx_c2, kx_pl, kx_cmp, kx_oF, kx_eqN, kx_nil, kx_c1, kx_ft, kx_aI, kx_aL, kx_aR, kx_ln, Nat.reduceAdd, Option.toList, List.cons_append, List.nil_append, mW_o, mf_49, mf_50, mf_51, mf_52, mf_47, mf_48, mf_22, mf_41, m_118, mf_42, m_119, mf_43, m_120, mf_44, m_121])
    all_goals (repeat' apply And.intro)
    all_goals ((try clear hB hC); first | exact True.intro | with_reducible rfl | with_reducible assumption | (with_reducible refine vp_in_nI ?_ ?_ <;> first | omega | decide) | exact Nat.le_of_ble_eq_true rfl | (with_reducible refine ck_nzI ?_; simp; done) | (with_reducible refine ck_nzL ?_; simp; done) | (simp only [pk_us, pk_uLs, ck_keepA, eq_true ze4, ↓reduceIte, not_true_eq_false, not_false_eq_true]; done) | (simp only [ck_keepA, eq_true ze4, ↓reduceIte, not_true_eq_false, not_false_eq_true]; with_reducible rfl) | skip)
  · intro zc4
    first | exact absurd rfl zc4 | exact absurd zc4 (by decide) | exact absurd (by decide) zc4 | (exfalso; exact zc4 h49) | (exfalso; simp_all; done)

def bX11_trip_0 : List kx_O := [(.aload_n 0, 0, 0, 0, .null), (.iconst 0, 0, 0, 0, .int 0), (.putfield 1, 11, 0, 0, .null), (.aload_n 0, 0, 0, 0, .null), (.iload_n 1, 1, 0, 0, .null)]
theorem kX11_trip_0 : kx_oks kxL_X11 false cX11_trip 0 bX11_trip_0 = true := by decide +kernel
def bX11_trip_10 : List kx_O := [(.ifCond .ne 5, 15, 0, 0, .null)]
theorem kX11_trip_10 : kx_oks kxL_X11 false cX11_trip 10 bX11_trip_10 = true := by decide +kernel
def bX11_trip_13 : List kx_O := [(.iconst 0, 0, 0, 0, .int 0), (.ireturn, 0, 0, 0, .null)]
theorem kX11_trip_13 : kx_oks kxL_X11 false cX11_trip 13 bX11_trip_13 = true := by decide +kernel
def bX11_trip_15 : List kx_O := [(.aload_n 0, 0, 0, 0, .null), (.getfield 87, 11, 40, 0, .null), (.iload_n 1, 1, 0, 0, .null), (.baload, 0, 0, 0, .null), (.ifCond .ne 5, 26, 0, 0, .null)]
theorem kX11_trip_15 : kx_oks kxL_X11 false cX11_trip 15 bX11_trip_15 = true := by decide +kernel
def bX11_trip_24 : List kx_O := [(.iconst (-1), 0, 0, 0, .int (-1)), (.ireturn, 0, 0, 0, .null)]
theorem kX11_trip_24 : kx_oks kxL_X11 false cX11_trip 24 bX11_trip_24 = true := by decide +kernel
def bX11_trip_26 : List kx_O := [(.iload_n 2, 2, 0, 0, .null), (.ifCond .eq 43, 70, 0, 0, .null)]
theorem kX11_trip_26 : kx_oks kxL_X11 false cX11_trip 26 bX11_trip_26 = true := by decide +kernel
def bX11_trip_30 : List kx_O := [(.aload_n 0, 0, 0, 0, .null), (.getfield 47, 11, 27, 0, .null), (.bipush 24, 0, 0, 0, .int 24), (.iload_n 1, 1, 0, 0, .null), (.imul, 0, 0, 0, .null), (.aload_n 0, 0, 0, 0, .null), (.getfield 65, 11, 33, 0, .null), (.iload_n 1, 1, 0, 0, .null), (.iaload, 0, 0, 0, .null), (.iadd, 0, 0, 0, .null), (.iaload, 0, 0, 0, .null), (.istore_n 3, 3, 0, 0, .null), (.aload_n 0, 0, 0, 0, .null), (.getfield 62, 11, 32, 0, .null), (.iload_n 1, 1, 0, 0, .null), (.iaload, 0, 0, 0, .null), (.iload_n 3, 3, 0, 0, .null), (.if_icmp .ge 6, 60, 0, 0, .null)]
theorem kX11_trip_30 : kx_oks kxL_X11 false cX11_trip 30 bX11_trip_30 = true := by decide +kernel
def bX11_trip_57 : List kx_O := [(.bipush (-2), 0, 0, 0, .int (-2)), (.ireturn, 0, 0, 0, .null)]
theorem kX11_trip_57 : kx_oks kxL_X11 false cX11_trip 57 bX11_trip_57 = true := by decide +kernel
def bX11_trip_60 : List kx_O := [(.aload_n 0, 0, 0, 0, .null), (.getfield 62, 11, 32, 0, .null), (.iload_n 1, 1, 0, 0, .null), (.dup2, 0, 0, 0, .null), (.iaload, 0, 0, 0, .null), (.iload_n 3, 3, 0, 0, .null), (.isub, 0, 0, 0, .null), (.iastore, 0, 0, 0, .null)]
theorem kX11_trip_60 : kx_oks kxL_X11 false cX11_trip 60 bX11_trip_60 = true := by decide +kernel
def bX11_trip_70 : List kx_O := [(.aload_n 0, 0, 0, 0, .null), (.getfield 65, 11, 33, 0, .null), (.iload_n 1, 1, 0, 0, .null), (.aload_n 0, 0, 0, 0, .null), (.getfield 65, 11, 33, 0, .null), (.iload_n 1, 1, 0, 0, .null), (.iaload, 0, 0, 0, .null), (.iload_n 2, 2, 0, 0, .null), (.ifCond .eq 7, 89, 0, 0, .null)]
theorem kX11_trip_70 : kx_oks kxL_X11 false cX11_trip 70 bX11_trip_70 = true := by decide +kernel
def bX11_trip_85 : List kx_O := [(.iconst 1, 0, 0, 0, .int 1), (.goto 11, 97, 0, 0, .null)]
theorem kX11_trip_85 : kx_oks kxL_X11 false cX11_trip 85 bX11_trip_85 = true := by decide +kernel
def bX11_trip_89 : List kx_O := [(.aload_n 0, 0, 0, 0, .null), (.getfield 44, 11, 26, 0, .null), (.iload_n 1, 1, 0, 0, .null), (.iaload, 0, 0, 0, .null), (.iconst 1, 0, 0, 0, .int 1), (.isub, 0, 0, 0, .null)]
theorem kX11_trip_89 : kx_oks kxL_X11 false cX11_trip 89 bX11_trip_89 = true := by decide +kernel
def bX11_trip_97 : List kx_O := [(.iadd, 0, 0, 0, .null), (.aload_n 0, 0, 0, 0, .null), (.getfield 44, 11, 26, 0, .null), (.iload_n 1, 1, 0, 0, .null), (.iaload, 0, 0, 0, .null), (.irem, 0, 0, 0, .null), (.iastore, 0, 0, 0, .null), (.aload_n 0, 0, 0, 0, .null), (.getfield 65, 11, 33, 0, .null), (.iload_n 1, 1, 0, 0, .null), (.iaload, 0, 0, 0, .null), (.ireturn, 0, 0, 0, .null)]
theorem kX11_trip_97 : kx_oks kxL_X11 false cX11_trip 97 bX11_trip_97 = true := by decide +kernel
theorem dX11_trip_7 : decode cX11_trip 7 = .ok (.invokevirtual 358, 3) := by decide +kernel
set_option maxRecDepth 100000 in
set_option maxHeartbeats 4000000 in
theorem ct_X11_trip_on (l : Launch) (G : kx_G) {M : Nat → Int32} {A : Nat → Nat → Int32} {L : Nat → Nat → Int64} {R : kx_P} {sz : Nat} {cl c : Nat} (h21 : M 21 = nI cl) (hcl : cl ≤ 8) (hc : c < cl) (h117 : ¬ A 117 c = 0) {p wm : Nat} (h110 : A 110 c = nI p) (h103 : A 103 c = nI wm) (hp : p < wm) (hwm : wm ≤ 24) {on : Int32} (hon : ¬ on = 0) (hr : ¬ A 109 c < A 104 (24 * c + p))  : kx_M l G sX11_trip 3 0 0 [.ref 93, .int (nI c), .int (on)] (mW M A L R) sz (some (.int (nI ((p + 1) % wm)))) (mW (upd M 0 0) (va_up (va_up A 109 (upd (A 109) c (A 109 c - A 104 (24 * c + p)))) 110 (upd (A 110) c (nI ((p + 1) % wm)))) L R) sz := by
  have hz : ¬ nI wm = 0 := nI_ne0 (by omega) (by omega)
  have zr : nI (p + 1) - nI (p + 1) / nI wm * nI wm = nI ((p + 1) % wm) := pk_rem (by omega) (by omega) (by omega)
  refine kx_mk kx_tab kxLok_X11 (ini := false) [some (.ref 93), some (.int (nI c)), some (.int (on)), none] ⟨by decide, rfl, by decide, by decide⟩ (⟨_, rfl⟩) rfl rfl (fun g hB hC => ?_)
  refine hB bX11_trip_0 _ _ _ _ _ _ _ kX11_trip_0 ?_
  dsimp only [bX11_trip_0, kx_wp, kx_step, kx_lI, kx_lL, kx_lA, kx_gl, kx_pI, kx_pL, kx_pR, kx_pA, kx_pV, kx_s1, kx_s2, kx_sl, kx_pre, kx_c2, kx_pl, kx_cmp, kx_oF, kx_eqN, kx_nil, kx_c1, kx_ft, kx_aI, kx_aL, kx_aR, kx_ln, Nat.reduceAdd, Option.toList, List.cons_append, List.nil_append, mW_o, mf_0, mf_40, m_117, mf_27, m_104, mf_33, m_110, mf_32, m_109, mf_26, m_103]
  repeat (simp only [mu_0, mW_so, ms_117, ms_104, ms_110, ms_109, ms_103, nI_clamp (show c < 2 ^ 31 by omega), h110, h103, ck_i24, nI_clamp (show 24 * c + p < 2 ^ 31 by omega), va_us, va_upn, ne_eq, Nat.reduceEqDiff, not_false_eq_true, nI_1, zr]; try dsimp only [kx_wp, kx_step, kx_lI, kx_lL, kx_lA, kx_gl, kx_pI, kx_pL, kx_pR, kx_pA, kx_pV, kx_s1, kx_s2, kx_sl, kx_pre, kx_c2, kx_pl, kx_cmp, kx_oF, kx_eqN, kx_nil, kx_c1, kx_ft, kx_aI, kx_aL, kx_aR, kx_ln, Nat.reduceAdd, Option.toList, List.cons_append, List.nil_append, mW_o, mf_0, mf_40, m_117, mf_27, m_104, mf_33, m_110, mf_32, m_109, mf_26, m_103])
  repeat' apply And.intro
  all_goals try (first | with_reducible assumption | (with_reducible refine ck_nzI ?_; simp; done) | (with_reducible refine ck_nzL ?_; simp; done) | (with_reducible refine vp_in_nI ?_ ?_ <;> first | omega | decide) | (with_reducible refine Nat.le_of_ble_eq_true ?_; rfl) | omega)
  refine hC.1 358 _ _ _ _ _ _ _ 11 _ _ _ _ _ _ _ _ _ _ _ _ lX11_358 (ct_X11_isClock_t l G (M := upd M 0 0) h21 hcl hc rfl) ⟨by decide, rfl⟩ (mW_o) rfl rfl (Nat.le_of_ble_eq_true rfl) (by decide) (by decide) (by omega) (by omega) dX11_trip_7 ?_
  refine hB bX11_trip_10 _ _ _ _ _ _ _ kX11_trip_10 ?_
  dsimp only [bX11_trip_10, kx_wp, kx_step, kx_lI, kx_lL, kx_lA, kx_gl, kx_pI, kx_pL, kx_pR, kx_pA, kx_pV, kx_s1, kx_s2, kx_sl, kx_pre, kx_c2, kx_pl, kx_cmp, kx_oF, kx_eqN, kx_nil, kx_c1, kx_ft, kx_aI, kx_aL, kx_aR, kx_ln, Nat.reduceAdd, Option.toList, List.cons_append, List.nil_append, mW_o, mf_0, mf_40, m_117, mf_27, m_104, mf_33, m_110, mf_32, m_109, mf_26, m_103]
  repeat (simp only [mu_0, mW_so, ms_117, ms_104, ms_110, ms_109, ms_103, nI_clamp (show c < 2 ^ 31 by omega), h110, h103, ck_i24, nI_clamp (show 24 * c + p < 2 ^ 31 by omega), va_us, va_upn, ne_eq, Nat.reduceEqDiff, not_false_eq_true, nI_1, zr]; try dsimp only [kx_wp, kx_step, kx_lI, kx_lL, kx_lA, kx_gl, kx_pI, kx_pL, kx_pR, kx_pA, kx_pV, kx_s1, kx_s2, kx_sl, kx_pre, kx_c2, kx_pl, kx_cmp, kx_oF, kx_eqN, kx_nil, kx_c1, kx_ft, kx_aI, kx_aL, kx_aR, kx_ln, Nat.reduceAdd, Option.toList, List.cons_append, List.nil_append, mW_o, mf_0, mf_40, m_117, mf_27, m_104, mf_33, m_110, mf_32, m_109, mf_26, m_103])
  repeat' apply And.intro
  all_goals try (first | with_reducible assumption | (with_reducible refine ck_nzI ?_; simp; done) | (with_reducible refine ck_nzL ?_; simp; done) | (with_reducible refine vp_in_nI ?_ ?_ <;> first | omega | decide) | (with_reducible refine Nat.le_of_ble_eq_true ?_; rfl) | omega)
  · intro zc10
    have ze10 := zc10
    refine hB bX11_trip_15 _ _ _ _ _ _ _ kX11_trip_15 ?_
    dsimp only [bX11_trip_15, kx_wp, kx_step, kx_lI, kx_lL, kx_lA, kx_gl, kx_pI, kx_pL, kx_pR, kx_pA, kx_pV, kx_s1, kx_s2, kx_sl, kx_pre, kx_c2, kx_pl, kx_cmp, kx_oF, kx_eqN, kx_nil, kx_c1, kx_ft, kx_aI, kx_aL, kx_aR, kx_ln, Nat.reduceAdd, Option.toList, List.cons_append, List.nil_append, mW_o, mf_0, mf_40, m_117, mf_27, m_104, mf_33, m_110, mf_32, m_109, mf_26, m_103]
    repeat (simp only [mu_0, mW_so, ms_117, ms_104, ms_110, ms_109, ms_103, nI_clamp (show c < 2 ^ 31 by omega), h110, h103, ck_i24, nI_clamp (show 24 * c + p < 2 ^ 31 by omega), va_us, va_upn, ne_eq, Nat.reduceEqDiff, not_false_eq_true, nI_1, zr]; try dsimp only [kx_wp, kx_step, kx_lI, kx_lL, kx_lA, kx_gl, kx_pI, kx_pL, kx_pR, kx_pA, kx_pV, kx_s1, kx_s2, kx_sl, kx_pre, kx_c2, kx_pl, kx_cmp, kx_oF, kx_eqN, kx_nil, kx_c1, kx_ft, kx_aI, kx_aL, kx_aR, kx_ln, Nat.reduceAdd, Option.toList, List.cons_append, List.nil_append, mW_o, mf_0, mf_40, m_117, mf_27, m_104, mf_33, m_110, mf_32, m_109, mf_26, m_103])
    repeat' apply And.intro
    all_goals try (first | with_reducible assumption | (with_reducible refine ck_nzI ?_; simp; done) | (with_reducible refine ck_nzL ?_; simp; done) | (with_reducible refine vp_in_nI ?_ ?_ <;> first | omega | decide) | (with_reducible refine Nat.le_of_ble_eq_true ?_; rfl) | omega)
    · intro zc21
      have ze21 := zc21
      refine hB bX11_trip_26 _ _ _ _ _ _ _ kX11_trip_26 ?_
      dsimp only [bX11_trip_26, kx_wp, kx_step, kx_lI, kx_lL, kx_lA, kx_gl, kx_pI, kx_pL, kx_pR, kx_pA, kx_pV, kx_s1, kx_s2, kx_sl, kx_pre, kx_c2, kx_pl, kx_cmp, kx_oF, kx_eqN, kx_nil, kx_c1, kx_ft, kx_aI, kx_aL, kx_aR, kx_ln, Nat.reduceAdd, Option.toList, List.cons_append, List.nil_append, mW_o, mf_0, mf_40, m_117, mf_27, m_104, mf_33, m_110, mf_32, m_109, mf_26, m_103]
      repeat (simp only [mu_0, mW_so, ms_117, ms_104, ms_110, ms_109, ms_103, nI_clamp (show c < 2 ^ 31 by omega), h110, h103, ck_i24, nI_clamp (show 24 * c + p < 2 ^ 31 by omega), va_us, va_upn, ne_eq, Nat.reduceEqDiff, not_false_eq_true, nI_1, zr]; try dsimp only [kx_wp, kx_step, kx_lI, kx_lL, kx_lA, kx_gl, kx_pI, kx_pL, kx_pR, kx_pA, kx_pV, kx_s1, kx_s2, kx_sl, kx_pre, kx_c2, kx_pl, kx_cmp, kx_oF, kx_eqN, kx_nil, kx_c1, kx_ft, kx_aI, kx_aL, kx_aR, kx_ln, Nat.reduceAdd, Option.toList, List.cons_append, List.nil_append, mW_o, mf_0, mf_40, m_117, mf_27, m_104, mf_33, m_110, mf_32, m_109, mf_26, m_103])
      repeat' apply And.intro
      all_goals try (first | with_reducible assumption | (with_reducible refine ck_nzI ?_; simp; done) | (with_reducible refine ck_nzL ?_; simp; done) | (with_reducible refine vp_in_nI ?_ ?_ <;> first | omega | decide) | (with_reducible refine Nat.le_of_ble_eq_true ?_; rfl) | omega)
      · intro zc27
        first | exact absurd rfl zc27 | exact absurd zc27 (by decide) | exact absurd (by decide) zc27 | (exfalso; first | exact h117 (Decidable.not_not.mp zc21) | exact zc27 hon | exact hon zc27 | exact hon (Decidable.not_not.mp zc27) | exact hr (Int32.not_le.mp zc54) | exact absurd hr (Int32.not_lt.mpr zc54) | exact hon zc82) | (exfalso; simp_all; done)
      · intro zc27
        have ze27 := zc27
        refine hB bX11_trip_30 _ _ _ _ _ _ _ kX11_trip_30 ?_
        dsimp only [bX11_trip_30, kx_wp, kx_step, kx_lI, kx_lL, kx_lA, kx_gl, kx_pI, kx_pL, kx_pR, kx_pA, kx_pV, kx_s1, kx_s2, kx_sl, kx_pre, kx_c2, kx_pl, kx_cmp, kx_oF, kx_eqN, kx_nil, kx_c1, kx_ft, kx_aI, kx_aL, kx_aR, kx_ln, Nat.reduceAdd, Option.toList, List.cons_append, List.nil_append, mW_o, mf_0, mf_40, m_117, mf_27, m_104, mf_33, m_110, mf_32, m_109, mf_26, m_103]
        repeat (simp only [mu_0, mW_so, ms_117, ms_104, ms_110, ms_109, ms_103, nI_clamp (show c < 2 ^ 31 by omega), h110, h103, ck_i24, nI_clamp (show 24 * c + p < 2 ^ 31 by omega), va_us, va_upn, ne_eq, Nat.reduceEqDiff, not_false_eq_true, nI_1, zr]; try dsimp only [kx_wp, kx_step, kx_lI, kx_lL, kx_lA, kx_gl, kx_pI, kx_pL, kx_pR, kx_pA, kx_pV, kx_s1, kx_s2, kx_sl, kx_pre, kx_c2, kx_pl, kx_cmp, kx_oF, kx_eqN, kx_nil, kx_c1, kx_ft, kx_aI, kx_aL, kx_aR, kx_ln, Nat.reduceAdd, Option.toList, List.cons_append, List.nil_append, mW_o, mf_0, mf_40, m_117, mf_27, m_104, mf_33, m_110, mf_32, m_109, mf_26, m_103])
        repeat' apply And.intro
        all_goals try (first | with_reducible assumption | (with_reducible refine ck_nzI ?_; simp; done) | (with_reducible refine ck_nzL ?_; simp; done) | (with_reducible refine vp_in_nI ?_ ?_ <;> first | omega | decide) | (with_reducible refine Nat.le_of_ble_eq_true ?_; rfl) | omega)
        · intro zc54
          with_reducible first | have ze54 := Int32.not_lt.mpr zc54 | have ze54 := zc54
          refine hB bX11_trip_60 _ _ _ _ _ _ _ kX11_trip_60 ?_
          dsimp only [bX11_trip_60, kx_wp, kx_step, kx_lI, kx_lL, kx_lA, kx_gl, kx_pI, kx_pL, kx_pR, kx_pA, kx_pV, kx_s1, kx_s2, kx_sl, kx_pre, kx_c2, kx_pl, kx_cmp, kx_oF, kx_eqN, kx_nil, kx_c1, kx_ft, kx_aI, kx_aL, kx_aR, kx_ln, Nat.reduceAdd, Option.toList, List.cons_append, List.nil_append, mW_o, mf_0, mf_40, m_117, mf_27, m_104, mf_33, m_110, mf_32, m_109, mf_26, m_103]
          repeat (simp only [mu_0, mW_so, ms_117, ms_104, ms_110, ms_109, ms_103, nI_clamp (show c < 2 ^ 31 by omega), h110, h103, ck_i24, nI_clamp (show 24 * c + p < 2 ^ 31 by omega), va_us, va_upn, ne_eq, Nat.reduceEqDiff, not_false_eq_true, nI_1, zr]; try dsimp only [kx_wp, kx_step, kx_lI, kx_lL, kx_lA, kx_gl, kx_pI, kx_pL, kx_pR, kx_pA, kx_pV, kx_s1, kx_s2, kx_sl, kx_pre, kx_c2, kx_pl, kx_cmp, kx_oF, kx_eqN, kx_nil, kx_c1, kx_ft, kx_aI, kx_aL, kx_aR, kx_ln, Nat.reduceAdd, Option.toList, List.cons_append, List.nil_append, mW_o, mf_0, mf_40, m_117, mf_27, m_104, mf_33, m_110, mf_32, m_109, mf_26, m_103])
          repeat' apply And.intro
          all_goals try (first | with_reducible assumption | (with_reducible refine ck_nzI ?_; simp; done) | (with_reducible refine ck_nzL ?_; simp; done) | (with_reducible refine vp_in_nI ?_ ?_ <;> first | omega | decide) | (with_reducible refine Nat.le_of_ble_eq_true ?_; rfl) | omega)
          refine hB bX11_trip_70 _ _ _ _ _ _ _ kX11_trip_70 ?_
          dsimp only [bX11_trip_70, kx_wp, kx_step, kx_lI, kx_lL, kx_lA, kx_gl, kx_pI, kx_pL, kx_pR, kx_pA, kx_pV, kx_s1, kx_s2, kx_sl, kx_pre, kx_c2, kx_pl, kx_cmp, kx_oF, kx_eqN, kx_nil, kx_c1, kx_ft, kx_aI, kx_aL, kx_aR, kx_ln, Nat.reduceAdd, Option.toList, List.cons_append, List.nil_append, mW_o, mf_0, mf_40, m_117, mf_27, m_104, mf_33, m_110, mf_32, m_109, mf_26, m_103]
          repeat (simp only [mu_0, mW_so, ms_117, ms_104, ms_110, ms_109, ms_103, nI_clamp (show c < 2 ^ 31 by omega), h110, h103, ck_i24, nI_clamp (show 24 * c + p < 2 ^ 31 by omega), va_us, va_upn, ne_eq, Nat.reduceEqDiff, not_false_eq_true, nI_1, zr]; try dsimp only [kx_wp, kx_step, kx_lI, kx_lL, kx_lA, kx_gl, kx_pI, kx_pL, kx_pR, kx_pA, kx_pV, kx_s1, kx_s2, kx_sl, kx_pre, kx_c2, kx_pl, kx_cmp, kx_oF, kx_eqN, kx_nil, kx_c1, kx_ft, kx_aI, kx_aL, kx_aR, kx_ln, Nat.reduceAdd, Option.toList, List.cons_append, List.nil_append, mW_o, mf_0, mf_40, m_117, mf_27, m_104, mf_33, m_110, mf_32, m_109, mf_26, m_103])
          repeat' apply And.intro
          all_goals try (first | with_reducible assumption | (with_reducible refine ck_nzI ?_; simp; done) | (with_reducible refine ck_nzL ?_; simp; done) | (with_reducible refine vp_in_nI ?_ ?_ <;> first | omega | decide) | (with_reducible refine Nat.le_of_ble_eq_true ?_; rfl) | omega)
          · intro zc82
            first | exact absurd rfl zc82 | exact absurd zc82 (by decide) | exact absurd (by decide) zc82 | (exfalso; first | exact h117 (Decidable.not_not.mp zc21) | exact zc27 hon | exact hon zc27 | exact hon (Decidable.not_not.mp zc27) | exact hr (Int32.not_le.mp zc54) | exact absurd hr (Int32.not_lt.mpr zc54) | exact hon zc82) | (exfalso; simp_all; done)
          · intro zc82
            have ze82 := zc82
            refine hB bX11_trip_85 _ _ _ _ _ _ _ kX11_trip_85 ?_
            dsimp only [bX11_trip_85, kx_wp, kx_step, kx_lI, kx_lL, kx_lA, kx_gl, kx_pI, kx_pL, kx_pR, kx_pA, kx_pV, kx_s1, kx_s2, kx_sl, kx_pre, kx_c2, kx_pl, kx_cmp, kx_oF, kx_eqN, kx_nil, kx_c1, kx_ft, kx_aI, kx_aL, kx_aR, kx_ln, Nat.reduceAdd, Option.toList, List.cons_append, List.nil_append, mW_o, mf_0, mf_40, m_117, mf_27, m_104, mf_33, m_110, mf_32, m_109, mf_26, m_103]
            repeat (simp only [mu_0, mW_so, ms_117, ms_104, ms_110, ms_109, ms_103, nI_clamp (show c < 2 ^ 31 by omega), h110, h103, ck_i24, nI_clamp (show 24 * c + p < 2 ^ 31 by omega), va_us, va_upn, ne_eq, Nat.reduceEqDiff, not_false_eq_true, nI_1, zr]; try dsimp only [kx_wp, kx_step, kx_lI, kx_lL, kx_lA, kx_gl, kx_pI, kx_pL, kx_pR, kx_pA, kx_pV, kx_s1, kx_s2, kx_sl, kx_pre, kx_c2, kx_pl, kx_cmp, kx_oF, kx_eqN, kx_nil, kx_c1, kx_ft, kx_aI, kx_aL, kx_aR, kx_ln, Nat.reduceAdd, Option.toList, List.cons_append, List.nil_append, mW_o, mf_0, mf_40, m_117, mf_27, m_104, mf_33, m_110, mf_32, m_109, mf_26, m_103])
            repeat' apply And.intro
            all_goals try (first | with_reducible assumption | (with_reducible refine ck_nzI ?_; simp; done) | (with_reducible refine ck_nzL ?_; simp; done) | (with_reducible refine vp_in_nI ?_ ?_ <;> first | omega | decide) | (with_reducible refine Nat.le_of_ble_eq_true ?_; rfl) | omega)
            refine hB bX11_trip_97 _ _ _ _ _ _ _ kX11_trip_97 ?_
            dsimp only [bX11_trip_97, kx_wp, kx_step, kx_lI, kx_lL, kx_lA, kx_gl, kx_pI, kx_pL, kx_pR, kx_pA, kx_pV, kx_s1, kx_s2, kx_sl, kx_pre, kx_c2, kx_pl, kx_cmp, kx_oF, kx_eqN, kx_nil, kx_c1, kx_ft, kx_aI, kx_aL, kx_aR, kx_ln, Nat.reduceAdd, Option.toList, List.cons_append, List.nil_append, mW_o, mf_0, mf_40, m_117, mf_27, m_104, mf_33, m_110, mf_32, m_109, mf_26, m_103]
            repeat (simp only [mu_0, mW_so, ms_117, ms_104, ms_110, ms_109, ms_103, nI_clamp (show c < 2 ^ 31 by omega), h110, h103, ck_i24, nI_clamp (show 24 * c + p < 2 ^ 31 by omega), va_us, va_upn, ne_eq, Nat.reduceEqDiff, not_false_eq_true, nI_1, zr]; try dsimp only [kx_wp, kx_step, kx_lI, kx_lL, kx_lA, kx_gl, kx_pI, kx_pL, kx_pR, kx_pA, kx_pV, kx_s1, kx_s2, kx_sl, kx_pre, kx_c2, kx_pl, kx_cmp, kx_oF, kx_eqN, kx_nil, kx_c1, kx_ft, kx_aI, kx_aL, kx_aR, kx_ln, Nat.reduceAdd, Option.toList, List.cons_append, List.nil_append, mW_o, mf_0, mf_40, m_117, mf_27, m_104, mf_33, m_110, mf_32, m_109, mf_26, m_103])
            all_goals (repeat' apply And.intro)
            all_goals ((try clear hB hC); first | exact True.intro | with_reducible rfl | with_reducible assumption | (with_reducible refine vp_in_nI ?_ ?_ <;> first | omega | decide) | exact Nat.le_of_ble_eq_true rfl | (with_reducible refine ck_nzI ?_; simp; done) | (with_reducible refine ck_nzL ?_; simp; done) | (simp only [pk_us, pk_uLs, ze10, ze21, ze27, zc54, ze54, ze82, ↓reduceIte, not_true_eq_false, not_false_eq_true]; done) | (simp only [ze10, ze21, ze27, zc54, ze54, ze82, ↓reduceIte, not_true_eq_false, not_false_eq_true]; with_reducible rfl) | skip)
        · intro zc54
          first | exact absurd rfl zc54 | exact absurd zc54 (by decide) | exact absurd (by decide) zc54 | (exfalso; first | exact h117 (Decidable.not_not.mp zc21) | exact zc27 hon | exact hon zc27 | exact hon (Decidable.not_not.mp zc27) | exact hr (Int32.not_le.mp zc54) | exact absurd hr (Int32.not_lt.mpr zc54) | exact hon zc82) | (exfalso; simp_all; done)
    · intro zc21
      first | exact absurd rfl zc21 | exact absurd zc21 (by decide) | exact absurd (by decide) zc21 | (exfalso; first | exact h117 (Decidable.not_not.mp zc21) | exact zc27 hon | exact hon zc27 | exact hon (Decidable.not_not.mp zc27) | exact hr (Int32.not_le.mp zc54) | exact absurd hr (Int32.not_lt.mpr zc54) | exact hon zc82) | (exfalso; simp_all; done)
  · intro zc10
    first | exact absurd rfl zc10 | exact absurd zc10 (by decide) | exact absurd (by decide) zc10 | (exfalso; first | exact h117 (Decidable.not_not.mp zc21) | exact zc27 hon | exact hon zc27 | exact hon (Decidable.not_not.mp zc27) | exact hr (Int32.not_le.mp zc54) | exact absurd hr (Int32.not_lt.mpr zc54) | exact hon zc82) | (exfalso; simp_all; done)

set_option maxRecDepth 100000 in
set_option maxHeartbeats 4000000 in
theorem ct_X11_trip_low (l : Launch) (G : kx_G) {M : Nat → Int32} {A : Nat → Nat → Int32} {L : Nat → Nat → Int64} {R : kx_P} {sz : Nat} {cl c : Nat} (h21 : M 21 = nI cl) (hcl : cl ≤ 8) (hc : c < cl) (h117 : ¬ A 117 c = 0) {p wm : Nat} (h110 : A 110 c = nI p) (h103 : A 103 c = nI wm) (hp : p < wm) (hwm : wm ≤ 24) {on : Int32} (hon : ¬ on = 0) (hr : A 109 c < A 104 (24 * c + p))  : kx_M l G sX11_trip 3 0 0 [.ref 93, .int (nI c), .int (on)] (mW M A L R) sz (some (.int (-2))) (mW (upd M 0 0) A L R) sz := by
  have hz : ¬ nI wm = 0 := nI_ne0 (by omega) (by omega)
  refine kx_mk kx_tab kxLok_X11 (ini := false) [some (.ref 93), some (.int (nI c)), some (.int (on)), none] ⟨by decide, rfl, by decide, by decide⟩ (⟨_, rfl⟩) rfl rfl (fun g hB hC => ?_)
  refine hB bX11_trip_0 _ _ _ _ _ _ _ kX11_trip_0 ?_
  dsimp only [bX11_trip_0, kx_wp, kx_step, kx_lI, kx_lL, kx_lA, kx_gl, kx_pI, kx_pL, kx_pR, kx_pA, kx_pV, kx_s1, kx_s2, kx_sl, kx_pre, kx_c2, kx_pl, kx_cmp, kx_oF, kx_eqN, kx_nil, kx_c1, kx_ft, kx_aI, kx_aL, kx_aR, kx_ln, Nat.reduceAdd, Option.toList, List.cons_append, List.nil_append, mW_o, mf_0, mf_40, m_117, mf_27, m_104, mf_33, m_110, mf_32, m_109, mf_26, m_103]
  repeat (simp only [mu_0, mW_so, ms_117, ms_104, ms_110, ms_109, ms_103, nI_clamp (show c < 2 ^ 31 by omega), h110, h103, ck_i24, nI_clamp (show 24 * c + p < 2 ^ 31 by omega), va_us, va_upn, ne_eq, Nat.reduceEqDiff, not_false_eq_true]; try dsimp only [kx_wp, kx_step, kx_lI, kx_lL, kx_lA, kx_gl, kx_pI, kx_pL, kx_pR, kx_pA, kx_pV, kx_s1, kx_s2, kx_sl, kx_pre, kx_c2, kx_pl, kx_cmp, kx_oF, kx_eqN, kx_nil, kx_c1, kx_ft, kx_aI, kx_aL, kx_aR, kx_ln, Nat.reduceAdd, Option.toList, List.cons_append, List.nil_append, mW_o, mf_0, mf_40, m_117, mf_27, m_104, mf_33, m_110, mf_32, m_109, mf_26, m_103])
  repeat' apply And.intro
  all_goals try (first | with_reducible assumption | (with_reducible refine ck_nzI ?_; simp; done) | (with_reducible refine ck_nzL ?_; simp; done) | (with_reducible refine vp_in_nI ?_ ?_ <;> first | omega | decide) | (with_reducible refine Nat.le_of_ble_eq_true ?_; rfl) | omega)
  refine hC.1 358 _ _ _ _ _ _ _ 11 _ _ _ _ _ _ _ _ _ _ _ _ lX11_358 (ct_X11_isClock_t l G (M := upd M 0 0) h21 hcl hc rfl) ⟨by decide, rfl⟩ (mW_o) rfl rfl (Nat.le_of_ble_eq_true rfl) (by decide) (by decide) (by omega) (by omega) dX11_trip_7 ?_
  refine hB bX11_trip_10 _ _ _ _ _ _ _ kX11_trip_10 ?_
  dsimp only [bX11_trip_10, kx_wp, kx_step, kx_lI, kx_lL, kx_lA, kx_gl, kx_pI, kx_pL, kx_pR, kx_pA, kx_pV, kx_s1, kx_s2, kx_sl, kx_pre, kx_c2, kx_pl, kx_cmp, kx_oF, kx_eqN, kx_nil, kx_c1, kx_ft, kx_aI, kx_aL, kx_aR, kx_ln, Nat.reduceAdd, Option.toList, List.cons_append, List.nil_append, mW_o, mf_0, mf_40, m_117, mf_27, m_104, mf_33, m_110, mf_32, m_109, mf_26, m_103]
  repeat (simp only [mu_0, mW_so, ms_117, ms_104, ms_110, ms_109, ms_103, nI_clamp (show c < 2 ^ 31 by omega), h110, h103, ck_i24, nI_clamp (show 24 * c + p < 2 ^ 31 by omega), va_us, va_upn, ne_eq, Nat.reduceEqDiff, not_false_eq_true]; try dsimp only [kx_wp, kx_step, kx_lI, kx_lL, kx_lA, kx_gl, kx_pI, kx_pL, kx_pR, kx_pA, kx_pV, kx_s1, kx_s2, kx_sl, kx_pre, kx_c2, kx_pl, kx_cmp, kx_oF, kx_eqN, kx_nil, kx_c1, kx_ft, kx_aI, kx_aL, kx_aR, kx_ln, Nat.reduceAdd, Option.toList, List.cons_append, List.nil_append, mW_o, mf_0, mf_40, m_117, mf_27, m_104, mf_33, m_110, mf_32, m_109, mf_26, m_103])
  repeat' apply And.intro
  all_goals try (first | with_reducible assumption | (with_reducible refine ck_nzI ?_; simp; done) | (with_reducible refine ck_nzL ?_; simp; done) | (with_reducible refine vp_in_nI ?_ ?_ <;> first | omega | decide) | (with_reducible refine Nat.le_of_ble_eq_true ?_; rfl) | omega)
  · intro zc10
    have ze10 := zc10
    refine hB bX11_trip_15 _ _ _ _ _ _ _ kX11_trip_15 ?_
    dsimp only [bX11_trip_15, kx_wp, kx_step, kx_lI, kx_lL, kx_lA, kx_gl, kx_pI, kx_pL, kx_pR, kx_pA, kx_pV, kx_s1, kx_s2, kx_sl, kx_pre, kx_c2, kx_pl, kx_cmp, kx_oF, kx_eqN, kx_nil, kx_c1, kx_ft, kx_aI, kx_aL, kx_aR, kx_ln, Nat.reduceAdd, Option.toList, List.cons_append, List.nil_append, mW_o, mf_0, mf_40, m_117, mf_27, m_104, mf_33, m_110, mf_32, m_109, mf_26, m_103]
    repeat (simp only [mu_0, mW_so, ms_117, ms_104, ms_110, ms_109, ms_103, nI_clamp (show c < 2 ^ 31 by omega), h110, h103, ck_i24, nI_clamp (show 24 * c + p < 2 ^ 31 by omega), va_us, va_upn, ne_eq, Nat.reduceEqDiff, not_false_eq_true]; try dsimp only [kx_wp, kx_step, kx_lI, kx_lL, kx_lA, kx_gl, kx_pI, kx_pL, kx_pR, kx_pA, kx_pV, kx_s1, kx_s2, kx_sl, kx_pre, kx_c2, kx_pl, kx_cmp, kx_oF, kx_eqN, kx_nil, kx_c1, kx_ft, kx_aI, kx_aL, kx_aR, kx_ln, Nat.reduceAdd, Option.toList, List.cons_append, List.nil_append, mW_o, mf_0, mf_40, m_117, mf_27, m_104, mf_33, m_110, mf_32, m_109, mf_26, m_103])
    repeat' apply And.intro
    all_goals try (first | with_reducible assumption | (with_reducible refine ck_nzI ?_; simp; done) | (with_reducible refine ck_nzL ?_; simp; done) | (with_reducible refine vp_in_nI ?_ ?_ <;> first | omega | decide) | (with_reducible refine Nat.le_of_ble_eq_true ?_; rfl) | omega)
    · intro zc21
      have ze21 := zc21
      refine hB bX11_trip_26 _ _ _ _ _ _ _ kX11_trip_26 ?_
      dsimp only [bX11_trip_26, kx_wp, kx_step, kx_lI, kx_lL, kx_lA, kx_gl, kx_pI, kx_pL, kx_pR, kx_pA, kx_pV, kx_s1, kx_s2, kx_sl, kx_pre, kx_c2, kx_pl, kx_cmp, kx_oF, kx_eqN, kx_nil, kx_c1, kx_ft, kx_aI, kx_aL, kx_aR, kx_ln, Nat.reduceAdd, Option.toList, List.cons_append, List.nil_append, mW_o, mf_0, mf_40, m_117, mf_27, m_104, mf_33, m_110, mf_32, m_109, mf_26, m_103]
      repeat (simp only [mu_0, mW_so, ms_117, ms_104, ms_110, ms_109, ms_103, nI_clamp (show c < 2 ^ 31 by omega), h110, h103, ck_i24, nI_clamp (show 24 * c + p < 2 ^ 31 by omega), va_us, va_upn, ne_eq, Nat.reduceEqDiff, not_false_eq_true]; try dsimp only [kx_wp, kx_step, kx_lI, kx_lL, kx_lA, kx_gl, kx_pI, kx_pL, kx_pR, kx_pA, kx_pV, kx_s1, kx_s2, kx_sl, kx_pre, kx_c2, kx_pl, kx_cmp, kx_oF, kx_eqN, kx_nil, kx_c1, kx_ft, kx_aI, kx_aL, kx_aR, kx_ln, Nat.reduceAdd, Option.toList, List.cons_append, List.nil_append, mW_o, mf_0, mf_40, m_117, mf_27, m_104, mf_33, m_110, mf_32, m_109, mf_26, m_103])
      repeat' apply And.intro
      all_goals try (first | with_reducible assumption | (with_reducible refine ck_nzI ?_; simp; done) | (with_reducible refine ck_nzL ?_; simp; done) | (with_reducible refine vp_in_nI ?_ ?_ <;> first | omega | decide) | (with_reducible refine Nat.le_of_ble_eq_true ?_; rfl) | omega)
      · intro zc27
        first | exact absurd rfl zc27 | exact absurd zc27 (by decide) | exact absurd (by decide) zc27 | (exfalso; first | exact h117 (Decidable.not_not.mp zc21) | exact zc27 hon | exact hon zc27 | exact hon (Decidable.not_not.mp zc27) | exact hr (Int32.not_le.mp zc54) | exact absurd hr (Int32.not_lt.mpr zc54)) | (exfalso; simp_all; done)
      · intro zc27
        have ze27 := zc27
        refine hB bX11_trip_30 _ _ _ _ _ _ _ kX11_trip_30 ?_
        dsimp only [bX11_trip_30, kx_wp, kx_step, kx_lI, kx_lL, kx_lA, kx_gl, kx_pI, kx_pL, kx_pR, kx_pA, kx_pV, kx_s1, kx_s2, kx_sl, kx_pre, kx_c2, kx_pl, kx_cmp, kx_oF, kx_eqN, kx_nil, kx_c1, kx_ft, kx_aI, kx_aL, kx_aR, kx_ln, Nat.reduceAdd, Option.toList, List.cons_append, List.nil_append, mW_o, mf_0, mf_40, m_117, mf_27, m_104, mf_33, m_110, mf_32, m_109, mf_26, m_103]
        repeat (simp only [mu_0, mW_so, ms_117, ms_104, ms_110, ms_109, ms_103, nI_clamp (show c < 2 ^ 31 by omega), h110, h103, ck_i24, nI_clamp (show 24 * c + p < 2 ^ 31 by omega), va_us, va_upn, ne_eq, Nat.reduceEqDiff, not_false_eq_true]; try dsimp only [kx_wp, kx_step, kx_lI, kx_lL, kx_lA, kx_gl, kx_pI, kx_pL, kx_pR, kx_pA, kx_pV, kx_s1, kx_s2, kx_sl, kx_pre, kx_c2, kx_pl, kx_cmp, kx_oF, kx_eqN, kx_nil, kx_c1, kx_ft, kx_aI, kx_aL, kx_aR, kx_ln, Nat.reduceAdd, Option.toList, List.cons_append, List.nil_append, mW_o, mf_0, mf_40, m_117, mf_27, m_104, mf_33, m_110, mf_32, m_109, mf_26, m_103])
        repeat' apply And.intro
        all_goals try (first | with_reducible assumption | (with_reducible refine ck_nzI ?_; simp; done) | (with_reducible refine ck_nzL ?_; simp; done) | (with_reducible refine vp_in_nI ?_ ?_ <;> first | omega | decide) | (with_reducible refine Nat.le_of_ble_eq_true ?_; rfl) | omega)
        · intro zc54
          first | exact absurd rfl zc54 | exact absurd zc54 (by decide) | exact absurd (by decide) zc54 | (exfalso; first | exact h117 (Decidable.not_not.mp zc21) | exact zc27 hon | exact hon zc27 | exact hon (Decidable.not_not.mp zc27) | exact hr (Int32.not_le.mp zc54) | exact absurd hr (Int32.not_lt.mpr zc54)) | (exfalso; simp_all; done)
        · intro zc54
          with_reducible first | have ze54 := Int32.not_le.mp zc54 | have ze54 := zc54
          refine hB bX11_trip_57 _ _ _ _ _ _ _ kX11_trip_57 ?_
          dsimp only [bX11_trip_57, kx_wp, kx_step, kx_lI, kx_lL, kx_lA, kx_gl, kx_pI, kx_pL, kx_pR, kx_pA, kx_pV, kx_s1, kx_s2, kx_sl, kx_pre, kx_c2, kx_pl, kx_cmp, kx_oF, kx_eqN, kx_nil, kx_c1, kx_ft, kx_aI, kx_aL, kx_aR, kx_ln, Nat.reduceAdd, Option.toList, List.cons_append, List.nil_append, mW_o, mf_0, mf_40, m_117, mf_27, m_104, mf_33, m_110, mf_32, m_109, mf_26, m_103]
          repeat (simp only [mu_0, mW_so, ms_117, ms_104, ms_110, ms_109, ms_103, nI_clamp (show c < 2 ^ 31 by omega), h110, h103, ck_i24, nI_clamp (show 24 * c + p < 2 ^ 31 by omega), va_us, va_upn, ne_eq, Nat.reduceEqDiff, not_false_eq_true]; try dsimp only [kx_wp, kx_step, kx_lI, kx_lL, kx_lA, kx_gl, kx_pI, kx_pL, kx_pR, kx_pA, kx_pV, kx_s1, kx_s2, kx_sl, kx_pre, kx_c2, kx_pl, kx_cmp, kx_oF, kx_eqN, kx_nil, kx_c1, kx_ft, kx_aI, kx_aL, kx_aR, kx_ln, Nat.reduceAdd, Option.toList, List.cons_append, List.nil_append, mW_o, mf_0, mf_40, m_117, mf_27, m_104, mf_33, m_110, mf_32, m_109, mf_26, m_103])
          all_goals (repeat' apply And.intro)
          all_goals ((try clear hB hC); first | exact True.intro | with_reducible rfl | with_reducible assumption | (with_reducible refine vp_in_nI ?_ ?_ <;> first | omega | decide) | exact Nat.le_of_ble_eq_true rfl | (with_reducible refine ck_nzI ?_; simp; done) | (with_reducible refine ck_nzL ?_; simp; done) | (simp only [pk_us, pk_uLs, ze10, ze21, ze27, zc54, ze54, ↓reduceIte, not_true_eq_false, not_false_eq_true]; done) | (simp only [ze10, ze21, ze27, zc54, ze54, ↓reduceIte, not_true_eq_false, not_false_eq_true]; with_reducible rfl) | skip)
    · intro zc21
      first | exact absurd rfl zc21 | exact absurd zc21 (by decide) | exact absurd (by decide) zc21 | (exfalso; first | exact h117 (Decidable.not_not.mp zc21) | exact zc27 hon | exact hon zc27 | exact hon (Decidable.not_not.mp zc27) | exact hr (Int32.not_le.mp zc54) | exact absurd hr (Int32.not_lt.mpr zc54)) | (exfalso; simp_all; done)
  · intro zc10
    first | exact absurd rfl zc10 | exact absurd zc10 (by decide) | exact absurd (by decide) zc10 | (exfalso; first | exact h117 (Decidable.not_not.mp zc21) | exact zc27 hon | exact hon zc27 | exact hon (Decidable.not_not.mp zc27) | exact hr (Int32.not_le.mp zc54) | exact absurd hr (Int32.not_lt.mpr zc54)) | (exfalso; simp_all; done)

set_option maxRecDepth 100000 in
set_option maxHeartbeats 4000000 in
theorem ct_X11_trip_off (l : Launch) (G : kx_G) {M : Nat → Int32} {A : Nat → Nat → Int32} {L : Nat → Nat → Int64} {R : kx_P} {sz : Nat} {cl c : Nat} (h21 : M 21 = nI cl) (hcl : cl ≤ 8) (hc : c < cl) (h117 : ¬ A 117 c = 0) {p wm : Nat} (h110 : A 110 c = nI p) (h103 : A 103 c = nI wm) (hp : p < wm) (hwm : wm ≤ 24)  : kx_M l G sX11_trip 3 0 0 [.ref 93, .int (nI c), .int (0)] (mW M A L R) sz (some (.int (nI ((p + (wm - 1)) % wm)))) (mW (upd M 0 0) (va_up A 110 (upd (A 110) c (nI ((p + (wm - 1)) % wm)))) L R) sz := by
  have hz : ¬ nI wm = 0 := nI_ne0 (by omega) (by omega)
  have zs : nI wm - 1 = nI (wm - 1) := pk_sub (b := 1) (by omega)
  have zr : nI (p + (wm - 1)) - nI (p + (wm - 1)) / nI wm * nI wm = nI ((p + (wm - 1)) % wm) := pk_rem (by omega) (by omega) (by omega)
  refine kx_mk kx_tab kxLok_X11 (ini := false) [some (.ref 93), some (.int (nI c)), some (.int (0)), none] ⟨by decide, rfl, by decide, by decide⟩ (⟨_, rfl⟩) rfl rfl (fun g hB hC => ?_)
  refine hB bX11_trip_0 _ _ _ _ _ _ _ kX11_trip_0 ?_
  dsimp only [bX11_trip_0, kx_wp, kx_step, kx_lI, kx_lL, kx_lA, kx_gl, kx_pI, kx_pL, kx_pR, kx_pA, kx_pV, kx_s1, kx_s2, kx_sl, kx_pre, kx_c2, kx_pl, kx_cmp, kx_oF, kx_eqN, kx_nil, kx_c1, kx_ft, kx_aI, kx_aL, kx_aR, kx_ln, Nat.reduceAdd, Option.toList, List.cons_append, List.nil_append, mW_o, mf_0, mf_40, m_117, mf_27, m_104, mf_33, m_110, mf_32, m_109, mf_26, m_103]
  repeat (simp only [mu_0, mW_so, ms_117, ms_104, ms_110, ms_109, ms_103, nI_clamp (show c < 2 ^ 31 by omega), h110, h103, ck_i24, nI_clamp (show 24 * c + p < 2 ^ 31 by omega), va_us, va_upn, ne_eq, Nat.reduceEqDiff, not_false_eq_true, zs, nI_add, zr]; try dsimp only [kx_wp, kx_step, kx_lI, kx_lL, kx_lA, kx_gl, kx_pI, kx_pL, kx_pR, kx_pA, kx_pV, kx_s1, kx_s2, kx_sl, kx_pre, kx_c2, kx_pl, kx_cmp, kx_oF, kx_eqN, kx_nil, kx_c1, kx_ft, kx_aI, kx_aL, kx_aR, kx_ln, Nat.reduceAdd, Option.toList, List.cons_append, List.nil_append, mW_o, mf_0, mf_40, m_117, mf_27, m_104, mf_33, m_110, mf_32, m_109, mf_26, m_103])
  repeat' apply And.intro
  all_goals try (first | with_reducible assumption | (with_reducible refine ck_nzI ?_; simp; done) | (with_reducible refine ck_nzL ?_; simp; done) | (with_reducible refine vp_in_nI ?_ ?_ <;> first | omega | decide) | (with_reducible refine Nat.le_of_ble_eq_true ?_; rfl) | omega)
  refine hC.1 358 _ _ _ _ _ _ _ 11 _ _ _ _ _ _ _ _ _ _ _ _ lX11_358 (ct_X11_isClock_t l G (M := upd M 0 0) h21 hcl hc rfl) ⟨by decide, rfl⟩ (mW_o) rfl rfl (Nat.le_of_ble_eq_true rfl) (by decide) (by decide) (by omega) (by omega) dX11_trip_7 ?_
  refine hB bX11_trip_10 _ _ _ _ _ _ _ kX11_trip_10 ?_
  dsimp only [bX11_trip_10, kx_wp, kx_step, kx_lI, kx_lL, kx_lA, kx_gl, kx_pI, kx_pL, kx_pR, kx_pA, kx_pV, kx_s1, kx_s2, kx_sl, kx_pre, kx_c2, kx_pl, kx_cmp, kx_oF, kx_eqN, kx_nil, kx_c1, kx_ft, kx_aI, kx_aL, kx_aR, kx_ln, Nat.reduceAdd, Option.toList, List.cons_append, List.nil_append, mW_o, mf_0, mf_40, m_117, mf_27, m_104, mf_33, m_110, mf_32, m_109, mf_26, m_103]
  repeat (simp only [mu_0, mW_so, ms_117, ms_104, ms_110, ms_109, ms_103, nI_clamp (show c < 2 ^ 31 by omega), h110, h103, ck_i24, nI_clamp (show 24 * c + p < 2 ^ 31 by omega), va_us, va_upn, ne_eq, Nat.reduceEqDiff, not_false_eq_true, zs, nI_add, zr]; try dsimp only [kx_wp, kx_step, kx_lI, kx_lL, kx_lA, kx_gl, kx_pI, kx_pL, kx_pR, kx_pA, kx_pV, kx_s1, kx_s2, kx_sl, kx_pre, kx_c2, kx_pl, kx_cmp, kx_oF, kx_eqN, kx_nil, kx_c1, kx_ft, kx_aI, kx_aL, kx_aR, kx_ln, Nat.reduceAdd, Option.toList, List.cons_append, List.nil_append, mW_o, mf_0, mf_40, m_117, mf_27, m_104, mf_33, m_110, mf_32, m_109, mf_26, m_103])
  repeat' apply And.intro
  all_goals try (first | with_reducible assumption | (with_reducible refine ck_nzI ?_; simp; done) | (with_reducible refine ck_nzL ?_; simp; done) | (with_reducible refine vp_in_nI ?_ ?_ <;> first | omega | decide) | (with_reducible refine Nat.le_of_ble_eq_true ?_; rfl) | omega)
  · intro zc10
    have ze10 := zc10
    refine hB bX11_trip_15 _ _ _ _ _ _ _ kX11_trip_15 ?_
    dsimp only [bX11_trip_15, kx_wp, kx_step, kx_lI, kx_lL, kx_lA, kx_gl, kx_pI, kx_pL, kx_pR, kx_pA, kx_pV, kx_s1, kx_s2, kx_sl, kx_pre, kx_c2, kx_pl, kx_cmp, kx_oF, kx_eqN, kx_nil, kx_c1, kx_ft, kx_aI, kx_aL, kx_aR, kx_ln, Nat.reduceAdd, Option.toList, List.cons_append, List.nil_append, mW_o, mf_0, mf_40, m_117, mf_27, m_104, mf_33, m_110, mf_32, m_109, mf_26, m_103]
    repeat (simp only [mu_0, mW_so, ms_117, ms_104, ms_110, ms_109, ms_103, nI_clamp (show c < 2 ^ 31 by omega), h110, h103, ck_i24, nI_clamp (show 24 * c + p < 2 ^ 31 by omega), va_us, va_upn, ne_eq, Nat.reduceEqDiff, not_false_eq_true, zs, nI_add, zr]; try dsimp only [kx_wp, kx_step, kx_lI, kx_lL, kx_lA, kx_gl, kx_pI, kx_pL, kx_pR, kx_pA, kx_pV, kx_s1, kx_s2, kx_sl, kx_pre, kx_c2, kx_pl, kx_cmp, kx_oF, kx_eqN, kx_nil, kx_c1, kx_ft, kx_aI, kx_aL, kx_aR, kx_ln, Nat.reduceAdd, Option.toList, List.cons_append, List.nil_append, mW_o, mf_0, mf_40, m_117, mf_27, m_104, mf_33, m_110, mf_32, m_109, mf_26, m_103])
    repeat' apply And.intro
    all_goals try (first | with_reducible assumption | (with_reducible refine ck_nzI ?_; simp; done) | (with_reducible refine ck_nzL ?_; simp; done) | (with_reducible refine vp_in_nI ?_ ?_ <;> first | omega | decide) | (with_reducible refine Nat.le_of_ble_eq_true ?_; rfl) | omega)
    · intro zc21
      have ze21 := zc21
      refine hB bX11_trip_26 _ _ _ _ _ _ _ kX11_trip_26 ?_
      dsimp only [bX11_trip_26, kx_wp, kx_step, kx_lI, kx_lL, kx_lA, kx_gl, kx_pI, kx_pL, kx_pR, kx_pA, kx_pV, kx_s1, kx_s2, kx_sl, kx_pre, kx_c2, kx_pl, kx_cmp, kx_oF, kx_eqN, kx_nil, kx_c1, kx_ft, kx_aI, kx_aL, kx_aR, kx_ln, Nat.reduceAdd, Option.toList, List.cons_append, List.nil_append, mW_o, mf_0, mf_40, m_117, mf_27, m_104, mf_33, m_110, mf_32, m_109, mf_26, m_103]
      repeat (simp only [mu_0, mW_so, ms_117, ms_104, ms_110, ms_109, ms_103, nI_clamp (show c < 2 ^ 31 by omega), h110, h103, ck_i24, nI_clamp (show 24 * c + p < 2 ^ 31 by omega), va_us, va_upn, ne_eq, Nat.reduceEqDiff, not_false_eq_true, zs, nI_add, zr]; try dsimp only [kx_wp, kx_step, kx_lI, kx_lL, kx_lA, kx_gl, kx_pI, kx_pL, kx_pR, kx_pA, kx_pV, kx_s1, kx_s2, kx_sl, kx_pre, kx_c2, kx_pl, kx_cmp, kx_oF, kx_eqN, kx_nil, kx_c1, kx_ft, kx_aI, kx_aL, kx_aR, kx_ln, Nat.reduceAdd, Option.toList, List.cons_append, List.nil_append, mW_o, mf_0, mf_40, m_117, mf_27, m_104, mf_33, m_110, mf_32, m_109, mf_26, m_103])
      repeat' apply And.intro
      all_goals try (first | with_reducible assumption | (with_reducible refine ck_nzI ?_; simp; done) | (with_reducible refine ck_nzL ?_; simp; done) | (with_reducible refine vp_in_nI ?_ ?_ <;> first | omega | decide) | (with_reducible refine Nat.le_of_ble_eq_true ?_; rfl) | omega)
      · intro zc27
        have ze27 := zc27
        refine hB bX11_trip_70 _ _ _ _ _ _ _ kX11_trip_70 ?_
        dsimp only [bX11_trip_70, kx_wp, kx_step, kx_lI, kx_lL, kx_lA, kx_gl, kx_pI, kx_pL, kx_pR, kx_pA, kx_pV, kx_s1, kx_s2, kx_sl, kx_pre, kx_c2, kx_pl, kx_cmp, kx_oF, kx_eqN, kx_nil, kx_c1, kx_ft, kx_aI, kx_aL, kx_aR, kx_ln, Nat.reduceAdd, Option.toList, List.cons_append, List.nil_append, mW_o, mf_0, mf_40, m_117, mf_27, m_104, mf_33, m_110, mf_32, m_109, mf_26, m_103]
        repeat (simp only [mu_0, mW_so, ms_117, ms_104, ms_110, ms_109, ms_103, nI_clamp (show c < 2 ^ 31 by omega), h110, h103, ck_i24, nI_clamp (show 24 * c + p < 2 ^ 31 by omega), va_us, va_upn, ne_eq, Nat.reduceEqDiff, not_false_eq_true, zs, nI_add, zr]; try dsimp only [kx_wp, kx_step, kx_lI, kx_lL, kx_lA, kx_gl, kx_pI, kx_pL, kx_pR, kx_pA, kx_pV, kx_s1, kx_s2, kx_sl, kx_pre, kx_c2, kx_pl, kx_cmp, kx_oF, kx_eqN, kx_nil, kx_c1, kx_ft, kx_aI, kx_aL, kx_aR, kx_ln, Nat.reduceAdd, Option.toList, List.cons_append, List.nil_append, mW_o, mf_0, mf_40, m_117, mf_27, m_104, mf_33, m_110, mf_32, m_109, mf_26, m_103])
        repeat' apply And.intro
        all_goals try (first | with_reducible assumption | (with_reducible refine ck_nzI ?_; simp; done) | (with_reducible refine ck_nzL ?_; simp; done) | (with_reducible refine vp_in_nI ?_ ?_ <;> first | omega | decide) | (with_reducible refine Nat.le_of_ble_eq_true ?_; rfl) | omega)
        · intro zc82
          have ze82 := zc82
          refine hB bX11_trip_89 _ _ _ _ _ _ _ kX11_trip_89 ?_
          dsimp only [bX11_trip_89, kx_wp, kx_step, kx_lI, kx_lL, kx_lA, kx_gl, kx_pI, kx_pL, kx_pR, kx_pA, kx_pV, kx_s1, kx_s2, kx_sl, kx_pre, kx_c2, kx_pl, kx_cmp, kx_oF, kx_eqN, kx_nil, kx_c1, kx_ft, kx_aI, kx_aL, kx_aR, kx_ln, Nat.reduceAdd, Option.toList, List.cons_append, List.nil_append, mW_o, mf_0, mf_40, m_117, mf_27, m_104, mf_33, m_110, mf_32, m_109, mf_26, m_103]
          repeat (simp only [mu_0, mW_so, ms_117, ms_104, ms_110, ms_109, ms_103, nI_clamp (show c < 2 ^ 31 by omega), h110, h103, ck_i24, nI_clamp (show 24 * c + p < 2 ^ 31 by omega), va_us, va_upn, ne_eq, Nat.reduceEqDiff, not_false_eq_true, zs, nI_add, zr]; try dsimp only [kx_wp, kx_step, kx_lI, kx_lL, kx_lA, kx_gl, kx_pI, kx_pL, kx_pR, kx_pA, kx_pV, kx_s1, kx_s2, kx_sl, kx_pre, kx_c2, kx_pl, kx_cmp, kx_oF, kx_eqN, kx_nil, kx_c1, kx_ft, kx_aI, kx_aL, kx_aR, kx_ln, Nat.reduceAdd, Option.toList, List.cons_append, List.nil_append, mW_o, mf_0, mf_40, m_117, mf_27, m_104, mf_33, m_110, mf_32, m_109, mf_26, m_103])
          repeat' apply And.intro
          all_goals try (first | with_reducible assumption | (with_reducible refine ck_nzI ?_; simp; done) | (with_reducible refine ck_nzL ?_; simp; done) | (with_reducible refine vp_in_nI ?_ ?_ <;> first | omega | decide) | (with_reducible refine Nat.le_of_ble_eq_true ?_; rfl) | omega)
          refine hB bX11_trip_97 _ _ _ _ _ _ _ kX11_trip_97 ?_
          dsimp only [bX11_trip_97, kx_wp, kx_step, kx_lI, kx_lL, kx_lA, kx_gl, kx_pI, kx_pL, kx_pR, kx_pA, kx_pV, kx_s1, kx_s2, kx_sl, kx_pre, kx_c2, kx_pl, kx_cmp, kx_oF, kx_eqN, kx_nil, kx_c1, kx_ft, kx_aI, kx_aL, kx_aR, kx_ln, Nat.reduceAdd, Option.toList, List.cons_append, List.nil_append, mW_o, mf_0, mf_40, m_117, mf_27, m_104, mf_33, m_110, mf_32, m_109, mf_26, m_103]
          repeat (simp only [mu_0, mW_so, ms_117, ms_104, ms_110, ms_109, ms_103, nI_clamp (show c < 2 ^ 31 by omega), h110, h103, ck_i24, nI_clamp (show 24 * c + p < 2 ^ 31 by omega), va_us, va_upn, ne_eq, Nat.reduceEqDiff, not_false_eq_true, zs, nI_add, zr]; try dsimp only [kx_wp, kx_step, kx_lI, kx_lL, kx_lA, kx_gl, kx_pI, kx_pL, kx_pR, kx_pA, kx_pV, kx_s1, kx_s2, kx_sl, kx_pre, kx_c2, kx_pl, kx_cmp, kx_oF, kx_eqN, kx_nil, kx_c1, kx_ft, kx_aI, kx_aL, kx_aR, kx_ln, Nat.reduceAdd, Option.toList, List.cons_append, List.nil_append, mW_o, mf_0, mf_40, m_117, mf_27, m_104, mf_33, m_110, mf_32, m_109, mf_26, m_103])
          all_goals (repeat' apply And.intro)
          all_goals ((try clear hB hC); first | exact True.intro | with_reducible rfl | with_reducible assumption | (with_reducible refine vp_in_nI ?_ ?_ <;> first | omega | decide) | exact Nat.le_of_ble_eq_true rfl | (with_reducible refine ck_nzI ?_; simp; done) | (with_reducible refine ck_nzL ?_; simp; done) | (simp only [pk_us, pk_uLs, ze10, ze21, eq_true ze27, eq_true ze82, ↓reduceIte, not_true_eq_false, not_false_eq_true]; done) | (simp only [ze10, ze21, eq_true ze27, eq_true ze82, ↓reduceIte, not_true_eq_false, not_false_eq_true]; with_reducible rfl) | skip)
        · intro zc82
          first | exact absurd rfl zc82 | exact absurd zc82 (by decide) | exact absurd (by decide) zc82 | (exfalso; first | exact h117 (Decidable.not_not.mp zc21) | exact zc27 hon | exact hon zc27 | exact hon (Decidable.not_not.mp zc27) | exact hr (Int32.not_le.mp zc54) | exact absurd hr (Int32.not_lt.mpr zc54)) | (exfalso; simp_all; done)
      · intro zc27
        first | exact absurd rfl zc27 | exact absurd zc27 (by decide) | exact absurd (by decide) zc27 | (exfalso; first | exact h117 (Decidable.not_not.mp zc21) | exact zc27 hon | exact hon zc27 | exact hon (Decidable.not_not.mp zc27) | exact hr (Int32.not_le.mp zc54) | exact absurd hr (Int32.not_lt.mpr zc54)) | (exfalso; simp_all; done)
    · intro zc21
      first | exact absurd rfl zc21 | exact absurd zc21 (by decide) | exact absurd (by decide) zc21 | (exfalso; first | exact h117 (Decidable.not_not.mp zc21) | exact zc27 hon | exact hon zc27 | exact hon (Decidable.not_not.mp zc27) | exact hr (Int32.not_le.mp zc54) | exact absurd hr (Int32.not_lt.mpr zc54)) | (exfalso; simp_all; done)
  · intro zc10
    first | exact absurd rfl zc10 | exact absurd zc10 (by decide) | exact absurd (by decide) zc10 | (exfalso; first | exact h117 (Decidable.not_not.mp zc21) | exact zc27 hon | exact hon zc27 | exact hon (Decidable.not_not.mp zc27) | exact hr (Int32.not_le.mp zc54) | exact absurd hr (Int32.not_lt.mpr zc54)) | (exfalso; simp_all; done)

set_option maxRecDepth 100000 in
set_option maxHeartbeats 4000000 in
theorem ct_X11_trip_w (l : Launch) (G : kx_G) {M : Nat → Int32} {A : Nat → Nat → Int32} {L : Nat → Nat → Int64} {R : kx_P} {sz : Nat} {cl c : Nat} (h21 : M 21 = nI cl) (hcl : cl ≤ 8) (hc : c < cl) {on : Int32} (h117 : A 117 c = 0)  : kx_M l G sX11_trip 3 0 0 [.ref 93, .int (nI c), .int (on)] (mW M A L R) sz (some (.int (-1))) (mW (upd M 0 0) A L R) sz := by
  refine kx_mk kx_tab kxLok_X11 (ini := false) [some (.ref 93), some (.int (nI c)), some (.int (on)), none] ⟨by decide, rfl, by decide, by decide⟩ (⟨_, rfl⟩) rfl rfl (fun g hB hC => ?_)
  refine hB bX11_trip_0 _ _ _ _ _ _ _ kX11_trip_0 ?_
  dsimp only [bX11_trip_0, kx_wp, kx_step, kx_lI, kx_lL, kx_lA, kx_gl, kx_pI, kx_pL, kx_pR, kx_pA, kx_pV, kx_s1, kx_s2, kx_sl, kx_pre, kx_c2, kx_pl, kx_cmp, kx_oF, kx_eqN, kx_nil, kx_c1, kx_ft, kx_aI, kx_aL, kx_aR, kx_ln, Nat.reduceAdd, Option.toList, List.cons_append, List.nil_append, mW_o, mf_0, mf_40, m_117, mf_27, m_104, mf_33, m_110, mf_32, m_109, mf_26, m_103]
  repeat (simp only [mu_0, mW_so, ms_117, ms_104, ms_110, ms_109, ms_103, nI_clamp (show c < 2 ^ 31 by omega)]; try dsimp only [kx_wp, kx_step, kx_lI, kx_lL, kx_lA, kx_gl, kx_pI, kx_pL, kx_pR, kx_pA, kx_pV, kx_s1, kx_s2, kx_sl, kx_pre, kx_c2, kx_pl, kx_cmp, kx_oF, kx_eqN, kx_nil, kx_c1, kx_ft, kx_aI, kx_aL, kx_aR, kx_ln, Nat.reduceAdd, Option.toList, List.cons_append, List.nil_append, mW_o, mf_0, mf_40, m_117, mf_27, m_104, mf_33, m_110, mf_32, m_109, mf_26, m_103])
  repeat' apply And.intro
  all_goals try (first | with_reducible assumption | (with_reducible refine ck_nzI ?_; simp; done) | (with_reducible refine ck_nzL ?_; simp; done) | (with_reducible refine vp_in_nI ?_ ?_ <;> first | omega | decide) | (with_reducible refine Nat.le_of_ble_eq_true ?_; rfl) | omega)
  refine hC.1 358 _ _ _ _ _ _ _ 11 _ _ _ _ _ _ _ _ _ _ _ _ lX11_358 (ct_X11_isClock_t l G (M := upd M 0 0) h21 hcl hc rfl) ⟨by decide, rfl⟩ (mW_o) rfl rfl (Nat.le_of_ble_eq_true rfl) (by decide) (by decide) (by omega) (by omega) dX11_trip_7 ?_
  refine hB bX11_trip_10 _ _ _ _ _ _ _ kX11_trip_10 ?_
  dsimp only [bX11_trip_10, kx_wp, kx_step, kx_lI, kx_lL, kx_lA, kx_gl, kx_pI, kx_pL, kx_pR, kx_pA, kx_pV, kx_s1, kx_s2, kx_sl, kx_pre, kx_c2, kx_pl, kx_cmp, kx_oF, kx_eqN, kx_nil, kx_c1, kx_ft, kx_aI, kx_aL, kx_aR, kx_ln, Nat.reduceAdd, Option.toList, List.cons_append, List.nil_append, mW_o, mf_0, mf_40, m_117, mf_27, m_104, mf_33, m_110, mf_32, m_109, mf_26, m_103]
  repeat (simp only [mu_0, mW_so, ms_117, ms_104, ms_110, ms_109, ms_103, nI_clamp (show c < 2 ^ 31 by omega)]; try dsimp only [kx_wp, kx_step, kx_lI, kx_lL, kx_lA, kx_gl, kx_pI, kx_pL, kx_pR, kx_pA, kx_pV, kx_s1, kx_s2, kx_sl, kx_pre, kx_c2, kx_pl, kx_cmp, kx_oF, kx_eqN, kx_nil, kx_c1, kx_ft, kx_aI, kx_aL, kx_aR, kx_ln, Nat.reduceAdd, Option.toList, List.cons_append, List.nil_append, mW_o, mf_0, mf_40, m_117, mf_27, m_104, mf_33, m_110, mf_32, m_109, mf_26, m_103])
  repeat' apply And.intro
  all_goals try (first | with_reducible assumption | (with_reducible refine ck_nzI ?_; simp; done) | (with_reducible refine ck_nzL ?_; simp; done) | (with_reducible refine vp_in_nI ?_ ?_ <;> first | omega | decide) | (with_reducible refine Nat.le_of_ble_eq_true ?_; rfl) | omega)
  · intro zc10
    have ze10 := zc10
    refine hB bX11_trip_15 _ _ _ _ _ _ _ kX11_trip_15 ?_
    dsimp only [bX11_trip_15, kx_wp, kx_step, kx_lI, kx_lL, kx_lA, kx_gl, kx_pI, kx_pL, kx_pR, kx_pA, kx_pV, kx_s1, kx_s2, kx_sl, kx_pre, kx_c2, kx_pl, kx_cmp, kx_oF, kx_eqN, kx_nil, kx_c1, kx_ft, kx_aI, kx_aL, kx_aR, kx_ln, Nat.reduceAdd, Option.toList, List.cons_append, List.nil_append, mW_o, mf_0, mf_40, m_117, mf_27, m_104, mf_33, m_110, mf_32, m_109, mf_26, m_103]
    repeat (simp only [mu_0, mW_so, ms_117, ms_104, ms_110, ms_109, ms_103, nI_clamp (show c < 2 ^ 31 by omega)]; try dsimp only [kx_wp, kx_step, kx_lI, kx_lL, kx_lA, kx_gl, kx_pI, kx_pL, kx_pR, kx_pA, kx_pV, kx_s1, kx_s2, kx_sl, kx_pre, kx_c2, kx_pl, kx_cmp, kx_oF, kx_eqN, kx_nil, kx_c1, kx_ft, kx_aI, kx_aL, kx_aR, kx_ln, Nat.reduceAdd, Option.toList, List.cons_append, List.nil_append, mW_o, mf_0, mf_40, m_117, mf_27, m_104, mf_33, m_110, mf_32, m_109, mf_26, m_103])
    repeat' apply And.intro
    all_goals try (first | with_reducible assumption | (with_reducible refine ck_nzI ?_; simp; done) | (with_reducible refine ck_nzL ?_; simp; done) | (with_reducible refine vp_in_nI ?_ ?_ <;> first | omega | decide) | (with_reducible refine Nat.le_of_ble_eq_true ?_; rfl) | omega)
    · intro zc21
      first | exact absurd rfl zc21 | exact absurd zc21 (by decide) | exact absurd (by decide) zc21 | (exfalso; exact zc21 h117) | (exfalso; simp_all; done)
    · intro zc21
      with_reducible first | have ze21 := Decidable.not_not.mp zc21 | have ze21 := zc21
      refine hB bX11_trip_24 _ _ _ _ _ _ _ kX11_trip_24 ?_
      dsimp only [bX11_trip_24, kx_wp, kx_step, kx_lI, kx_lL, kx_lA, kx_gl, kx_pI, kx_pL, kx_pR, kx_pA, kx_pV, kx_s1, kx_s2, kx_sl, kx_pre, kx_c2, kx_pl, kx_cmp, kx_oF, kx_eqN, kx_nil, kx_c1, kx_ft, kx_aI, kx_aL, kx_aR, kx_ln, Nat.reduceAdd, Option.toList, List.cons_append, List.nil_append, mW_o, mf_0, mf_40, m_117, mf_27, m_104, mf_33, m_110, mf_32, m_109, mf_26, m_103]
      repeat (simp only [mu_0, mW_so, ms_117, ms_104, ms_110, ms_109, ms_103, nI_clamp (show c < 2 ^ 31 by omega)]; try dsimp only [kx_wp, kx_step, kx_lI, kx_lL, kx_lA, kx_gl, kx_pI, kx_pL, kx_pR, kx_pA, kx_pV, kx_s1, kx_s2, kx_sl, kx_pre, kx_c2, kx_pl, kx_cmp, kx_oF, kx_eqN, kx_nil, kx_c1, kx_ft, kx_aI, kx_aL, kx_aR, kx_ln, Nat.reduceAdd, Option.toList, List.cons_append, List.nil_append, mW_o, mf_0, mf_40, m_117, mf_27, m_104, mf_33, m_110, mf_32, m_109, mf_26, m_103])
      all_goals (repeat' apply And.intro)
      all_goals ((try clear hB hC); first | exact True.intro | with_reducible rfl | with_reducible assumption | (with_reducible refine vp_in_nI ?_ ?_ <;> first | omega | decide) | exact Nat.le_of_ble_eq_true rfl | (with_reducible refine ck_nzI ?_; simp; done) | (with_reducible refine ck_nzL ?_; simp; done) | (simp only [pk_us, pk_uLs, ze10, eq_true ze21, ↓reduceIte, not_true_eq_false, not_false_eq_true]; done) | (simp only [ze10, eq_true ze21, ↓reduceIte, not_true_eq_false, not_false_eq_true]; with_reducible rfl) | skip)
  · intro zc10
    first | exact absurd rfl zc10 | exact absurd zc10 (by decide) | exact absurd (by decide) zc10 | (exfalso; exact zc21 h117) | (exfalso; simp_all; done)

set_option maxRecDepth 100000 in
set_option maxHeartbeats 4000000 in
theorem ct_X11_trip_f (l : Launch) (G : kx_G) {M : Nat → Int32} {A : Nat → Nat → Int32} {L : Nat → Nat → Int64} {R : kx_P} {sz : Nat} {x : Int32} {on : Int32} (hx : ¬ (0 ≤ x ∧ x ≤ M 21 - 1)) : kx_M l G sX11_trip 3 0 0 [.ref 93, .int (x), .int (on)] (mW M A L R) sz (some (.int (0))) (mW (upd (upd M 0 0) 0 1) A L R) sz := by
  refine kx_mk kx_tab kxLok_X11 (ini := false) [some (.ref 93), some (.int (x)), some (.int (on)), none] ⟨by decide, rfl, by decide, by decide⟩ (⟨_, rfl⟩) rfl rfl (fun g hB hC => ?_)
  refine hB bX11_trip_0 _ _ _ _ _ _ _ kX11_trip_0 ?_
  dsimp only [bX11_trip_0, kx_wp, kx_step, kx_lI, kx_lL, kx_lA, kx_gl, kx_pI, kx_pL, kx_pR, kx_pA, kx_pV, kx_s1, kx_s2, kx_sl, kx_pre, kx_c2, kx_pl, kx_cmp, kx_oF, kx_eqN, kx_nil, kx_c1, kx_ft, kx_aI, kx_aL, kx_aR, kx_ln, Nat.reduceAdd, Option.toList, List.cons_append, List.nil_append, mW_o, mf_0, mf_40, m_117, mf_27, m_104, mf_33, m_110, mf_32, m_109, mf_26, m_103]
  repeat (simp only [mu_0, mW_so, ms_117, ms_104, ms_110, ms_109, ms_103]; try dsimp only [kx_wp, kx_step, kx_lI, kx_lL, kx_lA, kx_gl, kx_pI, kx_pL, kx_pR, kx_pA, kx_pV, kx_s1, kx_s2, kx_sl, kx_pre, kx_c2, kx_pl, kx_cmp, kx_oF, kx_eqN, kx_nil, kx_c1, kx_ft, kx_aI, kx_aL, kx_aR, kx_ln, Nat.reduceAdd, Option.toList, List.cons_append, List.nil_append, mW_o, mf_0, mf_40, m_117, mf_27, m_104, mf_33, m_110, mf_32, m_109, mf_26, m_103])
  repeat' apply And.intro
  all_goals try (first | with_reducible assumption | (with_reducible refine ck_nzI ?_; simp; done) | (with_reducible refine ck_nzL ?_; simp; done) | (with_reducible refine vp_in_nI ?_ ?_ <;> first | omega | decide) | (with_reducible refine Nat.le_of_ble_eq_true ?_; rfl) | omega)
  have hx2 : ¬ (0 ≤ x ∧ x ≤ upd M 0 0 21 - 1) := by rw [show upd M 0 0 21 = M 21 from rfl]; exact hx
  refine hC.1 358 _ _ _ _ _ _ _ 11 _ _ _ _ _ _ _ _ _ _ _ _ lX11_358 (ct_X11_isClock_f l G (M := upd M 0 0) hx2 rfl) ⟨by decide, rfl⟩ (mW_o) rfl rfl (Nat.le_of_ble_eq_true rfl) (by decide) (by decide) (by omega) (by omega) dX11_trip_7 ?_
  refine hB bX11_trip_10 _ _ _ _ _ _ _ kX11_trip_10 ?_
  dsimp only [bX11_trip_10, kx_wp, kx_step, kx_lI, kx_lL, kx_lA, kx_gl, kx_pI, kx_pL, kx_pR, kx_pA, kx_pV, kx_s1, kx_s2, kx_sl, kx_pre, kx_c2, kx_pl, kx_cmp, kx_oF, kx_eqN, kx_nil, kx_c1, kx_ft, kx_aI, kx_aL, kx_aR, kx_ln, Nat.reduceAdd, Option.toList, List.cons_append, List.nil_append, mW_o, mf_0, mf_40, m_117, mf_27, m_104, mf_33, m_110, mf_32, m_109, mf_26, m_103]
  repeat (simp only [mu_0, mW_so, ms_117, ms_104, ms_110, ms_109, ms_103]; try dsimp only [kx_wp, kx_step, kx_lI, kx_lL, kx_lA, kx_gl, kx_pI, kx_pL, kx_pR, kx_pA, kx_pV, kx_s1, kx_s2, kx_sl, kx_pre, kx_c2, kx_pl, kx_cmp, kx_oF, kx_eqN, kx_nil, kx_c1, kx_ft, kx_aI, kx_aL, kx_aR, kx_ln, Nat.reduceAdd, Option.toList, List.cons_append, List.nil_append, mW_o, mf_0, mf_40, m_117, mf_27, m_104, mf_33, m_110, mf_32, m_109, mf_26, m_103])
  repeat' apply And.intro
  all_goals try (first | with_reducible assumption | (with_reducible refine ck_nzI ?_; simp; done) | (with_reducible refine ck_nzL ?_; simp; done) | (with_reducible refine vp_in_nI ?_ ?_ <;> first | omega | decide) | (with_reducible refine Nat.le_of_ble_eq_true ?_; rfl) | omega)
  · intro zc10
    first | exact absurd rfl zc10 | exact absurd zc10 (by decide) | exact absurd (by decide) zc10 | (exfalso; ((try clear hB hC); simp only [ck_lt, ck_le, ck_eq, not_true_eq_false, not_false_eq_true, Int32.reduceToInt, Int32.reduceAdd, Int32.reduceSub, Int32.reduceMul] at * <;> omega)) | (exfalso; simp_all; done)
  · intro zc10
    with_reducible first | have ze10 := Decidable.not_not.mp zc10 | have ze10 := zc10
    refine hB bX11_trip_13 _ _ _ _ _ _ _ kX11_trip_13 ?_
    dsimp only [bX11_trip_13, kx_wp, kx_step, kx_lI, kx_lL, kx_lA, kx_gl, kx_pI, kx_pL, kx_pR, kx_pA, kx_pV, kx_s1, kx_s2, kx_sl, kx_pre, kx_c2, kx_pl, kx_cmp, kx_oF, kx_eqN, kx_nil, kx_c1, kx_ft, kx_aI, kx_aL, kx_aR, kx_ln, Nat.reduceAdd, Option.toList, List.cons_append, List.nil_append, mW_o, mf_0, mf_40, m_117, mf_27, m_104, mf_33, m_110, mf_32, m_109, mf_26, m_103]
    repeat (simp only [mu_0, mW_so, ms_117, ms_104, ms_110, ms_109, ms_103]; try dsimp only [kx_wp, kx_step, kx_lI, kx_lL, kx_lA, kx_gl, kx_pI, kx_pL, kx_pR, kx_pA, kx_pV, kx_s1, kx_s2, kx_sl, kx_pre, kx_c2, kx_pl, kx_cmp, kx_oF, kx_eqN, kx_nil, kx_c1, kx_ft, kx_aI, kx_aL, kx_aR, kx_ln, Nat.reduceAdd, Option.toList, List.cons_append, List.nil_append, mW_o, mf_0, mf_40, m_117, mf_27, m_104, mf_33, m_110, mf_32, m_109, mf_26, m_103])
    all_goals (repeat' apply And.intro)
    all_goals ((try clear hB hC); first | exact True.intro | with_reducible rfl | with_reducible assumption | (with_reducible refine vp_in_nI ?_ ?_ <;> first | omega | decide) | exact Nat.le_of_ble_eq_true rfl | (with_reducible refine ck_nzI ?_; simp; done) | (with_reducible refine ck_nzL ?_; simp; done) | (simp only [pk_us, pk_uLs, eq_true ze10, ↓reduceIte, not_true_eq_false, not_false_eq_true]; done) | (simp only [eq_true ze10, ↓reduceIte, not_true_eq_false, not_false_eq_true]; with_reducible rfl) | skip)


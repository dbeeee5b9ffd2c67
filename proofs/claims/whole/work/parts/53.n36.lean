def bX11_signed_0 : List kx_O := [(.aload_n 0, 0, 0, 0, .null)]
theorem kX11_signed_0 : kx_oks kxL_X11 false cX11_signed 0 bX11_signed_0 = true := by decide +kernel
def bX11_signed_4 : List kx_O := [(.ifCond .eq 16, 20, 0, 0, .null)]
theorem kX11_signed_4 : kx_oks kxL_X11 false cX11_signed 4 bX11_signed_4 = true := by decide +kernel
def bX11_signed_7 : List kx_O := [(.aload_n 0, 0, 0, 0, .null)]
theorem kX11_signed_7 : kx_oks kxL_X11 false cX11_signed 7 bX11_signed_7 = true := by decide +kernel
def bX11_signed_11 : List kx_O := [(.bipush 45, 0, 0, 0, .int 45), (.if_icmp .ne 7, 20, 0, 0, .null)]
theorem kX11_signed_11 : kx_oks kxL_X11 false cX11_signed 11 bX11_signed_11 = true := by decide +kernel
def bX11_signed_16 : List kx_O := [(.iconst 1, 0, 0, 0, .int 1), (.goto 4, 21, 0, 0, .null)]
theorem kX11_signed_16 : kx_oks kxL_X11 false cX11_signed 16 bX11_signed_16 = true := by decide +kernel
def bX11_signed_20 : List kx_O := [(.iconst 0, 0, 0, 0, .int 0)]
theorem kX11_signed_20 : kx_oks kxL_X11 false cX11_signed 20 bX11_signed_20 = true := by decide +kernel
def bX11_signed_21 : List kx_O := [(.istore_n 1, 1, 0, 0, .null), (.iload_n 1, 1, 0, 0, .null), (.ifCond .eq 13, 36, 0, 0, .null)]
theorem kX11_signed_21 : kx_oks kxL_X11 false cX11_signed 21 bX11_signed_21 = true := by decide +kernel
def bX11_signed_26 : List kx_O := [(.aload_n 0, 0, 0, 0, .null), (.dup, 0, 0, 0, .null), (.getfield 198, 11, 7, 0, .null), (.iconst 1, 0, 0, 0, .int 1), (.iadd, 0, 0, 0, .null), (.putfield 198, 11, 7, 0, .null)]
theorem kX11_signed_26 : kx_oks kxL_X11 false cX11_signed 26 bX11_signed_26 = true := by decide +kernel
def bX11_signed_36 : List kx_O := [(.aload_n 0, 0, 0, 0, .null), (.iconst 0, 0, 0, 0, .int 0), (.sipush 500, 0, 0, 0, .int 500)]
theorem kX11_signed_36 : kx_oks kxL_X11 false cX11_signed 36 bX11_signed_36 = true := by decide +kernel
def bX11_signed_44 : List kx_O := [(.istore_n 2, 2, 0, 0, .null), (.iload_n 1, 1, 0, 0, .null), (.ifCond .eq 8, 54, 0, 0, .null)]
theorem kX11_signed_44 : kx_oks kxL_X11 false cX11_signed 44 bX11_signed_44 = true := by decide +kernel
def bX11_signed_49 : List kx_O := [(.iload_n 2, 2, 0, 0, .null), (.ineg, 0, 0, 0, .null), (.goto 4, 55, 0, 0, .null)]
theorem kX11_signed_49 : kx_oks kxL_X11 false cX11_signed 49 bX11_signed_49 = true := by decide +kernel
def bX11_signed_54 : List kx_O := [(.iload_n 2, 2, 0, 0, .null)]
theorem kX11_signed_54 : kx_oks kxL_X11 false cX11_signed 54 bX11_signed_54 = true := by decide +kernel
def bX11_signed_55 : List kx_O := [(.ireturn, 0, 0, 0, .null)]
theorem kX11_signed_55 : kx_oks kxL_X11 false cX11_signed 55 bX11_signed_55 = true := by decide +kernel
theorem dX11_signed_1 : decode cX11_signed 1 = .ok (.invokevirtual 212, 3) := by decide +kernel
theorem dX11_signed_8 : decode cX11_signed 8 = .ok (.invokevirtual 204, 3) := by decide +kernel
theorem dX11_signed_41 : decode cX11_signed 41 = .ok (.invokevirtual 224, 3) := by decide +kernel
set_option maxRecDepth 100000 in
set_option maxHeartbeats 4000000 in
theorem ct_X11_signed_f (l : Launch) (G : kx_G) {M : Nat → Int32} {A : Nat → Nat → Int32} {L : Nat → Nat → Int64} {R : kx_P} {sz : Nat} {a c n : Nat} {b k o : Int32} {C N : Nat → Int32} (h6 : M 6 = nI n) (hn : n ≤ 400) (ha : a ≤ n) (hb : ¬ b = -1)  : kx_M l G sX11_signed 4 0 0 [.ref 93] (mW (ck_pM M a b k o c) (ck_pA A C N) L R) sz (some (.int (0))) (mW (ck_pM M a b k o c) (ck_pA A C N) L R) sz := by
  refine kx_mk kx_tab kxLok_X11 (ini := false) [some (.ref 93), none, none] ⟨by decide, rfl, by decide, by decide⟩ (⟨_, rfl⟩) rfl rfl (fun g hB hC => ?_)
  refine hB bX11_signed_0 _ _ _ _ _ _ _ kX11_signed_0 ?_
  dsimp only [bX11_signed_0, kx_wp, kx_step, kx_lI, kx_lL, kx_lA, kx_gl, kx_pI, kx_pL, kx_pR, kx_pA, kx_pV, kx_s1, kx_s2, kx_sl, kx_pre, kx_c2, kx_pl, kx_cmp, kx_oF, kx_eqN, kx_nil, kx_c1, kx_ft, kx_aI, kx_aL, kx_aR, kx_ln, Nat.reduceAdd, Option.toList, List.cons_append, List.nil_append, mW_o, mf_7]
  repeat (simp only [mu_7, mW_so, ck_p6, ck_p7, ck_p8, ck_p10, ck_p11, ck_p12, ck_p13, ck_p15, h6, nI_1, ck_pu7, ck_pu10, ck_pu11, ck_pu12, ck_pu13, ck_pu15, ck_pa95, ck_pa96, ck_pa97, ck_pa98, ck_pa99, ck_pem, ck_pau96, ck_pau99, va_us, va_upn, ne_eq, Nat.reduceEqDiff, not_false_eq_true]; try dsimp only [kx_wp, kx_step, kx_lI, kx_lL, kx_lA, kx_gl, kx_pI, kx_pL, kx_pR, kx_pA, kx_pV, kx_s1, kx_s2, kx_sl, kx_pre, kx_c2, kx_pl, kx_cmp, kx_oF, kx_eqN, kx_nil, kx_c1, kx_ft, kx_aI, kx_aL, kx_aR, kx_ln, Nat.reduceAdd, Option.toList, List.cons_append, List.nil_append, mW_o, mf_7])
  repeat' apply And.intro
  all_goals try (first | with_reducible assumption | (with_reducible refine ck_nzI ?_; simp; done) | (with_reducible refine ck_nzL ?_; simp; done) | (with_reducible refine vp_in_nI ?_ ?_ <;> first | omega | decide) | (with_reducible refine Nat.le_of_ble_eq_true ?_; rfl) | omega)
  refine hC.1 212 _ _ _ _ _ _ _ 11 _ _ _ _ _ _ _ _ _ _ _ _ lX11_212 (ct_X11_fine l G) ⟨by decide, rfl⟩ (mW_o) rfl rfl (Nat.le_of_ble_eq_true rfl) (by decide) (by decide) (by omega) (by omega) dX11_signed_1 ?_
  rw [ck_p8, if_neg hb]
  refine hB bX11_signed_4 _ _ _ _ _ _ _ kX11_signed_4 ?_
  dsimp only [bX11_signed_4, kx_wp, kx_step, kx_lI, kx_lL, kx_lA, kx_gl, kx_pI, kx_pL, kx_pR, kx_pA, kx_pV, kx_s1, kx_s2, kx_sl, kx_pre, kx_c2, kx_pl, kx_cmp, kx_oF, kx_eqN, kx_nil, kx_c1, kx_ft, kx_aI, kx_aL, kx_aR, kx_ln, Nat.reduceAdd, Option.toList, List.cons_append, List.nil_append, mW_o, mf_7]
  repeat (simp only [mu_7, mW_so, ck_p6, ck_p7, ck_p8, ck_p10, ck_p11, ck_p12, ck_p13, ck_p15, h6, nI_1, ck_pu7, ck_pu10, ck_pu11, ck_pu12, ck_pu13, ck_pu15, ck_pa95, ck_pa96, ck_pa97, ck_pa98, ck_pa99, ck_pem, ck_pau96, ck_pau99, va_us, va_upn, ne_eq, Nat.reduceEqDiff, not_false_eq_true]; try dsimp only [kx_wp, kx_step, kx_lI, kx_lL, kx_lA, kx_gl, kx_pI, kx_pL, kx_pR, kx_pA, kx_pV, kx_s1, kx_s2, kx_sl, kx_pre, kx_c2, kx_pl, kx_cmp, kx_oF, kx_eqN, kx_nil, kx_c1, kx_ft, kx_aI, kx_aL, kx_aR, kx_ln, Nat.reduceAdd, Option.toList, List.cons_append, List.nil_append, mW_o, mf_7])
  repeat' apply And.intro
  all_goals try (first | with_reducible assumption | (with_reducible refine ck_nzI ?_; simp; done) | (with_reducible refine ck_nzL ?_; simp; done) | (with_reducible refine vp_in_nI ?_ ?_ <;> first | omega | decide) | (with_reducible refine Nat.le_of_ble_eq_true ?_; rfl) | omega)
  · intro zc4
    have ze4 := zc4
    refine hB bX11_signed_20 _ _ _ _ _ _ _ kX11_signed_20 ?_
    dsimp only [bX11_signed_20, kx_wp, kx_step, kx_lI, kx_lL, kx_lA, kx_gl, kx_pI, kx_pL, kx_pR, kx_pA, kx_pV, kx_s1, kx_s2, kx_sl, kx_pre, kx_c2, kx_pl, kx_cmp, kx_oF, kx_eqN, kx_nil, kx_c1, kx_ft, kx_aI, kx_aL, kx_aR, kx_ln, Nat.reduceAdd, Option.toList, List.cons_append, List.nil_append, mW_o, mf_7]
    repeat (simp only [mu_7, mW_so, ck_p6, ck_p7, ck_p8, ck_p10, ck_p11, ck_p12, ck_p13, ck_p15, h6, nI_1, ck_pu7, ck_pu10, ck_pu11, ck_pu12, ck_pu13, ck_pu15, ck_pa95, ck_pa96, ck_pa97, ck_pa98, ck_pa99, ck_pem, ck_pau96, ck_pau99, va_us, va_upn, ne_eq, Nat.reduceEqDiff, not_false_eq_true]; try dsimp only [kx_wp, kx_step, kx_lI, kx_lL, kx_lA, kx_gl, kx_pI, kx_pL, kx_pR, kx_pA, kx_pV, kx_s1, kx_s2, kx_sl, kx_pre, kx_c2, kx_pl, kx_cmp, kx_oF, kx_eqN, kx_nil, kx_c1, kx_ft, kx_aI, kx_aL, kx_aR, kx_ln, Nat.reduceAdd, Option.toList, List.cons_append, List.nil_append, mW_o, mf_7])
    repeat' apply And.intro
    all_goals try (first | with_reducible assumption | (with_reducible refine ck_nzI ?_; simp; done) | (with_reducible refine ck_nzL ?_; simp; done) | (with_reducible refine vp_in_nI ?_ ?_ <;> first | omega | decide) | (with_reducible refine Nat.le_of_ble_eq_true ?_; rfl) | omega)
    refine hB bX11_signed_21 _ _ _ _ _ _ _ kX11_signed_21 ?_
    dsimp only [bX11_signed_21, kx_wp, kx_step, kx_lI, kx_lL, kx_lA, kx_gl, kx_pI, kx_pL, kx_pR, kx_pA, kx_pV, kx_s1, kx_s2, kx_sl, kx_pre, kx_c2, kx_pl, kx_cmp, kx_oF, kx_eqN, kx_nil, kx_c1, kx_ft, kx_aI, kx_aL, kx_aR, kx_ln, Nat.reduceAdd, Option.toList, List.cons_append, List.nil_append, mW_o, mf_7]
    repeat (simp only [mu_7, mW_so, ck_p6, ck_p7, ck_p8, ck_p10, ck_p11, ck_p12, ck_p13, ck_p15, h6, nI_1, ck_pu7, ck_pu10, ck_pu11, ck_pu12, ck_pu13, ck_pu15, ck_pa95, ck_pa96, ck_pa97, ck_pa98, ck_pa99, ck_pem, ck_pau96, ck_pau99, va_us, va_upn, ne_eq, Nat.reduceEqDiff, not_false_eq_true]; try dsimp only [kx_wp, kx_step, kx_lI, kx_lL, kx_lA, kx_gl, kx_pI, kx_pL, kx_pR, kx_pA, kx_pV, kx_s1, kx_s2, kx_sl, kx_pre, kx_c2, kx_pl, kx_cmp, kx_oF, kx_eqN, kx_nil, kx_c1, kx_ft, kx_aI, kx_aL, kx_aR, kx_ln, Nat.reduceAdd, Option.toList, List.cons_append, List.nil_append, mW_o, mf_7])
    repeat' apply And.intro
    all_goals try (first | with_reducible assumption | (with_reducible refine ck_nzI ?_; simp; done) | (with_reducible refine ck_nzL ?_; simp; done) | (with_reducible refine vp_in_nI ?_ ?_ <;> first | omega | decide) | (with_reducible refine Nat.le_of_ble_eq_true ?_; rfl) | omega)
    · intro zc23
      have ze23 := zc23
      refine hB bX11_signed_36 _ _ _ _ _ _ _ kX11_signed_36 ?_
      dsimp only [bX11_signed_36, kx_wp, kx_step, kx_lI, kx_lL, kx_lA, kx_gl, kx_pI, kx_pL, kx_pR, kx_pA, kx_pV, kx_s1, kx_s2, kx_sl, kx_pre, kx_c2, kx_pl, kx_cmp, kx_oF, kx_eqN, kx_nil, kx_c1, kx_ft, kx_aI, kx_aL, kx_aR, kx_ln, Nat.reduceAdd, Option.toList, List.cons_append, List.nil_append, mW_o, mf_7]
      repeat (simp only [mu_7, mW_so, ck_p6, ck_p7, ck_p8, ck_p10, ck_p11, ck_p12, ck_p13, ck_p15, h6, nI_1, ck_pu7, ck_pu10, ck_pu11, ck_pu12, ck_pu13, ck_pu15, ck_pa95, ck_pa96, ck_pa97, ck_pa98, ck_pa99, ck_pem, ck_pau96, ck_pau99, va_us, va_upn, ne_eq, Nat.reduceEqDiff, not_false_eq_true]; try dsimp only [kx_wp, kx_step, kx_lI, kx_lL, kx_lA, kx_gl, kx_pI, kx_pL, kx_pR, kx_pA, kx_pV, kx_s1, kx_s2, kx_sl, kx_pre, kx_c2, kx_pl, kx_cmp, kx_oF, kx_eqN, kx_nil, kx_c1, kx_ft, kx_aI, kx_aL, kx_aR, kx_ln, Nat.reduceAdd, Option.toList, List.cons_append, List.nil_append, mW_o, mf_7])
      repeat' apply And.intro
      all_goals try (first | with_reducible assumption | (with_reducible refine ck_nzI ?_; simp; done) | (with_reducible refine ck_nzL ?_; simp; done) | (with_reducible refine vp_in_nI ?_ ?_ <;> first | omega | decide) | (with_reducible refine Nat.le_of_ble_eq_true ?_; rfl) | omega)
      refine hC.1 224 _ _ _ _ _ _ _ 11 _ _ _ _ _ _ _ _ _ _ _ _ lX11_224 (ct_X11_number_f l G h6 hn ha hb) ⟨by decide, rfl⟩ (mW_o) rfl rfl (Nat.le_of_ble_eq_true rfl) (by decide) (by decide) (by omega) (by omega) dX11_signed_41 ?_
      refine hB bX11_signed_44 _ _ _ _ _ _ _ kX11_signed_44 ?_
      dsimp only [bX11_signed_44, kx_wp, kx_step, kx_lI, kx_lL, kx_lA, kx_gl, kx_pI, kx_pL, kx_pR, kx_pA, kx_pV, kx_s1, kx_s2, kx_sl, kx_pre, kx_c2, kx_pl, kx_cmp, kx_oF, kx_eqN, kx_nil, kx_c1, kx_ft, kx_aI, kx_aL, kx_aR, kx_ln, Nat.reduceAdd, Option.toList, List.cons_append, List.nil_append, mW_o, mf_7]
      repeat (simp only [mu_7, mW_so, ck_p6, ck_p7, ck_p8, ck_p10, ck_p11, ck_p12, ck_p13, ck_p15, h6, nI_1, ck_pu7, ck_pu10, ck_pu11, ck_pu12, ck_pu13, ck_pu15, ck_pa95, ck_pa96, ck_pa97, ck_pa98, ck_pa99, ck_pem, ck_pau96, ck_pau99, va_us, va_upn, ne_eq, Nat.reduceEqDiff, not_false_eq_true]; try dsimp only [kx_wp, kx_step, kx_lI, kx_lL, kx_lA, kx_gl, kx_pI, kx_pL, kx_pR, kx_pA, kx_pV, kx_s1, kx_s2, kx_sl, kx_pre, kx_c2, kx_pl, kx_cmp, kx_oF, kx_eqN, kx_nil, kx_c1, kx_ft, kx_aI, kx_aL, kx_aR, kx_ln, Nat.reduceAdd, Option.toList, List.cons_append, List.nil_append, mW_o, mf_7])
      repeat' apply And.intro
      all_goals try (first | with_reducible assumption | (with_reducible refine ck_nzI ?_; simp; done) | (with_reducible refine ck_nzL ?_; simp; done) | (with_reducible refine vp_in_nI ?_ ?_ <;> first | omega | decide) | (with_reducible refine Nat.le_of_ble_eq_true ?_; rfl) | omega)
      · intro zc46
        have ze46 := zc46
        refine hB bX11_signed_54 _ _ _ _ _ _ _ kX11_signed_54 ?_
        dsimp only [bX11_signed_54, kx_wp, kx_step, kx_lI, kx_lL, kx_lA, kx_gl, kx_pI, kx_pL, kx_pR, kx_pA, kx_pV, kx_s1, kx_s2, kx_sl, kx_pre, kx_c2, kx_pl, kx_cmp, kx_oF, kx_eqN, kx_nil, kx_c1, kx_ft, kx_aI, kx_aL, kx_aR, kx_ln, Nat.reduceAdd, Option.toList, List.cons_append, List.nil_append, mW_o, mf_7]
        repeat (simp only [mu_7, mW_so, ck_p6, ck_p7, ck_p8, ck_p10, ck_p11, ck_p12, ck_p13, ck_p15, h6, nI_1, ck_pu7, ck_pu10, ck_pu11, ck_pu12, ck_pu13, ck_pu15, ck_pa95, ck_pa96, ck_pa97, ck_pa98, ck_pa99, ck_pem, ck_pau96, ck_pau99, va_us, va_upn, ne_eq, Nat.reduceEqDiff, not_false_eq_true]; try dsimp only [kx_wp, kx_step, kx_lI, kx_lL, kx_lA, kx_gl, kx_pI, kx_pL, kx_pR, kx_pA, kx_pV, kx_s1, kx_s2, kx_sl, kx_pre, kx_c2, kx_pl, kx_cmp, kx_oF, kx_eqN, kx_nil, kx_c1, kx_ft, kx_aI, kx_aL, kx_aR, kx_ln, Nat.reduceAdd, Option.toList, List.cons_append, List.nil_append, mW_o, mf_7])
        repeat' apply And.intro
        all_goals try (first | with_reducible assumption | (with_reducible refine ck_nzI ?_; simp; done) | (with_reducible refine ck_nzL ?_; simp; done) | (with_reducible refine vp_in_nI ?_ ?_ <;> first | omega | decide) | (with_reducible refine Nat.le_of_ble_eq_true ?_; rfl) | omega)
        refine hB bX11_signed_55 _ _ _ _ _ _ _ kX11_signed_55 ?_
        dsimp only [bX11_signed_55, kx_wp, kx_step, kx_lI, kx_lL, kx_lA, kx_gl, kx_pI, kx_pL, kx_pR, kx_pA, kx_pV, kx_s1, kx_s2, kx_sl, kx_pre, kx_c2, kx_pl, kx_cmp, kx_oF, kx_eqN, kx_nil, kx_c1, kx_ft, kx_aI, kx_aL, kx_aR, kx_ln, Nat.reduceAdd, Option.toList, List.cons_append, List.nil_append, mW_o, mf_7]
        repeat (simp only [mu_7, mW_so, ck_p6, ck_p7, ck_p8, ck_p10, ck_p11, ck_p12, ck_p13, ck_p15, h6, nI_1, ck_pu7, ck_pu10, ck_pu11, ck_pu12, ck_pu13, ck_pu15, ck_pa95, ck_pa96, ck_pa97, ck_pa98, ck_pa99, ck_pem, ck_pau96, ck_pau99, va_us, va_upn, ne_eq, Nat.reduceEqDiff, not_false_eq_true]; try dsimp only [kx_wp, kx_step, kx_lI, kx_lL, kx_lA, kx_gl, kx_pI, kx_pL, kx_pR, kx_pA, kx_pV, kx_s1, kx_s2, kx_sl, kx_pre, kx_c2, kx_pl, kx_cmp, kx_oF, kx_eqN, kx_nil, kx_c1, kx_ft, kx_aI, kx_aL, kx_aR, kx_ln, Nat.reduceAdd, Option.toList, List.cons_append, List.nil_append, mW_o, mf_7])
        all_goals (repeat' apply And.intro)
        all_goals ((try clear hB hC); first | exact True.intro | with_reducible rfl | with_reducible assumption | (with_reducible refine vp_in_nI ?_ ?_ <;> first | omega | decide) | exact Nat.le_of_ble_eq_true rfl | (with_reducible refine ck_nzI ?_; simp; done) | (with_reducible refine ck_nzL ?_; simp; done) | (simp only [pk_us, pk_uLs, eq_true ze4, eq_true ze23, eq_true ze46, ↓reduceIte, not_true_eq_false, not_false_eq_true]; done) | (simp only [eq_true ze4, eq_true ze23, eq_true ze46, ↓reduceIte, not_true_eq_false, not_false_eq_true]; with_reducible rfl) | skip)
      · intro zc46
        first | exact absurd rfl zc46 | exact absurd zc46 (by decide) | exact absurd (by decide) zc46 | (exfalso; first | exact absurd zc23 (by decide) | exact zc23 rfl | exact absurd zc46 (by decide) | exact zc46 rfl) | (exfalso; simp_all; done)
    · intro zc23
      first | exact absurd rfl zc23 | exact absurd zc23 (by decide) | exact absurd (by decide) zc23 | (exfalso; first | exact absurd zc23 (by decide) | exact zc23 rfl | exact absurd zc46 (by decide) | exact zc46 rfl) | (exfalso; simp_all; done)
  · intro zc4
    first | exact absurd rfl zc4 | exact absurd zc4 (by decide) | exact absurd (by decide) zc4 | (exfalso; first | exact absurd zc23 (by decide) | exact zc23 rfl | exact absurd zc46 (by decide) | exact zc46 rfl) | (exfalso; simp_all; done)

set_option maxRecDepth 100000 in
set_option maxHeartbeats 4000000 in
theorem ct_X11_signed_m (l : Launch) (G : kx_G) {M : Nat → Int32} {A : Nat → Nat → Int32} {L : Nat → Nat → Int64} {R : kx_P} {sz : Nat} {a c n : Nat} {k o : Int32} {C N : Nat → Int32} (h6 : M 6 = nI n) (hn : n ≤ 400) (ha : a ≤ n) (hc : ck_hcx (A 95) n a = 45)  : kx_M l G sX11_signed 4 0 0 [.ref 93] (mW (ck_pM M a ((-1)) k o c) (ck_pA A C N) L R) sz (some (.int (-(ck_num (A 95) n 0 500 (ck_sk (A 95) n a + 1) (-1) k).1))) (mW (ck_pM M ((ck_num (A 95) n 0 500 (ck_sk (A 95) n a + 1) (-1) k).2.1) ((ck_num (A 95) n 0 500 (ck_sk (A 95) n a + 1) (-1) k).2.2.1) ((ck_num (A 95) n 0 500 (ck_sk (A 95) n a + 1) (-1) k).2.2.2) o c) (ck_pA A C N) L R) sz := by
  have zsk := ck_sk_le (A 95) ha
  have zlt := ck_hcx_lt (T := A 95) (n := n) (a := a) (by rw [hc]; decide)
  refine kx_mk kx_tab kxLok_X11 (ini := false) [some (.ref 93), none, none] ⟨by decide, rfl, by decide, by decide⟩ (⟨_, rfl⟩) rfl rfl (fun g hB hC => ?_)
  refine hB bX11_signed_0 _ _ _ _ _ _ _ kX11_signed_0 ?_
  dsimp only [bX11_signed_0, kx_wp, kx_step, kx_lI, kx_lL, kx_lA, kx_gl, kx_pI, kx_pL, kx_pR, kx_pA, kx_pV, kx_s1, kx_s2, kx_sl, kx_pre, kx_c2, kx_pl, kx_cmp, kx_oF, kx_eqN, kx_nil, kx_c1, kx_ft, kx_aI, kx_aL, kx_aR, kx_ln, Nat.reduceAdd, Option.toList, List.cons_append, List.nil_append, mW_o, mf_7]
  repeat (simp only [mu_7, mW_so, ck_p6, ck_p7, ck_p8, ck_p10, ck_p11, ck_p12, ck_p13, ck_p15, h6, nI_1, ck_pu7, ck_pu10, ck_pu11, ck_pu12, ck_pu13, ck_pu15, ck_pa95, ck_pa96, ck_pa97, ck_pa98, ck_pa99, ck_pem, ck_pau96, ck_pau99, va_us, va_upn, ne_eq, Nat.reduceEqDiff, not_false_eq_true]; try dsimp only [kx_wp, kx_step, kx_lI, kx_lL, kx_lA, kx_gl, kx_pI, kx_pL, kx_pR, kx_pA, kx_pV, kx_s1, kx_s2, kx_sl, kx_pre, kx_c2, kx_pl, kx_cmp, kx_oF, kx_eqN, kx_nil, kx_c1, kx_ft, kx_aI, kx_aL, kx_aR, kx_ln, Nat.reduceAdd, Option.toList, List.cons_append, List.nil_append, mW_o, mf_7])
  repeat' apply And.intro
  all_goals try (first | with_reducible assumption | (with_reducible refine ck_nzI ?_; simp; done) | (with_reducible refine ck_nzL ?_; simp; done) | (with_reducible refine vp_in_nI ?_ ?_ <;> first | omega | decide) | (with_reducible refine Nat.le_of_ble_eq_true ?_; rfl) | omega)
  refine hC.1 212 _ _ _ _ _ _ _ 11 _ _ _ _ _ _ _ _ _ _ _ _ lX11_212 (ct_X11_fine l G) ⟨by decide, rfl⟩ (mW_o) rfl rfl (Nat.le_of_ble_eq_true rfl) (by decide) (by decide) (by omega) (by omega) dX11_signed_1 ?_
  rw [ck_p8, if_pos rfl]
  refine hB bX11_signed_4 _ _ _ _ _ _ _ kX11_signed_4 ?_
  dsimp only [bX11_signed_4, kx_wp, kx_step, kx_lI, kx_lL, kx_lA, kx_gl, kx_pI, kx_pL, kx_pR, kx_pA, kx_pV, kx_s1, kx_s2, kx_sl, kx_pre, kx_c2, kx_pl, kx_cmp, kx_oF, kx_eqN, kx_nil, kx_c1, kx_ft, kx_aI, kx_aL, kx_aR, kx_ln, Nat.reduceAdd, Option.toList, List.cons_append, List.nil_append, mW_o, mf_7]
  repeat (simp only [mu_7, mW_so, ck_p6, ck_p7, ck_p8, ck_p10, ck_p11, ck_p12, ck_p13, ck_p15, h6, nI_1, ck_pu7, ck_pu10, ck_pu11, ck_pu12, ck_pu13, ck_pu15, ck_pa95, ck_pa96, ck_pa97, ck_pa98, ck_pa99, ck_pem, ck_pau96, ck_pau99, va_us, va_upn, ne_eq, Nat.reduceEqDiff, not_false_eq_true]; try dsimp only [kx_wp, kx_step, kx_lI, kx_lL, kx_lA, kx_gl, kx_pI, kx_pL, kx_pR, kx_pA, kx_pV, kx_s1, kx_s2, kx_sl, kx_pre, kx_c2, kx_pl, kx_cmp, kx_oF, kx_eqN, kx_nil, kx_c1, kx_ft, kx_aI, kx_aL, kx_aR, kx_ln, Nat.reduceAdd, Option.toList, List.cons_append, List.nil_append, mW_o, mf_7])
  repeat' apply And.intro
  all_goals try (first | with_reducible assumption | (with_reducible refine ck_nzI ?_; simp; done) | (with_reducible refine ck_nzL ?_; simp; done) | (with_reducible refine vp_in_nI ?_ ?_ <;> first | omega | decide) | (with_reducible refine Nat.le_of_ble_eq_true ?_; rfl) | omega)
  · intro zc4
    first | exact absurd rfl zc4 | exact absurd zc4 (by decide) | exact absurd (by decide) zc4 | (exfalso; first | exact zc13 hc | exact hc zc13 | exact hc (Decidable.not_not.mp zc13) | exact absurd zc23 (by decide) | exact zc23 rfl | exact absurd zc46 (by decide) | exact zc46 rfl) | (exfalso; simp_all; done)
  · intro zc4
    have ze4 := zc4
    refine hB bX11_signed_7 _ _ _ _ _ _ _ kX11_signed_7 ?_
    dsimp only [bX11_signed_7, kx_wp, kx_step, kx_lI, kx_lL, kx_lA, kx_gl, kx_pI, kx_pL, kx_pR, kx_pA, kx_pV, kx_s1, kx_s2, kx_sl, kx_pre, kx_c2, kx_pl, kx_cmp, kx_oF, kx_eqN, kx_nil, kx_c1, kx_ft, kx_aI, kx_aL, kx_aR, kx_ln, Nat.reduceAdd, Option.toList, List.cons_append, List.nil_append, mW_o, mf_7]
    repeat (simp only [mu_7, mW_so, ck_p6, ck_p7, ck_p8, ck_p10, ck_p11, ck_p12, ck_p13, ck_p15, h6, nI_1, ck_pu7, ck_pu10, ck_pu11, ck_pu12, ck_pu13, ck_pu15, ck_pa95, ck_pa96, ck_pa97, ck_pa98, ck_pa99, ck_pem, ck_pau96, ck_pau99, va_us, va_upn, ne_eq, Nat.reduceEqDiff, not_false_eq_true]; try dsimp only [kx_wp, kx_step, kx_lI, kx_lL, kx_lA, kx_gl, kx_pI, kx_pL, kx_pR, kx_pA, kx_pV, kx_s1, kx_s2, kx_sl, kx_pre, kx_c2, kx_pl, kx_cmp, kx_oF, kx_eqN, kx_nil, kx_c1, kx_ft, kx_aI, kx_aL, kx_aR, kx_ln, Nat.reduceAdd, Option.toList, List.cons_append, List.nil_append, mW_o, mf_7])
    repeat' apply And.intro
    all_goals try (first | with_reducible assumption | (with_reducible refine ck_nzI ?_; simp; done) | (with_reducible refine ck_nzL ?_; simp; done) | (with_reducible refine vp_in_nI ?_ ?_ <;> first | omega | decide) | (with_reducible refine Nat.le_of_ble_eq_true ?_; rfl) | omega)
    refine hC.1 204 _ _ _ _ _ _ _ 11 _ _ _ _ _ _ _ _ _ _ _ _ lX11_204 (ct_X11_here l G h6 hn ha) ⟨by decide, rfl⟩ (mW_o) rfl rfl (Nat.le_of_ble_eq_true rfl) (by decide) (by decide) (by omega) (by omega) dX11_signed_8 ?_
    refine hB bX11_signed_11 _ _ _ _ _ _ _ kX11_signed_11 ?_
    dsimp only [bX11_signed_11, kx_wp, kx_step, kx_lI, kx_lL, kx_lA, kx_gl, kx_pI, kx_pL, kx_pR, kx_pA, kx_pV, kx_s1, kx_s2, kx_sl, kx_pre, kx_c2, kx_pl, kx_cmp, kx_oF, kx_eqN, kx_nil, kx_c1, kx_ft, kx_aI, kx_aL, kx_aR, kx_ln, Nat.reduceAdd, Option.toList, List.cons_append, List.nil_append, mW_o, mf_7]
    repeat (simp only [mu_7, mW_so, ck_p6, ck_p7, ck_p8, ck_p10, ck_p11, ck_p12, ck_p13, ck_p15, h6, nI_1, ck_pu7, ck_pu10, ck_pu11, ck_pu12, ck_pu13, ck_pu15, ck_pa95, ck_pa96, ck_pa97, ck_pa98, ck_pa99, ck_pem, ck_pau96, ck_pau99, va_us, va_upn, ne_eq, Nat.reduceEqDiff, not_false_eq_true]; try dsimp only [kx_wp, kx_step, kx_lI, kx_lL, kx_lA, kx_gl, kx_pI, kx_pL, kx_pR, kx_pA, kx_pV, kx_s1, kx_s2, kx_sl, kx_pre, kx_c2, kx_pl, kx_cmp, kx_oF, kx_eqN, kx_nil, kx_c1, kx_ft, kx_aI, kx_aL, kx_aR, kx_ln, Nat.reduceAdd, Option.toList, List.cons_append, List.nil_append, mW_o, mf_7])
    repeat' apply And.intro
    all_goals try (first | with_reducible assumption | (with_reducible refine ck_nzI ?_; simp; done) | (with_reducible refine ck_nzL ?_; simp; done) | (with_reducible refine vp_in_nI ?_ ?_ <;> first | omega | decide) | (with_reducible refine Nat.le_of_ble_eq_true ?_; rfl) | omega)
    · intro zc13
      first | exact absurd rfl zc13 | exact absurd zc13 (by decide) | exact absurd (by decide) zc13 | (exfalso; first | exact zc13 hc | exact hc zc13 | exact hc (Decidable.not_not.mp zc13) | exact absurd zc23 (by decide) | exact zc23 rfl | exact absurd zc46 (by decide) | exact zc46 rfl) | (exfalso; simp_all; done)
    · intro zc13
      with_reducible first | have ze13 := Decidable.not_not.mp zc13 | have ze13 := zc13
      refine hB bX11_signed_16 _ _ _ _ _ _ _ kX11_signed_16 ?_
      dsimp only [bX11_signed_16, kx_wp, kx_step, kx_lI, kx_lL, kx_lA, kx_gl, kx_pI, kx_pL, kx_pR, kx_pA, kx_pV, kx_s1, kx_s2, kx_sl, kx_pre, kx_c2, kx_pl, kx_cmp, kx_oF, kx_eqN, kx_nil, kx_c1, kx_ft, kx_aI, kx_aL, kx_aR, kx_ln, Nat.reduceAdd, Option.toList, List.cons_append, List.nil_append, mW_o, mf_7]
      repeat (simp only [mu_7, mW_so, ck_p6, ck_p7, ck_p8, ck_p10, ck_p11, ck_p12, ck_p13, ck_p15, h6, nI_1, ck_pu7, ck_pu10, ck_pu11, ck_pu12, ck_pu13, ck_pu15, ck_pa95, ck_pa96, ck_pa97, ck_pa98, ck_pa99, ck_pem, ck_pau96, ck_pau99, va_us, va_upn, ne_eq, Nat.reduceEqDiff, not_false_eq_true]; try dsimp only [kx_wp, kx_step, kx_lI, kx_lL, kx_lA, kx_gl, kx_pI, kx_pL, kx_pR, kx_pA, kx_pV, kx_s1, kx_s2, kx_sl, kx_pre, kx_c2, kx_pl, kx_cmp, kx_oF, kx_eqN, kx_nil, kx_c1, kx_ft, kx_aI, kx_aL, kx_aR, kx_ln, Nat.reduceAdd, Option.toList, List.cons_append, List.nil_append, mW_o, mf_7])
      repeat' apply And.intro
      all_goals try (first | with_reducible assumption | (with_reducible refine ck_nzI ?_; simp; done) | (with_reducible refine ck_nzL ?_; simp; done) | (with_reducible refine vp_in_nI ?_ ?_ <;> first | omega | decide) | (with_reducible refine Nat.le_of_ble_eq_true ?_; rfl) | omega)
      refine hB bX11_signed_21 _ _ _ _ _ _ _ kX11_signed_21 ?_
      dsimp only [bX11_signed_21, kx_wp, kx_step, kx_lI, kx_lL, kx_lA, kx_gl, kx_pI, kx_pL, kx_pR, kx_pA, kx_pV, kx_s1, kx_s2, kx_sl, kx_pre, kx_c2, kx_pl, kx_cmp, kx_oF, kx_eqN, kx_nil, kx_c1, kx_ft, kx_aI, kx_aL, kx_aR, kx_ln, Nat.reduceAdd, Option.toList, List.cons_append, List.nil_append, mW_o, mf_7]
      repeat (simp only [mu_7, mW_so, ck_p6, ck_p7, ck_p8, ck_p10, ck_p11, ck_p12, ck_p13, ck_p15, h6, nI_1, ck_pu7, ck_pu10, ck_pu11, ck_pu12, ck_pu13, ck_pu15, ck_pa95, ck_pa96, ck_pa97, ck_pa98, ck_pa99, ck_pem, ck_pau96, ck_pau99, va_us, va_upn, ne_eq, Nat.reduceEqDiff, not_false_eq_true]; try dsimp only [kx_wp, kx_step, kx_lI, kx_lL, kx_lA, kx_gl, kx_pI, kx_pL, kx_pR, kx_pA, kx_pV, kx_s1, kx_s2, kx_sl, kx_pre, kx_c2, kx_pl, kx_cmp, kx_oF, kx_eqN, kx_nil, kx_c1, kx_ft, kx_aI, kx_aL, kx_aR, kx_ln, Nat.reduceAdd, Option.toList, List.cons_append, List.nil_append, mW_o, mf_7])
      repeat' apply And.intro
      all_goals try (first | with_reducible assumption | (with_reducible refine ck_nzI ?_; simp; done) | (with_reducible refine ck_nzL ?_; simp; done) | (with_reducible refine vp_in_nI ?_ ?_ <;> first | omega | decide) | (with_reducible refine Nat.le_of_ble_eq_true ?_; rfl) | omega)
      · intro zc23
        first | exact absurd rfl zc23 | exact absurd zc23 (by decide) | exact absurd (by decide) zc23 | (exfalso; first | exact zc13 hc | exact hc zc13 | exact hc (Decidable.not_not.mp zc13) | exact absurd zc23 (by decide) | exact zc23 rfl | exact absurd zc46 (by decide) | exact zc46 rfl) | (exfalso; simp_all; done)
      · intro zc23
        have ze23 := zc23
        refine hB bX11_signed_26 _ _ _ _ _ _ _ kX11_signed_26 ?_
        dsimp only [bX11_signed_26, kx_wp, kx_step, kx_lI, kx_lL, kx_lA, kx_gl, kx_pI, kx_pL, kx_pR, kx_pA, kx_pV, kx_s1, kx_s2, kx_sl, kx_pre, kx_c2, kx_pl, kx_cmp, kx_oF, kx_eqN, kx_nil, kx_c1, kx_ft, kx_aI, kx_aL, kx_aR, kx_ln, Nat.reduceAdd, Option.toList, List.cons_append, List.nil_append, mW_o, mf_7]
        repeat (simp only [mu_7, mW_so, ck_p6, ck_p7, ck_p8, ck_p10, ck_p11, ck_p12, ck_p13, ck_p15, h6, nI_1, ck_pu7, ck_pu10, ck_pu11, ck_pu12, ck_pu13, ck_pu15, ck_pa95, ck_pa96, ck_pa97, ck_pa98, ck_pa99, ck_pem, ck_pau96, ck_pau99, va_us, va_upn, ne_eq, Nat.reduceEqDiff, not_false_eq_true]; try dsimp only [kx_wp, kx_step, kx_lI, kx_lL, kx_lA, kx_gl, kx_pI, kx_pL, kx_pR, kx_pA, kx_pV, kx_s1, kx_s2, kx_sl, kx_pre, kx_c2, kx_pl, kx_cmp, kx_oF, kx_eqN, kx_nil, kx_c1, kx_ft, kx_aI, kx_aL, kx_aR, kx_ln, Nat.reduceAdd, Option.toList, List.cons_append, List.nil_append, mW_o, mf_7])
        repeat' apply And.intro
        all_goals try (first | with_reducible assumption | (with_reducible refine ck_nzI ?_; simp; done) | (with_reducible refine ck_nzL ?_; simp; done) | (with_reducible refine vp_in_nI ?_ ?_ <;> first | omega | decide) | (with_reducible refine Nat.le_of_ble_eq_true ?_; rfl) | omega)
        refine hB bX11_signed_36 _ _ _ _ _ _ _ kX11_signed_36 ?_
        dsimp only [bX11_signed_36, kx_wp, kx_step, kx_lI, kx_lL, kx_lA, kx_gl, kx_pI, kx_pL, kx_pR, kx_pA, kx_pV, kx_s1, kx_s2, kx_sl, kx_pre, kx_c2, kx_pl, kx_cmp, kx_oF, kx_eqN, kx_nil, kx_c1, kx_ft, kx_aI, kx_aL, kx_aR, kx_ln, Nat.reduceAdd, Option.toList, List.cons_append, List.nil_append, mW_o, mf_7]
        repeat (simp only [mu_7, mW_so, ck_p6, ck_p7, ck_p8, ck_p10, ck_p11, ck_p12, ck_p13, ck_p15, h6, nI_1, ck_pu7, ck_pu10, ck_pu11, ck_pu12, ck_pu13, ck_pu15, ck_pa95, ck_pa96, ck_pa97, ck_pa98, ck_pa99, ck_pem, ck_pau96, ck_pau99, va_us, va_upn, ne_eq, Nat.reduceEqDiff, not_false_eq_true]; try dsimp only [kx_wp, kx_step, kx_lI, kx_lL, kx_lA, kx_gl, kx_pI, kx_pL, kx_pR, kx_pA, kx_pV, kx_s1, kx_s2, kx_sl, kx_pre, kx_c2, kx_pl, kx_cmp, kx_oF, kx_eqN, kx_nil, kx_c1, kx_ft, kx_aI, kx_aL, kx_aR, kx_ln, Nat.reduceAdd, Option.toList, List.cons_append, List.nil_append, mW_o, mf_7])
        repeat' apply And.intro
        all_goals try (first | with_reducible assumption | (with_reducible refine ck_nzI ?_; simp; done) | (with_reducible refine ck_nzL ?_; simp; done) | (with_reducible refine vp_in_nI ?_ ?_ <;> first | omega | decide) | (with_reducible refine Nat.le_of_ble_eq_true ?_; rfl) | omega)
        refine hC.1 224 _ _ _ _ _ _ _ 11 _ _ _ _ _ _ _ _ _ _ _ _ lX11_224 (ct_X11_number l G (a := ck_sk (A 95) n a + 1) h6 hn (by omega)) ⟨by decide, rfl⟩ (mW_o) rfl rfl (Nat.le_of_ble_eq_true rfl) (by decide) (by decide) (by omega) (by omega) dX11_signed_41 ?_
        refine hB bX11_signed_44 _ _ _ _ _ _ _ kX11_signed_44 ?_
        dsimp only [bX11_signed_44, kx_wp, kx_step, kx_lI, kx_lL, kx_lA, kx_gl, kx_pI, kx_pL, kx_pR, kx_pA, kx_pV, kx_s1, kx_s2, kx_sl, kx_pre, kx_c2, kx_pl, kx_cmp, kx_oF, kx_eqN, kx_nil, kx_c1, kx_ft, kx_aI, kx_aL, kx_aR, kx_ln, Nat.reduceAdd, Option.toList, List.cons_append, List.nil_append, mW_o, mf_7]
        repeat (simp only [mu_7, mW_so, ck_p6, ck_p7, ck_p8, ck_p10, ck_p11, ck_p12, ck_p13, ck_p15, h6, nI_1, ck_pu7, ck_pu10, ck_pu11, ck_pu12, ck_pu13, ck_pu15, ck_pa95, ck_pa96, ck_pa97, ck_pa98, ck_pa99, ck_pem, ck_pau96, ck_pau99, va_us, va_upn, ne_eq, Nat.reduceEqDiff, not_false_eq_true]; try dsimp only [kx_wp, kx_step, kx_lI, kx_lL, kx_lA, kx_gl, kx_pI, kx_pL, kx_pR, kx_pA, kx_pV, kx_s1, kx_s2, kx_sl, kx_pre, kx_c2, kx_pl, kx_cmp, kx_oF, kx_eqN, kx_nil, kx_c1, kx_ft, kx_aI, kx_aL, kx_aR, kx_ln, Nat.reduceAdd, Option.toList, List.cons_append, List.nil_append, mW_o, mf_7])
        repeat' apply And.intro
        all_goals try (first | with_reducible assumption | (with_reducible refine ck_nzI ?_; simp; done) | (with_reducible refine ck_nzL ?_; simp; done) | (with_reducible refine vp_in_nI ?_ ?_ <;> first | omega | decide) | (with_reducible refine Nat.le_of_ble_eq_true ?_; rfl) | omega)
        · intro zc46
          first | exact absurd rfl zc46 | exact absurd zc46 (by decide) | exact absurd (by decide) zc46 | (exfalso; first | exact zc13 hc | exact hc zc13 | exact hc (Decidable.not_not.mp zc13) | exact absurd zc23 (by decide) | exact zc23 rfl | exact absurd zc46 (by decide) | exact zc46 rfl) | (exfalso; simp_all; done)
        · intro zc46
          have ze46 := zc46
          refine hB bX11_signed_49 _ _ _ _ _ _ _ kX11_signed_49 ?_
          dsimp only [bX11_signed_49, kx_wp, kx_step, kx_lI, kx_lL, kx_lA, kx_gl, kx_pI, kx_pL, kx_pR, kx_pA, kx_pV, kx_s1, kx_s2, kx_sl, kx_pre, kx_c2, kx_pl, kx_cmp, kx_oF, kx_eqN, kx_nil, kx_c1, kx_ft, kx_aI, kx_aL, kx_aR, kx_ln, Nat.reduceAdd, Option.toList, List.cons_append, List.nil_append, mW_o, mf_7]
          repeat (simp only [mu_7, mW_so, ck_p6, ck_p7, ck_p8, ck_p10, ck_p11, ck_p12, ck_p13, ck_p15, h6, nI_1, ck_pu7, ck_pu10, ck_pu11, ck_pu12, ck_pu13, ck_pu15, ck_pa95, ck_pa96, ck_pa97, ck_pa98, ck_pa99, ck_pem, ck_pau96, ck_pau99, va_us, va_upn, ne_eq, Nat.reduceEqDiff, not_false_eq_true]; try dsimp only [kx_wp, kx_step, kx_lI, kx_lL, kx_lA, kx_gl, kx_pI, kx_pL, kx_pR, kx_pA, kx_pV, kx_s1, kx_s2, kx_sl, kx_pre, kx_c2, kx_pl, kx_cmp, kx_oF, kx_eqN, kx_nil, kx_c1, kx_ft, kx_aI, kx_aL, kx_aR, kx_ln, Nat.reduceAdd, Option.toList, List.cons_append, List.nil_append, mW_o, mf_7])
          repeat' apply And.intro
          all_goals try (first | with_reducible assumption | (with_reducible refine ck_nzI ?_; simp; done) | (with_reducible refine ck_nzL ?_; simp; done) | (with_reducible refine vp_in_nI ?_ ?_ <;> first | omega | decide) | (with_reducible refine Nat.le_of_ble_eq_true ?_; rfl) | omega)
          refine hB bX11_signed_55 _ _ _ _ _ _ _ kX11_signed_55 ?_
          dsimp only [bX11_signed_55, kx_wp, kx_step, kx_lI, kx_lL, kx_lA, kx_gl, kx_pI, kx_pL, kx_pR, kx_pA, kx_pV, kx_s1, kx_s2, kx_sl, kx_pre, kx_c2, kx_pl, kx_cmp, kx_oF, kx_eqN, kx_nil, kx_c1, kx_ft, kx_aI, kx_aL, kx_aR, kx_ln, Nat.reduceAdd, Option.toList, List.cons_append, List.nil_append, mW_o, mf_7]
          repeat (simp only [mu_7, mW_so, ck_p6, ck_p7, ck_p8, ck_p10, ck_p11, ck_p12, ck_p13, ck_p15, h6, nI_1, ck_pu7, ck_pu10, ck_pu11, ck_pu12, ck_pu13, ck_pu15, ck_pa95, ck_pa96, ck_pa97, ck_pa98, ck_pa99, ck_pem, ck_pau96, ck_pau99, va_us, va_upn, ne_eq, Nat.reduceEqDiff, not_false_eq_true]; try dsimp only [kx_wp, kx_step, kx_lI, kx_lL, kx_lA, kx_gl, kx_pI, kx_pL, kx_pR, kx_pA, kx_pV, kx_s1, kx_s2, kx_sl, kx_pre, kx_c2, kx_pl, kx_cmp, kx_oF, kx_eqN, kx_nil, kx_c1, kx_ft, kx_aI, kx_aL, kx_aR, kx_ln, Nat.reduceAdd, Option.toList, List.cons_append, List.nil_append, mW_o, mf_7])
          all_goals (repeat' apply And.intro)
          all_goals ((try clear hB hC); first | exact True.intro | with_reducible rfl | with_reducible assumption | (with_reducible refine vp_in_nI ?_ ?_ <;> first | omega | decide) | exact Nat.le_of_ble_eq_true rfl | (with_reducible refine ck_nzI ?_; simp; done) | (with_reducible refine ck_nzL ?_; simp; done) | (simp only [pk_us, pk_uLs, ze4, eq_true ze13, ze23, ze46, ↓reduceIte, not_true_eq_false, not_false_eq_true]; done) | (simp only [ze4, eq_true ze13, ze23, ze46, ↓reduceIte, not_true_eq_false, not_false_eq_true]; with_reducible rfl) | skip)

set_option maxRecDepth 100000 in
set_option maxHeartbeats 4000000 in
theorem ct_X11_signed_p (l : Launch) (G : kx_G) {M : Nat → Int32} {A : Nat → Nat → Int32} {L : Nat → Nat → Int64} {R : kx_P} {sz : Nat} {a c n : Nat} {k o : Int32} {C N : Nat → Int32} (h6 : M 6 = nI n) (hn : n ≤ 400) (ha : a ≤ n) (hc : ¬ ck_hcx (A 95) n a = 45)  : kx_M l G sX11_signed 4 0 0 [.ref 93] (mW (ck_pM M a ((-1)) k o c) (ck_pA A C N) L R) sz (some (.int ((ck_num (A 95) n 0 500 (ck_sk (A 95) n a) (-1) k).1))) (mW (ck_pM M ((ck_num (A 95) n 0 500 (ck_sk (A 95) n a) (-1) k).2.1) ((ck_num (A 95) n 0 500 (ck_sk (A 95) n a) (-1) k).2.2.1) ((ck_num (A 95) n 0 500 (ck_sk (A 95) n a) (-1) k).2.2.2) o c) (ck_pA A C N) L R) sz := by
  have zsk := ck_sk_le (A 95) ha
  refine kx_mk kx_tab kxLok_X11 (ini := false) [some (.ref 93), none, none] ⟨by decide, rfl, by decide, by decide⟩ (⟨_, rfl⟩) rfl rfl (fun g hB hC => ?_)
  refine hB bX11_signed_0 _ _ _ _ _ _ _ kX11_signed_0 ?_
  dsimp only [bX11_signed_0, kx_wp, kx_step, kx_lI, kx_lL, kx_lA, kx_gl, kx_pI, kx_pL, kx_pR, kx_pA, kx_pV, kx_s1, kx_s2, kx_sl, kx_pre, kx_c2, kx_pl, kx_cmp, kx_oF, kx_eqN, kx_nil, kx_c1, kx_ft, kx_aI, kx_aL, kx_aR, kx_ln, Nat.reduceAdd, Option.toList, List.cons_append, List.nil_append, mW_o, mf_7]
  repeat (simp only [mu_7, mW_so, ck_p6, ck_p7, ck_p8, ck_p10, ck_p11, ck_p12, ck_p13, ck_p15, h6, nI_1, ck_pu7, ck_pu10, ck_pu11, ck_pu12, ck_pu13, ck_pu15, ck_pa95, ck_pa96, ck_pa97, ck_pa98, ck_pa99, ck_pem, ck_pau96, ck_pau99, va_us, va_upn, ne_eq, Nat.reduceEqDiff, not_false_eq_true]; try dsimp only [kx_wp, kx_step, kx_lI, kx_lL, kx_lA, kx_gl, kx_pI, kx_pL, kx_pR, kx_pA, kx_pV, kx_s1, kx_s2, kx_sl, kx_pre, kx_c2, kx_pl, kx_cmp, kx_oF, kx_eqN, kx_nil, kx_c1, kx_ft, kx_aI, kx_aL, kx_aR, kx_ln, Nat.reduceAdd, Option.toList, List.cons_append, List.nil_append, mW_o, mf_7])
  repeat' apply And.intro
  all_goals try (first | with_reducible assumption | (with_reducible refine ck_nzI ?_; simp; done) | (with_reducible refine ck_nzL ?_; simp; done) | (with_reducible refine vp_in_nI ?_ ?_ <;> first | omega | decide) | (with_reducible refine Nat.le_of_ble_eq_true ?_; rfl) | omega)
  refine hC.1 212 _ _ _ _ _ _ _ 11 _ _ _ _ _ _ _ _ _ _ _ _ lX11_212 (ct_X11_fine l G) ⟨by decide, rfl⟩ (mW_o) rfl rfl (Nat.le_of_ble_eq_true rfl) (by decide) (by decide) (by omega) (by omega) dX11_signed_1 ?_
  rw [ck_p8, if_pos rfl]
  refine hB bX11_signed_4 _ _ _ _ _ _ _ kX11_signed_4 ?_
  dsimp only [bX11_signed_4, kx_wp, kx_step, kx_lI, kx_lL, kx_lA, kx_gl, kx_pI, kx_pL, kx_pR, kx_pA, kx_pV, kx_s1, kx_s2, kx_sl, kx_pre, kx_c2, kx_pl, kx_cmp, kx_oF, kx_eqN, kx_nil, kx_c1, kx_ft, kx_aI, kx_aL, kx_aR, kx_ln, Nat.reduceAdd, Option.toList, List.cons_append, List.nil_append, mW_o, mf_7]
  repeat (simp only [mu_7, mW_so, ck_p6, ck_p7, ck_p8, ck_p10, ck_p11, ck_p12, ck_p13, ck_p15, h6, nI_1, ck_pu7, ck_pu10, ck_pu11, ck_pu12, ck_pu13, ck_pu15, ck_pa95, ck_pa96, ck_pa97, ck_pa98, ck_pa99, ck_pem, ck_pau96, ck_pau99, va_us, va_upn, ne_eq, Nat.reduceEqDiff, not_false_eq_true]; try dsimp only [kx_wp, kx_step, kx_lI, kx_lL, kx_lA, kx_gl, kx_pI, kx_pL, kx_pR, kx_pA, kx_pV, kx_s1, kx_s2, kx_sl, kx_pre, kx_c2, kx_pl, kx_cmp, kx_oF, kx_eqN, kx_nil, kx_c1, kx_ft, kx_aI, kx_aL, kx_aR, kx_ln, Nat.reduceAdd, Option.toList, List.cons_append, List.nil_append, mW_o, mf_7])
  repeat' apply And.intro
  all_goals try (first | with_reducible assumption | (with_reducible refine ck_nzI ?_; simp; done) | (with_reducible refine ck_nzL ?_; simp; done) | (with_reducible refine vp_in_nI ?_ ?_ <;> first | omega | decide) | (with_reducible refine Nat.le_of_ble_eq_true ?_; rfl) | omega)
  · intro zc4
    first | exact absurd rfl zc4 | exact absurd zc4 (by decide) | exact absurd (by decide) zc4 | (exfalso; first | exact zc13 hc | exact hc zc13 | exact hc (Decidable.not_not.mp zc13) | exact absurd zc23 (by decide) | exact zc23 rfl | exact absurd zc46 (by decide) | exact zc46 rfl) | (exfalso; simp_all; done)
  · intro zc4
    have ze4 := zc4
    refine hB bX11_signed_7 _ _ _ _ _ _ _ kX11_signed_7 ?_
    dsimp only [bX11_signed_7, kx_wp, kx_step, kx_lI, kx_lL, kx_lA, kx_gl, kx_pI, kx_pL, kx_pR, kx_pA, kx_pV, kx_s1, kx_s2, kx_sl, kx_pre, kx_c2, kx_pl, kx_cmp, kx_oF, kx_eqN, kx_nil, kx_c1, kx_ft, kx_aI, kx_aL, kx_aR, kx_ln, Nat.reduceAdd, Option.toList, List.cons_append, List.nil_append, mW_o, mf_7]
    repeat (simp only [mu_7, mW_so, ck_p6, ck_p7, ck_p8, ck_p10, ck_p11, ck_p12, ck_p13, ck_p15, h6, nI_1, ck_pu7, ck_pu10, ck_pu11, ck_pu12, ck_pu13, ck_pu15, ck_pa95, ck_pa96, ck_pa97, ck_pa98, ck_pa99, ck_pem, ck_pau96, ck_pau99, va_us, va_upn, ne_eq, Nat.reduceEqDiff, not_false_eq_true]; try dsimp only [kx_wp, kx_step, kx_lI, kx_lL, kx_lA, kx_gl, kx_pI, kx_pL, kx_pR, kx_pA, kx_pV, kx_s1, kx_s2, kx_sl, kx_pre, kx_c2, kx_pl, kx_cmp, kx_oF, kx_eqN, kx_nil, kx_c1, kx_ft, kx_aI, kx_aL, kx_aR, kx_ln, Nat.reduceAdd, Option.toList, List.cons_append, List.nil_append, mW_o, mf_7])
    repeat' apply And.intro
    all_goals try (first | with_reducible assumption | (with_reducible refine ck_nzI ?_; simp; done) | (with_reducible refine ck_nzL ?_; simp; done) | (with_reducible refine vp_in_nI ?_ ?_ <;> first | omega | decide) | (with_reducible refine Nat.le_of_ble_eq_true ?_; rfl) | omega)
    refine hC.1 204 _ _ _ _ _ _ _ 11 _ _ _ _ _ _ _ _ _ _ _ _ lX11_204 (ct_X11_here l G h6 hn ha) ⟨by decide, rfl⟩ (mW_o) rfl rfl (Nat.le_of_ble_eq_true rfl) (by decide) (by decide) (by omega) (by omega) dX11_signed_8 ?_
    refine hB bX11_signed_11 _ _ _ _ _ _ _ kX11_signed_11 ?_
    dsimp only [bX11_signed_11, kx_wp, kx_step, kx_lI, kx_lL, kx_lA, kx_gl, kx_pI, kx_pL, kx_pR, kx_pA, kx_pV, kx_s1, kx_s2, kx_sl, kx_pre, kx_c2, kx_pl, kx_cmp, kx_oF, kx_eqN, kx_nil, kx_c1, kx_ft, kx_aI, kx_aL, kx_aR, kx_ln, Nat.reduceAdd, Option.toList, List.cons_append, List.nil_append, mW_o, mf_7]
    repeat (simp only [mu_7, mW_so, ck_p6, ck_p7, ck_p8, ck_p10, ck_p11, ck_p12, ck_p13, ck_p15, h6, nI_1, ck_pu7, ck_pu10, ck_pu11, ck_pu12, ck_pu13, ck_pu15, ck_pa95, ck_pa96, ck_pa97, ck_pa98, ck_pa99, ck_pem, ck_pau96, ck_pau99, va_us, va_upn, ne_eq, Nat.reduceEqDiff, not_false_eq_true]; try dsimp only [kx_wp, kx_step, kx_lI, kx_lL, kx_lA, kx_gl, kx_pI, kx_pL, kx_pR, kx_pA, kx_pV, kx_s1, kx_s2, kx_sl, kx_pre, kx_c2, kx_pl, kx_cmp, kx_oF, kx_eqN, kx_nil, kx_c1, kx_ft, kx_aI, kx_aL, kx_aR, kx_ln, Nat.reduceAdd, Option.toList, List.cons_append, List.nil_append, mW_o, mf_7])
    repeat' apply And.intro
    all_goals try (first | with_reducible assumption | (with_reducible refine ck_nzI ?_; simp; done) | (with_reducible refine ck_nzL ?_; simp; done) | (with_reducible refine vp_in_nI ?_ ?_ <;> first | omega | decide) | (with_reducible refine Nat.le_of_ble_eq_true ?_; rfl) | omega)
    · intro zc13
      have ze13 := zc13
      refine hB bX11_signed_20 _ _ _ _ _ _ _ kX11_signed_20 ?_
      dsimp only [bX11_signed_20, kx_wp, kx_step, kx_lI, kx_lL, kx_lA, kx_gl, kx_pI, kx_pL, kx_pR, kx_pA, kx_pV, kx_s1, kx_s2, kx_sl, kx_pre, kx_c2, kx_pl, kx_cmp, kx_oF, kx_eqN, kx_nil, kx_c1, kx_ft, kx_aI, kx_aL, kx_aR, kx_ln, Nat.reduceAdd, Option.toList, List.cons_append, List.nil_append, mW_o, mf_7]
      repeat (simp only [mu_7, mW_so, ck_p6, ck_p7, ck_p8, ck_p10, ck_p11, ck_p12, ck_p13, ck_p15, h6, nI_1, ck_pu7, ck_pu10, ck_pu11, ck_pu12, ck_pu13, ck_pu15, ck_pa95, ck_pa96, ck_pa97, ck_pa98, ck_pa99, ck_pem, ck_pau96, ck_pau99, va_us, va_upn, ne_eq, Nat.reduceEqDiff, not_false_eq_true]; try dsimp only [kx_wp, kx_step, kx_lI, kx_lL, kx_lA, kx_gl, kx_pI, kx_pL, kx_pR, kx_pA, kx_pV, kx_s1, kx_s2, kx_sl, kx_pre, kx_c2, kx_pl, kx_cmp, kx_oF, kx_eqN, kx_nil, kx_c1, kx_ft, kx_aI, kx_aL, kx_aR, kx_ln, Nat.reduceAdd, Option.toList, List.cons_append, List.nil_append, mW_o, mf_7])
      repeat' apply And.intro
      all_goals try (first | with_reducible assumption | (with_reducible refine ck_nzI ?_; simp; done) | (with_reducible refine ck_nzL ?_; simp; done) | (with_reducible refine vp_in_nI ?_ ?_ <;> first | omega | decide) | (with_reducible refine Nat.le_of_ble_eq_true ?_; rfl) | omega)
      refine hB bX11_signed_21 _ _ _ _ _ _ _ kX11_signed_21 ?_
      dsimp only [bX11_signed_21, kx_wp, kx_step, kx_lI, kx_lL, kx_lA, kx_gl, kx_pI, kx_pL, kx_pR, kx_pA, kx_pV, kx_s1, kx_s2, kx_sl, kx_pre, kx_c2, kx_pl, kx_cmp, kx_oF, kx_eqN, kx_nil, kx_c1, kx_ft, kx_aI, kx_aL, kx_aR, kx_ln, Nat.reduceAdd, Option.toList, List.cons_append, List.nil_append, mW_o, mf_7]
      repeat (simp only [mu_7, mW_so, ck_p6, ck_p7, ck_p8, ck_p10, ck_p11, ck_p12, ck_p13, ck_p15, h6, nI_1, ck_pu7, ck_pu10, ck_pu11, ck_pu12, ck_pu13, ck_pu15, ck_pa95, ck_pa96, ck_pa97, ck_pa98, ck_pa99, ck_pem, ck_pau96, ck_pau99, va_us, va_upn, ne_eq, Nat.reduceEqDiff, not_false_eq_true]; try dsimp only [kx_wp, kx_step, kx_lI, kx_lL, kx_lA, kx_gl, kx_pI, kx_pL, kx_pR, kx_pA, kx_pV, kx_s1, kx_s2, kx_sl, kx_pre, kx_c2, kx_pl, kx_cmp, kx_oF, kx_eqN, kx_nil, kx_c1, kx_ft, kx_aI, kx_aL, kx_aR, kx_ln, Nat.reduceAdd, Option.toList, List.cons_append, List.nil_append, mW_o, mf_7])
      repeat' apply And.intro
      all_goals try (first | with_reducible assumption | (with_reducible refine ck_nzI ?_; simp; done) | (with_reducible refine ck_nzL ?_; simp; done) | (with_reducible refine vp_in_nI ?_ ?_ <;> first | omega | decide) | (with_reducible refine Nat.le_of_ble_eq_true ?_; rfl) | omega)
      · intro zc23
        have ze23 := zc23
        refine hB bX11_signed_36 _ _ _ _ _ _ _ kX11_signed_36 ?_
        dsimp only [bX11_signed_36, kx_wp, kx_step, kx_lI, kx_lL, kx_lA, kx_gl, kx_pI, kx_pL, kx_pR, kx_pA, kx_pV, kx_s1, kx_s2, kx_sl, kx_pre, kx_c2, kx_pl, kx_cmp, kx_oF, kx_eqN, kx_nil, kx_c1, kx_ft, kx_aI, kx_aL, kx_aR, kx_ln, Nat.reduceAdd, Option.toList, List.cons_append, List.nil_append, mW_o, mf_7]
        repeat (simp only [mu_7, mW_so, ck_p6, ck_p7, ck_p8, ck_p10, ck_p11, ck_p12, ck_p13, ck_p15, h6, nI_1, ck_pu7, ck_pu10, ck_pu11, ck_pu12, ck_pu13, ck_pu15, ck_pa95, ck_pa96, ck_pa97, ck_pa98, ck_pa99, ck_pem, ck_pau96, ck_pau99, va_us, va_upn, ne_eq, Nat.reduceEqDiff, not_false_eq_true]; try dsimp only [kx_wp, kx_step, kx_lI, kx_lL, kx_lA, kx_gl, kx_pI, kx_pL, kx_pR, kx_pA, kx_pV, kx_s1, kx_s2, kx_sl, kx_pre, kx_c2, kx_pl, kx_cmp, kx_oF, kx_eqN, kx_nil, kx_c1, kx_ft, kx_aI, kx_aL, kx_aR, kx_ln, Nat.reduceAdd, Option.toList, List.cons_append, List.nil_append, mW_o, mf_7])
        repeat' apply And.intro
        all_goals try (first | with_reducible assumption | (with_reducible refine ck_nzI ?_; simp; done) | (with_reducible refine ck_nzL ?_; simp; done) | (with_reducible refine vp_in_nI ?_ ?_ <;> first | omega | decide) | (with_reducible refine Nat.le_of_ble_eq_true ?_; rfl) | omega)
        refine hC.1 224 _ _ _ _ _ _ _ 11 _ _ _ _ _ _ _ _ _ _ _ _ lX11_224 (ct_X11_number l G (a := ck_sk (A 95) n a) h6 hn (by omega)) ⟨by decide, rfl⟩ (mW_o) rfl rfl (Nat.le_of_ble_eq_true rfl) (by decide) (by decide) (by omega) (by omega) dX11_signed_41 ?_
        refine hB bX11_signed_44 _ _ _ _ _ _ _ kX11_signed_44 ?_
        dsimp only [bX11_signed_44, kx_wp, kx_step, kx_lI, kx_lL, kx_lA, kx_gl, kx_pI, kx_pL, kx_pR, kx_pA, kx_pV, kx_s1, kx_s2, kx_sl, kx_pre, kx_c2, kx_pl, kx_cmp, kx_oF, kx_eqN, kx_nil, kx_c1, kx_ft, kx_aI, kx_aL, kx_aR, kx_ln, Nat.reduceAdd, Option.toList, List.cons_append, List.nil_append, mW_o, mf_7]
        repeat (simp only [mu_7, mW_so, ck_p6, ck_p7, ck_p8, ck_p10, ck_p11, ck_p12, ck_p13, ck_p15, h6, nI_1, ck_pu7, ck_pu10, ck_pu11, ck_pu12, ck_pu13, ck_pu15, ck_pa95, ck_pa96, ck_pa97, ck_pa98, ck_pa99, ck_pem, ck_pau96, ck_pau99, va_us, va_upn, ne_eq, Nat.reduceEqDiff, not_false_eq_true]; try dsimp only [kx_wp, kx_step, kx_lI, kx_lL, kx_lA, kx_gl, kx_pI, kx_pL, kx_pR, kx_pA, kx_pV, kx_s1, kx_s2, kx_sl, kx_pre, kx_c2, kx_pl, kx_cmp, kx_oF, kx_eqN, kx_nil, kx_c1, kx_ft, kx_aI, kx_aL, kx_aR, kx_ln, Nat.reduceAdd, Option.toList, List.cons_append, List.nil_append, mW_o, mf_7])
        repeat' apply And.intro
        all_goals try (first | with_reducible assumption | (with_reducible refine ck_nzI ?_; simp; done) | (with_reducible refine ck_nzL ?_; simp; done) | (with_reducible refine vp_in_nI ?_ ?_ <;> first | omega | decide) | (with_reducible refine Nat.le_of_ble_eq_true ?_; rfl) | omega)
        · intro zc46
          have ze46 := zc46
          refine hB bX11_signed_54 _ _ _ _ _ _ _ kX11_signed_54 ?_
          dsimp only [bX11_signed_54, kx_wp, kx_step, kx_lI, kx_lL, kx_lA, kx_gl, kx_pI, kx_pL, kx_pR, kx_pA, kx_pV, kx_s1, kx_s2, kx_sl, kx_pre, kx_c2, kx_pl, kx_cmp, kx_oF, kx_eqN, kx_nil, kx_c1, kx_ft, kx_aI, kx_aL, kx_aR, kx_ln, Nat.reduceAdd, Option.toList, List.cons_append, List.nil_append, mW_o, mf_7]
          repeat (simp only [mu_7, mW_so, ck_p6, ck_p7, ck_p8, ck_p10, ck_p11, ck_p12, ck_p13, ck_p15, h6, nI_1, ck_pu7, ck_pu10, ck_pu11, ck_pu12, ck_pu13, ck_pu15, ck_pa95, ck_pa96, ck_pa97, ck_pa98, ck_pa99, ck_pem, ck_pau96, ck_pau99, va_us, va_upn, ne_eq, Nat.reduceEqDiff, not_false_eq_true]; try dsimp only [kx_wp, kx_step, kx_lI, kx_lL, kx_lA, kx_gl, kx_pI, kx_pL, kx_pR, kx_pA, kx_pV, kx_s1, kx_s2, kx_sl, kx_pre, kx_c2, kx_pl, kx_cmp, kx_oF, kx_eqN, kx_nil, kx_c1, kx_ft, kx_aI, kx_aL, kx_aR, kx_ln, Nat.reduceAdd, Option.toList, List.cons_append, List.nil_append, mW_o, mf_7])
          repeat' apply And.intro
          all_goals try (first | with_reducible assumption | (with_reducible refine ck_nzI ?_; simp; done) | (with_reducible refine ck_nzL ?_; simp; done) | (with_reducible refine vp_in_nI ?_ ?_ <;> first | omega | decide) | (with_reducible refine Nat.le_of_ble_eq_true ?_; rfl) | omega)
          refine hB bX11_signed_55 _ _ _ _ _ _ _ kX11_signed_55 ?_
          dsimp only [bX11_signed_55, kx_wp, kx_step, kx_lI, kx_lL, kx_lA, kx_gl, kx_pI, kx_pL, kx_pR, kx_pA, kx_pV, kx_s1, kx_s2, kx_sl, kx_pre, kx_c2, kx_pl, kx_cmp, kx_oF, kx_eqN, kx_nil, kx_c1, kx_ft, kx_aI, kx_aL, kx_aR, kx_ln, Nat.reduceAdd, Option.toList, List.cons_append, List.nil_append, mW_o, mf_7]
          repeat (simp only [mu_7, mW_so, ck_p6, ck_p7, ck_p8, ck_p10, ck_p11, ck_p12, ck_p13, ck_p15, h6, nI_1, ck_pu7, ck_pu10, ck_pu11, ck_pu12, ck_pu13, ck_pu15, ck_pa95, ck_pa96, ck_pa97, ck_pa98, ck_pa99, ck_pem, ck_pau96, ck_pau99, va_us, va_upn, ne_eq, Nat.reduceEqDiff, not_false_eq_true]; try dsimp only [kx_wp, kx_step, kx_lI, kx_lL, kx_lA, kx_gl, kx_pI, kx_pL, kx_pR, kx_pA, kx_pV, kx_s1, kx_s2, kx_sl, kx_pre, kx_c2, kx_pl, kx_cmp, kx_oF, kx_eqN, kx_nil, kx_c1, kx_ft, kx_aI, kx_aL, kx_aR, kx_ln, Nat.reduceAdd, Option.toList, List.cons_append, List.nil_append, mW_o, mf_7])
          all_goals (repeat' apply And.intro)
          all_goals ((try clear hB hC); first | exact True.intro | with_reducible rfl | with_reducible assumption | (with_reducible refine vp_in_nI ?_ ?_ <;> first | omega | decide) | exact Nat.le_of_ble_eq_true rfl | (with_reducible refine ck_nzI ?_; simp; done) | (with_reducible refine ck_nzL ?_; simp; done) | (simp only [pk_us, pk_uLs, ze4, ze13, eq_true ze23, eq_true ze46, ↓reduceIte, not_true_eq_false, not_false_eq_true]; done) | (simp only [ze4, ze13, eq_true ze23, eq_true ze46, ↓reduceIte, not_true_eq_false, not_false_eq_true]; with_reducible rfl) | skip)
        · intro zc46
          first | exact absurd rfl zc46 | exact absurd zc46 (by decide) | exact absurd (by decide) zc46 | (exfalso; first | exact zc13 hc | exact hc zc13 | exact hc (Decidable.not_not.mp zc13) | exact absurd zc23 (by decide) | exact zc23 rfl | exact absurd zc46 (by decide) | exact zc46 rfl) | (exfalso; simp_all; done)
      · intro zc23
        first | exact absurd rfl zc23 | exact absurd zc23 (by decide) | exact absurd (by decide) zc23 | (exfalso; first | exact zc13 hc | exact hc zc13 | exact hc (Decidable.not_not.mp zc13) | exact absurd zc23 (by decide) | exact zc23 rfl | exact absurd zc46 (by decide) | exact zc46 rfl) | (exfalso; simp_all; done)
    · intro zc13
      first | exact absurd rfl zc13 | exact absurd zc13 (by decide) | exact absurd (by decide) zc13 | (exfalso; first | exact zc13 hc | exact hc zc13 | exact hc (Decidable.not_not.mp zc13) | exact absurd zc23 (by decide) | exact zc23 rfl | exact absurd zc46 (by decide) | exact zc46 rfl) | (exfalso; simp_all; done)

theorem ct_X11_signed (l : Launch) (G : kx_G) {M : Nat → Int32} {A : Nat → Nat → Int32} {L : Nat → Nat → Int64} {R : kx_P} {sz : Nat} {a c n : Nat} {b k o : Int32} {C N : Nat → Int32} (h6 : M 6 = nI n) (hn : n ≤ 400) (ha : a ≤ n)  : kx_M l G sX11_signed 4 0 0 [.ref 93] (mW (ck_pM M a b k o c) (ck_pA A C N) L R) sz (some (.int (ck_sgn (A 95) n a b k).1)) (mW (ck_pM M ((ck_sgn (A 95) n a b k).2.1) ((ck_sgn (A 95) n a b k).2.2.1) ((ck_sgn (A 95) n a b k).2.2.2) o c) (ck_pA A C N) L R) sz := by
  unfold ck_sgn
  by_cases hb : b = -1
  · subst hb
    rw [if_pos rfl]
    by_cases hc : ck_hcx (A 95) n a = 45
    · rw [if_pos hc]; exact ct_X11_signed_m l G h6 hn ha hc
    · rw [if_neg hc]; exact ct_X11_signed_p l G h6 hn ha hc
  · rw [if_neg hb]; exact ct_X11_signed_f l G h6 hn ha hb

def bX11_need_0 : List kx_O := [(.aload_n 0, 0, 0, 0, .null)]
theorem kX11_need_0 : kx_oks kxL_X11 false cX11_need 0 bX11_need_0 = true := by decide +kernel
def bX11_need_4 : List kx_O := [(.ifCond .eq 20, 24, 0, 0, .null)]
theorem kX11_need_4 : kx_oks kxL_X11 false cX11_need 4 bX11_need_4 = true := by decide +kernel
def bX11_need_7 : List kx_O := [(.aload_n 0, 0, 0, 0, .null)]
theorem kX11_need_7 : kx_oks kxL_X11 false cX11_need 7 bX11_need_7 = true := by decide +kernel
def bX11_need_11 : List kx_O := [(.iload_n 1, 1, 0, 0, .null), (.if_icmp .eq 12, 24, 0, 0, .null)]
theorem kX11_need_11 : kx_oks kxL_X11 false cX11_need 11 bX11_need_11 = true := by decide +kernel
def bX11_need_15 : List kx_O := [(.aload_n 0, 0, 0, 0, .null), (.iconst 1, 0, 0, 0, .int 1), (.aload_n 0, 0, 0, 0, .null), (.getfield 198, 11, 7, 0, .null)]
theorem kX11_need_15 : kx_oks kxL_X11 false cX11_need 15 bX11_need_15 = true := by decide +kernel
def bX11_need_24 : List kx_O := [(.aload_n 0, 0, 0, 0, .null)]
theorem kX11_need_24 : kx_oks kxL_X11 false cX11_need 24 bX11_need_24 = true := by decide +kernel
def bX11_need_28 : List kx_O := [(.ifCond .eq 13, 41, 0, 0, .null)]
theorem kX11_need_28 : kx_oks kxL_X11 false cX11_need 28 bX11_need_28 = true := by decide +kernel
def bX11_need_31 : List kx_O := [(.aload_n 0, 0, 0, 0, .null), (.dup, 0, 0, 0, .null), (.getfield 198, 11, 7, 0, .null), (.iconst 1, 0, 0, 0, .int 1), (.iadd, 0, 0, 0, .null), (.putfield 198, 11, 7, 0, .null)]
theorem kX11_need_31 : kx_oks kxL_X11 false cX11_need 31 bX11_need_31 = true := by decide +kernel
def bX11_need_41 : List kx_O := [(.return_, 0, 0, 0, .null)]
theorem kX11_need_41 : kx_oks kxL_X11 false cX11_need 41 bX11_need_41 = true := by decide +kernel
theorem dX11_need_1 : decode cX11_need 1 = .ok (.invokevirtual 212, 3) := by decide +kernel
theorem dX11_need_8 : decode cX11_need 8 = .ok (.invokevirtual 204, 3) := by decide +kernel
theorem dX11_need_21 : decode cX11_need 21 = .ok (.invokevirtual 219, 3) := by decide +kernel
theorem dX11_need_25 : decode cX11_need 25 = .ok (.invokevirtual 212, 3) := by decide +kernel
set_option maxRecDepth 100000 in
set_option maxHeartbeats 4000000 in
theorem ct_X11_need_f (l : Launch) (G : kx_G) {M : Nat → Int32} {A : Nat → Nat → Int32} {L : Nat → Nat → Int64} {R : kx_P} {sz : Nat} {a c n : Nat} {b k o : Int32} {C N : Nat → Int32} (h6 : M 6 = nI n) (hn : n ≤ 400) (ha : a ≤ n) (hb : ¬ b = -1) {ch : Int32}  : kx_M l G sX11_need 2 0 0 [.ref 93, .int (ch)] (mW (ck_pM M a b k o c) (ck_pA A C N) L R) sz none (mW (ck_pM M a b k o c) (ck_pA A C N) L R) sz := by
  refine kx_mk kx_tab kxLok_X11 (ini := false) [some (.ref 93), some (.int (ch))] ⟨by decide, rfl, by decide, by decide⟩ (rfl) rfl rfl (fun g hB hC => ?_)
  refine hB bX11_need_0 _ _ _ _ _ _ _ kX11_need_0 ?_
  dsimp only [bX11_need_0, kx_wp, kx_step, kx_lI, kx_lL, kx_lA, kx_gl, kx_pI, kx_pL, kx_pR, kx_pA, kx_pV, kx_s1, kx_s2, kx_sl, kx_pre, kx_c2, kx_pl, kx_cmp, kx_oF, kx_eqN, kx_nil, kx_c1, kx_ft, kx_aI, kx_aL, kx_aR, kx_ln, Nat.reduceAdd, Option.toList, List.cons_append, List.nil_append, mW_o, mf_7]
  repeat (simp only [mu_7, mW_so, ck_p6, ck_p7, ck_p8, ck_p10, ck_p11, ck_p12, ck_p13, ck_p15, h6, nI_1, ck_pu7, ck_pu10, ck_pu11, ck_pu12, ck_pu13, ck_pu15, ck_pa95, ck_pa96, ck_pa97, ck_pa98, ck_pa99, ck_pem, ck_pau96, ck_pau99, va_us, va_upn, ne_eq, Nat.reduceEqDiff, not_false_eq_true]; try dsimp only [kx_wp, kx_step, kx_lI, kx_lL, kx_lA, kx_gl, kx_pI, kx_pL, kx_pR, kx_pA, kx_pV, kx_s1, kx_s2, kx_sl, kx_pre, kx_c2, kx_pl, kx_cmp, kx_oF, kx_eqN, kx_nil, kx_c1, kx_ft, kx_aI, kx_aL, kx_aR, kx_ln, Nat.reduceAdd, Option.toList, List.cons_append, List.nil_append, mW_o, mf_7])
  repeat' apply And.intro
  all_goals try (first | with_reducible assumption | (with_reducible refine ck_nzI ?_; simp; done) | (with_reducible refine ck_nzL ?_; simp; done) | (with_reducible refine vp_in_nI ?_ ?_ <;> first | omega | decide) | (with_reducible refine Nat.le_of_ble_eq_true ?_; rfl) | omega)
  refine hC.1 212 _ _ _ _ _ _ _ 11 _ _ _ _ _ _ _ _ _ _ _ _ lX11_212 (ct_X11_fine l G) ⟨by decide, rfl⟩ (mW_o) rfl rfl (Nat.le_of_ble_eq_true rfl) (by decide) (by decide) (by omega) (by omega) dX11_need_1 ?_
  rw [ck_p8, if_neg hb]
  refine hB bX11_need_4 _ _ _ _ _ _ _ kX11_need_4 ?_
  dsimp only [bX11_need_4, kx_wp, kx_step, kx_lI, kx_lL, kx_lA, kx_gl, kx_pI, kx_pL, kx_pR, kx_pA, kx_pV, kx_s1, kx_s2, kx_sl, kx_pre, kx_c2, kx_pl, kx_cmp, kx_oF, kx_eqN, kx_nil, kx_c1, kx_ft, kx_aI, kx_aL, kx_aR, kx_ln, Nat.reduceAdd, Option.toList, List.cons_append, List.nil_append, mW_o, mf_7]
  repeat (simp only [mu_7, mW_so, ck_p6, ck_p7, ck_p8, ck_p10, ck_p11, ck_p12, ck_p13, ck_p15, h6, nI_1, ck_pu7, ck_pu10, ck_pu11, ck_pu12, ck_pu13, ck_pu15, ck_pa95, ck_pa96, ck_pa97, ck_pa98, ck_pa99, ck_pem, ck_pau96, ck_pau99, va_us, va_upn, ne_eq, Nat.reduceEqDiff, not_false_eq_true]; try dsimp only [kx_wp, kx_step, kx_lI, kx_lL, kx_lA, kx_gl, kx_pI, kx_pL, kx_pR, kx_pA, kx_pV, kx_s1, kx_s2, kx_sl, kx_pre, kx_c2, kx_pl, kx_cmp, kx_oF, kx_eqN, kx_nil, kx_c1, kx_ft, kx_aI, kx_aL, kx_aR, kx_ln, Nat.reduceAdd, Option.toList, List.cons_append, List.nil_append, mW_o, mf_7])
  repeat' apply And.intro
  all_goals try (first | with_reducible assumption | (with_reducible refine ck_nzI ?_; simp; done) | (with_reducible refine ck_nzL ?_; simp; done) | (with_reducible refine vp_in_nI ?_ ?_ <;> first | omega | decide) | (with_reducible refine Nat.le_of_ble_eq_true ?_; rfl) | omega)
  · intro zc4
    have ze4 := zc4
    refine hB bX11_need_24 _ _ _ _ _ _ _ kX11_need_24 ?_
    dsimp only [bX11_need_24, kx_wp, kx_step, kx_lI, kx_lL, kx_lA, kx_gl, kx_pI, kx_pL, kx_pR, kx_pA, kx_pV, kx_s1, kx_s2, kx_sl, kx_pre, kx_c2, kx_pl, kx_cmp, kx_oF, kx_eqN, kx_nil, kx_c1, kx_ft, kx_aI, kx_aL, kx_aR, kx_ln, Nat.reduceAdd, Option.toList, List.cons_append, List.nil_append, mW_o, mf_7]
    repeat (simp only [mu_7, mW_so, ck_p6, ck_p7, ck_p8, ck_p10, ck_p11, ck_p12, ck_p13, ck_p15, h6, nI_1, ck_pu7, ck_pu10, ck_pu11, ck_pu12, ck_pu13, ck_pu15, ck_pa95, ck_pa96, ck_pa97, ck_pa98, ck_pa99, ck_pem, ck_pau96, ck_pau99, va_us, va_upn, ne_eq, Nat.reduceEqDiff, not_false_eq_true]; try dsimp only [kx_wp, kx_step, kx_lI, kx_lL, kx_lA, kx_gl, kx_pI, kx_pL, kx_pR, kx_pA, kx_pV, kx_s1, kx_s2, kx_sl, kx_pre, kx_c2, kx_pl, kx_cmp, kx_oF, kx_eqN, kx_nil, kx_c1, kx_ft, kx_aI, kx_aL, kx_aR, kx_ln, Nat.reduceAdd, Option.toList, List.cons_append, List.nil_append, mW_o, mf_7])
    repeat' apply And.intro
    all_goals try (first | with_reducible assumption | (with_reducible refine ck_nzI ?_; simp; done) | (with_reducible refine ck_nzL ?_; simp; done) | (with_reducible refine vp_in_nI ?_ ?_ <;> first | omega | decide) | (with_reducible refine Nat.le_of_ble_eq_true ?_; rfl) | omega)
    refine hC.1 212 _ _ _ _ _ _ _ 11 _ _ _ _ _ _ _ _ _ _ _ _ lX11_212 (ct_X11_fine l G) ⟨by decide, rfl⟩ (mW_o) rfl rfl (Nat.le_of_ble_eq_true rfl) (by decide) (by decide) (by omega) (by omega) dX11_need_25 ?_
    rw [ck_p8, if_neg hb]
    refine hB bX11_need_28 _ _ _ _ _ _ _ kX11_need_28 ?_
    dsimp only [bX11_need_28, kx_wp, kx_step, kx_lI, kx_lL, kx_lA, kx_gl, kx_pI, kx_pL, kx_pR, kx_pA, kx_pV, kx_s1, kx_s2, kx_sl, kx_pre, kx_c2, kx_pl, kx_cmp, kx_oF, kx_eqN, kx_nil, kx_c1, kx_ft, kx_aI, kx_aL, kx_aR, kx_ln, Nat.reduceAdd, Option.toList, List.cons_append, List.nil_append, mW_o, mf_7]
    repeat (simp only [mu_7, mW_so, ck_p6, ck_p7, ck_p8, ck_p10, ck_p11, ck_p12, ck_p13, ck_p15, h6, nI_1, ck_pu7, ck_pu10, ck_pu11, ck_pu12, ck_pu13, ck_pu15, ck_pa95, ck_pa96, ck_pa97, ck_pa98, ck_pa99, ck_pem, ck_pau96, ck_pau99, va_us, va_upn, ne_eq, Nat.reduceEqDiff, not_false_eq_true]; try dsimp only [kx_wp, kx_step, kx_lI, kx_lL, kx_lA, kx_gl, kx_pI, kx_pL, kx_pR, kx_pA, kx_pV, kx_s1, kx_s2, kx_sl, kx_pre, kx_c2, kx_pl, kx_cmp, kx_oF, kx_eqN, kx_nil, kx_c1, kx_ft, kx_aI, kx_aL, kx_aR, kx_ln, Nat.reduceAdd, Option.toList, List.cons_append, List.nil_append, mW_o, mf_7])
    repeat' apply And.intro
    all_goals try (first | with_reducible assumption | (with_reducible refine ck_nzI ?_; simp; done) | (with_reducible refine ck_nzL ?_; simp; done) | (with_reducible refine vp_in_nI ?_ ?_ <;> first | omega | decide) | (with_reducible refine Nat.le_of_ble_eq_true ?_; rfl) | omega)
    · intro zc28
      have ze28 := zc28
      refine hB bX11_need_41 _ _ _ _ _ _ _ kX11_need_41 ?_
      dsimp only [bX11_need_41, kx_wp, kx_step, kx_lI, kx_lL, kx_lA, kx_gl, kx_pI, kx_pL, kx_pR, kx_pA, kx_pV, kx_s1, kx_s2, kx_sl, kx_pre, kx_c2, kx_pl, kx_cmp, kx_oF, kx_eqN, kx_nil, kx_c1, kx_ft, kx_aI, kx_aL, kx_aR, kx_ln, Nat.reduceAdd, Option.toList, List.cons_append, List.nil_append, mW_o, mf_7]
      repeat (simp only [mu_7, mW_so, ck_p6, ck_p7, ck_p8, ck_p10, ck_p11, ck_p12, ck_p13, ck_p15, h6, nI_1, ck_pu7, ck_pu10, ck_pu11, ck_pu12, ck_pu13, ck_pu15, ck_pa95, ck_pa96, ck_pa97, ck_pa98, ck_pa99, ck_pem, ck_pau96, ck_pau99, va_us, va_upn, ne_eq, Nat.reduceEqDiff, not_false_eq_true]; try dsimp only [kx_wp, kx_step, kx_lI, kx_lL, kx_lA, kx_gl, kx_pI, kx_pL, kx_pR, kx_pA, kx_pV, kx_s1, kx_s2, kx_sl, kx_pre, kx_c2, kx_pl, kx_cmp, kx_oF, kx_eqN, kx_nil, kx_c1, kx_ft, kx_aI, kx_aL, kx_aR, kx_ln, Nat.reduceAdd, Option.toList, List.cons_append, List.nil_append, mW_o, mf_7])
      all_goals (repeat' apply And.intro)
      all_goals ((try clear hB hC); first | exact True.intro | with_reducible rfl | with_reducible assumption | (with_reducible refine vp_in_nI ?_ ?_ <;> first | omega | decide) | exact Nat.le_of_ble_eq_true rfl | (with_reducible refine ck_nzI ?_; simp; done) | (with_reducible refine ck_nzL ?_; simp; done) | (simp only [pk_us, pk_uLs, eq_true ze4, eq_true ze28, ↓reduceIte, not_true_eq_false, not_false_eq_true]; done) | (simp only [eq_true ze4, eq_true ze28, ↓reduceIte, not_true_eq_false, not_false_eq_true]; with_reducible rfl) | skip)
    · intro zc28
      first | exact absurd rfl zc28 | exact absurd zc28 (by decide) | exact absurd (by decide) zc28 | (exfalso; ((try clear hB hC); simp only [ck_lt, ck_le, ck_eq, not_true_eq_false, not_false_eq_true, Int32.reduceToInt, Int32.reduceAdd, Int32.reduceSub, Int32.reduceMul] at * <;> omega)) | (exfalso; simp_all; done)
  · intro zc4
    first | exact absurd rfl zc4 | exact absurd zc4 (by decide) | exact absurd (by decide) zc4 | (exfalso; ((try clear hB hC); simp only [ck_lt, ck_le, ck_eq, not_true_eq_false, not_false_eq_true, Int32.reduceToInt, Int32.reduceAdd, Int32.reduceSub, Int32.reduceMul] at * <;> omega)) | (exfalso; simp_all; done)

set_option maxRecDepth 100000 in
set_option maxHeartbeats 4000000 in
theorem ct_X11_need_t (l : Launch) (G : kx_G) {M : Nat → Int32} {A : Nat → Nat → Int32} {L : Nat → Nat → Int64} {R : kx_P} {sz : Nat} {a c n : Nat} {k o : Int32} {C N : Nat → Int32} (h6 : M 6 = nI n) (hn : n ≤ 400) (ha : a ≤ n) {ch : Int32} (hc : ck_hcx (A 95) n a = ch)  : kx_M l G sX11_need 2 0 0 [.ref 93, .int (ch)] (mW (ck_pM M a ((-1)) k o c) (ck_pA A C N) L R) sz none (mW (ck_pM M (ck_sk (A 95) n a + 1) ((-1)) k o c) (ck_pA A C N) L R) sz := by
  refine kx_mk kx_tab kxLok_X11 (ini := false) [some (.ref 93), some (.int (ch))] ⟨by decide, rfl, by decide, by decide⟩ (rfl) rfl rfl (fun g hB hC => ?_)
  refine hB bX11_need_0 _ _ _ _ _ _ _ kX11_need_0 ?_
  dsimp only [bX11_need_0, kx_wp, kx_step, kx_lI, kx_lL, kx_lA, kx_gl, kx_pI, kx_pL, kx_pR, kx_pA, kx_pV, kx_s1, kx_s2, kx_sl, kx_pre, kx_c2, kx_pl, kx_cmp, kx_oF, kx_eqN, kx_nil, kx_c1, kx_ft, kx_aI, kx_aL, kx_aR, kx_ln, Nat.reduceAdd, Option.toList, List.cons_append, List.nil_append, mW_o, mf_7]
  repeat (simp only [mu_7, mW_so, ck_p6, ck_p7, ck_p8, ck_p10, ck_p11, ck_p12, ck_p13, ck_p15, h6, nI_1, ck_pu7, ck_pu10, ck_pu11, ck_pu12, ck_pu13, ck_pu15, ck_pa95, ck_pa96, ck_pa97, ck_pa98, ck_pa99, ck_pem, ck_pau96, ck_pau99, va_us, va_upn, ne_eq, Nat.reduceEqDiff, not_false_eq_true]; try dsimp only [kx_wp, kx_step, kx_lI, kx_lL, kx_lA, kx_gl, kx_pI, kx_pL, kx_pR, kx_pA, kx_pV, kx_s1, kx_s2, kx_sl, kx_pre, kx_c2, kx_pl, kx_cmp, kx_oF, kx_eqN, kx_nil, kx_c1, kx_ft, kx_aI, kx_aL, kx_aR, kx_ln, Nat.reduceAdd, Option.toList, List.cons_append, List.nil_append, mW_o, mf_7])
  repeat' apply And.intro
  all_goals try (first | with_reducible assumption | (with_reducible refine ck_nzI ?_; simp; done) | (with_reducible refine ck_nzL ?_; simp; done) | (with_reducible refine vp_in_nI ?_ ?_ <;> first | omega | decide) | (with_reducible refine Nat.le_of_ble_eq_true ?_; rfl) | omega)
  refine hC.1 212 _ _ _ _ _ _ _ 11 _ _ _ _ _ _ _ _ _ _ _ _ lX11_212 (ct_X11_fine l G) ⟨by decide, rfl⟩ (mW_o) rfl rfl (Nat.le_of_ble_eq_true rfl) (by decide) (by decide) (by omega) (by omega) dX11_need_1 ?_
  rw [ck_p8, if_pos rfl]
  refine hB bX11_need_4 _ _ _ _ _ _ _ kX11_need_4 ?_
  dsimp only [bX11_need_4, kx_wp, kx_step, kx_lI, kx_lL, kx_lA, kx_gl, kx_pI, kx_pL, kx_pR, kx_pA, kx_pV, kx_s1, kx_s2, kx_sl, kx_pre, kx_c2, kx_pl, kx_cmp, kx_oF, kx_eqN, kx_nil, kx_c1, kx_ft, kx_aI, kx_aL, kx_aR, kx_ln, Nat.reduceAdd, Option.toList, List.cons_append, List.nil_append, mW_o, mf_7]
  repeat (simp only [mu_7, mW_so, ck_p6, ck_p7, ck_p8, ck_p10, ck_p11, ck_p12, ck_p13, ck_p15, h6, nI_1, ck_pu7, ck_pu10, ck_pu11, ck_pu12, ck_pu13, ck_pu15, ck_pa95, ck_pa96, ck_pa97, ck_pa98, ck_pa99, ck_pem, ck_pau96, ck_pau99, va_us, va_upn, ne_eq, Nat.reduceEqDiff, not_false_eq_true]; try dsimp only [kx_wp, kx_step, kx_lI, kx_lL, kx_lA, kx_gl, kx_pI, kx_pL, kx_pR, kx_pA, kx_pV, kx_s1, kx_s2, kx_sl, kx_pre, kx_c2, kx_pl, kx_cmp, kx_oF, kx_eqN, kx_nil, kx_c1, kx_ft, kx_aI, kx_aL, kx_aR, kx_ln, Nat.reduceAdd, Option.toList, List.cons_append, List.nil_append, mW_o, mf_7])
  repeat' apply And.intro
  all_goals try (first | with_reducible assumption | (with_reducible refine ck_nzI ?_; simp; done) | (with_reducible refine ck_nzL ?_; simp; done) | (with_reducible refine vp_in_nI ?_ ?_ <;> first | omega | decide) | (with_reducible refine Nat.le_of_ble_eq_true ?_; rfl) | omega)
  · intro zc4
    first | exact absurd rfl zc4 | exact absurd zc4 (by decide) | exact absurd (by decide) zc4 | (exfalso; first | exact zc12 hc | exact hc zc12 | exact hc (Decidable.not_not.mp zc12)) | (exfalso; simp_all; done)
  · intro zc4
    have ze4 := zc4
    refine hB bX11_need_7 _ _ _ _ _ _ _ kX11_need_7 ?_
    dsimp only [bX11_need_7, kx_wp, kx_step, kx_lI, kx_lL, kx_lA, kx_gl, kx_pI, kx_pL, kx_pR, kx_pA, kx_pV, kx_s1, kx_s2, kx_sl, kx_pre, kx_c2, kx_pl, kx_cmp, kx_oF, kx_eqN, kx_nil, kx_c1, kx_ft, kx_aI, kx_aL, kx_aR, kx_ln, Nat.reduceAdd, Option.toList, List.cons_append, List.nil_append, mW_o, mf_7]
    repeat (simp only [mu_7, mW_so, ck_p6, ck_p7, ck_p8, ck_p10, ck_p11, ck_p12, ck_p13, ck_p15, h6, nI_1, ck_pu7, ck_pu10, ck_pu11, ck_pu12, ck_pu13, ck_pu15, ck_pa95, ck_pa96, ck_pa97, ck_pa98, ck_pa99, ck_pem, ck_pau96, ck_pau99, va_us, va_upn, ne_eq, Nat.reduceEqDiff, not_false_eq_true]; try dsimp only [kx_wp, kx_step, kx_lI, kx_lL, kx_lA, kx_gl, kx_pI, kx_pL, kx_pR, kx_pA, kx_pV, kx_s1, kx_s2, kx_sl, kx_pre, kx_c2, kx_pl, kx_cmp, kx_oF, kx_eqN, kx_nil, kx_c1, kx_ft, kx_aI, kx_aL, kx_aR, kx_ln, Nat.reduceAdd, Option.toList, List.cons_append, List.nil_append, mW_o, mf_7])
    repeat' apply And.intro
    all_goals try (first | with_reducible assumption | (with_reducible refine ck_nzI ?_; simp; done) | (with_reducible refine ck_nzL ?_; simp; done) | (with_reducible refine vp_in_nI ?_ ?_ <;> first | omega | decide) | (with_reducible refine Nat.le_of_ble_eq_true ?_; rfl) | omega)
    refine hC.1 204 _ _ _ _ _ _ _ 11 _ _ _ _ _ _ _ _ _ _ _ _ lX11_204 (ct_X11_here l G h6 hn ha) ⟨by decide, rfl⟩ (mW_o) rfl rfl (Nat.le_of_ble_eq_true rfl) (by decide) (by decide) (by omega) (by omega) dX11_need_8 ?_
    refine hB bX11_need_11 _ _ _ _ _ _ _ kX11_need_11 ?_
    dsimp only [bX11_need_11, kx_wp, kx_step, kx_lI, kx_lL, kx_lA, kx_gl, kx_pI, kx_pL, kx_pR, kx_pA, kx_pV, kx_s1, kx_s2, kx_sl, kx_pre, kx_c2, kx_pl, kx_cmp, kx_oF, kx_eqN, kx_nil, kx_c1, kx_ft, kx_aI, kx_aL, kx_aR, kx_ln, Nat.reduceAdd, Option.toList, List.cons_append, List.nil_append, mW_o, mf_7]
    repeat (simp only [mu_7, mW_so, ck_p6, ck_p7, ck_p8, ck_p10, ck_p11, ck_p12, ck_p13, ck_p15, h6, nI_1, ck_pu7, ck_pu10, ck_pu11, ck_pu12, ck_pu13, ck_pu15, ck_pa95, ck_pa96, ck_pa97, ck_pa98, ck_pa99, ck_pem, ck_pau96, ck_pau99, va_us, va_upn, ne_eq, Nat.reduceEqDiff, not_false_eq_true]; try dsimp only [kx_wp, kx_step, kx_lI, kx_lL, kx_lA, kx_gl, kx_pI, kx_pL, kx_pR, kx_pA, kx_pV, kx_s1, kx_s2, kx_sl, kx_pre, kx_c2, kx_pl, kx_cmp, kx_oF, kx_eqN, kx_nil, kx_c1, kx_ft, kx_aI, kx_aL, kx_aR, kx_ln, Nat.reduceAdd, Option.toList, List.cons_append, List.nil_append, mW_o, mf_7])
    repeat' apply And.intro
    all_goals try (first | with_reducible assumption | (with_reducible refine ck_nzI ?_; simp; done) | (with_reducible refine ck_nzL ?_; simp; done) | (with_reducible refine vp_in_nI ?_ ?_ <;> first | omega | decide) | (with_reducible refine Nat.le_of_ble_eq_true ?_; rfl) | omega)
    · intro zc12
      have ze12 := zc12
      refine hB bX11_need_24 _ _ _ _ _ _ _ kX11_need_24 ?_
      dsimp only [bX11_need_24, kx_wp, kx_step, kx_lI, kx_lL, kx_lA, kx_gl, kx_pI, kx_pL, kx_pR, kx_pA, kx_pV, kx_s1, kx_s2, kx_sl, kx_pre, kx_c2, kx_pl, kx_cmp, kx_oF, kx_eqN, kx_nil, kx_c1, kx_ft, kx_aI, kx_aL, kx_aR, kx_ln, Nat.reduceAdd, Option.toList, List.cons_append, List.nil_append, mW_o, mf_7]
      repeat (simp only [mu_7, mW_so, ck_p6, ck_p7, ck_p8, ck_p10, ck_p11, ck_p12, ck_p13, ck_p15, h6, nI_1, ck_pu7, ck_pu10, ck_pu11, ck_pu12, ck_pu13, ck_pu15, ck_pa95, ck_pa96, ck_pa97, ck_pa98, ck_pa99, ck_pem, ck_pau96, ck_pau99, va_us, va_upn, ne_eq, Nat.reduceEqDiff, not_false_eq_true]; try dsimp only [kx_wp, kx_step, kx_lI, kx_lL, kx_lA, kx_gl, kx_pI, kx_pL, kx_pR, kx_pA, kx_pV, kx_s1, kx_s2, kx_sl, kx_pre, kx_c2, kx_pl, kx_cmp, kx_oF, kx_eqN, kx_nil, kx_c1, kx_ft, kx_aI, kx_aL, kx_aR, kx_ln, Nat.reduceAdd, Option.toList, List.cons_append, List.nil_append, mW_o, mf_7])
      repeat' apply And.intro
      all_goals try (first | with_reducible assumption | (with_reducible refine ck_nzI ?_; simp; done) | (with_reducible refine ck_nzL ?_; simp; done) | (with_reducible refine vp_in_nI ?_ ?_ <;> first | omega | decide) | (with_reducible refine Nat.le_of_ble_eq_true ?_; rfl) | omega)
      refine hC.1 212 _ _ _ _ _ _ _ 11 _ _ _ _ _ _ _ _ _ _ _ _ lX11_212 (ct_X11_fine l G) ⟨by decide, rfl⟩ (mW_o) rfl rfl (Nat.le_of_ble_eq_true rfl) (by decide) (by decide) (by omega) (by omega) dX11_need_25 ?_
      rw [ck_p8, if_pos rfl]
      refine hB bX11_need_28 _ _ _ _ _ _ _ kX11_need_28 ?_
      dsimp only [bX11_need_28, kx_wp, kx_step, kx_lI, kx_lL, kx_lA, kx_gl, kx_pI, kx_pL, kx_pR, kx_pA, kx_pV, kx_s1, kx_s2, kx_sl, kx_pre, kx_c2, kx_pl, kx_cmp, kx_oF, kx_eqN, kx_nil, kx_c1, kx_ft, kx_aI, kx_aL, kx_aR, kx_ln, Nat.reduceAdd, Option.toList, List.cons_append, List.nil_append, mW_o, mf_7]
      repeat (simp only [mu_7, mW_so, ck_p6, ck_p7, ck_p8, ck_p10, ck_p11, ck_p12, ck_p13, ck_p15, h6, nI_1, ck_pu7, ck_pu10, ck_pu11, ck_pu12, ck_pu13, ck_pu15, ck_pa95, ck_pa96, ck_pa97, ck_pa98, ck_pa99, ck_pem, ck_pau96, ck_pau99, va_us, va_upn, ne_eq, Nat.reduceEqDiff, not_false_eq_true]; try dsimp only [kx_wp, kx_step, kx_lI, kx_lL, kx_lA, kx_gl, kx_pI, kx_pL, kx_pR, kx_pA, kx_pV, kx_s1, kx_s2, kx_sl, kx_pre, kx_c2, kx_pl, kx_cmp, kx_oF, kx_eqN, kx_nil, kx_c1, kx_ft, kx_aI, kx_aL, kx_aR, kx_ln, Nat.reduceAdd, Option.toList, List.cons_append, List.nil_append, mW_o, mf_7])
      repeat' apply And.intro
      all_goals try (first | with_reducible assumption | (with_reducible refine ck_nzI ?_; simp; done) | (with_reducible refine ck_nzL ?_; simp; done) | (with_reducible refine vp_in_nI ?_ ?_ <;> first | omega | decide) | (with_reducible refine Nat.le_of_ble_eq_true ?_; rfl) | omega)
      · intro zc28
        first | exact absurd rfl zc28 | exact absurd zc28 (by decide) | exact absurd (by decide) zc28 | (exfalso; first | exact zc12 hc | exact hc zc12 | exact hc (Decidable.not_not.mp zc12)) | (exfalso; simp_all; done)
      · intro zc28
        have ze28 := zc28
        refine hB bX11_need_31 _ _ _ _ _ _ _ kX11_need_31 ?_
        dsimp only [bX11_need_31, kx_wp, kx_step, kx_lI, kx_lL, kx_lA, kx_gl, kx_pI, kx_pL, kx_pR, kx_pA, kx_pV, kx_s1, kx_s2, kx_sl, kx_pre, kx_c2, kx_pl, kx_cmp, kx_oF, kx_eqN, kx_nil, kx_c1, kx_ft, kx_aI, kx_aL, kx_aR, kx_ln, Nat.reduceAdd, Option.toList, List.cons_append, List.nil_append, mW_o, mf_7]
        repeat (simp only [mu_7, mW_so, ck_p6, ck_p7, ck_p8, ck_p10, ck_p11, ck_p12, ck_p13, ck_p15, h6, nI_1, ck_pu7, ck_pu10, ck_pu11, ck_pu12, ck_pu13, ck_pu15, ck_pa95, ck_pa96, ck_pa97, ck_pa98, ck_pa99, ck_pem, ck_pau96, ck_pau99, va_us, va_upn, ne_eq, Nat.reduceEqDiff, not_false_eq_true]; try dsimp only [kx_wp, kx_step, kx_lI, kx_lL, kx_lA, kx_gl, kx_pI, kx_pL, kx_pR, kx_pA, kx_pV, kx_s1, kx_s2, kx_sl, kx_pre, kx_c2, kx_pl, kx_cmp, kx_oF, kx_eqN, kx_nil, kx_c1, kx_ft, kx_aI, kx_aL, kx_aR, kx_ln, Nat.reduceAdd, Option.toList, List.cons_append, List.nil_append, mW_o, mf_7])
        repeat' apply And.intro
        all_goals try (first | with_reducible assumption | (with_reducible refine ck_nzI ?_; simp; done) | (with_reducible refine ck_nzL ?_; simp; done) | (with_reducible refine vp_in_nI ?_ ?_ <;> first | omega | decide) | (with_reducible refine Nat.le_of_ble_eq_true ?_; rfl) | omega)
        refine hB bX11_need_41 _ _ _ _ _ _ _ kX11_need_41 ?_
        dsimp only [bX11_need_41, kx_wp, kx_step, kx_lI, kx_lL, kx_lA, kx_gl, kx_pI, kx_pL, kx_pR, kx_pA, kx_pV, kx_s1, kx_s2, kx_sl, kx_pre, kx_c2, kx_pl, kx_cmp, kx_oF, kx_eqN, kx_nil, kx_c1, kx_ft, kx_aI, kx_aL, kx_aR, kx_ln, Nat.reduceAdd, Option.toList, List.cons_append, List.nil_append, mW_o, mf_7]
        repeat (simp only [mu_7, mW_so, ck_p6, ck_p7, ck_p8, ck_p10, ck_p11, ck_p12, ck_p13, ck_p15, h6, nI_1, ck_pu7, ck_pu10, ck_pu11, ck_pu12, ck_pu13, ck_pu15, ck_pa95, ck_pa96, ck_pa97, ck_pa98, ck_pa99, ck_pem, ck_pau96, ck_pau99, va_us, va_upn, ne_eq, Nat.reduceEqDiff, not_false_eq_true]; try dsimp only [kx_wp, kx_step, kx_lI, kx_lL, kx_lA, kx_gl, kx_pI, kx_pL, kx_pR, kx_pA, kx_pV, kx_s1, kx_s2, kx_sl, kx_pre, kx_c2, kx_pl, kx_cmp, kx_oF, kx_eqN, kx_nil, kx_c1, kx_ft, kx_aI, kx_aL, kx_aR, kx_ln, Nat.reduceAdd, Option.toList, List.cons_append, List.nil_append, mW_o, mf_7])
        all_goals (repeat' apply And.intro)
        all_goals ((try clear hB hC); first | exact True.intro | with_reducible rfl | with_reducible assumption | (with_reducible refine vp_in_nI ?_ ?_ <;> first | omega | decide) | exact Nat.le_of_ble_eq_true rfl | (with_reducible refine ck_nzI ?_; simp; done) | (with_reducible refine ck_nzL ?_; simp; done) | (simp only [pk_us, pk_uLs, ze4, eq_true ze12, ze28, ↓reduceIte, not_true_eq_false, not_false_eq_true]; done) | (simp only [ze4, eq_true ze12, ze28, ↓reduceIte, not_true_eq_false, not_false_eq_true]; with_reducible rfl) | skip)
    · intro zc12
      first | exact absurd rfl zc12 | exact absurd zc12 (by decide) | exact absurd (by decide) zc12 | (exfalso; first | exact zc12 hc | exact hc zc12 | exact hc (Decidable.not_not.mp zc12)) | (exfalso; simp_all; done)

set_option maxRecDepth 100000 in
set_option maxHeartbeats 4000000 in
theorem ct_X11_need_w (l : Launch) (G : kx_G) {M : Nat → Int32} {A : Nat → Nat → Int32} {L : Nat → Nat → Int64} {R : kx_P} {sz : Nat} {a c n : Nat} {k o : Int32} {C N : Nat → Int32} (h6 : M 6 = nI n) (hn : n ≤ 400) (ha : a ≤ n) {ch : Int32} (hc : ¬ ck_hcx (A 95) n a = ch)  : kx_M l G sX11_need 2 0 0 [.ref 93, .int (ch)] (mW (ck_pM M a ((-1)) k o c) (ck_pA A C N) L R) sz none (mW (ck_pM M (ck_sk (A 95) n a) (nI (ck_sk (A 95) n a)) (1) o c) (ck_pA A C N) L R) sz := by
  have zsk := ck_sk_le (A 95) ha
  refine kx_mk kx_tab kxLok_X11 (ini := false) [some (.ref 93), some (.int (ch))] ⟨by decide, rfl, by decide, by decide⟩ (rfl) rfl rfl (fun g hB hC => ?_)
  refine hB bX11_need_0 _ _ _ _ _ _ _ kX11_need_0 ?_
  dsimp only [bX11_need_0, kx_wp, kx_step, kx_lI, kx_lL, kx_lA, kx_gl, kx_pI, kx_pL, kx_pR, kx_pA, kx_pV, kx_s1, kx_s2, kx_sl, kx_pre, kx_c2, kx_pl, kx_cmp, kx_oF, kx_eqN, kx_nil, kx_c1, kx_ft, kx_aI, kx_aL, kx_aR, kx_ln, Nat.reduceAdd, Option.toList, List.cons_append, List.nil_append, mW_o, mf_7]
  repeat (simp only [mu_7, mW_so, ck_p6, ck_p7, ck_p8, ck_p10, ck_p11, ck_p12, ck_p13, ck_p15, h6, nI_1, ck_pu7, ck_pu10, ck_pu11, ck_pu12, ck_pu13, ck_pu15, ck_pa95, ck_pa96, ck_pa97, ck_pa98, ck_pa99, ck_pem, ck_pau96, ck_pau99, va_us, va_upn, ne_eq, Nat.reduceEqDiff, not_false_eq_true, ck_pwt]; try dsimp only [kx_wp, kx_step, kx_lI, kx_lL, kx_lA, kx_gl, kx_pI, kx_pL, kx_pR, kx_pA, kx_pV, kx_s1, kx_s2, kx_sl, kx_pre, kx_c2, kx_pl, kx_cmp, kx_oF, kx_eqN, kx_nil, kx_c1, kx_ft, kx_aI, kx_aL, kx_aR, kx_ln, Nat.reduceAdd, Option.toList, List.cons_append, List.nil_append, mW_o, mf_7])
  repeat' apply And.intro
  all_goals try (first | with_reducible assumption | (with_reducible refine ck_nzI ?_; simp; done) | (with_reducible refine ck_nzL ?_; simp; done) | (with_reducible refine vp_in_nI ?_ ?_ <;> first | omega | decide) | (with_reducible refine Nat.le_of_ble_eq_true ?_; rfl) | omega)
  refine hC.1 212 _ _ _ _ _ _ _ 11 _ _ _ _ _ _ _ _ _ _ _ _ lX11_212 (ct_X11_fine l G) ⟨by decide, rfl⟩ (mW_o) rfl rfl (Nat.le_of_ble_eq_true rfl) (by decide) (by decide) (by omega) (by omega) dX11_need_1 ?_
  rw [ck_p8, if_pos rfl]
  refine hB bX11_need_4 _ _ _ _ _ _ _ kX11_need_4 ?_
  dsimp only [bX11_need_4, kx_wp, kx_step, kx_lI, kx_lL, kx_lA, kx_gl, kx_pI, kx_pL, kx_pR, kx_pA, kx_pV, kx_s1, kx_s2, kx_sl, kx_pre, kx_c2, kx_pl, kx_cmp, kx_oF, kx_eqN, kx_nil, kx_c1, kx_ft, kx_aI, kx_aL, kx_aR, kx_ln, Nat.reduceAdd, Option.toList, List.cons_append, List.nil_append, mW_o, mf_7]
  repeat (simp only [mu_7, mW_so, ck_p6, ck_p7, ck_p8, ck_p10, ck_p11, ck_p12, ck_p13, ck_p15, h6, nI_1, ck_pu7, ck_pu10, ck_pu11, ck_pu12, ck_pu13, ck_pu15, ck_pa95, ck_pa96, ck_pa97, ck_pa98, ck_pa99, ck_pem, ck_pau96, ck_pau99, va_us, va_upn, ne_eq, Nat.reduceEqDiff, not_false_eq_true, ck_pwt]; try dsimp only [kx_wp, kx_step, kx_lI, kx_lL, kx_lA, kx_gl, kx_pI, kx_pL, kx_pR, kx_pA, kx_pV, kx_s1, kx_s2, kx_sl, kx_pre, kx_c2, kx_pl, kx_cmp, kx_oF, kx_eqN, kx_nil, kx_c1, kx_ft, kx_aI, kx_aL, kx_aR, kx_ln, Nat.reduceAdd, Option.toList, List.cons_append, List.nil_append, mW_o, mf_7])
  repeat' apply And.intro
  all_goals try (first | with_reducible assumption | (with_reducible refine ck_nzI ?_; simp; done) | (with_reducible refine ck_nzL ?_; simp; done) | (with_reducible refine vp_in_nI ?_ ?_ <;> first | omega | decide) | (with_reducible refine Nat.le_of_ble_eq_true ?_; rfl) | omega)
  · intro zc4
    first | exact absurd rfl zc4 | exact absurd zc4 (by decide) | exact absurd (by decide) zc4 | (exfalso; first | exact zc12 hc | exact hc zc12 | exact hc (Decidable.not_not.mp zc12)) | (exfalso; simp_all; done)
  · intro zc4
    have ze4 := zc4
    refine hB bX11_need_7 _ _ _ _ _ _ _ kX11_need_7 ?_
    dsimp only [bX11_need_7, kx_wp, kx_step, kx_lI, kx_lL, kx_lA, kx_gl, kx_pI, kx_pL, kx_pR, kx_pA, kx_pV, kx_s1, kx_s2, kx_sl, kx_pre, kx_c2, kx_pl, kx_cmp, kx_oF, kx_eqN, kx_nil, kx_c1, kx_ft, kx_aI, kx_aL, kx_aR, kx_ln, Nat.reduceAdd, Option.toList, List.cons_append, List.nil_append, mW_o, mf_7]
    repeat (simp only [mu_7, mW_so, ck_p6, ck_p7, ck_p8, ck_p10, ck_p11, ck_p12, ck_p13, ck_p15, h6, nI_1, ck_pu7, ck_pu10, ck_pu11, ck_pu12, ck_pu13, ck_pu15, ck_pa95, ck_pa96, ck_pa97, ck_pa98, ck_pa99, ck_pem, ck_pau96, ck_pau99, va_us, va_upn, ne_eq, Nat.reduceEqDiff, not_false_eq_true, ck_pwt]; try dsimp only [kx_wp, kx_step, kx_lI, kx_lL, kx_lA, kx_gl, kx_pI, kx_pL, kx_pR, kx_pA, kx_pV, kx_s1, kx_s2, kx_sl, kx_pre, kx_c2, kx_pl, kx_cmp, kx_oF, kx_eqN, kx_nil, kx_c1, kx_ft, kx_aI, kx_aL, kx_aR, kx_ln, Nat.reduceAdd, Option.toList, List.cons_append, List.nil_append, mW_o, mf_7])
    repeat' apply And.intro
    all_goals try (first | with_reducible assumption | (with_reducible refine ck_nzI ?_; simp; done) | (with_reducible refine ck_nzL ?_; simp; done) | (with_reducible refine vp_in_nI ?_ ?_ <;> first | omega | decide) | (with_reducible refine Nat.le_of_ble_eq_true ?_; rfl) | omega)
    refine hC.1 204 _ _ _ _ _ _ _ 11 _ _ _ _ _ _ _ _ _ _ _ _ lX11_204 (ct_X11_here l G h6 hn ha) ⟨by decide, rfl⟩ (mW_o) rfl rfl (Nat.le_of_ble_eq_true rfl) (by decide) (by decide) (by omega) (by omega) dX11_need_8 ?_
    refine hB bX11_need_11 _ _ _ _ _ _ _ kX11_need_11 ?_
    dsimp only [bX11_need_11, kx_wp, kx_step, kx_lI, kx_lL, kx_lA, kx_gl, kx_pI, kx_pL, kx_pR, kx_pA, kx_pV, kx_s1, kx_s2, kx_sl, kx_pre, kx_c2, kx_pl, kx_cmp, kx_oF, kx_eqN, kx_nil, kx_c1, kx_ft, kx_aI, kx_aL, kx_aR, kx_ln, Nat.reduceAdd, Option.toList, List.cons_append, List.nil_append, mW_o, mf_7]
    repeat (simp only [mu_7, mW_so, ck_p6, ck_p7, ck_p8, ck_p10, ck_p11, ck_p12, ck_p13, ck_p15, h6, nI_1, ck_pu7, ck_pu10, ck_pu11, ck_pu12, ck_pu13, ck_pu15, ck_pa95, ck_pa96, ck_pa97, ck_pa98, ck_pa99, ck_pem, ck_pau96, ck_pau99, va_us, va_upn, ne_eq, Nat.reduceEqDiff, not_false_eq_true, ck_pwt]; try dsimp only [kx_wp, kx_step, kx_lI, kx_lL, kx_lA, kx_gl, kx_pI, kx_pL, kx_pR, kx_pA, kx_pV, kx_s1, kx_s2, kx_sl, kx_pre, kx_c2, kx_pl, kx_cmp, kx_oF, kx_eqN, kx_nil, kx_c1, kx_ft, kx_aI, kx_aL, kx_aR, kx_ln, Nat.reduceAdd, Option.toList, List.cons_append, List.nil_append, mW_o, mf_7])
    repeat' apply And.intro
    all_goals try (first | with_reducible assumption | (with_reducible refine ck_nzI ?_; simp; done) | (with_reducible refine ck_nzL ?_; simp; done) | (with_reducible refine vp_in_nI ?_ ?_ <;> first | omega | decide) | (with_reducible refine Nat.le_of_ble_eq_true ?_; rfl) | omega)
    · intro zc12
      first | exact absurd rfl zc12 | exact absurd zc12 (by decide) | exact absurd (by decide) zc12 | (exfalso; first | exact zc12 hc | exact hc zc12 | exact hc (Decidable.not_not.mp zc12)) | (exfalso; simp_all; done)
    · intro zc12
      have ze12 := zc12
      refine hB bX11_need_15 _ _ _ _ _ _ _ kX11_need_15 ?_
      dsimp only [bX11_need_15, kx_wp, kx_step, kx_lI, kx_lL, kx_lA, kx_gl, kx_pI, kx_pL, kx_pR, kx_pA, kx_pV, kx_s1, kx_s2, kx_sl, kx_pre, kx_c2, kx_pl, kx_cmp, kx_oF, kx_eqN, kx_nil, kx_c1, kx_ft, kx_aI, kx_aL, kx_aR, kx_ln, Nat.reduceAdd, Option.toList, List.cons_append, List.nil_append, mW_o, mf_7]
      repeat (simp only [mu_7, mW_so, ck_p6, ck_p7, ck_p8, ck_p10, ck_p11, ck_p12, ck_p13, ck_p15, h6, nI_1, ck_pu7, ck_pu10, ck_pu11, ck_pu12, ck_pu13, ck_pu15, ck_pa95, ck_pa96, ck_pa97, ck_pa98, ck_pa99, ck_pem, ck_pau96, ck_pau99, va_us, va_upn, ne_eq, Nat.reduceEqDiff, not_false_eq_true, ck_pwt]; try dsimp only [kx_wp, kx_step, kx_lI, kx_lL, kx_lA, kx_gl, kx_pI, kx_pL, kx_pR, kx_pA, kx_pV, kx_s1, kx_s2, kx_sl, kx_pre, kx_c2, kx_pl, kx_cmp, kx_oF, kx_eqN, kx_nil, kx_c1, kx_ft, kx_aI, kx_aL, kx_aR, kx_ln, Nat.reduceAdd, Option.toList, List.cons_append, List.nil_append, mW_o, mf_7])
      repeat' apply And.intro
      all_goals try (first | with_reducible assumption | (with_reducible refine ck_nzI ?_; simp; done) | (with_reducible refine ck_nzL ?_; simp; done) | (with_reducible refine vp_in_nI ?_ ?_ <;> first | omega | decide) | (with_reducible refine Nat.le_of_ble_eq_true ?_; rfl) | omega)
      refine hC.1 219 _ _ _ _ _ _ _ 11 _ _ _ _ _ _ _ _ _ _ _ _ lX11_219 (ct_X11_wrong l G) ⟨by decide, rfl⟩ (mW_o) rfl rfl (Nat.le_of_ble_eq_true rfl) (by decide) (by decide) (by omega) (by omega) dX11_need_21 ?_
      refine hB bX11_need_24 _ _ _ _ _ _ _ kX11_need_24 ?_
      dsimp only [bX11_need_24, kx_wp, kx_step, kx_lI, kx_lL, kx_lA, kx_gl, kx_pI, kx_pL, kx_pR, kx_pA, kx_pV, kx_s1, kx_s2, kx_sl, kx_pre, kx_c2, kx_pl, kx_cmp, kx_oF, kx_eqN, kx_nil, kx_c1, kx_ft, kx_aI, kx_aL, kx_aR, kx_ln, Nat.reduceAdd, Option.toList, List.cons_append, List.nil_append, mW_o, mf_7]
      repeat (simp only [mu_7, mW_so, ck_p6, ck_p7, ck_p8, ck_p10, ck_p11, ck_p12, ck_p13, ck_p15, h6, nI_1, ck_pu7, ck_pu10, ck_pu11, ck_pu12, ck_pu13, ck_pu15, ck_pa95, ck_pa96, ck_pa97, ck_pa98, ck_pa99, ck_pem, ck_pau96, ck_pau99, va_us, va_upn, ne_eq, Nat.reduceEqDiff, not_false_eq_true, ck_pwt]; try dsimp only [kx_wp, kx_step, kx_lI, kx_lL, kx_lA, kx_gl, kx_pI, kx_pL, kx_pR, kx_pA, kx_pV, kx_s1, kx_s2, kx_sl, kx_pre, kx_c2, kx_pl, kx_cmp, kx_oF, kx_eqN, kx_nil, kx_c1, kx_ft, kx_aI, kx_aL, kx_aR, kx_ln, Nat.reduceAdd, Option.toList, List.cons_append, List.nil_append, mW_o, mf_7])
      repeat' apply And.intro
      all_goals try (first | with_reducible assumption | (with_reducible refine ck_nzI ?_; simp; done) | (with_reducible refine ck_nzL ?_; simp; done) | (with_reducible refine vp_in_nI ?_ ?_ <;> first | omega | decide) | (with_reducible refine Nat.le_of_ble_eq_true ?_; rfl) | omega)
      refine hC.1 212 _ _ _ _ _ _ _ 11 _ _ _ _ _ _ _ _ _ _ _ _ lX11_212 (ct_X11_fine l G) ⟨by decide, rfl⟩ (mW_o) rfl rfl (Nat.le_of_ble_eq_true rfl) (by decide) (by decide) (by omega) (by omega) dX11_need_25 ?_
      rw [ck_p8, if_neg (ck_m1 _ (by omega))]
      refine hB bX11_need_28 _ _ _ _ _ _ _ kX11_need_28 ?_
      dsimp only [bX11_need_28, kx_wp, kx_step, kx_lI, kx_lL, kx_lA, kx_gl, kx_pI, kx_pL, kx_pR, kx_pA, kx_pV, kx_s1, kx_s2, kx_sl, kx_pre, kx_c2, kx_pl, kx_cmp, kx_oF, kx_eqN, kx_nil, kx_c1, kx_ft, kx_aI, kx_aL, kx_aR, kx_ln, Nat.reduceAdd, Option.toList, List.cons_append, List.nil_append, mW_o, mf_7]
      repeat (simp only [mu_7, mW_so, ck_p6, ck_p7, ck_p8, ck_p10, ck_p11, ck_p12, ck_p13, ck_p15, h6, nI_1, ck_pu7, ck_pu10, ck_pu11, ck_pu12, ck_pu13, ck_pu15, ck_pa95, ck_pa96, ck_pa97, ck_pa98, ck_pa99, ck_pem, ck_pau96, ck_pau99, va_us, va_upn, ne_eq, Nat.reduceEqDiff, not_false_eq_true, ck_pwt]; try dsimp only [kx_wp, kx_step, kx_lI, kx_lL, kx_lA, kx_gl, kx_pI, kx_pL, kx_pR, kx_pA, kx_pV, kx_s1, kx_s2, kx_sl, kx_pre, kx_c2, kx_pl, kx_cmp, kx_oF, kx_eqN, kx_nil, kx_c1, kx_ft, kx_aI, kx_aL, kx_aR, kx_ln, Nat.reduceAdd, Option.toList, List.cons_append, List.nil_append, mW_o, mf_7])
      repeat' apply And.intro
      all_goals try (first | with_reducible assumption | (with_reducible refine ck_nzI ?_; simp; done) | (with_reducible refine ck_nzL ?_; simp; done) | (with_reducible refine vp_in_nI ?_ ?_ <;> first | omega | decide) | (with_reducible refine Nat.le_of_ble_eq_true ?_; rfl) | omega)
      · intro zc28
        have ze28 := zc28
        refine hB bX11_need_41 _ _ _ _ _ _ _ kX11_need_41 ?_
        dsimp only [bX11_need_41, kx_wp, kx_step, kx_lI, kx_lL, kx_lA, kx_gl, kx_pI, kx_pL, kx_pR, kx_pA, kx_pV, kx_s1, kx_s2, kx_sl, kx_pre, kx_c2, kx_pl, kx_cmp, kx_oF, kx_eqN, kx_nil, kx_c1, kx_ft, kx_aI, kx_aL, kx_aR, kx_ln, Nat.reduceAdd, Option.toList, List.cons_append, List.nil_append, mW_o, mf_7]
        repeat (simp only [mu_7, mW_so, ck_p6, ck_p7, ck_p8, ck_p10, ck_p11, ck_p12, ck_p13, ck_p15, h6, nI_1, ck_pu7, ck_pu10, ck_pu11, ck_pu12, ck_pu13, ck_pu15, ck_pa95, ck_pa96, ck_pa97, ck_pa98, ck_pa99, ck_pem, ck_pau96, ck_pau99, va_us, va_upn, ne_eq, Nat.reduceEqDiff, not_false_eq_true, ck_pwt]; try dsimp only [kx_wp, kx_step, kx_lI, kx_lL, kx_lA, kx_gl, kx_pI, kx_pL, kx_pR, kx_pA, kx_pV, kx_s1, kx_s2, kx_sl, kx_pre, kx_c2, kx_pl, kx_cmp, kx_oF, kx_eqN, kx_nil, kx_c1, kx_ft, kx_aI, kx_aL, kx_aR, kx_ln, Nat.reduceAdd, Option.toList, List.cons_append, List.nil_append, mW_o, mf_7])
        all_goals (repeat' apply And.intro)
        all_goals ((try clear hB hC); first | exact True.intro | with_reducible rfl | with_reducible assumption | (with_reducible refine vp_in_nI ?_ ?_ <;> first | omega | decide) | exact Nat.le_of_ble_eq_true rfl | (with_reducible refine ck_nzI ?_; simp; done) | (with_reducible refine ck_nzL ?_; simp; done) | (simp only [pk_us, pk_uLs, ze4, ze12, eq_true ze28, ↓reduceIte, not_true_eq_false, not_false_eq_true]; done) | (simp only [ze4, ze12, eq_true ze28, ↓reduceIte, not_true_eq_false, not_false_eq_true]; with_reducible rfl) | skip)
      · intro zc28
        first | exact absurd rfl zc28 | exact absurd zc28 (by decide) | exact absurd (by decide) zc28 | (exfalso; first | exact zc12 hc | exact hc zc12 | exact hc (Decidable.not_not.mp zc12)) | (exfalso; simp_all; done)

theorem ct_X11_need (l : Launch) (G : kx_G) {M : Nat → Int32} {A : Nat → Nat → Int32} {L : Nat → Nat → Int64} {R : kx_P} {sz : Nat} {a c n : Nat} {b k o : Int32} {C N : Nat → Int32} (h6 : M 6 = nI n) (hn : n ≤ 400) (ha : a ≤ n) {ch : Int32} : kx_M l G sX11_need 2 0 0 [.ref 93, .int ch] (mW (ck_pM M a b k o c) (ck_pA A C N) L R) sz none (mW (ck_pM M ((ck_need (A 95) n ch a b k).1) ((ck_need (A 95) n ch a b k).2.1) ((ck_need (A 95) n ch a b k).2.2) o c) (ck_pA A C N) L R) sz := by
  unfold ck_need
  by_cases hb : b = -1
  · subst hb
    rw [if_pos rfl]
    by_cases hc : ck_hcx (A 95) n a = ch
    · rw [if_pos hc]; exact ct_X11_need_t l G h6 hn ha hc
    · rw [if_neg hc]; exact ct_X11_need_w l G h6 hn ha hc
  · rw [if_neg hb]; exact ct_X11_need_f l G h6 hn ha hb
theorem ck_need_a {T : Nat → Int32} {n : Nat} {ch : Int32} {a : Nat} {b k : Int32} (ha : a ≤ n) (hch : ¬ ch = 0) : a ≤ (ck_need T n ch a b k).1 ∧ (ck_need T n ch a b k).1 ≤ n := by
  have h1 := ck_sk_le T ha
  unfold ck_need
  split
  · split
    · rename_i h
      have := ck_hcx_lt (T := T) (n := n) (a := a) (by rw [h]; exact hch)
      dsimp only; omega
    · dsimp only; omega
  · dsimp only; omega
theorem ck_sgn_a {T : Nat → Int32} {n a : Nat} {b k : Int32} (ha : a ≤ n) : a ≤ (ck_sgn T n a b k).2.1 ∧ (ck_sgn T n a b k).2.1 ≤ n := by
  have h1 := ck_sk_le T ha
  unfold ck_sgn
  split
  · split
    · rename_i h
      have h2 := ck_hcx_lt (T := T) (n := n) (a := a) (by rw [h]; decide)
      have := ck_num_a (T := T) (n := n) (lo := 0) (hi := 500) (a := ck_sk T n a + 1) (b := -1) (k := k) (by omega)
      dsimp only; omega
    · have := ck_num_a (T := T) (n := n) (lo := 0) (hi := 500) (a := ck_sk T n a) (b := -1) (k := k) (by omega)
      omega
  · dsimp only; omega
theorem ck_op_a {T : Nat → Int32} {n a : Nat} {b k o : Int32} (ha : a ≤ n) : a ≤ (ck_op T n a b k o).1 ∧ (ck_op T n a b k o).1 ≤ n := by
  have h1 := ck_sk_le T ha
  unfold ck_op
  split
  · split
    · rename_i h
      have h2 := ck_hcx_lt (T := T) (n := n) (a := a) (by rw [h]; decide)
      split <;> (dsimp only; omega)
    · dsimp only; omega
  · dsimp only; omega

def bX11_opensOne_0 : List kx_O := [(.aload_n 0, 0, 0, 0, .null)]
theorem kX11_opensOne_0 : kx_oks kxL_X11 false cX11_opensOne 0 bX11_opensOne_0 = true := by decide +kernel
def bX11_opensOne_4 : List kx_O := [(.ifCond .ne 4, 8, 0, 0, .null)]
theorem kX11_opensOne_4 : kx_oks kxL_X11 false cX11_opensOne 4 bX11_opensOne_4 = true := by decide +kernel
def bX11_opensOne_7 : List kx_O := [(.return_, 0, 0, 0, .null)]
theorem kX11_opensOne_7 : kx_oks kxL_X11 false cX11_opensOne 7 bX11_opensOne_7 = true := by decide +kernel
def bX11_opensOne_8 : List kx_O := [(.aload_n 0, 0, 0, 0, .null)]
theorem kX11_opensOne_8 : kx_oks kxL_X11 false cX11_opensOne 8 bX11_opensOne_8 = true := by decide +kernel
def bX11_opensOne_12 : List kx_O := [(.bipush 40, 0, 0, 0, .int 40), (.if_icmp .eq 15, 29, 0, 0, .null)]
theorem kX11_opensOne_12 : kx_oks kxL_X11 false cX11_opensOne 12 bX11_opensOne_12 = true := by decide +kernel
def bX11_opensOne_17 : List kx_O := [(.aload_n 0, 0, 0, 0, .null), (.iconst 1, 0, 0, 0, .int 1), (.aload_n 0, 0, 0, 0, .null), (.getfield 198, 11, 7, 0, .null)]
theorem kX11_opensOne_17 : kx_oks kxL_X11 false cX11_opensOne 17 bX11_opensOne_17 = true := by decide +kernel
def bX11_opensOne_26 : List kx_O := [(.goto 21, 47, 0, 0, .null)]
theorem kX11_opensOne_26 : kx_oks kxL_X11 false cX11_opensOne 26 bX11_opensOne_26 = true := by decide +kernel
def bX11_opensOne_29 : List kx_O := [(.aload_n 0, 0, 0, 0, .null), (.getfield 231, 11, 11, 0, .null), (.bipush 8, 0, 0, 0, .int 8), (.if_icmp .ne 12, 47, 0, 0, .null)]
theorem kX11_opensOne_29 : kx_oks kxL_X11 false cX11_opensOne 29 bX11_opensOne_29 = true := by decide +kernel
def bX11_opensOne_38 : List kx_O := [(.aload_n 0, 0, 0, 0, .null), (.iconst 3, 0, 0, 0, .int 3), (.aload_n 0, 0, 0, 0, .null), (.getfield 198, 11, 7, 0, .null)]
theorem kX11_opensOne_38 : kx_oks kxL_X11 false cX11_opensOne 38 bX11_opensOne_38 = true := by decide +kernel
def bX11_opensOne_47 : List kx_O := [(.aload_n 0, 0, 0, 0, .null)]
theorem kX11_opensOne_47 : kx_oks kxL_X11 false cX11_opensOne 47 bX11_opensOne_47 = true := by decide +kernel
def bX11_opensOne_51 : List kx_O := [(.ifCond .eq 13, 64, 0, 0, .null)]
theorem kX11_opensOne_51 : kx_oks kxL_X11 false cX11_opensOne 51 bX11_opensOne_51 = true := by decide +kernel
def bX11_opensOne_54 : List kx_O := [(.aload_n 0, 0, 0, 0, .null), (.dup, 0, 0, 0, .null), (.getfield 198, 11, 7, 0, .null), (.iconst 1, 0, 0, 0, .int 1), (.iadd, 0, 0, 0, .null), (.putfield 198, 11, 7, 0, .null)]
theorem kX11_opensOne_54 : kx_oks kxL_X11 false cX11_opensOne 54 bX11_opensOne_54 = true := by decide +kernel
def bX11_opensOne_64 : List kx_O := [(.aload_n 0, 0, 0, 0, .null), (.dup, 0, 0, 0, .null), (.getfield 231, 11, 11, 0, .null), (.iconst 1, 0, 0, 0, .int 1), (.iadd, 0, 0, 0, .null), (.putfield 231, 11, 11, 0, .null), (.return_, 0, 0, 0, .null)]
theorem kX11_opensOne_64 : kx_oks kxL_X11 false cX11_opensOne 64 bX11_opensOne_64 = true := by decide +kernel
theorem dX11_opensOne_1 : decode cX11_opensOne 1 = .ok (.invokevirtual 212, 3) := by decide +kernel
theorem dX11_opensOne_9 : decode cX11_opensOne 9 = .ok (.invokevirtual 204, 3) := by decide +kernel
theorem dX11_opensOne_23 : decode cX11_opensOne 23 = .ok (.invokevirtual 219, 3) := by decide +kernel
theorem dX11_opensOne_44 : decode cX11_opensOne 44 = .ok (.invokevirtual 219, 3) := by decide +kernel
theorem dX11_opensOne_48 : decode cX11_opensOne 48 = .ok (.invokevirtual 212, 3) := by decide +kernel
set_option maxRecDepth 100000 in
set_option maxHeartbeats 4000000 in
theorem ct_X11_opensOne_f (l : Launch) (G : kx_G) {M : Nat → Int32} {A : Nat → Nat → Int32} {L : Nat → Nat → Int64} {R : kx_P} {sz : Nat} {a c n : Nat} {b k o : Int32} {C N : Nat → Int32} (h6 : M 6 = nI n) (hn : n ≤ 400) (ha : a ≤ n) (hb : ¬ b = -1)  : kx_M l G sX11_opensOne 2 0 0 [.ref 93] (mW (ck_pM M a b k o c) (ck_pA A C N) L R) sz none (mW (ck_pM M a b k o c) (ck_pA A C N) L R) sz := by
  refine kx_mk kx_tab kxLok_X11 (ini := false) [some (.ref 93)] ⟨by decide, rfl, by decide, by decide⟩ (rfl) rfl rfl (fun g hB hC => ?_)
  refine hB bX11_opensOne_0 _ _ _ _ _ _ _ kX11_opensOne_0 ?_
  dsimp only [bX11_opensOne_0, kx_wp, kx_step, kx_lI, kx_lL, kx_lA, kx_gl, kx_pI, kx_pL, kx_pR, kx_pA, kx_pV, kx_s1, kx_s2, kx_sl, kx_pre, kx_c2, kx_pl, kx_cmp, kx_oF, kx_eqN, kx_nil, kx_c1, kx_ft, kx_aI, kx_aL, kx_aR, kx_ln, Nat.reduceAdd, Option.toList, List.cons_append, List.nil_append, mW_o, mf_7, mf_11]
  repeat (simp only [mu_7, mW_so, mu_11, ck_p6, ck_p7, ck_p8, ck_p10, ck_p11, ck_p12, ck_p13, ck_p15, h6, nI_1, ck_pu7, ck_pu10, ck_pu11, ck_pu12, ck_pu13, ck_pu15, ck_pa95, ck_pa96, ck_pa97, ck_pa98, ck_pa99, ck_pem, ck_pau96, ck_pau99, va_us, va_upn, ne_eq, Nat.reduceEqDiff, not_false_eq_true]; try dsimp only [kx_wp, kx_step, kx_lI, kx_lL, kx_lA, kx_gl, kx_pI, kx_pL, kx_pR, kx_pA, kx_pV, kx_s1, kx_s2, kx_sl, kx_pre, kx_c2, kx_pl, kx_cmp, kx_oF, kx_eqN, kx_nil, kx_c1, kx_ft, kx_aI, kx_aL, kx_aR, kx_ln, Nat.reduceAdd, Option.toList, List.cons_append, List.nil_append, mW_o, mf_7, mf_11])
  repeat' apply And.intro
  all_goals try (first | with_reducible assumption | (with_reducible refine ck_nzI ?_; simp; done) | (with_reducible refine ck_nzL ?_; simp; done) | (with_reducible refine vp_in_nI ?_ ?_ <;> first | omega | decide) | (with_reducible refine Nat.le_of_ble_eq_true ?_; rfl) | omega)
  refine hC.1 212 _ _ _ _ _ _ _ 11 _ _ _ _ _ _ _ _ _ _ _ _ lX11_212 (ct_X11_fine l G) ⟨by decide, rfl⟩ (mW_o) rfl rfl (Nat.le_of_ble_eq_true rfl) (by decide) (by decide) (by omega) (by omega) dX11_opensOne_1 ?_
  rw [ck_p8, if_neg hb]
  refine hB bX11_opensOne_4 _ _ _ _ _ _ _ kX11_opensOne_4 ?_
  dsimp only [bX11_opensOne_4, kx_wp, kx_step, kx_lI, kx_lL, kx_lA, kx_gl, kx_pI, kx_pL, kx_pR, kx_pA, kx_pV, kx_s1, kx_s2, kx_sl, kx_pre, kx_c2, kx_pl, kx_cmp, kx_oF, kx_eqN, kx_nil, kx_c1, kx_ft, kx_aI, kx_aL, kx_aR, kx_ln, Nat.reduceAdd, Option.toList, List.cons_append, List.nil_append, mW_o, mf_7, mf_11]
  repeat (simp only [mu_7, mW_so, mu_11, ck_p6, ck_p7, ck_p8, ck_p10, ck_p11, ck_p12, ck_p13, ck_p15, h6, nI_1, ck_pu7, ck_pu10, ck_pu11, ck_pu12, ck_pu13, ck_pu15, ck_pa95, ck_pa96, ck_pa97, ck_pa98, ck_pa99, ck_pem, ck_pau96, ck_pau99, va_us, va_upn, ne_eq, Nat.reduceEqDiff, not_false_eq_true]; try dsimp only [kx_wp, kx_step, kx_lI, kx_lL, kx_lA, kx_gl, kx_pI, kx_pL, kx_pR, kx_pA, kx_pV, kx_s1, kx_s2, kx_sl, kx_pre, kx_c2, kx_pl, kx_cmp, kx_oF, kx_eqN, kx_nil, kx_c1, kx_ft, kx_aI, kx_aL, kx_aR, kx_ln, Nat.reduceAdd, Option.toList, List.cons_append, List.nil_append, mW_o, mf_7, mf_11])
  repeat' apply And.intro
  all_goals try (first | with_reducible assumption | (with_reducible refine ck_nzI ?_; simp; done) | (with_reducible refine ck_nzL ?_; simp; done) | (with_reducible refine vp_in_nI ?_ ?_ <;> first | omega | decide) | (with_reducible refine Nat.le_of_ble_eq_true ?_; rfl) | omega)
  · intro zc4
    first | exact absurd rfl zc4 | exact absurd zc4 (by decide) | exact absurd (by decide) zc4 | (exfalso; ((try clear hB hC); simp only [ck_lt, ck_le, ck_eq, not_true_eq_false, not_false_eq_true, Int32.reduceToInt, Int32.reduceAdd, Int32.reduceSub, Int32.reduceMul] at * <;> omega)) | (exfalso; simp_all; done)
  · intro zc4
    with_reducible first | have ze4 := Decidable.not_not.mp zc4 | have ze4 := zc4
    refine hB bX11_opensOne_7 _ _ _ _ _ _ _ kX11_opensOne_7 ?_
    dsimp only [bX11_opensOne_7, kx_wp, kx_step, kx_lI, kx_lL, kx_lA, kx_gl, kx_pI, kx_pL, kx_pR, kx_pA, kx_pV, kx_s1, kx_s2, kx_sl, kx_pre, kx_c2, kx_pl, kx_cmp, kx_oF, kx_eqN, kx_nil, kx_c1, kx_ft, kx_aI, kx_aL, kx_aR, kx_ln, Nat.reduceAdd, Option.toList, List.cons_append, List.nil_append, mW_o, mf_7, mf_11]
    repeat (simp only [mu_7, mW_so, mu_11, ck_p6, ck_p7, ck_p8, ck_p10, ck_p11, ck_p12, ck_p13, ck_p15, h6, nI_1, ck_pu7, ck_pu10, ck_pu11, ck_pu12, ck_pu13, ck_pu15, ck_pa95, ck_pa96, ck_pa97, ck_pa98, ck_pa99, ck_pem, ck_pau96, ck_pau99, va_us, va_upn, ne_eq, Nat.reduceEqDiff, not_false_eq_true]; try dsimp only [kx_wp, kx_step, kx_lI, kx_lL, kx_lA, kx_gl, kx_pI, kx_pL, kx_pR, kx_pA, kx_pV, kx_s1, kx_s2, kx_sl, kx_pre, kx_c2, kx_pl, kx_cmp, kx_oF, kx_eqN, kx_nil, kx_c1, kx_ft, kx_aI, kx_aL, kx_aR, kx_ln, Nat.reduceAdd, Option.toList, List.cons_append, List.nil_append, mW_o, mf_7, mf_11])
    all_goals (repeat' apply And.intro)
    all_goals ((try clear hB hC); first | exact True.intro | with_reducible rfl | with_reducible assumption | (with_reducible refine vp_in_nI ?_ ?_ <;> first | omega | decide) | exact Nat.le_of_ble_eq_true rfl | (with_reducible refine ck_nzI ?_; simp; done) | (with_reducible refine ck_nzL ?_; simp; done) | (simp only [pk_us, pk_uLs, eq_true ze4, ↓reduceIte, not_true_eq_false, not_false_eq_true]; done) | (simp only [eq_true ze4, ↓reduceIte, not_true_eq_false, not_false_eq_true]; with_reducible rfl) | skip)

set_option maxRecDepth 100000 in
set_option maxHeartbeats 4000000 in
theorem ct_X11_opensOne_w (l : Launch) (G : kx_G) {M : Nat → Int32} {A : Nat → Nat → Int32} {L : Nat → Nat → Int64} {R : kx_P} {sz : Nat} {a c n : Nat} {k o : Int32} {C N : Nat → Int32} (h6 : M 6 = nI n) (hn : n ≤ 400) (ha : a ≤ n) (hc : ¬ ck_hcx (A 95) n a = 40)  : kx_M l G sX11_opensOne 2 0 0 [.ref 93] (mW (ck_pM M a ((-1)) k o c) (ck_pA A C N) L R) sz none (mW (ck_pM M (ck_sk (A 95) n a) (nI (ck_sk (A 95) n a)) (1) (o + 1) c) (ck_pA A C N) L R) sz := by
  have zsk := ck_sk_le (A 95) ha
  refine kx_mk kx_tab kxLok_X11 (ini := false) [some (.ref 93)] ⟨by decide, rfl, by decide, by decide⟩ (rfl) rfl rfl (fun g hB hC => ?_)
  refine hB bX11_opensOne_0 _ _ _ _ _ _ _ kX11_opensOne_0 ?_
  dsimp only [bX11_opensOne_0, kx_wp, kx_step, kx_lI, kx_lL, kx_lA, kx_gl, kx_pI, kx_pL, kx_pR, kx_pA, kx_pV, kx_s1, kx_s2, kx_sl, kx_pre, kx_c2, kx_pl, kx_cmp, kx_oF, kx_eqN, kx_nil, kx_c1, kx_ft, kx_aI, kx_aL, kx_aR, kx_ln, Nat.reduceAdd, Option.toList, List.cons_append, List.nil_append, mW_o, mf_7, mf_11]
  repeat (simp only [mu_7, mW_so, mu_11, ck_p6, ck_p7, ck_p8, ck_p10, ck_p11, ck_p12, ck_p13, ck_p15, h6, nI_1, ck_pu7, ck_pu10, ck_pu11, ck_pu12, ck_pu13, ck_pu15, ck_pa95, ck_pa96, ck_pa97, ck_pa98, ck_pa99, ck_pem, ck_pau96, ck_pau99, va_us, va_upn, ne_eq, Nat.reduceEqDiff, not_false_eq_true, ck_pwt]; try dsimp only [kx_wp, kx_step, kx_lI, kx_lL, kx_lA, kx_gl, kx_pI, kx_pL, kx_pR, kx_pA, kx_pV, kx_s1, kx_s2, kx_sl, kx_pre, kx_c2, kx_pl, kx_cmp, kx_oF, kx_eqN, kx_nil, kx_c1, kx_ft, kx_aI, kx_aL, kx_aR, kx_ln, Nat.reduceAdd, Option.toList, List.cons_append, List.nil_append, mW_o, mf_7, mf_11])
  repeat' apply And.intro
  all_goals try (first | with_reducible assumption | (with_reducible refine ck_nzI ?_; simp; done) | (with_reducible refine ck_nzL ?_; simp; done) | (with_reducible refine vp_in_nI ?_ ?_ <;> first | omega | decide) | (with_reducible refine Nat.le_of_ble_eq_true ?_; rfl) | omega)
  refine hC.1 212 _ _ _ _ _ _ _ 11 _ _ _ _ _ _ _ _ _ _ _ _ lX11_212 (ct_X11_fine l G) ⟨by decide, rfl⟩ (mW_o) rfl rfl (Nat.le_of_ble_eq_true rfl) (by decide) (by decide) (by omega) (by omega) dX11_opensOne_1 ?_
  rw [ck_p8, if_pos rfl]
  refine hB bX11_opensOne_4 _ _ _ _ _ _ _ kX11_opensOne_4 ?_
  dsimp only [bX11_opensOne_4, kx_wp, kx_step, kx_lI, kx_lL, kx_lA, kx_gl, kx_pI, kx_pL, kx_pR, kx_pA, kx_pV, kx_s1, kx_s2, kx_sl, kx_pre, kx_c2, kx_pl, kx_cmp, kx_oF, kx_eqN, kx_nil, kx_c1, kx_ft, kx_aI, kx_aL, kx_aR, kx_ln, Nat.reduceAdd, Option.toList, List.cons_append, List.nil_append, mW_o, mf_7, mf_11]
  repeat (simp only [mu_7, mW_so, mu_11, ck_p6, ck_p7, ck_p8, ck_p10, ck_p11, ck_p12, ck_p13, ck_p15, h6, nI_1, ck_pu7, ck_pu10, ck_pu11, ck_pu12, ck_pu13, ck_pu15, ck_pa95, ck_pa96, ck_pa97, ck_pa98, ck_pa99, ck_pem, ck_pau96, ck_pau99, va_us, va_upn, ne_eq, Nat.reduceEqDiff, not_false_eq_true, ck_pwt]; try dsimp only [kx_wp, kx_step, kx_lI, kx_lL, kx_lA, kx_gl, kx_pI, kx_pL, kx_pR, kx_pA, kx_pV, kx_s1, kx_s2, kx_sl, kx_pre, kx_c2, kx_pl, kx_cmp, kx_oF, kx_eqN, kx_nil, kx_c1, kx_ft, kx_aI, kx_aL, kx_aR, kx_ln, Nat.reduceAdd, Option.toList, List.cons_append, List.nil_append, mW_o, mf_7, mf_11])
  repeat' apply And.intro
  all_goals try (first | with_reducible assumption | (with_reducible refine ck_nzI ?_; simp; done) | (with_reducible refine ck_nzL ?_; simp; done) | (with_reducible refine vp_in_nI ?_ ?_ <;> first | omega | decide) | (with_reducible refine Nat.le_of_ble_eq_true ?_; rfl) | omega)
  · intro zc4
    have ze4 := zc4
    refine hB bX11_opensOne_8 _ _ _ _ _ _ _ kX11_opensOne_8 ?_
    dsimp only [bX11_opensOne_8, kx_wp, kx_step, kx_lI, kx_lL, kx_lA, kx_gl, kx_pI, kx_pL, kx_pR, kx_pA, kx_pV, kx_s1, kx_s2, kx_sl, kx_pre, kx_c2, kx_pl, kx_cmp, kx_oF, kx_eqN, kx_nil, kx_c1, kx_ft, kx_aI, kx_aL, kx_aR, kx_ln, Nat.reduceAdd, Option.toList, List.cons_append, List.nil_append, mW_o, mf_7, mf_11]
    repeat (simp only [mu_7, mW_so, mu_11, ck_p6, ck_p7, ck_p8, ck_p10, ck_p11, ck_p12, ck_p13, ck_p15, h6, nI_1, ck_pu7, ck_pu10, ck_pu11, ck_pu12, ck_pu13, ck_pu15, ck_pa95, ck_pa96, ck_pa97, ck_pa98, ck_pa99, ck_pem, ck_pau96, ck_pau99, va_us, va_upn, ne_eq, Nat.reduceEqDiff, not_false_eq_true, ck_pwt]; try dsimp only [kx_wp, kx_step, kx_lI, kx_lL, kx_lA, kx_gl, kx_pI, kx_pL, kx_pR, kx_pA, kx_pV, kx_s1, kx_s2, kx_sl, kx_pre, kx_c2, kx_pl, kx_cmp, kx_oF, kx_eqN, kx_nil, kx_c1, kx_ft, kx_aI, kx_aL, kx_aR, kx_ln, Nat.reduceAdd, Option.toList, List.cons_append, List.nil_append, mW_o, mf_7, mf_11])
    repeat' apply And.intro
    all_goals try (first | with_reducible assumption | (with_reducible refine ck_nzI ?_; simp; done) | (with_reducible refine ck_nzL ?_; simp; done) | (with_reducible refine vp_in_nI ?_ ?_ <;> first | omega | decide) | (with_reducible refine Nat.le_of_ble_eq_true ?_; rfl) | omega)
    refine hC.1 204 _ _ _ _ _ _ _ 11 _ _ _ _ _ _ _ _ _ _ _ _ lX11_204 (ct_X11_here l G h6 hn ha) ⟨by decide, rfl⟩ (mW_o) rfl rfl (Nat.le_of_ble_eq_true rfl) (by decide) (by decide) (by omega) (by omega) dX11_opensOne_9 ?_
    refine hB bX11_opensOne_12 _ _ _ _ _ _ _ kX11_opensOne_12 ?_
    dsimp only [bX11_opensOne_12, kx_wp, kx_step, kx_lI, kx_lL, kx_lA, kx_gl, kx_pI, kx_pL, kx_pR, kx_pA, kx_pV, kx_s1, kx_s2, kx_sl, kx_pre, kx_c2, kx_pl, kx_cmp, kx_oF, kx_eqN, kx_nil, kx_c1, kx_ft, kx_aI, kx_aL, kx_aR, kx_ln, Nat.reduceAdd, Option.toList, List.cons_append, List.nil_append, mW_o, mf_7, mf_11]
    repeat (simp only [mu_7, mW_so, mu_11, ck_p6, ck_p7, ck_p8, ck_p10, ck_p11, ck_p12, ck_p13, ck_p15, h6, nI_1, ck_pu7, ck_pu10, ck_pu11, ck_pu12, ck_pu13, ck_pu15, ck_pa95, ck_pa96, ck_pa97, ck_pa98, ck_pa99, ck_pem, ck_pau96, ck_pau99, va_us, va_upn, ne_eq, Nat.reduceEqDiff, not_false_eq_true, ck_pwt]; try dsimp only [kx_wp, kx_step, kx_lI, kx_lL, kx_lA, kx_gl, kx_pI, kx_pL, kx_pR, kx_pA, kx_pV, kx_s1, kx_s2, kx_sl, kx_pre, kx_c2, kx_pl, kx_cmp, kx_oF, kx_eqN, kx_nil, kx_c1, kx_ft, kx_aI, kx_aL, kx_aR, kx_ln, Nat.reduceAdd, Option.toList, List.cons_append, List.nil_append, mW_o, mf_7, mf_11])
    repeat' apply And.intro
    all_goals try (first | with_reducible assumption | (with_reducible refine ck_nzI ?_; simp; done) | (with_reducible refine ck_nzL ?_; simp; done) | (with_reducible refine vp_in_nI ?_ ?_ <;> first | omega | decide) | (with_reducible refine Nat.le_of_ble_eq_true ?_; rfl) | omega)
    · intro zc14
      first | exact absurd rfl zc14 | exact absurd zc14 (by decide) | exact absurd (by decide) zc14 | (exfalso; first | exact zc14 hc | exact hc zc14 | exact hc (Decidable.not_not.mp zc14) | exact zc35 ho | exact ho zc35 | exact ho (Decidable.not_not.mp zc35)) | (exfalso; simp_all; done)
    · intro zc14
      have ze14 := zc14
      refine hB bX11_opensOne_17 _ _ _ _ _ _ _ kX11_opensOne_17 ?_
      dsimp only [bX11_opensOne_17, kx_wp, kx_step, kx_lI, kx_lL, kx_lA, kx_gl, kx_pI, kx_pL, kx_pR, kx_pA, kx_pV, kx_s1, kx_s2, kx_sl, kx_pre, kx_c2, kx_pl, kx_cmp, kx_oF, kx_eqN, kx_nil, kx_c1, kx_ft, kx_aI, kx_aL, kx_aR, kx_ln, Nat.reduceAdd, Option.toList, List.cons_append, List.nil_append, mW_o, mf_7, mf_11]
      repeat (simp only [mu_7, mW_so, mu_11, ck_p6, ck_p7, ck_p8, ck_p10, ck_p11, ck_p12, ck_p13, ck_p15, h6, nI_1, ck_pu7, ck_pu10, ck_pu11, ck_pu12, ck_pu13, ck_pu15, ck_pa95, ck_pa96, ck_pa97, ck_pa98, ck_pa99, ck_pem, ck_pau96, ck_pau99, va_us, va_upn, ne_eq, Nat.reduceEqDiff, not_false_eq_true, ck_pwt]; try dsimp only [kx_wp, kx_step, kx_lI, kx_lL, kx_lA, kx_gl, kx_pI, kx_pL, kx_pR, kx_pA, kx_pV, kx_s1, kx_s2, kx_sl, kx_pre, kx_c2, kx_pl, kx_cmp, kx_oF, kx_eqN, kx_nil, kx_c1, kx_ft, kx_aI, kx_aL, kx_aR, kx_ln, Nat.reduceAdd, Option.toList, List.cons_append, List.nil_append, mW_o, mf_7, mf_11])
      repeat' apply And.intro
      all_goals try (first | with_reducible assumption | (with_reducible refine ck_nzI ?_; simp; done) | (with_reducible refine ck_nzL ?_; simp; done) | (with_reducible refine vp_in_nI ?_ ?_ <;> first | omega | decide) | (with_reducible refine Nat.le_of_ble_eq_true ?_; rfl) | omega)
      refine hC.1 219 _ _ _ _ _ _ _ 11 _ _ _ _ _ _ _ _ _ _ _ _ lX11_219 (ct_X11_wrong l G) ⟨by decide, rfl⟩ (mW_o) rfl rfl (Nat.le_of_ble_eq_true rfl) (by decide) (by decide) (by omega) (by omega) dX11_opensOne_23 ?_
      refine hB bX11_opensOne_26 _ _ _ _ _ _ _ kX11_opensOne_26 ?_
      dsimp only [bX11_opensOne_26, kx_wp, kx_step, kx_lI, kx_lL, kx_lA, kx_gl, kx_pI, kx_pL, kx_pR, kx_pA, kx_pV, kx_s1, kx_s2, kx_sl, kx_pre, kx_c2, kx_pl, kx_cmp, kx_oF, kx_eqN, kx_nil, kx_c1, kx_ft, kx_aI, kx_aL, kx_aR, kx_ln, Nat.reduceAdd, Option.toList, List.cons_append, List.nil_append, mW_o, mf_7, mf_11]
      repeat (simp only [mu_7, mW_so, mu_11, ck_p6, ck_p7, ck_p8, ck_p10, ck_p11, ck_p12, ck_p13, ck_p15, h6, nI_1, ck_pu7, ck_pu10, ck_pu11, ck_pu12, ck_pu13, ck_pu15, ck_pa95, ck_pa96, ck_pa97, ck_pa98, ck_pa99, ck_pem, ck_pau96, ck_pau99, va_us, va_upn, ne_eq, Nat.reduceEqDiff, not_false_eq_true, ck_pwt]; try dsimp only [kx_wp, kx_step, kx_lI, kx_lL, kx_lA, kx_gl, kx_pI, kx_pL, kx_pR, kx_pA, kx_pV, kx_s1, kx_s2, kx_sl, kx_pre, kx_c2, kx_pl, kx_cmp, kx_oF, kx_eqN, kx_nil, kx_c1, kx_ft, kx_aI, kx_aL, kx_aR, kx_ln, Nat.reduceAdd, Option.toList, List.cons_append, List.nil_append, mW_o, mf_7, mf_11])
      repeat' apply And.intro
      all_goals try (first | with_reducible assumption | (with_reducible refine ck_nzI ?_; simp; done) | (with_reducible refine ck_nzL ?_; simp; done) | (with_reducible refine vp_in_nI ?_ ?_ <;> first | omega | decide) | (with_reducible refine Nat.le_of_ble_eq_true ?_; rfl) | omega)
      refine hB bX11_opensOne_47 _ _ _ _ _ _ _ kX11_opensOne_47 ?_
      dsimp only [bX11_opensOne_47, kx_wp, kx_step, kx_lI, kx_lL, kx_lA, kx_gl, kx_pI, kx_pL, kx_pR, kx_pA, kx_pV, kx_s1, kx_s2, kx_sl, kx_pre, kx_c2, kx_pl, kx_cmp, kx_oF, kx_eqN, kx_nil, kx_c1, kx_ft, kx_aI, kx_aL, kx_aR, kx_ln, Nat.reduceAdd, Option.toList, List.cons_append, List.nil_append, mW_o, mf_7, mf_11]
      repeat (simp only [mu_7, mW_so, mu_11, ck_p6, ck_p7, ck_p8, ck_p10, ck_p11, ck_p12, ck_p13, ck_p15, h6, nI_1, ck_pu7, ck_pu10, ck_pu11, ck_pu12, ck_pu13, ck_pu15, ck_pa95, ck_pa96, ck_pa97, ck_pa98, ck_pa99, ck_pem, ck_pau96, ck_pau99, va_us, va_upn, ne_eq, Nat.reduceEqDiff, not_false_eq_true, ck_pwt]; try dsimp only [kx_wp, kx_step, kx_lI, kx_lL, kx_lA, kx_gl, kx_pI, kx_pL, kx_pR, kx_pA, kx_pV, kx_s1, kx_s2, kx_sl, kx_pre, kx_c2, kx_pl, kx_cmp, kx_oF, kx_eqN, kx_nil, kx_c1, kx_ft, kx_aI, kx_aL, kx_aR, kx_ln, Nat.reduceAdd, Option.toList, List.cons_append, List.nil_append, mW_o, mf_7, mf_11])
      repeat' apply And.intro
      all_goals try (first | with_reducible assumption | (with_reducible refine ck_nzI ?_; simp; done) | (with_reducible refine ck_nzL ?_; simp; done) | (with_reducible refine vp_in_nI ?_ ?_ <;> first | omega | decide) | (with_reducible refine Nat.le_of_ble_eq_true ?_; rfl) | omega)
      refine hC.1 212 _ _ _ _ _ _ _ 11 _ _ _ _ _ _ _ _ _ _ _ _ lX11_212 (ct_X11_fine l G) ⟨by decide, rfl⟩ (mW_o) rfl rfl (Nat.le_of_ble_eq_true rfl) (by decide) (by decide) (by omega) (by omega) dX11_opensOne_48 ?_
      rw [ck_p8, if_neg (ck_m1 _ (by omega))]
      refine hB bX11_opensOne_51 _ _ _ _ _ _ _ kX11_opensOne_51 ?_
      dsimp only [bX11_opensOne_51, kx_wp, kx_step, kx_lI, kx_lL, kx_lA, kx_gl, kx_pI, kx_pL, kx_pR, kx_pA, kx_pV, kx_s1, kx_s2, kx_sl, kx_pre, kx_c2, kx_pl, kx_cmp, kx_oF, kx_eqN, kx_nil, kx_c1, kx_ft, kx_aI, kx_aL, kx_aR, kx_ln, Nat.reduceAdd, Option.toList, List.cons_append, List.nil_append, mW_o, mf_7, mf_11]
      repeat (simp only [mu_7, mW_so, mu_11, ck_p6, ck_p7, ck_p8, ck_p10, ck_p11, ck_p12, ck_p13, ck_p15, h6, nI_1, ck_pu7, ck_pu10, ck_pu11, ck_pu12, ck_pu13, ck_pu15, ck_pa95, ck_pa96, ck_pa97, ck_pa98, ck_pa99, ck_pem, ck_pau96, ck_pau99, va_us, va_upn, ne_eq, Nat.reduceEqDiff, not_false_eq_true, ck_pwt]; try dsimp only [kx_wp, kx_step, kx_lI, kx_lL, kx_lA, kx_gl, kx_pI, kx_pL, kx_pR, kx_pA, kx_pV, kx_s1, kx_s2, kx_sl, kx_pre, kx_c2, kx_pl, kx_cmp, kx_oF, kx_eqN, kx_nil, kx_c1, kx_ft, kx_aI, kx_aL, kx_aR, kx_ln, Nat.reduceAdd, Option.toList, List.cons_append, List.nil_append, mW_o, mf_7, mf_11])
      repeat' apply And.intro
      all_goals try (first | with_reducible assumption | (with_reducible refine ck_nzI ?_; simp; done) | (with_reducible refine ck_nzL ?_; simp; done) | (with_reducible refine vp_in_nI ?_ ?_ <;> first | omega | decide) | (with_reducible refine Nat.le_of_ble_eq_true ?_; rfl) | omega)
      · intro zc51
        have ze51 := zc51
        refine hB bX11_opensOne_64 _ _ _ _ _ _ _ kX11_opensOne_64 ?_
        dsimp only [bX11_opensOne_64, kx_wp, kx_step, kx_lI, kx_lL, kx_lA, kx_gl, kx_pI, kx_pL, kx_pR, kx_pA, kx_pV, kx_s1, kx_s2, kx_sl, kx_pre, kx_c2, kx_pl, kx_cmp, kx_oF, kx_eqN, kx_nil, kx_c1, kx_ft, kx_aI, kx_aL, kx_aR, kx_ln, Nat.reduceAdd, Option.toList, List.cons_append, List.nil_append, mW_o, mf_7, mf_11]
        repeat (simp only [mu_7, mW_so, mu_11, ck_p6, ck_p7, ck_p8, ck_p10, ck_p11, ck_p12, ck_p13, ck_p15, h6, nI_1, ck_pu7, ck_pu10, ck_pu11, ck_pu12, ck_pu13, ck_pu15, ck_pa95, ck_pa96, ck_pa97, ck_pa98, ck_pa99, ck_pem, ck_pau96, ck_pau99, va_us, va_upn, ne_eq, Nat.reduceEqDiff, not_false_eq_true, ck_pwt]; try dsimp only [kx_wp, kx_step, kx_lI, kx_lL, kx_lA, kx_gl, kx_pI, kx_pL, kx_pR, kx_pA, kx_pV, kx_s1, kx_s2, kx_sl, kx_pre, kx_c2, kx_pl, kx_cmp, kx_oF, kx_eqN, kx_nil, kx_c1, kx_ft, kx_aI, kx_aL, kx_aR, kx_ln, Nat.reduceAdd, Option.toList, List.cons_append, List.nil_append, mW_o, mf_7, mf_11])
        all_goals (repeat' apply And.intro)
        all_goals ((try clear hB hC); first | exact True.intro | with_reducible rfl | with_reducible assumption | (with_reducible refine vp_in_nI ?_ ?_ <;> first | omega | decide) | exact Nat.le_of_ble_eq_true rfl | (with_reducible refine ck_nzI ?_; simp; done) | (with_reducible refine ck_nzL ?_; simp; done) | (simp only [pk_us, pk_uLs, ze4, ze14, eq_true ze51, ↓reduceIte, not_true_eq_false, not_false_eq_true]; done) | (simp only [ze4, ze14, eq_true ze51, ↓reduceIte, not_true_eq_false, not_false_eq_true]; with_reducible rfl) | skip)
      · intro zc51
        first | exact absurd rfl zc51 | exact absurd zc51 (by decide) | exact absurd (by decide) zc51 | (exfalso; first | exact zc14 hc | exact hc zc14 | exact hc (Decidable.not_not.mp zc14) | exact zc35 ho | exact ho zc35 | exact ho (Decidable.not_not.mp zc35)) | (exfalso; simp_all; done)
  · intro zc4
    first | exact absurd rfl zc4 | exact absurd zc4 (by decide) | exact absurd (by decide) zc4 | (exfalso; first | exact zc14 hc | exact hc zc14 | exact hc (Decidable.not_not.mp zc14) | exact zc35 ho | exact ho zc35 | exact ho (Decidable.not_not.mp zc35)) | (exfalso; simp_all; done)

set_option maxRecDepth 100000 in
set_option maxHeartbeats 4000000 in
theorem ct_X11_opensOne_e (l : Launch) (G : kx_G) {M : Nat → Int32} {A : Nat → Nat → Int32} {L : Nat → Nat → Int64} {R : kx_P} {sz : Nat} {a c n : Nat} {k o : Int32} {C N : Nat → Int32} (h6 : M 6 = nI n) (hn : n ≤ 400) (ha : a ≤ n) (hc : ck_hcx (A 95) n a = 40) (ho : o = 8)  : kx_M l G sX11_opensOne 2 0 0 [.ref 93] (mW (ck_pM M a ((-1)) k o c) (ck_pA A C N) L R) sz none (mW (ck_pM M (ck_sk (A 95) n a) (nI (ck_sk (A 95) n a)) (3) (o + 1) c) (ck_pA A C N) L R) sz := by
  have zsk := ck_sk_le (A 95) ha
  refine kx_mk kx_tab kxLok_X11 (ini := false) [some (.ref 93)] ⟨by decide, rfl, by decide, by decide⟩ (rfl) rfl rfl (fun g hB hC => ?_)
  refine hB bX11_opensOne_0 _ _ _ _ _ _ _ kX11_opensOne_0 ?_
  dsimp only [bX11_opensOne_0, kx_wp, kx_step, kx_lI, kx_lL, kx_lA, kx_gl, kx_pI, kx_pL, kx_pR, kx_pA, kx_pV, kx_s1, kx_s2, kx_sl, kx_pre, kx_c2, kx_pl, kx_cmp, kx_oF, kx_eqN, kx_nil, kx_c1, kx_ft, kx_aI, kx_aL, kx_aR, kx_ln, Nat.reduceAdd, Option.toList, List.cons_append, List.nil_append, mW_o, mf_7, mf_11]
  repeat (simp only [mu_7, mW_so, mu_11, ck_p6, ck_p7, ck_p8, ck_p10, ck_p11, ck_p12, ck_p13, ck_p15, h6, nI_1, ck_pu7, ck_pu10, ck_pu11, ck_pu12, ck_pu13, ck_pu15, ck_pa95, ck_pa96, ck_pa97, ck_pa98, ck_pa99, ck_pem, ck_pau96, ck_pau99, va_us, va_upn, ne_eq, Nat.reduceEqDiff, not_false_eq_true, ck_pwt]; try dsimp only [kx_wp, kx_step, kx_lI, kx_lL, kx_lA, kx_gl, kx_pI, kx_pL, kx_pR, kx_pA, kx_pV, kx_s1, kx_s2, kx_sl, kx_pre, kx_c2, kx_pl, kx_cmp, kx_oF, kx_eqN, kx_nil, kx_c1, kx_ft, kx_aI, kx_aL, kx_aR, kx_ln, Nat.reduceAdd, Option.toList, List.cons_append, List.nil_append, mW_o, mf_7, mf_11])
  repeat' apply And.intro
  all_goals try (first | with_reducible assumption | (with_reducible refine ck_nzI ?_; simp; done) | (with_reducible refine ck_nzL ?_; simp; done) | (with_reducible refine vp_in_nI ?_ ?_ <;> first | omega | decide) | (with_reducible refine Nat.le_of_ble_eq_true ?_; rfl) | omega)
  refine hC.1 212 _ _ _ _ _ _ _ 11 _ _ _ _ _ _ _ _ _ _ _ _ lX11_212 (ct_X11_fine l G) ⟨by decide, rfl⟩ (mW_o) rfl rfl (Nat.le_of_ble_eq_true rfl) (by decide) (by decide) (by omega) (by omega) dX11_opensOne_1 ?_
  rw [ck_p8, if_pos rfl]
  refine hB bX11_opensOne_4 _ _ _ _ _ _ _ kX11_opensOne_4 ?_
  dsimp only [bX11_opensOne_4, kx_wp, kx_step, kx_lI, kx_lL, kx_lA, kx_gl, kx_pI, kx_pL, kx_pR, kx_pA, kx_pV, kx_s1, kx_s2, kx_sl, kx_pre, kx_c2, kx_pl, kx_cmp, kx_oF, kx_eqN, kx_nil, kx_c1, kx_ft, kx_aI, kx_aL, kx_aR, kx_ln, Nat.reduceAdd, Option.toList, List.cons_append, List.nil_append, mW_o, mf_7, mf_11]
  repeat (simp only [mu_7, mW_so, mu_11, ck_p6, ck_p7, ck_p8, ck_p10, ck_p11, ck_p12, ck_p13, ck_p15, h6, nI_1, ck_pu7, ck_pu10, ck_pu11, ck_pu12, ck_pu13, ck_pu15, ck_pa95, ck_pa96, ck_pa97, ck_pa98, ck_pa99, ck_pem, ck_pau96, ck_pau99, va_us, va_upn, ne_eq, Nat.reduceEqDiff, not_false_eq_true, ck_pwt]; try dsimp only [kx_wp, kx_step, kx_lI, kx_lL, kx_lA, kx_gl, kx_pI, kx_pL, kx_pR, kx_pA, kx_pV, kx_s1, kx_s2, kx_sl, kx_pre, kx_c2, kx_pl, kx_cmp, kx_oF, kx_eqN, kx_nil, kx_c1, kx_ft, kx_aI, kx_aL, kx_aR, kx_ln, Nat.reduceAdd, Option.toList, List.cons_append, List.nil_append, mW_o, mf_7, mf_11])
  repeat' apply And.intro
  all_goals try (first | with_reducible assumption | (with_reducible refine ck_nzI ?_; simp; done) | (with_reducible refine ck_nzL ?_; simp; done) | (with_reducible refine vp_in_nI ?_ ?_ <;> first | omega | decide) | (with_reducible refine Nat.le_of_ble_eq_true ?_; rfl) | omega)
  · intro zc4
    have ze4 := zc4
    refine hB bX11_opensOne_8 _ _ _ _ _ _ _ kX11_opensOne_8 ?_
    dsimp only [bX11_opensOne_8, kx_wp, kx_step, kx_lI, kx_lL, kx_lA, kx_gl, kx_pI, kx_pL, kx_pR, kx_pA, kx_pV, kx_s1, kx_s2, kx_sl, kx_pre, kx_c2, kx_pl, kx_cmp, kx_oF, kx_eqN, kx_nil, kx_c1, kx_ft, kx_aI, kx_aL, kx_aR, kx_ln, Nat.reduceAdd, Option.toList, List.cons_append, List.nil_append, mW_o, mf_7, mf_11]
    repeat (simp only [mu_7, mW_so, mu_11, ck_p6, ck_p7, ck_p8, ck_p10, ck_p11, ck_p12, ck_p13, ck_p15, h6, nI_1, ck_pu7, ck_pu10, ck_pu11, ck_pu12, ck_pu13, ck_pu15, ck_pa95, ck_pa96, ck_pa97, ck_pa98, ck_pa99, ck_pem, ck_pau96, ck_pau99, va_us, va_upn, ne_eq, Nat.reduceEqDiff, not_false_eq_true, ck_pwt]; try dsimp only [kx_wp, kx_step, kx_lI, kx_lL, kx_lA, kx_gl, kx_pI, kx_pL, kx_pR, kx_pA, kx_pV, kx_s1, kx_s2, kx_sl, kx_pre, kx_c2, kx_pl, kx_cmp, kx_oF, kx_eqN, kx_nil, kx_c1, kx_ft, kx_aI, kx_aL, kx_aR, kx_ln, Nat.reduceAdd, Option.toList, List.cons_append, List.nil_append, mW_o, mf_7, mf_11])
    repeat' apply And.intro
    all_goals try (first | with_reducible assumption | (with_reducible refine ck_nzI ?_; simp; done) | (with_reducible refine ck_nzL ?_; simp; done) | (with_reducible refine vp_in_nI ?_ ?_ <;> first | omega | decide) | (with_reducible refine Nat.le_of_ble_eq_true ?_; rfl) | omega)
    refine hC.1 204 _ _ _ _ _ _ _ 11 _ _ _ _ _ _ _ _ _ _ _ _ lX11_204 (ct_X11_here l G h6 hn ha) ⟨by decide, rfl⟩ (mW_o) rfl rfl (Nat.le_of_ble_eq_true rfl) (by decide) (by decide) (by omega) (by omega) dX11_opensOne_9 ?_
    refine hB bX11_opensOne_12 _ _ _ _ _ _ _ kX11_opensOne_12 ?_
    dsimp only [bX11_opensOne_12, kx_wp, kx_step, kx_lI, kx_lL, kx_lA, kx_gl, kx_pI, kx_pL, kx_pR, kx_pA, kx_pV, kx_s1, kx_s2, kx_sl, kx_pre, kx_c2, kx_pl, kx_cmp, kx_oF, kx_eqN, kx_nil, kx_c1, kx_ft, kx_aI, kx_aL, kx_aR, kx_ln, Nat.reduceAdd, Option.toList, List.cons_append, List.nil_append, mW_o, mf_7, mf_11]
    repeat (simp only [mu_7, mW_so, mu_11, ck_p6, ck_p7, ck_p8, ck_p10, ck_p11, ck_p12, ck_p13, ck_p15, h6, nI_1, ck_pu7, ck_pu10, ck_pu11, ck_pu12, ck_pu13, ck_pu15, ck_pa95, ck_pa96, ck_pa97, ck_pa98, ck_pa99, ck_pem, ck_pau96, ck_pau99, va_us, va_upn, ne_eq, Nat.reduceEqDiff, not_false_eq_true, ck_pwt]; try dsimp only [kx_wp, kx_step, kx_lI, kx_lL, kx_lA, kx_gl, kx_pI, kx_pL, kx_pR, kx_pA, kx_pV, kx_s1, kx_s2, kx_sl, kx_pre, kx_c2, kx_pl, kx_cmp, kx_oF, kx_eqN, kx_nil, kx_c1, kx_ft, kx_aI, kx_aL, kx_aR, kx_ln, Nat.reduceAdd, Option.toList, List.cons_append, List.nil_append, mW_o, mf_7, mf_11])
    repeat' apply And.intro
    all_goals try (first | with_reducible assumption | (with_reducible refine ck_nzI ?_; simp; done) | (with_reducible refine ck_nzL ?_; simp; done) | (with_reducible refine vp_in_nI ?_ ?_ <;> first | omega | decide) | (with_reducible refine Nat.le_of_ble_eq_true ?_; rfl) | omega)
    · intro zc14
      have ze14 := zc14
      refine hB bX11_opensOne_29 _ _ _ _ _ _ _ kX11_opensOne_29 ?_
      dsimp only [bX11_opensOne_29, kx_wp, kx_step, kx_lI, kx_lL, kx_lA, kx_gl, kx_pI, kx_pL, kx_pR, kx_pA, kx_pV, kx_s1, kx_s2, kx_sl, kx_pre, kx_c2, kx_pl, kx_cmp, kx_oF, kx_eqN, kx_nil, kx_c1, kx_ft, kx_aI, kx_aL, kx_aR, kx_ln, Nat.reduceAdd, Option.toList, List.cons_append, List.nil_append, mW_o, mf_7, mf_11]
      repeat (simp only [mu_7, mW_so, mu_11, ck_p6, ck_p7, ck_p8, ck_p10, ck_p11, ck_p12, ck_p13, ck_p15, h6, nI_1, ck_pu7, ck_pu10, ck_pu11, ck_pu12, ck_pu13, ck_pu15, ck_pa95, ck_pa96, ck_pa97, ck_pa98, ck_pa99, ck_pem, ck_pau96, ck_pau99, va_us, va_upn, ne_eq, Nat.reduceEqDiff, not_false_eq_true, ck_pwt]; try dsimp only [kx_wp, kx_step, kx_lI, kx_lL, kx_lA, kx_gl, kx_pI, kx_pL, kx_pR, kx_pA, kx_pV, kx_s1, kx_s2, kx_sl, kx_pre, kx_c2, kx_pl, kx_cmp, kx_oF, kx_eqN, kx_nil, kx_c1, kx_ft, kx_aI, kx_aL, kx_aR, kx_ln, Nat.reduceAdd, Option.toList, List.cons_append, List.nil_append, mW_o, mf_7, mf_11])
      repeat' apply And.intro
      all_goals try (first | with_reducible assumption | (with_reducible refine ck_nzI ?_; simp; done) | (with_reducible refine ck_nzL ?_; simp; done) | (with_reducible refine vp_in_nI ?_ ?_ <;> first | omega | decide) | (with_reducible refine Nat.le_of_ble_eq_true ?_; rfl) | omega)
      · intro zc35
        first | exact absurd rfl zc35 | exact absurd zc35 (by decide) | exact absurd (by decide) zc35 | (exfalso; first | exact zc14 hc | exact hc zc14 | exact hc (Decidable.not_not.mp zc14) | exact zc35 ho | exact ho zc35 | exact ho (Decidable.not_not.mp zc35)) | (exfalso; simp_all; done)
      · intro zc35
        with_reducible first | have ze35 := Decidable.not_not.mp zc35 | have ze35 := zc35
        refine hB bX11_opensOne_38 _ _ _ _ _ _ _ kX11_opensOne_38 ?_
        dsimp only [bX11_opensOne_38, kx_wp, kx_step, kx_lI, kx_lL, kx_lA, kx_gl, kx_pI, kx_pL, kx_pR, kx_pA, kx_pV, kx_s1, kx_s2, kx_sl, kx_pre, kx_c2, kx_pl, kx_cmp, kx_oF, kx_eqN, kx_nil, kx_c1, kx_ft, kx_aI, kx_aL, kx_aR, kx_ln, Nat.reduceAdd, Option.toList, List.cons_append, List.nil_append, mW_o, mf_7, mf_11]
        repeat (simp only [mu_7, mW_so, mu_11, ck_p6, ck_p7, ck_p8, ck_p10, ck_p11, ck_p12, ck_p13, ck_p15, h6, nI_1, ck_pu7, ck_pu10, ck_pu11, ck_pu12, ck_pu13, ck_pu15, ck_pa95, ck_pa96, ck_pa97, ck_pa98, ck_pa99, ck_pem, ck_pau96, ck_pau99, va_us, va_upn, ne_eq, Nat.reduceEqDiff, not_false_eq_true, ck_pwt]; try dsimp only [kx_wp, kx_step, kx_lI, kx_lL, kx_lA, kx_gl, kx_pI, kx_pL, kx_pR, kx_pA, kx_pV, kx_s1, kx_s2, kx_sl, kx_pre, kx_c2, kx_pl, kx_cmp, kx_oF, kx_eqN, kx_nil, kx_c1, kx_ft, kx_aI, kx_aL, kx_aR, kx_ln, Nat.reduceAdd, Option.toList, List.cons_append, List.nil_append, mW_o, mf_7, mf_11])
        repeat' apply And.intro
        all_goals try (first | with_reducible assumption | (with_reducible refine ck_nzI ?_; simp; done) | (with_reducible refine ck_nzL ?_; simp; done) | (with_reducible refine vp_in_nI ?_ ?_ <;> first | omega | decide) | (with_reducible refine Nat.le_of_ble_eq_true ?_; rfl) | omega)
        refine hC.1 219 _ _ _ _ _ _ _ 11 _ _ _ _ _ _ _ _ _ _ _ _ lX11_219 (ct_X11_wrong l G) ⟨by decide, rfl⟩ (mW_o) rfl rfl (Nat.le_of_ble_eq_true rfl) (by decide) (by decide) (by omega) (by omega) dX11_opensOne_44 ?_
        refine hB bX11_opensOne_47 _ _ _ _ _ _ _ kX11_opensOne_47 ?_
        dsimp only [bX11_opensOne_47, kx_wp, kx_step, kx_lI, kx_lL, kx_lA, kx_gl, kx_pI, kx_pL, kx_pR, kx_pA, kx_pV, kx_s1, kx_s2, kx_sl, kx_pre, kx_c2, kx_pl, kx_cmp, kx_oF, kx_eqN, kx_nil, kx_c1, kx_ft, kx_aI, kx_aL, kx_aR, kx_ln, Nat.reduceAdd, Option.toList, List.cons_append, List.nil_append, mW_o, mf_7, mf_11]
        repeat (simp only [mu_7, mW_so, mu_11, ck_p6, ck_p7, ck_p8, ck_p10, ck_p11, ck_p12, ck_p13, ck_p15, h6, nI_1, ck_pu7, ck_pu10, ck_pu11, ck_pu12, ck_pu13, ck_pu15, ck_pa95, ck_pa96, ck_pa97, ck_pa98, ck_pa99, ck_pem, ck_pau96, ck_pau99, va_us, va_upn, ne_eq, Nat.reduceEqDiff, not_false_eq_true, ck_pwt]; try dsimp only [kx_wp, kx_step, kx_lI, kx_lL, kx_lA, kx_gl, kx_pI, kx_pL, kx_pR, kx_pA, kx_pV, kx_s1, kx_s2, kx_sl, kx_pre, kx_c2, kx_pl, kx_cmp, kx_oF, kx_eqN, kx_nil, kx_c1, kx_ft, kx_aI, kx_aL, kx_aR, kx_ln, Nat.reduceAdd, Option.toList, List.cons_append, List.nil_append, mW_o, mf_7, mf_11])
        repeat' apply And.intro
        all_goals try (first | with_reducible assumption | (with_reducible refine ck_nzI ?_; simp; done) | (with_reducible refine ck_nzL ?_; simp; done) | (with_reducible refine vp_in_nI ?_ ?_ <;> first | omega | decide) | (with_reducible refine Nat.le_of_ble_eq_true ?_; rfl) | omega)
        refine hC.1 212 _ _ _ _ _ _ _ 11 _ _ _ _ _ _ _ _ _ _ _ _ lX11_212 (ct_X11_fine l G) ⟨by decide, rfl⟩ (mW_o) rfl rfl (Nat.le_of_ble_eq_true rfl) (by decide) (by decide) (by omega) (by omega) dX11_opensOne_48 ?_
        rw [ck_p8, if_neg (ck_m1 _ (by omega))]
        refine hB bX11_opensOne_51 _ _ _ _ _ _ _ kX11_opensOne_51 ?_
        dsimp only [bX11_opensOne_51, kx_wp, kx_step, kx_lI, kx_lL, kx_lA, kx_gl, kx_pI, kx_pL, kx_pR, kx_pA, kx_pV, kx_s1, kx_s2, kx_sl, kx_pre, kx_c2, kx_pl, kx_cmp, kx_oF, kx_eqN, kx_nil, kx_c1, kx_ft, kx_aI, kx_aL, kx_aR, kx_ln, Nat.reduceAdd, Option.toList, List.cons_append, List.nil_append, mW_o, mf_7, mf_11]
        repeat (simp only [mu_7, mW_so, mu_11, ck_p6, ck_p7, ck_p8, ck_p10, ck_p11, ck_p12, ck_p13, ck_p15, h6, nI_1, ck_pu7, ck_pu10, ck_pu11, ck_pu12, ck_pu13, ck_pu15, ck_pa95, ck_pa96, ck_pa97, ck_pa98, ck_pa99, ck_pem, ck_pau96, ck_pau99, va_us, va_upn, ne_eq, Nat.reduceEqDiff, not_false_eq_true, ck_pwt]; try dsimp only [kx_wp, kx_step, kx_lI, kx_lL, kx_lA, kx_gl, kx_pI, kx_pL, kx_pR, kx_pA, kx_pV, kx_s1, kx_s2, kx_sl, kx_pre, kx_c2, kx_pl, kx_cmp, kx_oF, kx_eqN, kx_nil, kx_c1, kx_ft, kx_aI, kx_aL, kx_aR, kx_ln, Nat.reduceAdd, Option.toList, List.cons_append, List.nil_append, mW_o, mf_7, mf_11])
        repeat' apply And.intro
        all_goals try (first | with_reducible assumption | (with_reducible refine ck_nzI ?_; simp; done) | (with_reducible refine ck_nzL ?_; simp; done) | (with_reducible refine vp_in_nI ?_ ?_ <;> first | omega | decide) | (with_reducible refine Nat.le_of_ble_eq_true ?_; rfl) | omega)
        · intro zc51
          have ze51 := zc51
          refine hB bX11_opensOne_64 _ _ _ _ _ _ _ kX11_opensOne_64 ?_
          dsimp only [bX11_opensOne_64, kx_wp, kx_step, kx_lI, kx_lL, kx_lA, kx_gl, kx_pI, kx_pL, kx_pR, kx_pA, kx_pV, kx_s1, kx_s2, kx_sl, kx_pre, kx_c2, kx_pl, kx_cmp, kx_oF, kx_eqN, kx_nil, kx_c1, kx_ft, kx_aI, kx_aL, kx_aR, kx_ln, Nat.reduceAdd, Option.toList, List.cons_append, List.nil_append, mW_o, mf_7, mf_11]
          repeat (simp only [mu_7, mW_so, mu_11, ck_p6, ck_p7, ck_p8, ck_p10, ck_p11, ck_p12, ck_p13, ck_p15, h6, nI_1, ck_pu7, ck_pu10, ck_pu11, ck_pu12, ck_pu13, ck_pu15, ck_pa95, ck_pa96, ck_pa97, ck_pa98, ck_pa99, ck_pem, ck_pau96, ck_pau99, va_us, va_upn, ne_eq, Nat.reduceEqDiff, not_false_eq_true, ck_pwt]; try dsimp only [kx_wp, kx_step, kx_lI, kx_lL, kx_lA, kx_gl, kx_pI, kx_pL, kx_pR, kx_pA, kx_pV, kx_s1, kx_s2, kx_sl, kx_pre, kx_c2, kx_pl, kx_cmp, kx_oF, kx_eqN, kx_nil, kx_c1, kx_ft, kx_aI, kx_aL, kx_aR, kx_ln, Nat.reduceAdd, Option.toList, List.cons_append, List.nil_append, mW_o, mf_7, mf_11])
          all_goals (repeat' apply And.intro)
          all_goals ((try clear hB hC); first | exact True.intro | with_reducible rfl | with_reducible assumption | (with_reducible refine vp_in_nI ?_ ?_ <;> first | omega | decide) | exact Nat.le_of_ble_eq_true rfl | (with_reducible refine ck_nzI ?_; simp; done) | (with_reducible refine ck_nzL ?_; simp; done) | (simp only [pk_us, pk_uLs, ze4, eq_true ze14, eq_true ze35, eq_true ze51, ↓reduceIte, not_true_eq_false, not_false_eq_true]; done) | (simp only [ze4, eq_true ze14, eq_true ze35, eq_true ze51, ↓reduceIte, not_true_eq_false, not_false_eq_true]; with_reducible rfl) | skip)
        · intro zc51
          first | exact absurd rfl zc51 | exact absurd zc51 (by decide) | exact absurd (by decide) zc51 | (exfalso; first | exact zc14 hc | exact hc zc14 | exact hc (Decidable.not_not.mp zc14) | exact zc35 ho | exact ho zc35 | exact ho (Decidable.not_not.mp zc35)) | (exfalso; simp_all; done)
    · intro zc14
      first | exact absurd rfl zc14 | exact absurd zc14 (by decide) | exact absurd (by decide) zc14 | (exfalso; first | exact zc14 hc | exact hc zc14 | exact hc (Decidable.not_not.mp zc14) | exact zc35 ho | exact ho zc35 | exact ho (Decidable.not_not.mp zc35)) | (exfalso; simp_all; done)
  · intro zc4
    first | exact absurd rfl zc4 | exact absurd zc4 (by decide) | exact absurd (by decide) zc4 | (exfalso; first | exact zc14 hc | exact hc zc14 | exact hc (Decidable.not_not.mp zc14) | exact zc35 ho | exact ho zc35 | exact ho (Decidable.not_not.mp zc35)) | (exfalso; simp_all; done)

set_option maxRecDepth 100000 in
set_option maxHeartbeats 4000000 in
theorem ct_X11_opensOne_t (l : Launch) (G : kx_G) {M : Nat → Int32} {A : Nat → Nat → Int32} {L : Nat → Nat → Int64} {R : kx_P} {sz : Nat} {a c n : Nat} {k o : Int32} {C N : Nat → Int32} (h6 : M 6 = nI n) (hn : n ≤ 400) (ha : a ≤ n) (hc : ck_hcx (A 95) n a = 40) (ho : ¬ o = 8)  : kx_M l G sX11_opensOne 2 0 0 [.ref 93] (mW (ck_pM M a ((-1)) k o c) (ck_pA A C N) L R) sz none (mW (ck_pM M (ck_sk (A 95) n a + 1) ((-1)) k (o + 1) c) (ck_pA A C N) L R) sz := by
  have zsk := ck_sk_le (A 95) ha
  refine kx_mk kx_tab kxLok_X11 (ini := false) [some (.ref 93)] ⟨by decide, rfl, by decide, by decide⟩ (rfl) rfl rfl (fun g hB hC => ?_)
  refine hB bX11_opensOne_0 _ _ _ _ _ _ _ kX11_opensOne_0 ?_
  dsimp only [bX11_opensOne_0, kx_wp, kx_step, kx_lI, kx_lL, kx_lA, kx_gl, kx_pI, kx_pL, kx_pR, kx_pA, kx_pV, kx_s1, kx_s2, kx_sl, kx_pre, kx_c2, kx_pl, kx_cmp, kx_oF, kx_eqN, kx_nil, kx_c1, kx_ft, kx_aI, kx_aL, kx_aR, kx_ln, Nat.reduceAdd, Option.toList, List.cons_append, List.nil_append, mW_o, mf_7, mf_11]
  repeat (simp only [mu_7, mW_so, mu_11, ck_p6, ck_p7, ck_p8, ck_p10, ck_p11, ck_p12, ck_p13, ck_p15, h6, nI_1, ck_pu7, ck_pu10, ck_pu11, ck_pu12, ck_pu13, ck_pu15, ck_pa95, ck_pa96, ck_pa97, ck_pa98, ck_pa99, ck_pem, ck_pau96, ck_pau99, va_us, va_upn, ne_eq, Nat.reduceEqDiff, not_false_eq_true, ck_pwt]; try dsimp only [kx_wp, kx_step, kx_lI, kx_lL, kx_lA, kx_gl, kx_pI, kx_pL, kx_pR, kx_pA, kx_pV, kx_s1, kx_s2, kx_sl, kx_pre, kx_c2, kx_pl, kx_cmp, kx_oF, kx_eqN, kx_nil, kx_c1, kx_ft, kx_aI, kx_aL, kx_aR, kx_ln, Nat.reduceAdd, Option.toList, List.cons_append, List.nil_append, mW_o, mf_7, mf_11])
  repeat' apply And.intro
  all_goals try (first | with_reducible assumption | (with_reducible refine ck_nzI ?_; simp; done) | (with_reducible refine ck_nzL ?_; simp; done) | (with_reducible refine vp_in_nI ?_ ?_ <;> first | omega | decide) | (with_reducible refine Nat.le_of_ble_eq_true ?_; rfl) | omega)
  refine hC.1 212 _ _ _ _ _ _ _ 11 _ _ _ _ _ _ _ _ _ _ _ _ lX11_212 (ct_X11_fine l G) ⟨by decide, rfl⟩ (mW_o) rfl rfl (Nat.le_of_ble_eq_true rfl) (by decide) (by decide) (by omega) (by omega) dX11_opensOne_1 ?_
  rw [ck_p8, if_pos rfl]
  refine hB bX11_opensOne_4 _ _ _ _ _ _ _ kX11_opensOne_4 ?_
  dsimp only [bX11_opensOne_4, kx_wp, kx_step, kx_lI, kx_lL, kx_lA, kx_gl, kx_pI, kx_pL, kx_pR, kx_pA, kx_pV, kx_s1, kx_s2, kx_sl, kx_pre, kx_c2, kx_pl, kx_cmp, kx_oF, kx_eqN, kx_nil, kx_c1, kx_ft, kx_aI, kx_aL, kx_aR, kx_ln, Nat.reduceAdd, Option.toList, List.cons_append, List.nil_append, mW_o, mf_7, mf_11]
  repeat (simp only [mu_7, mW_so, mu_11, ck_p6, ck_p7, ck_p8, ck_p10, ck_p11, ck_p12, ck_p13, ck_p15, h6, nI_1, ck_pu7, ck_pu10, ck_pu11, ck_pu12, ck_pu13, ck_pu15, ck_pa95, ck_pa96, ck_pa97, ck_pa98, ck_pa99, ck_pem, ck_pau96, ck_pau99, va_us, va_upn, ne_eq, Nat.reduceEqDiff, not_false_eq_true, ck_pwt]; try dsimp only [kx_wp, kx_step, kx_lI, kx_lL, kx_lA, kx_gl, kx_pI, kx_pL, kx_pR, kx_pA, kx_pV, kx_s1, kx_s2, kx_sl, kx_pre, kx_c2, kx_pl, kx_cmp, kx_oF, kx_eqN, kx_nil, kx_c1, kx_ft, kx_aI, kx_aL, kx_aR, kx_ln, Nat.reduceAdd, Option.toList, List.cons_append, List.nil_append, mW_o, mf_7, mf_11])
  repeat' apply And.intro
  all_goals try (first | with_reducible assumption | (with_reducible refine ck_nzI ?_; simp; done) | (with_reducible refine ck_nzL ?_; simp; done) | (with_reducible refine vp_in_nI ?_ ?_ <;> first | omega | decide) | (with_reducible refine Nat.le_of_ble_eq_true ?_; rfl) | omega)
  · intro zc4
    have ze4 := zc4
    refine hB bX11_opensOne_8 _ _ _ _ _ _ _ kX11_opensOne_8 ?_
    dsimp only [bX11_opensOne_8, kx_wp, kx_step, kx_lI, kx_lL, kx_lA, kx_gl, kx_pI, kx_pL, kx_pR, kx_pA, kx_pV, kx_s1, kx_s2, kx_sl, kx_pre, kx_c2, kx_pl, kx_cmp, kx_oF, kx_eqN, kx_nil, kx_c1, kx_ft, kx_aI, kx_aL, kx_aR, kx_ln, Nat.reduceAdd, Option.toList, List.cons_append, List.nil_append, mW_o, mf_7, mf_11]
    repeat (simp only [mu_7, mW_so, mu_11, ck_p6, ck_p7, ck_p8, ck_p10, ck_p11, ck_p12, ck_p13, ck_p15, h6, nI_1, ck_pu7, ck_pu10, ck_pu11, ck_pu12, ck_pu13, ck_pu15, ck_pa95, ck_pa96, ck_pa97, ck_pa98, ck_pa99, ck_pem, ck_pau96, ck_pau99, va_us, va_upn, ne_eq, Nat.reduceEqDiff, not_false_eq_true, ck_pwt]; try dsimp only [kx_wp, kx_step, kx_lI, kx_lL, kx_lA, kx_gl, kx_pI, kx_pL, kx_pR, kx_pA, kx_pV, kx_s1, kx_s2, kx_sl, kx_pre, kx_c2, kx_pl, kx_cmp, kx_oF, kx_eqN, kx_nil, kx_c1, kx_ft, kx_aI, kx_aL, kx_aR, kx_ln, Nat.reduceAdd, Option.toList, List.cons_append, List.nil_append, mW_o, mf_7, mf_11])
    repeat' apply And.intro
    all_goals try (first | with_reducible assumption | (with_reducible refine ck_nzI ?_; simp; done) | (with_reducible refine ck_nzL ?_; simp; done) | (with_reducible refine vp_in_nI ?_ ?_ <;> first | omega | decide) | (with_reducible refine Nat.le_of_ble_eq_true ?_; rfl) | omega)
    refine hC.1 204 _ _ _ _ _ _ _ 11 _ _ _ _ _ _ _ _ _ _ _ _ lX11_204 (ct_X11_here l G h6 hn ha) ⟨by decide, rfl⟩ (mW_o) rfl rfl (Nat.le_of_ble_eq_true rfl) (by decide) (by decide) (by omega) (by omega) dX11_opensOne_9 ?_
    refine hB bX11_opensOne_12 _ _ _ _ _ _ _ kX11_opensOne_12 ?_
    dsimp only [bX11_opensOne_12, kx_wp, kx_step, kx_lI, kx_lL, kx_lA, kx_gl, kx_pI, kx_pL, kx_pR, kx_pA, kx_pV, kx_s1, kx_s2, kx_sl, kx_pre, kx_c2, kx_pl, kx_cmp, kx_oF, kx_eqN, kx_nil, kx_c1, kx_ft, kx_aI, kx_aL, kx_aR, kx_ln, Nat.reduceAdd, Option.toList, List.cons_append, List.nil_append, mW_o, mf_7, mf_11]
    repeat (simp only [mu_7, mW_so, mu_11, ck_p6, ck_p7, ck_p8, ck_p10, ck_p11, ck_p12, ck_p13, ck_p15, h6, nI_1, ck_pu7, ck_pu10, ck_pu11, ck_pu12, ck_pu13, ck_pu15, ck_pa95, ck_pa96, ck_pa97, ck_pa98, ck_pa99, ck_pem, ck_pau96, ck_pau99, va_us, va_upn, ne_eq, Nat.reduceEqDiff, not_false_eq_true, ck_pwt]; try dsimp only [kx_wp, kx_step, kx_lI, kx_lL, kx_lA, kx_gl, kx_pI, kx_pL, kx_pR, kx_pA, kx_pV, kx_s1, kx_s2, kx_sl, kx_pre, kx_c2, kx_pl, kx_cmp, kx_oF, kx_eqN, kx_nil, kx_c1, kx_ft, kx_aI, kx_aL, kx_aR, kx_ln, Nat.reduceAdd, Option.toList, List.cons_append, List.nil_append, mW_o, mf_7, mf_11])
    repeat' apply And.intro
    all_goals try (first | with_reducible assumption | (with_reducible refine ck_nzI ?_; simp; done) | (with_reducible refine ck_nzL ?_; simp; done) | (with_reducible refine vp_in_nI ?_ ?_ <;> first | omega | decide) | (with_reducible refine Nat.le_of_ble_eq_true ?_; rfl) | omega)
    · intro zc14
      have ze14 := zc14
      refine hB bX11_opensOne_29 _ _ _ _ _ _ _ kX11_opensOne_29 ?_
      dsimp only [bX11_opensOne_29, kx_wp, kx_step, kx_lI, kx_lL, kx_lA, kx_gl, kx_pI, kx_pL, kx_pR, kx_pA, kx_pV, kx_s1, kx_s2, kx_sl, kx_pre, kx_c2, kx_pl, kx_cmp, kx_oF, kx_eqN, kx_nil, kx_c1, kx_ft, kx_aI, kx_aL, kx_aR, kx_ln, Nat.reduceAdd, Option.toList, List.cons_append, List.nil_append, mW_o, mf_7, mf_11]
      repeat (simp only [mu_7, mW_so, mu_11, ck_p6, ck_p7, ck_p8, ck_p10, ck_p11, ck_p12, ck_p13, ck_p15, h6, nI_1, ck_pu7, ck_pu10, ck_pu11, ck_pu12, ck_pu13, ck_pu15, ck_pa95, ck_pa96, ck_pa97, ck_pa98, ck_pa99, ck_pem, ck_pau96, ck_pau99, va_us, va_upn, ne_eq, Nat.reduceEqDiff, not_false_eq_true, ck_pwt]; try dsimp only [kx_wp, kx_step, kx_lI, kx_lL, kx_lA, kx_gl, kx_pI, kx_pL, kx_pR, kx_pA, kx_pV, kx_s1, kx_s2, kx_sl, kx_pre, kx_c2, kx_pl, kx_cmp, kx_oF, kx_eqN, kx_nil, kx_c1, kx_ft, kx_aI, kx_aL, kx_aR, kx_ln, Nat.reduceAdd, Option.toList, List.cons_append, List.nil_append, mW_o, mf_7, mf_11])
      repeat' apply And.intro
      all_goals try (first | with_reducible assumption | (with_reducible refine ck_nzI ?_; simp; done) | (with_reducible refine ck_nzL ?_; simp; done) | (with_reducible refine vp_in_nI ?_ ?_ <;> first | omega | decide) | (with_reducible refine Nat.le_of_ble_eq_true ?_; rfl) | omega)
      · intro zc35
        have ze35 := zc35
        refine hB bX11_opensOne_47 _ _ _ _ _ _ _ kX11_opensOne_47 ?_
        dsimp only [bX11_opensOne_47, kx_wp, kx_step, kx_lI, kx_lL, kx_lA, kx_gl, kx_pI, kx_pL, kx_pR, kx_pA, kx_pV, kx_s1, kx_s2, kx_sl, kx_pre, kx_c2, kx_pl, kx_cmp, kx_oF, kx_eqN, kx_nil, kx_c1, kx_ft, kx_aI, kx_aL, kx_aR, kx_ln, Nat.reduceAdd, Option.toList, List.cons_append, List.nil_append, mW_o, mf_7, mf_11]
        repeat (simp only [mu_7, mW_so, mu_11, ck_p6, ck_p7, ck_p8, ck_p10, ck_p11, ck_p12, ck_p13, ck_p15, h6, nI_1, ck_pu7, ck_pu10, ck_pu11, ck_pu12, ck_pu13, ck_pu15, ck_pa95, ck_pa96, ck_pa97, ck_pa98, ck_pa99, ck_pem, ck_pau96, ck_pau99, va_us, va_upn, ne_eq, Nat.reduceEqDiff, not_false_eq_true, ck_pwt]; try dsimp only [kx_wp, kx_step, kx_lI, kx_lL, kx_lA, kx_gl, kx_pI, kx_pL, kx_pR, kx_pA, kx_pV, kx_s1, kx_s2, kx_sl, kx_pre, kx_c2, kx_pl, kx_cmp, kx_oF, kx_eqN, kx_nil, kx_c1, kx_ft, kx_aI, kx_aL, kx_aR, kx_ln, Nat.reduceAdd, Option.toList, List.cons_append, List.nil_append, mW_o, mf_7, mf_11])
        repeat' apply And.intro
        all_goals try (first | with_reducible assumption | (with_reducible refine ck_nzI ?_; simp; done) | (with_reducible refine ck_nzL ?_; simp; done) | (with_reducible refine vp_in_nI ?_ ?_ <;> first | omega | decide) | (with_reducible refine Nat.le_of_ble_eq_true ?_; rfl) | omega)
        refine hC.1 212 _ _ _ _ _ _ _ 11 _ _ _ _ _ _ _ _ _ _ _ _ lX11_212 (ct_X11_fine l G) ⟨by decide, rfl⟩ (mW_o) rfl rfl (Nat.le_of_ble_eq_true rfl) (by decide) (by decide) (by omega) (by omega) dX11_opensOne_48 ?_
        rw [ck_p8, if_pos rfl]
        refine hB bX11_opensOne_51 _ _ _ _ _ _ _ kX11_opensOne_51 ?_
        dsimp only [bX11_opensOne_51, kx_wp, kx_step, kx_lI, kx_lL, kx_lA, kx_gl, kx_pI, kx_pL, kx_pR, kx_pA, kx_pV, kx_s1, kx_s2, kx_sl, kx_pre, kx_c2, kx_pl, kx_cmp, kx_oF, kx_eqN, kx_nil, kx_c1, kx_ft, kx_aI, kx_aL, kx_aR, kx_ln, Nat.reduceAdd, Option.toList, List.cons_append, List.nil_append, mW_o, mf_7, mf_11]
        repeat (simp only [mu_7, mW_so, mu_11, ck_p6, ck_p7, ck_p8, ck_p10, ck_p11, ck_p12, ck_p13, ck_p15, h6, nI_1, ck_pu7, ck_pu10, ck_pu11, ck_pu12, ck_pu13, ck_pu15, ck_pa95, ck_pa96, ck_pa97, ck_pa98, ck_pa99, ck_pem, ck_pau96, ck_pau99, va_us, va_upn, ne_eq, Nat.reduceEqDiff, not_false_eq_true, ck_pwt]; try dsimp only [kx_wp, kx_step, kx_lI, kx_lL, kx_lA, kx_gl, kx_pI, kx_pL, kx_pR, kx_pA, kx_pV, kx_s1, kx_s2, kx_sl, kx_pre, kx_c2, kx_pl, kx_cmp, kx_oF, kx_eqN, kx_nil, kx_c1, kx_ft, kx_aI, kx_aL, kx_aR, kx_ln, Nat.reduceAdd, Option.toList, List.cons_append, List.nil_append, mW_o, mf_7, mf_11])
        repeat' apply And.intro
        all_goals try (first | with_reducible assumption | (with_reducible refine ck_nzI ?_; simp; done) | (with_reducible refine ck_nzL ?_; simp; done) | (with_reducible refine vp_in_nI ?_ ?_ <;> first | omega | decide) | (with_reducible refine Nat.le_of_ble_eq_true ?_; rfl) | omega)
        · intro zc51
          first | exact absurd rfl zc51 | exact absurd zc51 (by decide) | exact absurd (by decide) zc51 | (exfalso; first | exact zc14 hc | exact hc zc14 | exact hc (Decidable.not_not.mp zc14) | exact zc35 ho | exact ho zc35 | exact ho (Decidable.not_not.mp zc35)) | (exfalso; simp_all; done)
        · intro zc51
          have ze51 := zc51
          refine hB bX11_opensOne_54 _ _ _ _ _ _ _ kX11_opensOne_54 ?_
          dsimp only [bX11_opensOne_54, kx_wp, kx_step, kx_lI, kx_lL, kx_lA, kx_gl, kx_pI, kx_pL, kx_pR, kx_pA, kx_pV, kx_s1, kx_s2, kx_sl, kx_pre, kx_c2, kx_pl, kx_cmp, kx_oF, kx_eqN, kx_nil, kx_c1, kx_ft, kx_aI, kx_aL, kx_aR, kx_ln, Nat.reduceAdd, Option.toList, List.cons_append, List.nil_append, mW_o, mf_7, mf_11]
          repeat (simp only [mu_7, mW_so, mu_11, ck_p6, ck_p7, ck_p8, ck_p10, ck_p11, ck_p12, ck_p13, ck_p15, h6, nI_1, ck_pu7, ck_pu10, ck_pu11, ck_pu12, ck_pu13, ck_pu15, ck_pa95, ck_pa96, ck_pa97, ck_pa98, ck_pa99, ck_pem, ck_pau96, ck_pau99, va_us, va_upn, ne_eq, Nat.reduceEqDiff, not_false_eq_true, ck_pwt]; try dsimp only [kx_wp, kx_step, kx_lI, kx_lL, kx_lA, kx_gl, kx_pI, kx_pL, kx_pR, kx_pA, kx_pV, kx_s1, kx_s2, kx_sl, kx_pre, kx_c2, kx_pl, kx_cmp, kx_oF, kx_eqN, kx_nil, kx_c1, kx_ft, kx_aI, kx_aL, kx_aR, kx_ln, Nat.reduceAdd, Option.toList, List.cons_append, List.nil_append, mW_o, mf_7, mf_11])
          repeat' apply And.intro
          all_goals try (first | with_reducible assumption | (with_reducible refine ck_nzI ?_; simp; done) | (with_reducible refine ck_nzL ?_; simp; done) | (with_reducible refine vp_in_nI ?_ ?_ <;> first | omega | decide) | (with_reducible refine Nat.le_of_ble_eq_true ?_; rfl) | omega)
          refine hB bX11_opensOne_64 _ _ _ _ _ _ _ kX11_opensOne_64 ?_
          dsimp only [bX11_opensOne_64, kx_wp, kx_step, kx_lI, kx_lL, kx_lA, kx_gl, kx_pI, kx_pL, kx_pR, kx_pA, kx_pV, kx_s1, kx_s2, kx_sl, kx_pre, kx_c2, kx_pl, kx_cmp, kx_oF, kx_eqN, kx_nil, kx_c1, kx_ft, kx_aI, kx_aL, kx_aR, kx_ln, Nat.reduceAdd, Option.toList, List.cons_append, List.nil_append, mW_o, mf_7, mf_11]
          repeat (simp only [mu_7, mW_so, mu_11, ck_p6, ck_p7, ck_p8, ck_p10, ck_p11, ck_p12, ck_p13, ck_p15, h6, nI_1, ck_pu7, ck_pu10, ck_pu11, ck_pu12, ck_pu13, ck_pu15, ck_pa95, ck_pa96, ck_pa97, ck_pa98, ck_pa99, ck_pem, ck_pau96, ck_pau99, va_us, va_upn, ne_eq, Nat.reduceEqDiff, not_false_eq_true, ck_pwt]; try dsimp only [kx_wp, kx_step, kx_lI, kx_lL, kx_lA, kx_gl, kx_pI, kx_pL, kx_pR, kx_pA, kx_pV, kx_s1, kx_s2, kx_sl, kx_pre, kx_c2, kx_pl, kx_cmp, kx_oF, kx_eqN, kx_nil, kx_c1, kx_ft, kx_aI, kx_aL, kx_aR, kx_ln, Nat.reduceAdd, Option.toList, List.cons_append, List.nil_append, mW_o, mf_7, mf_11])
          all_goals (repeat' apply And.intro)
          all_goals ((try clear hB hC); first | exact True.intro | with_reducible rfl | with_reducible assumption | (with_reducible refine vp_in_nI ?_ ?_ <;> first | omega | decide) | exact Nat.le_of_ble_eq_true rfl | (with_reducible refine ck_nzI ?_; simp; done) | (with_reducible refine ck_nzL ?_; simp; done) | (simp only [pk_us, pk_uLs, ze4, eq_true ze14, ze35, ze51, ↓reduceIte, not_true_eq_false, not_false_eq_true]; done) | (simp only [ze4, eq_true ze14, ze35, ze51, ↓reduceIte, not_true_eq_false, not_false_eq_true]; with_reducible rfl) | skip)
      · intro zc35
        first | exact absurd rfl zc35 | exact absurd zc35 (by decide) | exact absurd (by decide) zc35 | (exfalso; first | exact zc14 hc | exact hc zc14 | exact hc (Decidable.not_not.mp zc14) | exact zc35 ho | exact ho zc35 | exact ho (Decidable.not_not.mp zc35)) | (exfalso; simp_all; done)
    · intro zc14
      first | exact absurd rfl zc14 | exact absurd zc14 (by decide) | exact absurd (by decide) zc14 | (exfalso; first | exact zc14 hc | exact hc zc14 | exact hc (Decidable.not_not.mp zc14) | exact zc35 ho | exact ho zc35 | exact ho (Decidable.not_not.mp zc35)) | (exfalso; simp_all; done)
  · intro zc4
    first | exact absurd rfl zc4 | exact absurd zc4 (by decide) | exact absurd (by decide) zc4 | (exfalso; first | exact zc14 hc | exact hc zc14 | exact hc (Decidable.not_not.mp zc14) | exact zc35 ho | exact ho zc35 | exact ho (Decidable.not_not.mp zc35)) | (exfalso; simp_all; done)

theorem ct_X11_opensOne (l : Launch) (G : kx_G) {M : Nat → Int32} {A : Nat → Nat → Int32} {L : Nat → Nat → Int64} {R : kx_P} {sz : Nat} {a c n : Nat} {b k o : Int32} {C N : Nat → Int32} (h6 : M 6 = nI n) (hn : n ≤ 400) (ha : a ≤ n) : kx_M l G sX11_opensOne 2 0 0 [.ref 93] (mW (ck_pM M a b k o c) (ck_pA A C N) L R) sz none (mW (ck_pM M ((ck_op (A 95) n a b k o).1) ((ck_op (A 95) n a b k o).2.1) ((ck_op (A 95) n a b k o).2.2.1) ((ck_op (A 95) n a b k o).2.2.2) c) (ck_pA A C N) L R) sz := by
  unfold ck_op
  by_cases hb : b = -1
  · subst hb
    rw [if_pos rfl]
    by_cases hc : ck_hcx (A 95) n a = 40
    · rw [if_pos hc]
      by_cases ho : o = 8
      · rw [if_pos ho]; exact ct_X11_opensOne_e l G h6 hn ha hc ho
      · rw [if_neg ho]; exact ct_X11_opensOne_t l G h6 hn ha hc ho
    · rw [if_neg hc]; exact ct_X11_opensOne_w l G h6 hn ha hc
  · rw [if_neg hb]; exact ct_X11_opensOne_f l G h6 hn ha hb

def bX11_closesOne_0 : List kx_O := [(.aload_n 0, 0, 0, 0, .null), (.bipush 41, 0, 0, 0, .int 41)]
theorem kX11_closesOne_0 : kx_oks kxL_X11 false cX11_closesOne 0 bX11_closesOne_0 = true := by decide +kernel
def bX11_closesOne_6 : List kx_O := [(.aload_n 0, 0, 0, 0, .null), (.dup, 0, 0, 0, .null), (.getfield 231, 11, 11, 0, .null), (.iconst 1, 0, 0, 0, .int 1), (.isub, 0, 0, 0, .null), (.putfield 231, 11, 11, 0, .null), (.return_, 0, 0, 0, .null)]
theorem kX11_closesOne_6 : kx_oks kxL_X11 false cX11_closesOne 6 bX11_closesOne_6 = true := by decide +kernel
theorem dX11_closesOne_3 : decode cX11_closesOne 3 = .ok (.invokevirtual 234, 3) := by decide +kernel
set_option maxRecDepth 100000 in
set_option maxHeartbeats 4000000 in
theorem ct_X11_closesOne (l : Launch) (G : kx_G) {M : Nat → Int32} {A : Nat → Nat → Int32} {L : Nat → Nat → Int64} {R : kx_P} {sz : Nat} {a c n : Nat} {b k o : Int32} {C N : Nat → Int32} (h6 : M 6 = nI n) (hn : n ≤ 400) (ha : a ≤ n)  : kx_M l G sX11_closesOne 3 0 0 [.ref 93] (mW (ck_pM M a b k o c) (ck_pA A C N) L R) sz none (mW (ck_pM M ((ck_need (A 95) n 41 a b k).1) ((ck_need (A 95) n 41 a b k).2.1) ((ck_need (A 95) n 41 a b k).2.2) (o - 1) c) (ck_pA A C N) L R) sz := by
  refine kx_mk kx_tab kxLok_X11 (ini := false) [some (.ref 93)] ⟨by decide, rfl, by decide, by decide⟩ (rfl) rfl rfl (fun g hB hC => ?_)
  refine hB bX11_closesOne_0 _ _ _ _ _ _ _ kX11_closesOne_0 ?_
  dsimp only [bX11_closesOne_0, kx_wp, kx_step, kx_lI, kx_lL, kx_lA, kx_gl, kx_pI, kx_pL, kx_pR, kx_pA, kx_pV, kx_s1, kx_s2, kx_sl, kx_pre, kx_c2, kx_pl, kx_cmp, kx_oF, kx_eqN, kx_nil, kx_c1, kx_ft, kx_aI, kx_aL, kx_aR, kx_ln, Nat.reduceAdd, Option.toList, List.cons_append, List.nil_append, mW_o, mf_11]
  repeat (simp only [mu_11, mW_so, ck_p6, ck_p7, ck_p8, ck_p10, ck_p11, ck_p12, ck_p13, ck_p15, h6, nI_1, ck_pu7, ck_pu10, ck_pu11, ck_pu12, ck_pu13, ck_pu15, ck_pa95, ck_pa96, ck_pa97, ck_pa98, ck_pa99, ck_pem, ck_pau96, ck_pau99, va_us, va_upn, ne_eq, Nat.reduceEqDiff, not_false_eq_true]; try dsimp only [kx_wp, kx_step, kx_lI, kx_lL, kx_lA, kx_gl, kx_pI, kx_pL, kx_pR, kx_pA, kx_pV, kx_s1, kx_s2, kx_sl, kx_pre, kx_c2, kx_pl, kx_cmp, kx_oF, kx_eqN, kx_nil, kx_c1, kx_ft, kx_aI, kx_aL, kx_aR, kx_ln, Nat.reduceAdd, Option.toList, List.cons_append, List.nil_append, mW_o, mf_11])
  repeat' apply And.intro
  all_goals try (first | with_reducible assumption | (with_reducible refine ck_nzI ?_; simp; done) | (with_reducible refine ck_nzL ?_; simp; done) | (with_reducible refine vp_in_nI ?_ ?_ <;> first | omega | decide) | (with_reducible refine Nat.le_of_ble_eq_true ?_; rfl) | omega)
  refine hC.1 234 _ _ _ _ _ _ _ 11 _ _ _ _ _ _ _ _ _ _ _ _ lX11_234 (ct_X11_need l G h6 hn ha) ⟨by decide, rfl⟩ (mW_o) rfl rfl (Nat.le_of_ble_eq_true rfl) (by decide) (by decide) (by omega) (by omega) dX11_closesOne_3 ?_
  refine hB bX11_closesOne_6 _ _ _ _ _ _ _ kX11_closesOne_6 ?_
  dsimp only [bX11_closesOne_6, kx_wp, kx_step, kx_lI, kx_lL, kx_lA, kx_gl, kx_pI, kx_pL, kx_pR, kx_pA, kx_pV, kx_s1, kx_s2, kx_sl, kx_pre, kx_c2, kx_pl, kx_cmp, kx_oF, kx_eqN, kx_nil, kx_c1, kx_ft, kx_aI, kx_aL, kx_aR, kx_ln, Nat.reduceAdd, Option.toList, List.cons_append, List.nil_append, mW_o, mf_11]
  repeat (simp only [mu_11, mW_so, ck_p6, ck_p7, ck_p8, ck_p10, ck_p11, ck_p12, ck_p13, ck_p15, h6, nI_1, ck_pu7, ck_pu10, ck_pu11, ck_pu12, ck_pu13, ck_pu15, ck_pa95, ck_pa96, ck_pa97, ck_pa98, ck_pa99, ck_pem, ck_pau96, ck_pau99, va_us, va_upn, ne_eq, Nat.reduceEqDiff, not_false_eq_true]; try dsimp only [kx_wp, kx_step, kx_lI, kx_lL, kx_lA, kx_gl, kx_pI, kx_pL, kx_pR, kx_pA, kx_pV, kx_s1, kx_s2, kx_sl, kx_pre, kx_c2, kx_pl, kx_cmp, kx_oF, kx_eqN, kx_nil, kx_c1, kx_ft, kx_aI, kx_aL, kx_aR, kx_ln, Nat.reduceAdd, Option.toList, List.cons_append, List.nil_append, mW_o, mf_11])
  all_goals (repeat' apply And.intro)
  all_goals ((try clear hB hC); first | exact True.intro | with_reducible rfl | with_reducible assumption | (with_reducible refine vp_in_nI ?_ ?_ <;> first | omega | decide) | exact Nat.le_of_ble_eq_true rfl | (with_reducible refine ck_nzI ?_; simp; done) | (with_reducible refine ck_nzL ?_; simp; done) | (simp only [pk_us, pk_uLs, ↓reduceIte, not_true_eq_false, not_false_eq_true]; done) | (simp only [↓reduceIte, not_true_eq_false, not_false_eq_true]; with_reducible rfl) | skip)


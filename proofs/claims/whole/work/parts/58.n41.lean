def bX11_term_0 : List kx_O := [(.aload_n 0, 0, 0, 0, .null)]
theorem kX11_term_0 : kx_oks kxL_X11 false cX11_term 0 bX11_term_0 = true := by decide +kernel
def bX11_term_4 : List kx_O := [(.aload_n 0, 0, 0, 0, .null)]
theorem kX11_term_4 : kx_oks kxL_X11 false cX11_term 4 bX11_term_4 = true := by decide +kernel
def bX11_term_8 : List kx_O := [(.ifCond .eq 88, 96, 0, 0, .null)]
theorem kX11_term_8 : kx_oks kxL_X11 false cX11_term 8 bX11_term_8 = true := by decide +kernel
def bX11_term_11 : List kx_O := [(.aload_n 0, 0, 0, 0, .null)]
theorem kX11_term_11 : kx_oks kxL_X11 false cX11_term 11 bX11_term_11 = true := by decide +kernel
def bX11_term_15 : List kx_O := [(.bipush 42, 0, 0, 0, .int 42), (.if_icmp .eq 21, 38, 0, 0, .null)]
theorem kX11_term_15 : kx_oks kxL_X11 false cX11_term 15 bX11_term_15 = true := by decide +kernel
def bX11_term_20 : List kx_O := [(.aload_n 0, 0, 0, 0, .null)]
theorem kX11_term_20 : kx_oks kxL_X11 false cX11_term 20 bX11_term_20 = true := by decide +kernel
def bX11_term_24 : List kx_O := [(.bipush 47, 0, 0, 0, .int 47), (.if_icmp .eq 12, 38, 0, 0, .null)]
theorem kX11_term_24 : kx_oks kxL_X11 false cX11_term 24 bX11_term_24 = true := by decide +kernel
def bX11_term_29 : List kx_O := [(.aload_n 0, 0, 0, 0, .null)]
theorem kX11_term_29 : kx_oks kxL_X11 false cX11_term 29 bX11_term_29 = true := by decide +kernel
def bX11_term_33 : List kx_O := [(.bipush 37, 0, 0, 0, .int 37), (.if_icmp .ne 61, 96, 0, 0, .null)]
theorem kX11_term_33 : kx_oks kxL_X11 false cX11_term 33 bX11_term_33 = true := by decide +kernel
def bX11_term_38 : List kx_O := [(.aload_n 0, 0, 0, 0, .null)]
theorem kX11_term_38 : kx_oks kxL_X11 false cX11_term 38 bX11_term_38 = true := by decide +kernel
def bX11_term_42 : List kx_O := [(.istore_n 1, 1, 0, 0, .null), (.aload_n 0, 0, 0, 0, .null), (.dup, 0, 0, 0, .null), (.getfield 198, 11, 7, 0, .null), (.iconst 1, 0, 0, 0, .int 1), (.iadd, 0, 0, 0, .null), (.putfield 198, 11, 7, 0, .null), (.aload_n 0, 0, 0, 0, .null)]
theorem kX11_term_42 : kx_oks kxL_X11 false cX11_term 42 bX11_term_42 = true := by decide +kernel
def bX11_term_57 : List kx_O := [(.aload_n 0, 0, 0, 0, .null)]
theorem kX11_term_57 : kx_oks kxL_X11 false cX11_term 57 bX11_term_57 = true := by decide +kernel
def bX11_term_61 : List kx_O := [(.ifCond .eq 32, 93, 0, 0, .null)]
theorem kX11_term_61 : kx_oks kxL_X11 false cX11_term 61 bX11_term_61 = true := by decide +kernel
def bX11_term_64 : List kx_O := [(.aload_n 0, 0, 0, 0, .null), (.iload_n 1, 1, 0, 0, .null), (.bipush 42, 0, 0, 0, .int 42), (.if_icmp .ne 8, 76, 0, 0, .null)]
theorem kX11_term_64 : kx_oks kxL_X11 false cX11_term 64 bX11_term_64 = true := by decide +kernel
def bX11_term_71 : List kx_O := [(.bipush 6, 0, 0, 0, .int 6), (.goto 16, 89, 0, 0, .null)]
theorem kX11_term_71 : kx_oks kxL_X11 false cX11_term 71 bX11_term_71 = true := by decide +kernel
def bX11_term_76 : List kx_O := [(.iload_n 1, 1, 0, 0, .null), (.bipush 47, 0, 0, 0, .int 47), (.if_icmp .ne 8, 87, 0, 0, .null)]
theorem kX11_term_76 : kx_oks kxL_X11 false cX11_term 76 bX11_term_76 = true := by decide +kernel
def bX11_term_82 : List kx_O := [(.bipush 7, 0, 0, 0, .int 7), (.goto 5, 89, 0, 0, .null)]
theorem kX11_term_82 : kx_oks kxL_X11 false cX11_term 82 bX11_term_82 = true := by decide +kernel
def bX11_term_87 : List kx_O := [(.bipush 8, 0, 0, 0, .int 8)]
theorem kX11_term_87 : kx_oks kxL_X11 false cX11_term 87 bX11_term_87 = true := by decide +kernel
def bX11_term_89 : List kx_O := [(.iconst 0, 0, 0, 0, .int 0)]
theorem kX11_term_89 : kx_oks kxL_X11 false cX11_term 89 bX11_term_89 = true := by decide +kernel
def bX11_term_93 : List kx_O := [(.goto (-89), 4, 0, 0, .null)]
theorem kX11_term_93 : kx_oks kxL_X11 false cX11_term 93 bX11_term_93 = true := by decide +kernel
def bX11_term_96 : List kx_O := [(.return_, 0, 0, 0, .null)]
theorem kX11_term_96 : kx_oks kxL_X11 false cX11_term 96 bX11_term_96 = true := by decide +kernel
theorem dX11_term_1 : decode cX11_term 1 = .ok (.invokevirtual 268, 3) := by decide +kernel
theorem dX11_term_5 : decode cX11_term 5 = .ok (.invokevirtual 212, 3) := by decide +kernel
theorem dX11_term_12 : decode cX11_term 12 = .ok (.invokevirtual 204, 3) := by decide +kernel
theorem dX11_term_21 : decode cX11_term 21 = .ok (.invokevirtual 204, 3) := by decide +kernel
theorem dX11_term_30 : decode cX11_term 30 = .ok (.invokevirtual 204, 3) := by decide +kernel
theorem dX11_term_39 : decode cX11_term 39 = .ok (.invokevirtual 204, 3) := by decide +kernel
theorem dX11_term_54 : decode cX11_term 54 = .ok (.invokevirtual 268, 3) := by decide +kernel
theorem dX11_term_58 : decode cX11_term 58 = .ok (.invokevirtual 212, 3) := by decide +kernel
theorem dX11_term_90 : decode cX11_term 90 = .ok (.invokevirtual 238, 3) := by decide +kernel
set_option maxRecDepth 100000 in
set_option maxHeartbeats 4000000 in
theorem ct_X11_term_g (l : Launch) (G : kx_G) {M : Nat → Int32} {A : Nat → Nat → Int32} {L : Nat → Nat → Int64} {R : kx_P} {sz : Nat} {n Nl dU : Nat} (h6 : M 6 = nI n) (hn : n ≤ 400) {U : ck_R → ck_R} (hU : ck_gd n U) (hd : 2 ≤ dU) (hUc : ∀ S, ck_sl n 0 S → ck_lv Nl S → kx_M l G sX11_unit dU 0 0 [.ref 93] (ck_pW M A L R S) sz none (ck_pW M A L R (U S)) sz) {S : ck_R} (hS : ck_sl n 0 S) (hlv : ck_lv Nl S)  : kx_M l G sX11_term (dU + 1) 0 0 [.ref 93] (ck_pW M A L R S) sz none (ck_pW M A L R (ck_lpt (A 95) n U (n - (U S).1) (U S))) sz := by
  have hn31 : n < 2 ^ 31 := by omega
  have g1 := hU _ _ hS
  have l1 := ck_lv_g g1 hlv
  generalize hRR : ck_lpt (A 95) n U (n - (U S).1) (U S) = RES
  replace hRR := hRR.symm
  refine kx_mk kx_tab kxLok_X11 (ini := false) [some (.ref 93), none] ⟨by decide, rfl, by decide, by omega⟩ (rfl) rfl rfl (fun g hB hC => ?_)
  have jf : ∀ (a1 : Nat) (b1 k1 o1 : Int32) (c1 : Nat) (C1 N1 : Nat → Int32) (x1 : Option Value), ¬ b1 = -1 → RES = (a1, b1, k1, o1, c1, C1, N1) → g 4 [some (.ref 93), x1] [] (mW (ck_pM M a1 b1 k1 o1 c1) (ck_pA A C1 N1) L R) sz 0 0 := by
    intro a1 b1 k1 o1 c1 C1 N1 x1 hb hE
    refine hB bX11_term_4 _ _ _ _ _ _ _ kX11_term_4 ?_
    dsimp only [bX11_term_4, kx_wp, kx_step, kx_lI, kx_lL, kx_lA, kx_gl, kx_pI, kx_pL, kx_pR, kx_pA, kx_pV, kx_s1, kx_s2, kx_sl, kx_pre, kx_c2, kx_pl, kx_cmp, kx_oF, kx_eqN, kx_nil, kx_c1, kx_ft, kx_aI, kx_aL, kx_aR, kx_ln, Nat.reduceAdd, Option.toList, List.cons_append, List.nil_append, mW_o, mf_7]
    repeat (simp only [mu_7, mW_so, ck_p6, ck_p7, ck_p8, ck_p10, ck_p11, ck_p12, ck_p13, ck_p15, h6, nI_1, ck_pu7, ck_pu10, ck_pu11, ck_pu12, ck_pu13, ck_pu15, ck_pa95, ck_pa96, ck_pa97, ck_pa98, ck_pa99, ck_pem, ck_pau96, ck_pau99, va_us, va_upn, ne_eq, Nat.reduceEqDiff, not_false_eq_true, ck_skk, ck_hck]; try dsimp only [kx_wp, kx_step, kx_lI, kx_lL, kx_lA, kx_gl, kx_pI, kx_pL, kx_pR, kx_pA, kx_pV, kx_s1, kx_s2, kx_sl, kx_pre, kx_c2, kx_pl, kx_cmp, kx_oF, kx_eqN, kx_nil, kx_c1, kx_ft, kx_aI, kx_aL, kx_aR, kx_ln, Nat.reduceAdd, Option.toList, List.cons_append, List.nil_append, mW_o, mf_7])
    repeat' apply And.intro
    all_goals try (first | with_reducible assumption | (with_reducible refine ck_nzI ?_; simp; done) | (with_reducible refine ck_nzL ?_; simp; done) | (with_reducible refine vp_in_nI ?_ ?_ <;> first | omega | decide) | (with_reducible refine Nat.le_of_ble_eq_true ?_; rfl) | omega)
    refine hC.1 212 _ _ _ _ _ _ _ 11 _ _ _ _ _ _ _ _ _ _ _ _ lX11_212 (ct_X11_fine l G) ⟨by decide, rfl⟩ (mW_o) rfl rfl (Nat.le_of_ble_eq_true rfl) (by omega) (by decide) (by omega) (by omega) dX11_term_5 ?_
    rw [ck_p8, if_neg hb]
    refine hB bX11_term_8 _ _ _ _ _ _ _ kX11_term_8 ?_
    dsimp only [bX11_term_8, kx_wp, kx_step, kx_lI, kx_lL, kx_lA, kx_gl, kx_pI, kx_pL, kx_pR, kx_pA, kx_pV, kx_s1, kx_s2, kx_sl, kx_pre, kx_c2, kx_pl, kx_cmp, kx_oF, kx_eqN, kx_nil, kx_c1, kx_ft, kx_aI, kx_aL, kx_aR, kx_ln, Nat.reduceAdd, Option.toList, List.cons_append, List.nil_append, mW_o, mf_7]
    repeat (simp only [mu_7, mW_so, ck_p6, ck_p7, ck_p8, ck_p10, ck_p11, ck_p12, ck_p13, ck_p15, h6, nI_1, ck_pu7, ck_pu10, ck_pu11, ck_pu12, ck_pu13, ck_pu15, ck_pa95, ck_pa96, ck_pa97, ck_pa98, ck_pa99, ck_pem, ck_pau96, ck_pau99, va_us, va_upn, ne_eq, Nat.reduceEqDiff, not_false_eq_true, ck_skk, ck_hck]; try dsimp only [kx_wp, kx_step, kx_lI, kx_lL, kx_lA, kx_gl, kx_pI, kx_pL, kx_pR, kx_pA, kx_pV, kx_s1, kx_s2, kx_sl, kx_pre, kx_c2, kx_pl, kx_cmp, kx_oF, kx_eqN, kx_nil, kx_c1, kx_ft, kx_aI, kx_aL, kx_aR, kx_ln, Nat.reduceAdd, Option.toList, List.cons_append, List.nil_append, mW_o, mf_7])
    repeat' apply And.intro
    all_goals try (first | with_reducible assumption | (with_reducible refine ck_nzI ?_; simp; done) | (with_reducible refine ck_nzL ?_; simp; done) | (with_reducible refine vp_in_nI ?_ ?_ <;> first | omega | decide) | (with_reducible refine Nat.le_of_ble_eq_true ?_; rfl) | omega)
    · intro zc8
      have ze8 := zc8
      refine hB bX11_term_96 _ _ _ _ _ _ _ kX11_term_96 ?_
      dsimp only [bX11_term_96, kx_wp, kx_step, kx_lI, kx_lL, kx_lA, kx_gl, kx_pI, kx_pL, kx_pR, kx_pA, kx_pV, kx_s1, kx_s2, kx_sl, kx_pre, kx_c2, kx_pl, kx_cmp, kx_oF, kx_eqN, kx_nil, kx_c1, kx_ft, kx_aI, kx_aL, kx_aR, kx_ln, Nat.reduceAdd, Option.toList, List.cons_append, List.nil_append, mW_o, mf_7]
      repeat (simp only [mu_7, mW_so, ck_p6, ck_p7, ck_p8, ck_p10, ck_p11, ck_p12, ck_p13, ck_p15, h6, nI_1, ck_pu7, ck_pu10, ck_pu11, ck_pu12, ck_pu13, ck_pu15, ck_pa95, ck_pa96, ck_pa97, ck_pa98, ck_pa99, ck_pem, ck_pau96, ck_pau99, va_us, va_upn, ne_eq, Nat.reduceEqDiff, not_false_eq_true, ck_skk, ck_hck]; try dsimp only [kx_wp, kx_step, kx_lI, kx_lL, kx_lA, kx_gl, kx_pI, kx_pL, kx_pR, kx_pA, kx_pV, kx_s1, kx_s2, kx_sl, kx_pre, kx_c2, kx_pl, kx_cmp, kx_oF, kx_eqN, kx_nil, kx_c1, kx_ft, kx_aI, kx_aL, kx_aR, kx_ln, Nat.reduceAdd, Option.toList, List.cons_append, List.nil_append, mW_o, mf_7])
      all_goals (repeat' apply And.intro)
      all_goals ((try clear hB hC); first | exact True.intro | with_reducible rfl | with_reducible assumption | exact Nat.le_of_ble_eq_true rfl | (rw [hE]; done) | (rw [hE]; rfl))
    · intro zc8
      first | exact absurd rfl zc8 | exact absurd zc8 (by decide) | exact absurd (by decide) zc8 | (exfalso; first | exact zc8 rfl | exact absurd zc8 (by decide)) | (exfalso; simp_all; done)
  have jn : ∀ (a1 : Nat) (k1 o1 : Int32) (c1 : Nat) (C1 N1 : Nat → Int32) (x1 : Option Value), a1 ≤ n → ¬ ck_hcx (A 95) n a1 = 42 → ¬ ck_hcx (A 95) n a1 = 47 → ¬ ck_hcx (A 95) n a1 = 37 → RES = (ck_sk (A 95) n a1, -1, k1, o1, c1, C1, N1) → g 4 [some (.ref 93), x1] [] (mW (ck_pM M a1 (-1) k1 o1 c1) (ck_pA A C1 N1) L R) sz 0 0 := by
    intro a1 k1 o1 c1 C1 N1 x1 ha hno42 hno47 hno37 hE
    have hsa := (ck_sk_le (A 95) ha).2
    refine hB bX11_term_4 _ _ _ _ _ _ _ kX11_term_4 ?_
    dsimp only [bX11_term_4, kx_wp, kx_step, kx_lI, kx_lL, kx_lA, kx_gl, kx_pI, kx_pL, kx_pR, kx_pA, kx_pV, kx_s1, kx_s2, kx_sl, kx_pre, kx_c2, kx_pl, kx_cmp, kx_oF, kx_eqN, kx_nil, kx_c1, kx_ft, kx_aI, kx_aL, kx_aR, kx_ln, Nat.reduceAdd, Option.toList, List.cons_append, List.nil_append, mW_o, mf_7]
    repeat (simp only [mu_7, mW_so, ck_p6, ck_p7, ck_p8, ck_p10, ck_p11, ck_p12, ck_p13, ck_p15, h6, nI_1, ck_pu7, ck_pu10, ck_pu11, ck_pu12, ck_pu13, ck_pu15, ck_pa95, ck_pa96, ck_pa97, ck_pa98, ck_pa99, ck_pem, ck_pau96, ck_pau99, va_us, va_upn, ne_eq, Nat.reduceEqDiff, not_false_eq_true, ck_skk, ck_hck]; try dsimp only [kx_wp, kx_step, kx_lI, kx_lL, kx_lA, kx_gl, kx_pI, kx_pL, kx_pR, kx_pA, kx_pV, kx_s1, kx_s2, kx_sl, kx_pre, kx_c2, kx_pl, kx_cmp, kx_oF, kx_eqN, kx_nil, kx_c1, kx_ft, kx_aI, kx_aL, kx_aR, kx_ln, Nat.reduceAdd, Option.toList, List.cons_append, List.nil_append, mW_o, mf_7])
    repeat' apply And.intro
    all_goals try (first | with_reducible assumption | (with_reducible refine ck_nzI ?_; simp; done) | (with_reducible refine ck_nzL ?_; simp; done) | (with_reducible refine vp_in_nI ?_ ?_ <;> first | omega | decide) | (with_reducible refine Nat.le_of_ble_eq_true ?_; rfl) | omega)
    refine hC.1 212 _ _ _ _ _ _ _ 11 _ _ _ _ _ _ _ _ _ _ _ _ lX11_212 (ct_X11_fine l G) ⟨by decide, rfl⟩ (mW_o) rfl rfl (Nat.le_of_ble_eq_true rfl) (by omega) (by decide) (by omega) (by omega) dX11_term_5 ?_
    rw [ck_p8, if_pos rfl]
    refine hB bX11_term_8 _ _ _ _ _ _ _ kX11_term_8 ?_
    dsimp only [bX11_term_8, kx_wp, kx_step, kx_lI, kx_lL, kx_lA, kx_gl, kx_pI, kx_pL, kx_pR, kx_pA, kx_pV, kx_s1, kx_s2, kx_sl, kx_pre, kx_c2, kx_pl, kx_cmp, kx_oF, kx_eqN, kx_nil, kx_c1, kx_ft, kx_aI, kx_aL, kx_aR, kx_ln, Nat.reduceAdd, Option.toList, List.cons_append, List.nil_append, mW_o, mf_7]
    repeat (simp only [mu_7, mW_so, ck_p6, ck_p7, ck_p8, ck_p10, ck_p11, ck_p12, ck_p13, ck_p15, h6, nI_1, ck_pu7, ck_pu10, ck_pu11, ck_pu12, ck_pu13, ck_pu15, ck_pa95, ck_pa96, ck_pa97, ck_pa98, ck_pa99, ck_pem, ck_pau96, ck_pau99, va_us, va_upn, ne_eq, Nat.reduceEqDiff, not_false_eq_true, ck_skk, ck_hck]; try dsimp only [kx_wp, kx_step, kx_lI, kx_lL, kx_lA, kx_gl, kx_pI, kx_pL, kx_pR, kx_pA, kx_pV, kx_s1, kx_s2, kx_sl, kx_pre, kx_c2, kx_pl, kx_cmp, kx_oF, kx_eqN, kx_nil, kx_c1, kx_ft, kx_aI, kx_aL, kx_aR, kx_ln, Nat.reduceAdd, Option.toList, List.cons_append, List.nil_append, mW_o, mf_7])
    repeat' apply And.intro
    all_goals try (first | with_reducible assumption | (with_reducible refine ck_nzI ?_; simp; done) | (with_reducible refine ck_nzL ?_; simp; done) | (with_reducible refine vp_in_nI ?_ ?_ <;> first | omega | decide) | (with_reducible refine Nat.le_of_ble_eq_true ?_; rfl) | omega)
    · intro zc8
      first | exact absurd rfl zc8 | exact absurd zc8 (by decide) | exact absurd (by decide) zc8 | (exfalso; first | exact zc8 rfl | exact absurd zc8 (by decide) | exact hno42 zc17 | exact hno42 (Decidable.not_not.mp zc17) | exact hno47 zc26 | exact hno47 (Decidable.not_not.mp zc26) | exact hno37 zc35 | exact hno37 (Decidable.not_not.mp zc35)) | (exfalso; simp_all; done)
    · intro zc8
      have ze8 := zc8
      refine hB bX11_term_11 _ _ _ _ _ _ _ kX11_term_11 ?_
      dsimp only [bX11_term_11, kx_wp, kx_step, kx_lI, kx_lL, kx_lA, kx_gl, kx_pI, kx_pL, kx_pR, kx_pA, kx_pV, kx_s1, kx_s2, kx_sl, kx_pre, kx_c2, kx_pl, kx_cmp, kx_oF, kx_eqN, kx_nil, kx_c1, kx_ft, kx_aI, kx_aL, kx_aR, kx_ln, Nat.reduceAdd, Option.toList, List.cons_append, List.nil_append, mW_o, mf_7]
      repeat (simp only [mu_7, mW_so, ck_p6, ck_p7, ck_p8, ck_p10, ck_p11, ck_p12, ck_p13, ck_p15, h6, nI_1, ck_pu7, ck_pu10, ck_pu11, ck_pu12, ck_pu13, ck_pu15, ck_pa95, ck_pa96, ck_pa97, ck_pa98, ck_pa99, ck_pem, ck_pau96, ck_pau99, va_us, va_upn, ne_eq, Nat.reduceEqDiff, not_false_eq_true, ck_skk, ck_hck]; try dsimp only [kx_wp, kx_step, kx_lI, kx_lL, kx_lA, kx_gl, kx_pI, kx_pL, kx_pR, kx_pA, kx_pV, kx_s1, kx_s2, kx_sl, kx_pre, kx_c2, kx_pl, kx_cmp, kx_oF, kx_eqN, kx_nil, kx_c1, kx_ft, kx_aI, kx_aL, kx_aR, kx_ln, Nat.reduceAdd, Option.toList, List.cons_append, List.nil_append, mW_o, mf_7])
      repeat' apply And.intro
      all_goals try (first | with_reducible assumption | (with_reducible refine ck_nzI ?_; simp; done) | (with_reducible refine ck_nzL ?_; simp; done) | (with_reducible refine vp_in_nI ?_ ?_ <;> first | omega | decide) | (with_reducible refine Nat.le_of_ble_eq_true ?_; rfl) | omega)
      refine hC.1 204 _ _ _ _ _ _ _ 11 _ _ _ _ _ _ _ _ _ _ _ _ lX11_204 (ct_X11_here l G h6 hn ha) ⟨by decide, rfl⟩ (mW_o) rfl rfl (Nat.le_of_ble_eq_true rfl) (by omega) (by decide) (by omega) (by omega) dX11_term_12 ?_
      refine hB bX11_term_15 _ _ _ _ _ _ _ kX11_term_15 ?_
      dsimp only [bX11_term_15, kx_wp, kx_step, kx_lI, kx_lL, kx_lA, kx_gl, kx_pI, kx_pL, kx_pR, kx_pA, kx_pV, kx_s1, kx_s2, kx_sl, kx_pre, kx_c2, kx_pl, kx_cmp, kx_oF, kx_eqN, kx_nil, kx_c1, kx_ft, kx_aI, kx_aL, kx_aR, kx_ln, Nat.reduceAdd, Option.toList, List.cons_append, List.nil_append, mW_o, mf_7]
      repeat (simp only [mu_7, mW_so, ck_p6, ck_p7, ck_p8, ck_p10, ck_p11, ck_p12, ck_p13, ck_p15, h6, nI_1, ck_pu7, ck_pu10, ck_pu11, ck_pu12, ck_pu13, ck_pu15, ck_pa95, ck_pa96, ck_pa97, ck_pa98, ck_pa99, ck_pem, ck_pau96, ck_pau99, va_us, va_upn, ne_eq, Nat.reduceEqDiff, not_false_eq_true, ck_skk, ck_hck]; try dsimp only [kx_wp, kx_step, kx_lI, kx_lL, kx_lA, kx_gl, kx_pI, kx_pL, kx_pR, kx_pA, kx_pV, kx_s1, kx_s2, kx_sl, kx_pre, kx_c2, kx_pl, kx_cmp, kx_oF, kx_eqN, kx_nil, kx_c1, kx_ft, kx_aI, kx_aL, kx_aR, kx_ln, Nat.reduceAdd, Option.toList, List.cons_append, List.nil_append, mW_o, mf_7])
      repeat' apply And.intro
      all_goals try (first | with_reducible assumption | (with_reducible refine ck_nzI ?_; simp; done) | (with_reducible refine ck_nzL ?_; simp; done) | (with_reducible refine vp_in_nI ?_ ?_ <;> first | omega | decide) | (with_reducible refine Nat.le_of_ble_eq_true ?_; rfl) | omega)
      · intro zc17
        first | exact absurd rfl zc17 | exact absurd zc17 (by decide) | exact absurd (by decide) zc17 | (exfalso; first | exact zc8 rfl | exact absurd zc8 (by decide) | exact hno42 zc17 | exact hno42 (Decidable.not_not.mp zc17) | exact hno47 zc26 | exact hno47 (Decidable.not_not.mp zc26) | exact hno37 zc35 | exact hno37 (Decidable.not_not.mp zc35)) | (exfalso; simp_all; done)
      · intro zc17
        have ze17 := zc17
        refine hB bX11_term_20 _ _ _ _ _ _ _ kX11_term_20 ?_
        dsimp only [bX11_term_20, kx_wp, kx_step, kx_lI, kx_lL, kx_lA, kx_gl, kx_pI, kx_pL, kx_pR, kx_pA, kx_pV, kx_s1, kx_s2, kx_sl, kx_pre, kx_c2, kx_pl, kx_cmp, kx_oF, kx_eqN, kx_nil, kx_c1, kx_ft, kx_aI, kx_aL, kx_aR, kx_ln, Nat.reduceAdd, Option.toList, List.cons_append, List.nil_append, mW_o, mf_7]
        repeat (simp only [mu_7, mW_so, ck_p6, ck_p7, ck_p8, ck_p10, ck_p11, ck_p12, ck_p13, ck_p15, h6, nI_1, ck_pu7, ck_pu10, ck_pu11, ck_pu12, ck_pu13, ck_pu15, ck_pa95, ck_pa96, ck_pa97, ck_pa98, ck_pa99, ck_pem, ck_pau96, ck_pau99, va_us, va_upn, ne_eq, Nat.reduceEqDiff, not_false_eq_true, ck_skk, ck_hck]; try dsimp only [kx_wp, kx_step, kx_lI, kx_lL, kx_lA, kx_gl, kx_pI, kx_pL, kx_pR, kx_pA, kx_pV, kx_s1, kx_s2, kx_sl, kx_pre, kx_c2, kx_pl, kx_cmp, kx_oF, kx_eqN, kx_nil, kx_c1, kx_ft, kx_aI, kx_aL, kx_aR, kx_ln, Nat.reduceAdd, Option.toList, List.cons_append, List.nil_append, mW_o, mf_7])
        repeat' apply And.intro
        all_goals try (first | with_reducible assumption | (with_reducible refine ck_nzI ?_; simp; done) | (with_reducible refine ck_nzL ?_; simp; done) | (with_reducible refine vp_in_nI ?_ ?_ <;> first | omega | decide) | (with_reducible refine Nat.le_of_ble_eq_true ?_; rfl) | omega)
        refine hC.1 204 _ _ _ _ _ _ _ 11 _ _ _ _ _ _ _ _ _ _ _ _ lX11_204 (ct_X11_here l G h6 hn hsa) ⟨by decide, rfl⟩ (mW_o) rfl rfl (Nat.le_of_ble_eq_true rfl) (by omega) (by decide) (by omega) (by omega) dX11_term_21 ?_
        refine hB bX11_term_24 _ _ _ _ _ _ _ kX11_term_24 ?_
        dsimp only [bX11_term_24, kx_wp, kx_step, kx_lI, kx_lL, kx_lA, kx_gl, kx_pI, kx_pL, kx_pR, kx_pA, kx_pV, kx_s1, kx_s2, kx_sl, kx_pre, kx_c2, kx_pl, kx_cmp, kx_oF, kx_eqN, kx_nil, kx_c1, kx_ft, kx_aI, kx_aL, kx_aR, kx_ln, Nat.reduceAdd, Option.toList, List.cons_append, List.nil_append, mW_o, mf_7]
        repeat (simp only [mu_7, mW_so, ck_p6, ck_p7, ck_p8, ck_p10, ck_p11, ck_p12, ck_p13, ck_p15, h6, nI_1, ck_pu7, ck_pu10, ck_pu11, ck_pu12, ck_pu13, ck_pu15, ck_pa95, ck_pa96, ck_pa97, ck_pa98, ck_pa99, ck_pem, ck_pau96, ck_pau99, va_us, va_upn, ne_eq, Nat.reduceEqDiff, not_false_eq_true, ck_skk, ck_hck]; try dsimp only [kx_wp, kx_step, kx_lI, kx_lL, kx_lA, kx_gl, kx_pI, kx_pL, kx_pR, kx_pA, kx_pV, kx_s1, kx_s2, kx_sl, kx_pre, kx_c2, kx_pl, kx_cmp, kx_oF, kx_eqN, kx_nil, kx_c1, kx_ft, kx_aI, kx_aL, kx_aR, kx_ln, Nat.reduceAdd, Option.toList, List.cons_append, List.nil_append, mW_o, mf_7])
        repeat' apply And.intro
        all_goals try (first | with_reducible assumption | (with_reducible refine ck_nzI ?_; simp; done) | (with_reducible refine ck_nzL ?_; simp; done) | (with_reducible refine vp_in_nI ?_ ?_ <;> first | omega | decide) | (with_reducible refine Nat.le_of_ble_eq_true ?_; rfl) | omega)
        · intro zc26
          first | exact absurd rfl zc26 | exact absurd zc26 (by decide) | exact absurd (by decide) zc26 | (exfalso; first | exact zc8 rfl | exact absurd zc8 (by decide) | exact hno42 zc17 | exact hno42 (Decidable.not_not.mp zc17) | exact hno47 zc26 | exact hno47 (Decidable.not_not.mp zc26) | exact hno37 zc35 | exact hno37 (Decidable.not_not.mp zc35)) | (exfalso; simp_all; done)
        · intro zc26
          have ze26 := zc26
          refine hB bX11_term_29 _ _ _ _ _ _ _ kX11_term_29 ?_
          dsimp only [bX11_term_29, kx_wp, kx_step, kx_lI, kx_lL, kx_lA, kx_gl, kx_pI, kx_pL, kx_pR, kx_pA, kx_pV, kx_s1, kx_s2, kx_sl, kx_pre, kx_c2, kx_pl, kx_cmp, kx_oF, kx_eqN, kx_nil, kx_c1, kx_ft, kx_aI, kx_aL, kx_aR, kx_ln, Nat.reduceAdd, Option.toList, List.cons_append, List.nil_append, mW_o, mf_7]
          repeat (simp only [mu_7, mW_so, ck_p6, ck_p7, ck_p8, ck_p10, ck_p11, ck_p12, ck_p13, ck_p15, h6, nI_1, ck_pu7, ck_pu10, ck_pu11, ck_pu12, ck_pu13, ck_pu15, ck_pa95, ck_pa96, ck_pa97, ck_pa98, ck_pa99, ck_pem, ck_pau96, ck_pau99, va_us, va_upn, ne_eq, Nat.reduceEqDiff, not_false_eq_true, ck_skk, ck_hck]; try dsimp only [kx_wp, kx_step, kx_lI, kx_lL, kx_lA, kx_gl, kx_pI, kx_pL, kx_pR, kx_pA, kx_pV, kx_s1, kx_s2, kx_sl, kx_pre, kx_c2, kx_pl, kx_cmp, kx_oF, kx_eqN, kx_nil, kx_c1, kx_ft, kx_aI, kx_aL, kx_aR, kx_ln, Nat.reduceAdd, Option.toList, List.cons_append, List.nil_append, mW_o, mf_7])
          repeat' apply And.intro
          all_goals try (first | with_reducible assumption | (with_reducible refine ck_nzI ?_; simp; done) | (with_reducible refine ck_nzL ?_; simp; done) | (with_reducible refine vp_in_nI ?_ ?_ <;> first | omega | decide) | (with_reducible refine Nat.le_of_ble_eq_true ?_; rfl) | omega)
          refine hC.1 204 _ _ _ _ _ _ _ 11 _ _ _ _ _ _ _ _ _ _ _ _ lX11_204 (ct_X11_here l G h6 hn hsa) ⟨by decide, rfl⟩ (mW_o) rfl rfl (Nat.le_of_ble_eq_true rfl) (by omega) (by decide) (by omega) (by omega) dX11_term_30 ?_
          refine hB bX11_term_33 _ _ _ _ _ _ _ kX11_term_33 ?_
          dsimp only [bX11_term_33, kx_wp, kx_step, kx_lI, kx_lL, kx_lA, kx_gl, kx_pI, kx_pL, kx_pR, kx_pA, kx_pV, kx_s1, kx_s2, kx_sl, kx_pre, kx_c2, kx_pl, kx_cmp, kx_oF, kx_eqN, kx_nil, kx_c1, kx_ft, kx_aI, kx_aL, kx_aR, kx_ln, Nat.reduceAdd, Option.toList, List.cons_append, List.nil_append, mW_o, mf_7]
          repeat (simp only [mu_7, mW_so, ck_p6, ck_p7, ck_p8, ck_p10, ck_p11, ck_p12, ck_p13, ck_p15, h6, nI_1, ck_pu7, ck_pu10, ck_pu11, ck_pu12, ck_pu13, ck_pu15, ck_pa95, ck_pa96, ck_pa97, ck_pa98, ck_pa99, ck_pem, ck_pau96, ck_pau99, va_us, va_upn, ne_eq, Nat.reduceEqDiff, not_false_eq_true, ck_skk, ck_hck]; try dsimp only [kx_wp, kx_step, kx_lI, kx_lL, kx_lA, kx_gl, kx_pI, kx_pL, kx_pR, kx_pA, kx_pV, kx_s1, kx_s2, kx_sl, kx_pre, kx_c2, kx_pl, kx_cmp, kx_oF, kx_eqN, kx_nil, kx_c1, kx_ft, kx_aI, kx_aL, kx_aR, kx_ln, Nat.reduceAdd, Option.toList, List.cons_append, List.nil_append, mW_o, mf_7])
          repeat' apply And.intro
          all_goals try (first | with_reducible assumption | (with_reducible refine ck_nzI ?_; simp; done) | (with_reducible refine ck_nzL ?_; simp; done) | (with_reducible refine vp_in_nI ?_ ?_ <;> first | omega | decide) | (with_reducible refine Nat.le_of_ble_eq_true ?_; rfl) | omega)
          · intro zc35
            have ze35 := zc35
            refine hB bX11_term_96 _ _ _ _ _ _ _ kX11_term_96 ?_
            dsimp only [bX11_term_96, kx_wp, kx_step, kx_lI, kx_lL, kx_lA, kx_gl, kx_pI, kx_pL, kx_pR, kx_pA, kx_pV, kx_s1, kx_s2, kx_sl, kx_pre, kx_c2, kx_pl, kx_cmp, kx_oF, kx_eqN, kx_nil, kx_c1, kx_ft, kx_aI, kx_aL, kx_aR, kx_ln, Nat.reduceAdd, Option.toList, List.cons_append, List.nil_append, mW_o, mf_7]
            repeat (simp only [mu_7, mW_so, ck_p6, ck_p7, ck_p8, ck_p10, ck_p11, ck_p12, ck_p13, ck_p15, h6, nI_1, ck_pu7, ck_pu10, ck_pu11, ck_pu12, ck_pu13, ck_pu15, ck_pa95, ck_pa96, ck_pa97, ck_pa98, ck_pa99, ck_pem, ck_pau96, ck_pau99, va_us, va_upn, ne_eq, Nat.reduceEqDiff, not_false_eq_true, ck_skk, ck_hck]; try dsimp only [kx_wp, kx_step, kx_lI, kx_lL, kx_lA, kx_gl, kx_pI, kx_pL, kx_pR, kx_pA, kx_pV, kx_s1, kx_s2, kx_sl, kx_pre, kx_c2, kx_pl, kx_cmp, kx_oF, kx_eqN, kx_nil, kx_c1, kx_ft, kx_aI, kx_aL, kx_aR, kx_ln, Nat.reduceAdd, Option.toList, List.cons_append, List.nil_append, mW_o, mf_7])
            all_goals (repeat' apply And.intro)
            all_goals ((try clear hB hC); first | exact True.intro | with_reducible rfl | with_reducible assumption | exact Nat.le_of_ble_eq_true rfl | (rw [hE]; done) | (rw [hE]; rfl))
          · intro zc35
            first | exact absurd rfl zc35 | exact absurd zc35 (by decide) | exact absurd (by decide) zc35 | (exfalso; first | exact zc8 rfl | exact absurd zc8 (by decide) | exact hno42 zc17 | exact hno42 (Decidable.not_not.mp zc17) | exact hno47 zc26 | exact hno47 (Decidable.not_not.mp zc26) | exact hno37 zc35 | exact hno37 (Decidable.not_not.mp zc35)) | (exfalso; simp_all; done)
  have loop4 : ∀ (n9 : Nat) (S1 : ck_R) (x1 : Option Value), n - S1.1 ≤ n9 → ck_sl n 0 S1 → ck_lv Nl S1 → RES = ck_lpt (A 95) n U n9 S1 → g 4 [some (.ref 93), x1] [] (ck_pW M A L R S1) sz 0 0 := by
    intro n9
    induction n9 with
    | zero =>
      intro S1 x1 hf hs hl hE
      obtain ⟨a1, b1, k1, o1, c1, C1, N1⟩ := S1
      obtain ⟨ha, hca⟩ := id hs
      rw [ck_lpt, ck_ex] at hE
      dsimp only at hf ha hca hE
      rw [ck_pW_t]
      by_cases hb : b1 = -1
      · subst hb
        rw [if_pos rfl] at hE
        have hz : ck_hcx (A 95) n a1 = 0 := by
          have := ck_sk_le (A 95) ha
          unfold ck_hcx
          rw [if_neg (by omega)]
        exact jn _ _ _ _ _ _ _ ha (by rw [hz]; decide) (by rw [hz]; decide) (by rw [hz]; decide) hE
      · rw [if_neg hb] at hE
        exact jf _ _ _ _ _ _ _ _ hb hE
    | succ n9 ih =>
      intro S1 x1 hf hs hl hE
      obtain ⟨a1, b1, k1, o1, c1, C1, N1⟩ := S1
      obtain ⟨ha, hca⟩ := id hs
      by_cases hb : b1 = -1
      · subst hb
        rw [ck_lpt] at hE
        dsimp only at hf ha hca hE
        by_cases hop : ck_hcx (A 95) n a1 = 42 ∨ ck_hcx (A 95) n a1 = 47 ∨ ck_hcx (A 95) n a1 = 37
        · rw [if_pos ⟨rfl, hop⟩] at hE
          have hnz : ¬ ck_hcx (A 95) n a1 = 0 := fun e => by rw [e] at hop; revert hop; decide
          have zo := fun ww => ck_one_g (T := A 95) (w := ww) hU hs rfl hnz
          have hsa := ck_sk_le (A 95) ha
          have hlt := ck_hcx_lt hnz
          have hs2 : ck_sl n 1 (ck_sk (A 95) n a1 + 1, -1, k1, o1, c1, C1, N1) := ⟨by show ck_sk (A 95) n a1 + 1 ≤ n; omega, fun _ => by have := hca rfl; show c1 + 1 ≤ ck_sk (A 95) n a1 + 1; omega⟩
          have hl2 : ck_lv Nl (ck_sk (A 95) n a1 + 1, -1, k1, o1, c1, C1, N1) := hl
          have g2 := hU _ _ hs2
          have l2 := ck_lv_g g2 hl2
          rw [ck_pW_t]
          dsimp only [ck_one] at hE zo
          generalize hS2 : U (ck_sk (A 95) n a1 + 1, -1, k1, o1, c1, C1, N1) = S2 at hE zo g2 l2
          obtain ⟨a2, b2, k2, o2, c2, C2, N2⟩ := S2
          dsimp only at hE zo
          obtain ⟨⟨s2a, s2b⟩, -⟩ := id g2
          dsimp only at s2a s2b
          rcases hop with hop | hop | hop
          · have zo3 := zo 6
            rw [if_pos hop] at hE
            refine hB bX11_term_4 _ _ _ _ _ _ _ kX11_term_4 ?_
            dsimp only [bX11_term_4, kx_wp, kx_step, kx_lI, kx_lL, kx_lA, kx_gl, kx_pI, kx_pL, kx_pR, kx_pA, kx_pV, kx_s1, kx_s2, kx_sl, kx_pre, kx_c2, kx_pl, kx_cmp, kx_oF, kx_eqN, kx_nil, kx_c1, kx_ft, kx_aI, kx_aL, kx_aR, kx_ln, Nat.reduceAdd, Option.toList, List.cons_append, List.nil_append, mW_o, mf_7]
            repeat (simp only [mu_7, mW_so, ck_p6, ck_p7, ck_p8, ck_p10, ck_p11, ck_p12, ck_p13, ck_p15, h6, nI_1, ck_pu7, ck_pu10, ck_pu11, ck_pu12, ck_pu13, ck_pu15, ck_pa95, ck_pa96, ck_pa97, ck_pa98, ck_pa99, ck_pem, ck_pau96, ck_pau99, va_us, va_upn, ne_eq, Nat.reduceEqDiff, not_false_eq_true, ck_skk, ck_hck, hop]; try dsimp only [kx_wp, kx_step, kx_lI, kx_lL, kx_lA, kx_gl, kx_pI, kx_pL, kx_pR, kx_pA, kx_pV, kx_s1, kx_s2, kx_sl, kx_pre, kx_c2, kx_pl, kx_cmp, kx_oF, kx_eqN, kx_nil, kx_c1, kx_ft, kx_aI, kx_aL, kx_aR, kx_ln, Nat.reduceAdd, Option.toList, List.cons_append, List.nil_append, mW_o, mf_7])
            repeat' apply And.intro
            all_goals try (first | with_reducible assumption | (with_reducible refine ck_nzI ?_; simp; done) | (with_reducible refine ck_nzL ?_; simp; done) | (with_reducible refine vp_in_nI ?_ ?_ <;> first | omega | decide) | (with_reducible refine Nat.le_of_ble_eq_true ?_; rfl) | omega)
            refine hC.1 212 _ _ _ _ _ _ _ 11 _ _ _ _ _ _ _ _ _ _ _ _ lX11_212 (ct_X11_fine l G) ⟨by decide, rfl⟩ (mW_o) rfl rfl (Nat.le_of_ble_eq_true rfl) (by omega) (by decide) (by omega) (by omega) dX11_term_5 ?_
            rw [ck_p8, if_pos rfl]
            refine hB bX11_term_8 _ _ _ _ _ _ _ kX11_term_8 ?_
            dsimp only [bX11_term_8, kx_wp, kx_step, kx_lI, kx_lL, kx_lA, kx_gl, kx_pI, kx_pL, kx_pR, kx_pA, kx_pV, kx_s1, kx_s2, kx_sl, kx_pre, kx_c2, kx_pl, kx_cmp, kx_oF, kx_eqN, kx_nil, kx_c1, kx_ft, kx_aI, kx_aL, kx_aR, kx_ln, Nat.reduceAdd, Option.toList, List.cons_append, List.nil_append, mW_o, mf_7]
            repeat (simp only [mu_7, mW_so, ck_p6, ck_p7, ck_p8, ck_p10, ck_p11, ck_p12, ck_p13, ck_p15, h6, nI_1, ck_pu7, ck_pu10, ck_pu11, ck_pu12, ck_pu13, ck_pu15, ck_pa95, ck_pa96, ck_pa97, ck_pa98, ck_pa99, ck_pem, ck_pau96, ck_pau99, va_us, va_upn, ne_eq, Nat.reduceEqDiff, not_false_eq_true, ck_skk, ck_hck, hop]; try dsimp only [kx_wp, kx_step, kx_lI, kx_lL, kx_lA, kx_gl, kx_pI, kx_pL, kx_pR, kx_pA, kx_pV, kx_s1, kx_s2, kx_sl, kx_pre, kx_c2, kx_pl, kx_cmp, kx_oF, kx_eqN, kx_nil, kx_c1, kx_ft, kx_aI, kx_aL, kx_aR, kx_ln, Nat.reduceAdd, Option.toList, List.cons_append, List.nil_append, mW_o, mf_7])
            repeat' apply And.intro
            all_goals try (first | with_reducible assumption | (with_reducible refine ck_nzI ?_; simp; done) | (with_reducible refine ck_nzL ?_; simp; done) | (with_reducible refine vp_in_nI ?_ ?_ <;> first | omega | decide) | (with_reducible refine Nat.le_of_ble_eq_true ?_; rfl) | omega)
            · intro zc8
              first | exact absurd rfl zc8 | exact absurd zc8 (by decide) | exact absurd (by decide) zc8 | (exfalso; first | exact zc8 rfl | exact absurd zc8 (by decide) | exact zc17 rfl | exact absurd zc17 (by decide) | exact zc17 (by decide) | exact zc26 rfl | exact absurd zc26 (by decide) | exact zc26 (by decide) | exact zc35 rfl | exact absurd zc35 (by decide) | exact zc35 (by decide) | exact zc68 rfl | exact absurd zc68 (by decide) | exact zc68 (by decide) | exact zc79 rfl | exact absurd zc79 (by decide) | exact zc79 (by decide) | exact zc61 rfl | exact absurd zc61 (by decide)) | (exfalso; simp_all; done)
            · intro zc8
              have ze8 := zc8
              refine hB bX11_term_11 _ _ _ _ _ _ _ kX11_term_11 ?_
              dsimp only [bX11_term_11, kx_wp, kx_step, kx_lI, kx_lL, kx_lA, kx_gl, kx_pI, kx_pL, kx_pR, kx_pA, kx_pV, kx_s1, kx_s2, kx_sl, kx_pre, kx_c2, kx_pl, kx_cmp, kx_oF, kx_eqN, kx_nil, kx_c1, kx_ft, kx_aI, kx_aL, kx_aR, kx_ln, Nat.reduceAdd, Option.toList, List.cons_append, List.nil_append, mW_o, mf_7]
              repeat (simp only [mu_7, mW_so, ck_p6, ck_p7, ck_p8, ck_p10, ck_p11, ck_p12, ck_p13, ck_p15, h6, nI_1, ck_pu7, ck_pu10, ck_pu11, ck_pu12, ck_pu13, ck_pu15, ck_pa95, ck_pa96, ck_pa97, ck_pa98, ck_pa99, ck_pem, ck_pau96, ck_pau99, va_us, va_upn, ne_eq, Nat.reduceEqDiff, not_false_eq_true, ck_skk, ck_hck, hop]; try dsimp only [kx_wp, kx_step, kx_lI, kx_lL, kx_lA, kx_gl, kx_pI, kx_pL, kx_pR, kx_pA, kx_pV, kx_s1, kx_s2, kx_sl, kx_pre, kx_c2, kx_pl, kx_cmp, kx_oF, kx_eqN, kx_nil, kx_c1, kx_ft, kx_aI, kx_aL, kx_aR, kx_ln, Nat.reduceAdd, Option.toList, List.cons_append, List.nil_append, mW_o, mf_7])
              repeat' apply And.intro
              all_goals try (first | with_reducible assumption | (with_reducible refine ck_nzI ?_; simp; done) | (with_reducible refine ck_nzL ?_; simp; done) | (with_reducible refine vp_in_nI ?_ ?_ <;> first | omega | decide) | (with_reducible refine Nat.le_of_ble_eq_true ?_; rfl) | omega)
              refine hC.1 204 _ _ _ _ _ _ _ 11 _ _ _ _ _ _ _ _ _ _ _ _ lX11_204 (ct_X11_here l G h6 hn ha) ⟨by decide, rfl⟩ (mW_o) rfl rfl (Nat.le_of_ble_eq_true rfl) (by omega) (by decide) (by omega) (by omega) dX11_term_12 ?_
              refine hB bX11_term_15 _ _ _ _ _ _ _ kX11_term_15 ?_
              dsimp only [bX11_term_15, kx_wp, kx_step, kx_lI, kx_lL, kx_lA, kx_gl, kx_pI, kx_pL, kx_pR, kx_pA, kx_pV, kx_s1, kx_s2, kx_sl, kx_pre, kx_c2, kx_pl, kx_cmp, kx_oF, kx_eqN, kx_nil, kx_c1, kx_ft, kx_aI, kx_aL, kx_aR, kx_ln, Nat.reduceAdd, Option.toList, List.cons_append, List.nil_append, mW_o, mf_7]
              repeat (simp only [mu_7, mW_so, ck_p6, ck_p7, ck_p8, ck_p10, ck_p11, ck_p12, ck_p13, ck_p15, h6, nI_1, ck_pu7, ck_pu10, ck_pu11, ck_pu12, ck_pu13, ck_pu15, ck_pa95, ck_pa96, ck_pa97, ck_pa98, ck_pa99, ck_pem, ck_pau96, ck_pau99, va_us, va_upn, ne_eq, Nat.reduceEqDiff, not_false_eq_true, ck_skk, ck_hck, hop]; try dsimp only [kx_wp, kx_step, kx_lI, kx_lL, kx_lA, kx_gl, kx_pI, kx_pL, kx_pR, kx_pA, kx_pV, kx_s1, kx_s2, kx_sl, kx_pre, kx_c2, kx_pl, kx_cmp, kx_oF, kx_eqN, kx_nil, kx_c1, kx_ft, kx_aI, kx_aL, kx_aR, kx_ln, Nat.reduceAdd, Option.toList, List.cons_append, List.nil_append, mW_o, mf_7])
              repeat' apply And.intro
              all_goals try (first | with_reducible assumption | (with_reducible refine ck_nzI ?_; simp; done) | (with_reducible refine ck_nzL ?_; simp; done) | (with_reducible refine vp_in_nI ?_ ?_ <;> first | omega | decide) | (with_reducible refine Nat.le_of_ble_eq_true ?_; rfl) | omega)
              · intro zc17
                have ze17 := zc17
                refine hB bX11_term_38 _ _ _ _ _ _ _ kX11_term_38 ?_
                dsimp only [bX11_term_38, kx_wp, kx_step, kx_lI, kx_lL, kx_lA, kx_gl, kx_pI, kx_pL, kx_pR, kx_pA, kx_pV, kx_s1, kx_s2, kx_sl, kx_pre, kx_c2, kx_pl, kx_cmp, kx_oF, kx_eqN, kx_nil, kx_c1, kx_ft, kx_aI, kx_aL, kx_aR, kx_ln, Nat.reduceAdd, Option.toList, List.cons_append, List.nil_append, mW_o, mf_7]
                repeat (simp only [mu_7, mW_so, ck_p6, ck_p7, ck_p8, ck_p10, ck_p11, ck_p12, ck_p13, ck_p15, h6, nI_1, ck_pu7, ck_pu10, ck_pu11, ck_pu12, ck_pu13, ck_pu15, ck_pa95, ck_pa96, ck_pa97, ck_pa98, ck_pa99, ck_pem, ck_pau96, ck_pau99, va_us, va_upn, ne_eq, Nat.reduceEqDiff, not_false_eq_true, ck_skk, ck_hck, hop]; try dsimp only [kx_wp, kx_step, kx_lI, kx_lL, kx_lA, kx_gl, kx_pI, kx_pL, kx_pR, kx_pA, kx_pV, kx_s1, kx_s2, kx_sl, kx_pre, kx_c2, kx_pl, kx_cmp, kx_oF, kx_eqN, kx_nil, kx_c1, kx_ft, kx_aI, kx_aL, kx_aR, kx_ln, Nat.reduceAdd, Option.toList, List.cons_append, List.nil_append, mW_o, mf_7])
                repeat' apply And.intro
                all_goals try (first | with_reducible assumption | (with_reducible refine ck_nzI ?_; simp; done) | (with_reducible refine ck_nzL ?_; simp; done) | (with_reducible refine vp_in_nI ?_ ?_ <;> first | omega | decide) | (with_reducible refine Nat.le_of_ble_eq_true ?_; rfl) | omega)
                refine hC.1 204 _ _ _ _ _ _ _ 11 _ _ _ _ _ _ _ _ _ _ _ _ lX11_204 (ct_X11_here l G h6 hn hsa.2) ⟨by decide, rfl⟩ (mW_o) rfl rfl (Nat.le_of_ble_eq_true rfl) (by omega) (by decide) (by omega) (by omega) dX11_term_39 ?_
                refine hB bX11_term_42 _ _ _ _ _ _ _ kX11_term_42 ?_
                dsimp only [bX11_term_42, kx_wp, kx_step, kx_lI, kx_lL, kx_lA, kx_gl, kx_pI, kx_pL, kx_pR, kx_pA, kx_pV, kx_s1, kx_s2, kx_sl, kx_pre, kx_c2, kx_pl, kx_cmp, kx_oF, kx_eqN, kx_nil, kx_c1, kx_ft, kx_aI, kx_aL, kx_aR, kx_ln, Nat.reduceAdd, Option.toList, List.cons_append, List.nil_append, mW_o, mf_7]
                repeat (simp only [mu_7, mW_so, ck_p6, ck_p7, ck_p8, ck_p10, ck_p11, ck_p12, ck_p13, ck_p15, h6, nI_1, ck_pu7, ck_pu10, ck_pu11, ck_pu12, ck_pu13, ck_pu15, ck_pa95, ck_pa96, ck_pa97, ck_pa98, ck_pa99, ck_pem, ck_pau96, ck_pau99, va_us, va_upn, ne_eq, Nat.reduceEqDiff, not_false_eq_true, ck_skk, ck_hck, hop]; try dsimp only [kx_wp, kx_step, kx_lI, kx_lL, kx_lA, kx_gl, kx_pI, kx_pL, kx_pR, kx_pA, kx_pV, kx_s1, kx_s2, kx_sl, kx_pre, kx_c2, kx_pl, kx_cmp, kx_oF, kx_eqN, kx_nil, kx_c1, kx_ft, kx_aI, kx_aL, kx_aR, kx_ln, Nat.reduceAdd, Option.toList, List.cons_append, List.nil_append, mW_o, mf_7])
                repeat' apply And.intro
                all_goals try (first | with_reducible assumption | (with_reducible refine ck_nzI ?_; simp; done) | (with_reducible refine ck_nzL ?_; simp; done) | (with_reducible refine vp_in_nI ?_ ?_ <;> first | omega | decide) | (with_reducible refine Nat.le_of_ble_eq_true ?_; rfl) | omega)
                refine hC.1 268 _ _ _ _ _ _ _ 11 _ _ _ _ _ _ _ _ _ _ _ _ lX11_268 (hUc (ck_sk (A 95) n a1 + 1, -1, k1, o1, c1, C1, N1) (ck_sl_0 hs2) hl2) ⟨by decide, rfl⟩ (mW_o) rfl rfl (Nat.le_of_ble_eq_true rfl) (by omega) (by decide) (by omega) (by omega) dX11_term_54 ?_
                rw [hS2, ck_pW_t]
                refine hB bX11_term_57 _ _ _ _ _ _ _ kX11_term_57 ?_
                dsimp only [bX11_term_57, kx_wp, kx_step, kx_lI, kx_lL, kx_lA, kx_gl, kx_pI, kx_pL, kx_pR, kx_pA, kx_pV, kx_s1, kx_s2, kx_sl, kx_pre, kx_c2, kx_pl, kx_cmp, kx_oF, kx_eqN, kx_nil, kx_c1, kx_ft, kx_aI, kx_aL, kx_aR, kx_ln, Nat.reduceAdd, Option.toList, List.cons_append, List.nil_append, mW_o, mf_7]
                repeat (simp only [mu_7, mW_so, ck_p6, ck_p7, ck_p8, ck_p10, ck_p11, ck_p12, ck_p13, ck_p15, h6, nI_1, ck_pu7, ck_pu10, ck_pu11, ck_pu12, ck_pu13, ck_pu15, ck_pa95, ck_pa96, ck_pa97, ck_pa98, ck_pa99, ck_pem, ck_pau96, ck_pau99, va_us, va_upn, ne_eq, Nat.reduceEqDiff, not_false_eq_true, ck_skk, ck_hck, hop]; try dsimp only [kx_wp, kx_step, kx_lI, kx_lL, kx_lA, kx_gl, kx_pI, kx_pL, kx_pR, kx_pA, kx_pV, kx_s1, kx_s2, kx_sl, kx_pre, kx_c2, kx_pl, kx_cmp, kx_oF, kx_eqN, kx_nil, kx_c1, kx_ft, kx_aI, kx_aL, kx_aR, kx_ln, Nat.reduceAdd, Option.toList, List.cons_append, List.nil_append, mW_o, mf_7])
                repeat' apply And.intro
                all_goals try (first | with_reducible assumption | (with_reducible refine ck_nzI ?_; simp; done) | (with_reducible refine ck_nzL ?_; simp; done) | (with_reducible refine vp_in_nI ?_ ?_ <;> first | omega | decide) | (with_reducible refine Nat.le_of_ble_eq_true ?_; rfl) | omega)
                refine hC.1 212 _ _ _ _ _ _ _ 11 _ _ _ _ _ _ _ _ _ _ _ _ lX11_212 (ct_X11_fine l G) ⟨by decide, rfl⟩ (mW_o) rfl rfl (Nat.le_of_ble_eq_true rfl) (by omega) (by decide) (by omega) (by omega) dX11_term_58 ?_
                rw [ck_p8]
                by_cases hb2 : b2 = -1
                · subst hb2
                  rw [if_pos rfl] at zo3 hE ⊢
                  have s2c := s2b rfl
                  refine hB bX11_term_61 _ _ _ _ _ _ _ kX11_term_61 ?_
                  dsimp only [bX11_term_61, kx_wp, kx_step, kx_lI, kx_lL, kx_lA, kx_gl, kx_pI, kx_pL, kx_pR, kx_pA, kx_pV, kx_s1, kx_s2, kx_sl, kx_pre, kx_c2, kx_pl, kx_cmp, kx_oF, kx_eqN, kx_nil, kx_c1, kx_ft, kx_aI, kx_aL, kx_aR, kx_ln, Nat.reduceAdd, Option.toList, List.cons_append, List.nil_append, mW_o, mf_7]
                  repeat (simp only [mu_7, mW_so, ck_p6, ck_p7, ck_p8, ck_p10, ck_p11, ck_p12, ck_p13, ck_p15, h6, nI_1, ck_pu7, ck_pu10, ck_pu11, ck_pu12, ck_pu13, ck_pu15, ck_pa95, ck_pa96, ck_pa97, ck_pa98, ck_pa99, ck_pem, ck_pau96, ck_pau99, va_us, va_upn, ne_eq, Nat.reduceEqDiff, not_false_eq_true, ck_skk, ck_hck, hop]; try dsimp only [kx_wp, kx_step, kx_lI, kx_lL, kx_lA, kx_gl, kx_pI, kx_pL, kx_pR, kx_pA, kx_pV, kx_s1, kx_s2, kx_sl, kx_pre, kx_c2, kx_pl, kx_cmp, kx_oF, kx_eqN, kx_nil, kx_c1, kx_ft, kx_aI, kx_aL, kx_aR, kx_ln, Nat.reduceAdd, Option.toList, List.cons_append, List.nil_append, mW_o, mf_7])
                  repeat' apply And.intro
                  all_goals try (first | with_reducible assumption | (with_reducible refine ck_nzI ?_; simp; done) | (with_reducible refine ck_nzL ?_; simp; done) | (with_reducible refine vp_in_nI ?_ ?_ <;> first | omega | decide) | (with_reducible refine Nat.le_of_ble_eq_true ?_; rfl) | omega)
                  · intro zc61
                    first | exact absurd rfl zc61 | exact absurd zc61 (by decide) | exact absurd (by decide) zc61 | (exfalso; first | exact zc8 rfl | exact absurd zc8 (by decide) | exact zc17 rfl | exact absurd zc17 (by decide) | exact zc17 (by decide) | exact zc26 rfl | exact absurd zc26 (by decide) | exact zc26 (by decide) | exact zc35 rfl | exact absurd zc35 (by decide) | exact zc35 (by decide) | exact zc68 rfl | exact absurd zc68 (by decide) | exact zc68 (by decide) | exact zc79 rfl | exact absurd zc79 (by decide) | exact zc79 (by decide) | exact zc61 rfl | exact absurd zc61 (by decide)) | (exfalso; simp_all; done)
                  · intro zc61
                    have ze61 := zc61
                    refine hB bX11_term_64 _ _ _ _ _ _ _ kX11_term_64 ?_
                    dsimp only [bX11_term_64, kx_wp, kx_step, kx_lI, kx_lL, kx_lA, kx_gl, kx_pI, kx_pL, kx_pR, kx_pA, kx_pV, kx_s1, kx_s2, kx_sl, kx_pre, kx_c2, kx_pl, kx_cmp, kx_oF, kx_eqN, kx_nil, kx_c1, kx_ft, kx_aI, kx_aL, kx_aR, kx_ln, Nat.reduceAdd, Option.toList, List.cons_append, List.nil_append, mW_o, mf_7]
                    repeat (simp only [mu_7, mW_so, ck_p6, ck_p7, ck_p8, ck_p10, ck_p11, ck_p12, ck_p13, ck_p15, h6, nI_1, ck_pu7, ck_pu10, ck_pu11, ck_pu12, ck_pu13, ck_pu15, ck_pa95, ck_pa96, ck_pa97, ck_pa98, ck_pa99, ck_pem, ck_pau96, ck_pau99, va_us, va_upn, ne_eq, Nat.reduceEqDiff, not_false_eq_true, ck_skk, ck_hck, hop]; try dsimp only [kx_wp, kx_step, kx_lI, kx_lL, kx_lA, kx_gl, kx_pI, kx_pL, kx_pR, kx_pA, kx_pV, kx_s1, kx_s2, kx_sl, kx_pre, kx_c2, kx_pl, kx_cmp, kx_oF, kx_eqN, kx_nil, kx_c1, kx_ft, kx_aI, kx_aL, kx_aR, kx_ln, Nat.reduceAdd, Option.toList, List.cons_append, List.nil_append, mW_o, mf_7])
                    repeat' apply And.intro
                    all_goals try (first | with_reducible assumption | (with_reducible refine ck_nzI ?_; simp; done) | (with_reducible refine ck_nzL ?_; simp; done) | (with_reducible refine vp_in_nI ?_ ?_ <;> first | omega | decide) | (with_reducible refine Nat.le_of_ble_eq_true ?_; rfl) | omega)
                    · intro zc68
                      first | exact absurd rfl zc68 | exact absurd zc68 (by decide) | exact absurd (by decide) zc68 | (exfalso; first | exact zc8 rfl | exact absurd zc8 (by decide) | exact zc17 rfl | exact absurd zc17 (by decide) | exact zc17 (by decide) | exact zc26 rfl | exact absurd zc26 (by decide) | exact zc26 (by decide) | exact zc35 rfl | exact absurd zc35 (by decide) | exact zc35 (by decide) | exact zc68 rfl | exact absurd zc68 (by decide) | exact zc68 (by decide) | exact zc79 rfl | exact absurd zc79 (by decide) | exact zc79 (by decide) | exact zc61 rfl | exact absurd zc61 (by decide)) | (exfalso; simp_all; done)
                    · intro zc68
                      with_reducible first | have ze68 := Decidable.not_not.mp zc68 | have ze68 := zc68
                      refine hB bX11_term_71 _ _ _ _ _ _ _ kX11_term_71 ?_
                      dsimp only [bX11_term_71, kx_wp, kx_step, kx_lI, kx_lL, kx_lA, kx_gl, kx_pI, kx_pL, kx_pR, kx_pA, kx_pV, kx_s1, kx_s2, kx_sl, kx_pre, kx_c2, kx_pl, kx_cmp, kx_oF, kx_eqN, kx_nil, kx_c1, kx_ft, kx_aI, kx_aL, kx_aR, kx_ln, Nat.reduceAdd, Option.toList, List.cons_append, List.nil_append, mW_o, mf_7]
                      repeat (simp only [mu_7, mW_so, ck_p6, ck_p7, ck_p8, ck_p10, ck_p11, ck_p12, ck_p13, ck_p15, h6, nI_1, ck_pu7, ck_pu10, ck_pu11, ck_pu12, ck_pu13, ck_pu15, ck_pa95, ck_pa96, ck_pa97, ck_pa98, ck_pa99, ck_pem, ck_pau96, ck_pau99, va_us, va_upn, ne_eq, Nat.reduceEqDiff, not_false_eq_true, ck_skk, ck_hck, hop]; try dsimp only [kx_wp, kx_step, kx_lI, kx_lL, kx_lA, kx_gl, kx_pI, kx_pL, kx_pR, kx_pA, kx_pV, kx_s1, kx_s2, kx_sl, kx_pre, kx_c2, kx_pl, kx_cmp, kx_oF, kx_eqN, kx_nil, kx_c1, kx_ft, kx_aI, kx_aL, kx_aR, kx_ln, Nat.reduceAdd, Option.toList, List.cons_append, List.nil_append, mW_o, mf_7])
                      repeat' apply And.intro
                      all_goals try (first | with_reducible assumption | (with_reducible refine ck_nzI ?_; simp; done) | (with_reducible refine ck_nzL ?_; simp; done) | (with_reducible refine vp_in_nI ?_ ?_ <;> first | omega | decide) | (with_reducible refine Nat.le_of_ble_eq_true ?_; rfl) | omega)
                      refine hB bX11_term_89 _ _ _ _ _ _ _ kX11_term_89 ?_
                      dsimp only [bX11_term_89, kx_wp, kx_step, kx_lI, kx_lL, kx_lA, kx_gl, kx_pI, kx_pL, kx_pR, kx_pA, kx_pV, kx_s1, kx_s2, kx_sl, kx_pre, kx_c2, kx_pl, kx_cmp, kx_oF, kx_eqN, kx_nil, kx_c1, kx_ft, kx_aI, kx_aL, kx_aR, kx_ln, Nat.reduceAdd, Option.toList, List.cons_append, List.nil_append, mW_o, mf_7]
                      repeat (simp only [mu_7, mW_so, ck_p6, ck_p7, ck_p8, ck_p10, ck_p11, ck_p12, ck_p13, ck_p15, h6, nI_1, ck_pu7, ck_pu10, ck_pu11, ck_pu12, ck_pu13, ck_pu15, ck_pa95, ck_pa96, ck_pa97, ck_pa98, ck_pa99, ck_pem, ck_pau96, ck_pau99, va_us, va_upn, ne_eq, Nat.reduceEqDiff, not_false_eq_true, ck_skk, ck_hck, hop]; try dsimp only [kx_wp, kx_step, kx_lI, kx_lL, kx_lA, kx_gl, kx_pI, kx_pL, kx_pR, kx_pA, kx_pV, kx_s1, kx_s2, kx_sl, kx_pre, kx_c2, kx_pl, kx_cmp, kx_oF, kx_eqN, kx_nil, kx_c1, kx_ft, kx_aI, kx_aL, kx_aR, kx_ln, Nat.reduceAdd, Option.toList, List.cons_append, List.nil_append, mW_o, mf_7])
                      repeat' apply And.intro
                      all_goals try (first | with_reducible assumption | (with_reducible refine ck_nzI ?_; simp; done) | (with_reducible refine ck_nzL ?_; simp; done) | (with_reducible refine vp_in_nI ?_ ?_ <;> first | omega | decide) | (with_reducible refine Nat.le_of_ble_eq_true ?_; rfl) | omega)
                      refine hC.1 238 _ _ _ _ _ _ _ 11 _ _ _ _ _ _ _ _ _ _ _ _ lX11_238 (ct_X11_emit l G (k := c2) (M := ck_pM M a2 (-1) k2 o2 c2) (A := ck_pA A C2 N2) rfl (by omega)) ⟨by decide, rfl⟩ (mW_o) rfl rfl (Nat.le_of_ble_eq_true rfl) (by omega) (by decide) (by omega) (by omega) dX11_term_90 ?_
                      refine hB bX11_term_93 _ _ _ _ _ _ _ kX11_term_93 ?_
                      dsimp only [bX11_term_93, kx_wp, kx_step, kx_lI, kx_lL, kx_lA, kx_gl, kx_pI, kx_pL, kx_pR, kx_pA, kx_pV, kx_s1, kx_s2, kx_sl, kx_pre, kx_c2, kx_pl, kx_cmp, kx_oF, kx_eqN, kx_nil, kx_c1, kx_ft, kx_aI, kx_aL, kx_aR, kx_ln, Nat.reduceAdd, Option.toList, List.cons_append, List.nil_append, mW_o, mf_7]
                      repeat (simp only [mu_7, mW_so, ck_p6, ck_p7, ck_p8, ck_p10, ck_p11, ck_p12, ck_p13, ck_p15, h6, nI_1, ck_pu7, ck_pu10, ck_pu11, ck_pu12, ck_pu13, ck_pu15, ck_pa95, ck_pa96, ck_pa97, ck_pa98, ck_pa99, ck_pem, ck_pau96, ck_pau99, va_us, va_upn, ne_eq, Nat.reduceEqDiff, not_false_eq_true, ck_skk, ck_hck, hop]; try dsimp only [kx_wp, kx_step, kx_lI, kx_lL, kx_lA, kx_gl, kx_pI, kx_pL, kx_pR, kx_pA, kx_pV, kx_s1, kx_s2, kx_sl, kx_pre, kx_c2, kx_pl, kx_cmp, kx_oF, kx_eqN, kx_nil, kx_c1, kx_ft, kx_aI, kx_aL, kx_aR, kx_ln, Nat.reduceAdd, Option.toList, List.cons_append, List.nil_append, mW_o, mf_7])
                      repeat' apply And.intro
                      all_goals try (first | with_reducible assumption | (with_reducible refine ck_nzI ?_; simp; done) | (with_reducible refine ck_nzL ?_; simp; done) | (with_reducible refine vp_in_nI ?_ ?_ <;> first | omega | decide) | (with_reducible refine Nat.le_of_ble_eq_true ?_; rfl) | omega)
                      all_goals exact ih (ck_emR 6 0 (a2, -1, k2, o2, c2, C2, N2)) _ (by have := zo3.2; omega) zo3.1.1 (ck_lv_g zo3.1 hl) hE
                · rw [if_neg hb2] at zo3 hE ⊢
                  refine hB bX11_term_61 _ _ _ _ _ _ _ kX11_term_61 ?_
                  dsimp only [bX11_term_61, kx_wp, kx_step, kx_lI, kx_lL, kx_lA, kx_gl, kx_pI, kx_pL, kx_pR, kx_pA, kx_pV, kx_s1, kx_s2, kx_sl, kx_pre, kx_c2, kx_pl, kx_cmp, kx_oF, kx_eqN, kx_nil, kx_c1, kx_ft, kx_aI, kx_aL, kx_aR, kx_ln, Nat.reduceAdd, Option.toList, List.cons_append, List.nil_append, mW_o, mf_7]
                  repeat (simp only [mu_7, mW_so, ck_p6, ck_p7, ck_p8, ck_p10, ck_p11, ck_p12, ck_p13, ck_p15, h6, nI_1, ck_pu7, ck_pu10, ck_pu11, ck_pu12, ck_pu13, ck_pu15, ck_pa95, ck_pa96, ck_pa97, ck_pa98, ck_pa99, ck_pem, ck_pau96, ck_pau99, va_us, va_upn, ne_eq, Nat.reduceEqDiff, not_false_eq_true, ck_skk, ck_hck, hop]; try dsimp only [kx_wp, kx_step, kx_lI, kx_lL, kx_lA, kx_gl, kx_pI, kx_pL, kx_pR, kx_pA, kx_pV, kx_s1, kx_s2, kx_sl, kx_pre, kx_c2, kx_pl, kx_cmp, kx_oF, kx_eqN, kx_nil, kx_c1, kx_ft, kx_aI, kx_aL, kx_aR, kx_ln, Nat.reduceAdd, Option.toList, List.cons_append, List.nil_append, mW_o, mf_7])
                  repeat' apply And.intro
                  all_goals try (first | with_reducible assumption | (with_reducible refine ck_nzI ?_; simp; done) | (with_reducible refine ck_nzL ?_; simp; done) | (with_reducible refine vp_in_nI ?_ ?_ <;> first | omega | decide) | (with_reducible refine Nat.le_of_ble_eq_true ?_; rfl) | omega)
                  · intro zc61
                    have ze61 := zc61
                    refine hB bX11_term_93 _ _ _ _ _ _ _ kX11_term_93 ?_
                    dsimp only [bX11_term_93, kx_wp, kx_step, kx_lI, kx_lL, kx_lA, kx_gl, kx_pI, kx_pL, kx_pR, kx_pA, kx_pV, kx_s1, kx_s2, kx_sl, kx_pre, kx_c2, kx_pl, kx_cmp, kx_oF, kx_eqN, kx_nil, kx_c1, kx_ft, kx_aI, kx_aL, kx_aR, kx_ln, Nat.reduceAdd, Option.toList, List.cons_append, List.nil_append, mW_o, mf_7]
                    repeat (simp only [mu_7, mW_so, ck_p6, ck_p7, ck_p8, ck_p10, ck_p11, ck_p12, ck_p13, ck_p15, h6, nI_1, ck_pu7, ck_pu10, ck_pu11, ck_pu12, ck_pu13, ck_pu15, ck_pa95, ck_pa96, ck_pa97, ck_pa98, ck_pa99, ck_pem, ck_pau96, ck_pau99, va_us, va_upn, ne_eq, Nat.reduceEqDiff, not_false_eq_true, ck_skk, ck_hck, hop]; try dsimp only [kx_wp, kx_step, kx_lI, kx_lL, kx_lA, kx_gl, kx_pI, kx_pL, kx_pR, kx_pA, kx_pV, kx_s1, kx_s2, kx_sl, kx_pre, kx_c2, kx_pl, kx_cmp, kx_oF, kx_eqN, kx_nil, kx_c1, kx_ft, kx_aI, kx_aL, kx_aR, kx_ln, Nat.reduceAdd, Option.toList, List.cons_append, List.nil_append, mW_o, mf_7])
                    repeat' apply And.intro
                    all_goals try (first | with_reducible assumption | (with_reducible refine ck_nzI ?_; simp; done) | (with_reducible refine ck_nzL ?_; simp; done) | (with_reducible refine vp_in_nI ?_ ?_ <;> first | omega | decide) | (with_reducible refine Nat.le_of_ble_eq_true ?_; rfl) | omega)
                    all_goals exact ih (a2, b2, k2, o2, c2, C2, N2) _ (by have := zo3.2; dsimp only at this ⊢; omega) zo3.1.1 (ck_lv_g zo3.1 hl) hE
                  · intro zc61
                    first | exact absurd rfl zc61 | exact absurd zc61 (by decide) | exact absurd (by decide) zc61 | (exfalso; first | exact zc8 rfl | exact absurd zc8 (by decide) | exact zc17 rfl | exact absurd zc17 (by decide) | exact zc17 (by decide) | exact zc26 rfl | exact absurd zc26 (by decide) | exact zc26 (by decide) | exact zc35 rfl | exact absurd zc35 (by decide) | exact zc35 (by decide) | exact zc68 rfl | exact absurd zc68 (by decide) | exact zc68 (by decide) | exact zc79 rfl | exact absurd zc79 (by decide) | exact zc79 (by decide) | exact zc61 rfl | exact absurd zc61 (by decide)) | (exfalso; simp_all; done)
              · intro zc17
                first | exact absurd rfl zc17 | exact absurd zc17 (by decide) | exact absurd (by decide) zc17 | (exfalso; first | exact zc8 rfl | exact absurd zc8 (by decide) | exact zc17 rfl | exact absurd zc17 (by decide) | exact zc17 (by decide) | exact zc26 rfl | exact absurd zc26 (by decide) | exact zc26 (by decide) | exact zc35 rfl | exact absurd zc35 (by decide) | exact zc35 (by decide) | exact zc68 rfl | exact absurd zc68 (by decide) | exact zc68 (by decide) | exact zc79 rfl | exact absurd zc79 (by decide) | exact zc79 (by decide) | exact zc61 rfl | exact absurd zc61 (by decide)) | (exfalso; simp_all; done)
          · have zo3 := zo 7
            rw [if_neg (show ¬ ck_hcx (A 95) n a1 = 42 by rw [hop]; decide)] at hE
            rw [if_pos hop] at hE
            refine hB bX11_term_4 _ _ _ _ _ _ _ kX11_term_4 ?_
            dsimp only [bX11_term_4, kx_wp, kx_step, kx_lI, kx_lL, kx_lA, kx_gl, kx_pI, kx_pL, kx_pR, kx_pA, kx_pV, kx_s1, kx_s2, kx_sl, kx_pre, kx_c2, kx_pl, kx_cmp, kx_oF, kx_eqN, kx_nil, kx_c1, kx_ft, kx_aI, kx_aL, kx_aR, kx_ln, Nat.reduceAdd, Option.toList, List.cons_append, List.nil_append, mW_o, mf_7]
            repeat (simp only [mu_7, mW_so, ck_p6, ck_p7, ck_p8, ck_p10, ck_p11, ck_p12, ck_p13, ck_p15, h6, nI_1, ck_pu7, ck_pu10, ck_pu11, ck_pu12, ck_pu13, ck_pu15, ck_pa95, ck_pa96, ck_pa97, ck_pa98, ck_pa99, ck_pem, ck_pau96, ck_pau99, va_us, va_upn, ne_eq, Nat.reduceEqDiff, not_false_eq_true, ck_skk, ck_hck, hop]; try dsimp only [kx_wp, kx_step, kx_lI, kx_lL, kx_lA, kx_gl, kx_pI, kx_pL, kx_pR, kx_pA, kx_pV, kx_s1, kx_s2, kx_sl, kx_pre, kx_c2, kx_pl, kx_cmp, kx_oF, kx_eqN, kx_nil, kx_c1, kx_ft, kx_aI, kx_aL, kx_aR, kx_ln, Nat.reduceAdd, Option.toList, List.cons_append, List.nil_append, mW_o, mf_7])
            repeat' apply And.intro
            all_goals try (first | with_reducible assumption | (with_reducible refine ck_nzI ?_; simp; done) | (with_reducible refine ck_nzL ?_; simp; done) | (with_reducible refine vp_in_nI ?_ ?_ <;> first | omega | decide) | (with_reducible refine Nat.le_of_ble_eq_true ?_; rfl) | omega)
            refine hC.1 212 _ _ _ _ _ _ _ 11 _ _ _ _ _ _ _ _ _ _ _ _ lX11_212 (ct_X11_fine l G) ⟨by decide, rfl⟩ (mW_o) rfl rfl (Nat.le_of_ble_eq_true rfl) (by omega) (by decide) (by omega) (by omega) dX11_term_5 ?_
            rw [ck_p8, if_pos rfl]
            refine hB bX11_term_8 _ _ _ _ _ _ _ kX11_term_8 ?_
            dsimp only [bX11_term_8, kx_wp, kx_step, kx_lI, kx_lL, kx_lA, kx_gl, kx_pI, kx_pL, kx_pR, kx_pA, kx_pV, kx_s1, kx_s2, kx_sl, kx_pre, kx_c2, kx_pl, kx_cmp, kx_oF, kx_eqN, kx_nil, kx_c1, kx_ft, kx_aI, kx_aL, kx_aR, kx_ln, Nat.reduceAdd, Option.toList, List.cons_append, List.nil_append, mW_o, mf_7]
            repeat (simp only [mu_7, mW_so, ck_p6, ck_p7, ck_p8, ck_p10, ck_p11, ck_p12, ck_p13, ck_p15, h6, nI_1, ck_pu7, ck_pu10, ck_pu11, ck_pu12, ck_pu13, ck_pu15, ck_pa95, ck_pa96, ck_pa97, ck_pa98, ck_pa99, ck_pem, ck_pau96, ck_pau99, va_us, va_upn, ne_eq, Nat.reduceEqDiff, not_false_eq_true, ck_skk, ck_hck, hop]; try dsimp only [kx_wp, kx_step, kx_lI, kx_lL, kx_lA, kx_gl, kx_pI, kx_pL, kx_pR, kx_pA, kx_pV, kx_s1, kx_s2, kx_sl, kx_pre, kx_c2, kx_pl, kx_cmp, kx_oF, kx_eqN, kx_nil, kx_c1, kx_ft, kx_aI, kx_aL, kx_aR, kx_ln, Nat.reduceAdd, Option.toList, List.cons_append, List.nil_append, mW_o, mf_7])
            repeat' apply And.intro
            all_goals try (first | with_reducible assumption | (with_reducible refine ck_nzI ?_; simp; done) | (with_reducible refine ck_nzL ?_; simp; done) | (with_reducible refine vp_in_nI ?_ ?_ <;> first | omega | decide) | (with_reducible refine Nat.le_of_ble_eq_true ?_; rfl) | omega)
            · intro zc8
              first | exact absurd rfl zc8 | exact absurd zc8 (by decide) | exact absurd (by decide) zc8 | (exfalso; first | exact zc8 rfl | exact absurd zc8 (by decide) | exact zc17 rfl | exact absurd zc17 (by decide) | exact zc17 (by decide) | exact zc26 rfl | exact absurd zc26 (by decide) | exact zc26 (by decide) | exact zc35 rfl | exact absurd zc35 (by decide) | exact zc35 (by decide) | exact zc68 rfl | exact absurd zc68 (by decide) | exact zc68 (by decide) | exact zc79 rfl | exact absurd zc79 (by decide) | exact zc79 (by decide) | exact zc61 rfl | exact absurd zc61 (by decide)) | (exfalso; simp_all; done)
            · intro zc8
              have ze8 := zc8
              refine hB bX11_term_11 _ _ _ _ _ _ _ kX11_term_11 ?_
              dsimp only [bX11_term_11, kx_wp, kx_step, kx_lI, kx_lL, kx_lA, kx_gl, kx_pI, kx_pL, kx_pR, kx_pA, kx_pV, kx_s1, kx_s2, kx_sl, kx_pre, kx_c2, kx_pl, kx_cmp, kx_oF, kx_eqN, kx_nil, kx_c1, kx_ft, kx_aI, kx_aL, kx_aR, kx_ln, Nat.reduceAdd, Option.toList, List.cons_append, List.nil_append, mW_o, mf_7]
              repeat (simp only [mu_7, mW_so, ck_p6, ck_p7, ck_p8, ck_p10, ck_p11, ck_p12, ck_p13, ck_p15, h6, nI_1, ck_pu7, ck_pu10, ck_pu11, ck_pu12, ck_pu13, ck_pu15, ck_pa95, ck_pa96, ck_pa97, ck_pa98, ck_pa99, ck_pem, ck_pau96, ck_pau99, va_us, va_upn, ne_eq, Nat.reduceEqDiff, not_false_eq_true, ck_skk, ck_hck, hop]; try dsimp only [kx_wp, kx_step, kx_lI, kx_lL, kx_lA, kx_gl, kx_pI, kx_pL, kx_pR, kx_pA, kx_pV, kx_s1, kx_s2, kx_sl, kx_pre, kx_c2, kx_pl, kx_cmp, kx_oF, kx_eqN, kx_nil, kx_c1, kx_ft, kx_aI, kx_aL, kx_aR, kx_ln, Nat.reduceAdd, Option.toList, List.cons_append, List.nil_append, mW_o, mf_7])
              repeat' apply And.intro
              all_goals try (first | with_reducible assumption | (with_reducible refine ck_nzI ?_; simp; done) | (with_reducible refine ck_nzL ?_; simp; done) | (with_reducible refine vp_in_nI ?_ ?_ <;> first | omega | decide) | (with_reducible refine Nat.le_of_ble_eq_true ?_; rfl) | omega)
              refine hC.1 204 _ _ _ _ _ _ _ 11 _ _ _ _ _ _ _ _ _ _ _ _ lX11_204 (ct_X11_here l G h6 hn ha) ⟨by decide, rfl⟩ (mW_o) rfl rfl (Nat.le_of_ble_eq_true rfl) (by omega) (by decide) (by omega) (by omega) dX11_term_12 ?_
              refine hB bX11_term_15 _ _ _ _ _ _ _ kX11_term_15 ?_
              dsimp only [bX11_term_15, kx_wp, kx_step, kx_lI, kx_lL, kx_lA, kx_gl, kx_pI, kx_pL, kx_pR, kx_pA, kx_pV, kx_s1, kx_s2, kx_sl, kx_pre, kx_c2, kx_pl, kx_cmp, kx_oF, kx_eqN, kx_nil, kx_c1, kx_ft, kx_aI, kx_aL, kx_aR, kx_ln, Nat.reduceAdd, Option.toList, List.cons_append, List.nil_append, mW_o, mf_7]
              repeat (simp only [mu_7, mW_so, ck_p6, ck_p7, ck_p8, ck_p10, ck_p11, ck_p12, ck_p13, ck_p15, h6, nI_1, ck_pu7, ck_pu10, ck_pu11, ck_pu12, ck_pu13, ck_pu15, ck_pa95, ck_pa96, ck_pa97, ck_pa98, ck_pa99, ck_pem, ck_pau96, ck_pau99, va_us, va_upn, ne_eq, Nat.reduceEqDiff, not_false_eq_true, ck_skk, ck_hck, hop]; try dsimp only [kx_wp, kx_step, kx_lI, kx_lL, kx_lA, kx_gl, kx_pI, kx_pL, kx_pR, kx_pA, kx_pV, kx_s1, kx_s2, kx_sl, kx_pre, kx_c2, kx_pl, kx_cmp, kx_oF, kx_eqN, kx_nil, kx_c1, kx_ft, kx_aI, kx_aL, kx_aR, kx_ln, Nat.reduceAdd, Option.toList, List.cons_append, List.nil_append, mW_o, mf_7])
              repeat' apply And.intro
              all_goals try (first | with_reducible assumption | (with_reducible refine ck_nzI ?_; simp; done) | (with_reducible refine ck_nzL ?_; simp; done) | (with_reducible refine vp_in_nI ?_ ?_ <;> first | omega | decide) | (with_reducible refine Nat.le_of_ble_eq_true ?_; rfl) | omega)
              · intro zc17
                first | exact absurd rfl zc17 | exact absurd zc17 (by decide) | exact absurd (by decide) zc17 | (exfalso; first | exact zc8 rfl | exact absurd zc8 (by decide) | exact zc17 rfl | exact absurd zc17 (by decide) | exact zc17 (by decide) | exact zc26 rfl | exact absurd zc26 (by decide) | exact zc26 (by decide) | exact zc35 rfl | exact absurd zc35 (by decide) | exact zc35 (by decide) | exact zc68 rfl | exact absurd zc68 (by decide) | exact zc68 (by decide) | exact zc79 rfl | exact absurd zc79 (by decide) | exact zc79 (by decide) | exact zc61 rfl | exact absurd zc61 (by decide)) | (exfalso; simp_all; done)
              · intro zc17
                have ze17 := zc17
                refine hB bX11_term_20 _ _ _ _ _ _ _ kX11_term_20 ?_
                dsimp only [bX11_term_20, kx_wp, kx_step, kx_lI, kx_lL, kx_lA, kx_gl, kx_pI, kx_pL, kx_pR, kx_pA, kx_pV, kx_s1, kx_s2, kx_sl, kx_pre, kx_c2, kx_pl, kx_cmp, kx_oF, kx_eqN, kx_nil, kx_c1, kx_ft, kx_aI, kx_aL, kx_aR, kx_ln, Nat.reduceAdd, Option.toList, List.cons_append, List.nil_append, mW_o, mf_7]
                repeat (simp only [mu_7, mW_so, ck_p6, ck_p7, ck_p8, ck_p10, ck_p11, ck_p12, ck_p13, ck_p15, h6, nI_1, ck_pu7, ck_pu10, ck_pu11, ck_pu12, ck_pu13, ck_pu15, ck_pa95, ck_pa96, ck_pa97, ck_pa98, ck_pa99, ck_pem, ck_pau96, ck_pau99, va_us, va_upn, ne_eq, Nat.reduceEqDiff, not_false_eq_true, ck_skk, ck_hck, hop]; try dsimp only [kx_wp, kx_step, kx_lI, kx_lL, kx_lA, kx_gl, kx_pI, kx_pL, kx_pR, kx_pA, kx_pV, kx_s1, kx_s2, kx_sl, kx_pre, kx_c2, kx_pl, kx_cmp, kx_oF, kx_eqN, kx_nil, kx_c1, kx_ft, kx_aI, kx_aL, kx_aR, kx_ln, Nat.reduceAdd, Option.toList, List.cons_append, List.nil_append, mW_o, mf_7])
                repeat' apply And.intro
                all_goals try (first | with_reducible assumption | (with_reducible refine ck_nzI ?_; simp; done) | (with_reducible refine ck_nzL ?_; simp; done) | (with_reducible refine vp_in_nI ?_ ?_ <;> first | omega | decide) | (with_reducible refine Nat.le_of_ble_eq_true ?_; rfl) | omega)
                refine hC.1 204 _ _ _ _ _ _ _ 11 _ _ _ _ _ _ _ _ _ _ _ _ lX11_204 (ct_X11_here l G h6 hn hsa.2) ⟨by decide, rfl⟩ (mW_o) rfl rfl (Nat.le_of_ble_eq_true rfl) (by omega) (by decide) (by omega) (by omega) dX11_term_21 ?_
                refine hB bX11_term_24 _ _ _ _ _ _ _ kX11_term_24 ?_
                dsimp only [bX11_term_24, kx_wp, kx_step, kx_lI, kx_lL, kx_lA, kx_gl, kx_pI, kx_pL, kx_pR, kx_pA, kx_pV, kx_s1, kx_s2, kx_sl, kx_pre, kx_c2, kx_pl, kx_cmp, kx_oF, kx_eqN, kx_nil, kx_c1, kx_ft, kx_aI, kx_aL, kx_aR, kx_ln, Nat.reduceAdd, Option.toList, List.cons_append, List.nil_append, mW_o, mf_7]
                repeat (simp only [mu_7, mW_so, ck_p6, ck_p7, ck_p8, ck_p10, ck_p11, ck_p12, ck_p13, ck_p15, h6, nI_1, ck_pu7, ck_pu10, ck_pu11, ck_pu12, ck_pu13, ck_pu15, ck_pa95, ck_pa96, ck_pa97, ck_pa98, ck_pa99, ck_pem, ck_pau96, ck_pau99, va_us, va_upn, ne_eq, Nat.reduceEqDiff, not_false_eq_true, ck_skk, ck_hck, hop]; try dsimp only [kx_wp, kx_step, kx_lI, kx_lL, kx_lA, kx_gl, kx_pI, kx_pL, kx_pR, kx_pA, kx_pV, kx_s1, kx_s2, kx_sl, kx_pre, kx_c2, kx_pl, kx_cmp, kx_oF, kx_eqN, kx_nil, kx_c1, kx_ft, kx_aI, kx_aL, kx_aR, kx_ln, Nat.reduceAdd, Option.toList, List.cons_append, List.nil_append, mW_o, mf_7])
                repeat' apply And.intro
                all_goals try (first | with_reducible assumption | (with_reducible refine ck_nzI ?_; simp; done) | (with_reducible refine ck_nzL ?_; simp; done) | (with_reducible refine vp_in_nI ?_ ?_ <;> first | omega | decide) | (with_reducible refine Nat.le_of_ble_eq_true ?_; rfl) | omega)
                · intro zc26
                  have ze26 := zc26
                  refine hB bX11_term_38 _ _ _ _ _ _ _ kX11_term_38 ?_
                  dsimp only [bX11_term_38, kx_wp, kx_step, kx_lI, kx_lL, kx_lA, kx_gl, kx_pI, kx_pL, kx_pR, kx_pA, kx_pV, kx_s1, kx_s2, kx_sl, kx_pre, kx_c2, kx_pl, kx_cmp, kx_oF, kx_eqN, kx_nil, kx_c1, kx_ft, kx_aI, kx_aL, kx_aR, kx_ln, Nat.reduceAdd, Option.toList, List.cons_append, List.nil_append, mW_o, mf_7]
                  repeat (simp only [mu_7, mW_so, ck_p6, ck_p7, ck_p8, ck_p10, ck_p11, ck_p12, ck_p13, ck_p15, h6, nI_1, ck_pu7, ck_pu10, ck_pu11, ck_pu12, ck_pu13, ck_pu15, ck_pa95, ck_pa96, ck_pa97, ck_pa98, ck_pa99, ck_pem, ck_pau96, ck_pau99, va_us, va_upn, ne_eq, Nat.reduceEqDiff, not_false_eq_true, ck_skk, ck_hck, hop]; try dsimp only [kx_wp, kx_step, kx_lI, kx_lL, kx_lA, kx_gl, kx_pI, kx_pL, kx_pR, kx_pA, kx_pV, kx_s1, kx_s2, kx_sl, kx_pre, kx_c2, kx_pl, kx_cmp, kx_oF, kx_eqN, kx_nil, kx_c1, kx_ft, kx_aI, kx_aL, kx_aR, kx_ln, Nat.reduceAdd, Option.toList, List.cons_append, List.nil_append, mW_o, mf_7])
                  repeat' apply And.intro
                  all_goals try (first | with_reducible assumption | (with_reducible refine ck_nzI ?_; simp; done) | (with_reducible refine ck_nzL ?_; simp; done) | (with_reducible refine vp_in_nI ?_ ?_ <;> first | omega | decide) | (with_reducible refine Nat.le_of_ble_eq_true ?_; rfl) | omega)
                  refine hC.1 204 _ _ _ _ _ _ _ 11 _ _ _ _ _ _ _ _ _ _ _ _ lX11_204 (ct_X11_here l G h6 hn hsa.2) ⟨by decide, rfl⟩ (mW_o) rfl rfl (Nat.le_of_ble_eq_true rfl) (by omega) (by decide) (by omega) (by omega) dX11_term_39 ?_
                  refine hB bX11_term_42 _ _ _ _ _ _ _ kX11_term_42 ?_
                  dsimp only [bX11_term_42, kx_wp, kx_step, kx_lI, kx_lL, kx_lA, kx_gl, kx_pI, kx_pL, kx_pR, kx_pA, kx_pV, kx_s1, kx_s2, kx_sl, kx_pre, kx_c2, kx_pl, kx_cmp, kx_oF, kx_eqN, kx_nil, kx_c1, kx_ft, kx_aI, kx_aL, kx_aR, kx_ln, Nat.reduceAdd, Option.toList, List.cons_append, List.nil_append, mW_o, mf_7]
                  repeat (simp only [mu_7, mW_so, ck_p6, ck_p7, ck_p8, ck_p10, ck_p11, ck_p12, ck_p13, ck_p15, h6, nI_1, ck_pu7, ck_pu10, ck_pu11, ck_pu12, ck_pu13, ck_pu15, ck_pa95, ck_pa96, ck_pa97, ck_pa98, ck_pa99, ck_pem, ck_pau96, ck_pau99, va_us, va_upn, ne_eq, Nat.reduceEqDiff, not_false_eq_true, ck_skk, ck_hck, hop]; try dsimp only [kx_wp, kx_step, kx_lI, kx_lL, kx_lA, kx_gl, kx_pI, kx_pL, kx_pR, kx_pA, kx_pV, kx_s1, kx_s2, kx_sl, kx_pre, kx_c2, kx_pl, kx_cmp, kx_oF, kx_eqN, kx_nil, kx_c1, kx_ft, kx_aI, kx_aL, kx_aR, kx_ln, Nat.reduceAdd, Option.toList, List.cons_append, List.nil_append, mW_o, mf_7])
                  repeat' apply And.intro
                  all_goals try (first | with_reducible assumption | (with_reducible refine ck_nzI ?_; simp; done) | (with_reducible refine ck_nzL ?_; simp; done) | (with_reducible refine vp_in_nI ?_ ?_ <;> first | omega | decide) | (with_reducible refine Nat.le_of_ble_eq_true ?_; rfl) | omega)
                  refine hC.1 268 _ _ _ _ _ _ _ 11 _ _ _ _ _ _ _ _ _ _ _ _ lX11_268 (hUc (ck_sk (A 95) n a1 + 1, -1, k1, o1, c1, C1, N1) (ck_sl_0 hs2) hl2) ⟨by decide, rfl⟩ (mW_o) rfl rfl (Nat.le_of_ble_eq_true rfl) (by omega) (by decide) (by omega) (by omega) dX11_term_54 ?_
                  rw [hS2, ck_pW_t]
                  refine hB bX11_term_57 _ _ _ _ _ _ _ kX11_term_57 ?_
                  dsimp only [bX11_term_57, kx_wp, kx_step, kx_lI, kx_lL, kx_lA, kx_gl, kx_pI, kx_pL, kx_pR, kx_pA, kx_pV, kx_s1, kx_s2, kx_sl, kx_pre, kx_c2, kx_pl, kx_cmp, kx_oF, kx_eqN, kx_nil, kx_c1, kx_ft, kx_aI, kx_aL, kx_aR, kx_ln, Nat.reduceAdd, Option.toList, List.cons_append, List.nil_append, mW_o, mf_7]
                  repeat (simp only [mu_7, mW_so, ck_p6, ck_p7, ck_p8, ck_p10, ck_p11, ck_p12, ck_p13, ck_p15, h6, nI_1, ck_pu7, ck_pu10, ck_pu11, ck_pu12, ck_pu13, ck_pu15, ck_pa95, ck_pa96, ck_pa97, ck_pa98, ck_pa99, ck_pem, ck_pau96, ck_pau99, va_us, va_upn, ne_eq, Nat.reduceEqDiff, not_false_eq_true, ck_skk, ck_hck, hop]; try dsimp only [kx_wp, kx_step, kx_lI, kx_lL, kx_lA, kx_gl, kx_pI, kx_pL, kx_pR, kx_pA, kx_pV, kx_s1, kx_s2, kx_sl, kx_pre, kx_c2, kx_pl, kx_cmp, kx_oF, kx_eqN, kx_nil, kx_c1, kx_ft, kx_aI, kx_aL, kx_aR, kx_ln, Nat.reduceAdd, Option.toList, List.cons_append, List.nil_append, mW_o, mf_7])
                  repeat' apply And.intro
                  all_goals try (first | with_reducible assumption | (with_reducible refine ck_nzI ?_; simp; done) | (with_reducible refine ck_nzL ?_; simp; done) | (with_reducible refine vp_in_nI ?_ ?_ <;> first | omega | decide) | (with_reducible refine Nat.le_of_ble_eq_true ?_; rfl) | omega)
                  refine hC.1 212 _ _ _ _ _ _ _ 11 _ _ _ _ _ _ _ _ _ _ _ _ lX11_212 (ct_X11_fine l G) ⟨by decide, rfl⟩ (mW_o) rfl rfl (Nat.le_of_ble_eq_true rfl) (by omega) (by decide) (by omega) (by omega) dX11_term_58 ?_
                  rw [ck_p8]
                  by_cases hb2 : b2 = -1
                  · subst hb2
                    rw [if_pos rfl] at zo3 hE ⊢
                    have s2c := s2b rfl
                    refine hB bX11_term_61 _ _ _ _ _ _ _ kX11_term_61 ?_
                    dsimp only [bX11_term_61, kx_wp, kx_step, kx_lI, kx_lL, kx_lA, kx_gl, kx_pI, kx_pL, kx_pR, kx_pA, kx_pV, kx_s1, kx_s2, kx_sl, kx_pre, kx_c2, kx_pl, kx_cmp, kx_oF, kx_eqN, kx_nil, kx_c1, kx_ft, kx_aI, kx_aL, kx_aR, kx_ln, Nat.reduceAdd, Option.toList, List.cons_append, List.nil_append, mW_o, mf_7]
                    repeat (simp only [mu_7, mW_so, ck_p6, ck_p7, ck_p8, ck_p10, ck_p11, ck_p12, ck_p13, ck_p15, h6, nI_1, ck_pu7, ck_pu10, ck_pu11, ck_pu12, ck_pu13, ck_pu15, ck_pa95, ck_pa96, ck_pa97, ck_pa98, ck_pa99, ck_pem, ck_pau96, ck_pau99, va_us, va_upn, ne_eq, Nat.reduceEqDiff, not_false_eq_true, ck_skk, ck_hck, hop]; try dsimp only [kx_wp, kx_step, kx_lI, kx_lL, kx_lA, kx_gl, kx_pI, kx_pL, kx_pR, kx_pA, kx_pV, kx_s1, kx_s2, kx_sl, kx_pre, kx_c2, kx_pl, kx_cmp, kx_oF, kx_eqN, kx_nil, kx_c1, kx_ft, kx_aI, kx_aL, kx_aR, kx_ln, Nat.reduceAdd, Option.toList, List.cons_append, List.nil_append, mW_o, mf_7])
                    repeat' apply And.intro
                    all_goals try (first | with_reducible assumption | (with_reducible refine ck_nzI ?_; simp; done) | (with_reducible refine ck_nzL ?_; simp; done) | (with_reducible refine vp_in_nI ?_ ?_ <;> first | omega | decide) | (with_reducible refine Nat.le_of_ble_eq_true ?_; rfl) | omega)
                    · intro zc61
                      first | exact absurd rfl zc61 | exact absurd zc61 (by decide) | exact absurd (by decide) zc61 | (exfalso; first | exact zc8 rfl | exact absurd zc8 (by decide) | exact zc17 rfl | exact absurd zc17 (by decide) | exact zc17 (by decide) | exact zc26 rfl | exact absurd zc26 (by decide) | exact zc26 (by decide) | exact zc35 rfl | exact absurd zc35 (by decide) | exact zc35 (by decide) | exact zc68 rfl | exact absurd zc68 (by decide) | exact zc68 (by decide) | exact zc79 rfl | exact absurd zc79 (by decide) | exact zc79 (by decide) | exact zc61 rfl | exact absurd zc61 (by decide)) | (exfalso; simp_all; done)
                    · intro zc61
                      have ze61 := zc61
                      refine hB bX11_term_64 _ _ _ _ _ _ _ kX11_term_64 ?_
                      dsimp only [bX11_term_64, kx_wp, kx_step, kx_lI, kx_lL, kx_lA, kx_gl, kx_pI, kx_pL, kx_pR, kx_pA, kx_pV, kx_s1, kx_s2, kx_sl, kx_pre, kx_c2, kx_pl, kx_cmp, kx_oF, kx_eqN, kx_nil, kx_c1, kx_ft, kx_aI, kx_aL, kx_aR, kx_ln, Nat.reduceAdd, Option.toList, List.cons_append, List.nil_append, mW_o, mf_7]
                      repeat (simp only [mu_7, mW_so, ck_p6, ck_p7, ck_p8, ck_p10, ck_p11, ck_p12, ck_p13, ck_p15, h6, nI_1, ck_pu7, ck_pu10, ck_pu11, ck_pu12, ck_pu13, ck_pu15, ck_pa95, ck_pa96, ck_pa97, ck_pa98, ck_pa99, ck_pem, ck_pau96, ck_pau99, va_us, va_upn, ne_eq, Nat.reduceEqDiff, not_false_eq_true, ck_skk, ck_hck, hop]; try dsimp only [kx_wp, kx_step, kx_lI, kx_lL, kx_lA, kx_gl, kx_pI, kx_pL, kx_pR, kx_pA, kx_pV, kx_s1, kx_s2, kx_sl, kx_pre, kx_c2, kx_pl, kx_cmp, kx_oF, kx_eqN, kx_nil, kx_c1, kx_ft, kx_aI, kx_aL, kx_aR, kx_ln, Nat.reduceAdd, Option.toList, List.cons_append, List.nil_append, mW_o, mf_7])
                      repeat' apply And.intro
                      all_goals try (first | with_reducible assumption | (with_reducible refine ck_nzI ?_; simp; done) | (with_reducible refine ck_nzL ?_; simp; done) | (with_reducible refine vp_in_nI ?_ ?_ <;> first | omega | decide) | (with_reducible refine Nat.le_of_ble_eq_true ?_; rfl) | omega)
                      · intro zc68
                        have ze68 := zc68
                        refine hB bX11_term_76 _ _ _ _ _ _ _ kX11_term_76 ?_
                        dsimp only [bX11_term_76, kx_wp, kx_step, kx_lI, kx_lL, kx_lA, kx_gl, kx_pI, kx_pL, kx_pR, kx_pA, kx_pV, kx_s1, kx_s2, kx_sl, kx_pre, kx_c2, kx_pl, kx_cmp, kx_oF, kx_eqN, kx_nil, kx_c1, kx_ft, kx_aI, kx_aL, kx_aR, kx_ln, Nat.reduceAdd, Option.toList, List.cons_append, List.nil_append, mW_o, mf_7]
                        repeat (simp only [mu_7, mW_so, ck_p6, ck_p7, ck_p8, ck_p10, ck_p11, ck_p12, ck_p13, ck_p15, h6, nI_1, ck_pu7, ck_pu10, ck_pu11, ck_pu12, ck_pu13, ck_pu15, ck_pa95, ck_pa96, ck_pa97, ck_pa98, ck_pa99, ck_pem, ck_pau96, ck_pau99, va_us, va_upn, ne_eq, Nat.reduceEqDiff, not_false_eq_true, ck_skk, ck_hck, hop]; try dsimp only [kx_wp, kx_step, kx_lI, kx_lL, kx_lA, kx_gl, kx_pI, kx_pL, kx_pR, kx_pA, kx_pV, kx_s1, kx_s2, kx_sl, kx_pre, kx_c2, kx_pl, kx_cmp, kx_oF, kx_eqN, kx_nil, kx_c1, kx_ft, kx_aI, kx_aL, kx_aR, kx_ln, Nat.reduceAdd, Option.toList, List.cons_append, List.nil_append, mW_o, mf_7])
                        repeat' apply And.intro
                        all_goals try (first | with_reducible assumption | (with_reducible refine ck_nzI ?_; simp; done) | (with_reducible refine ck_nzL ?_; simp; done) | (with_reducible refine vp_in_nI ?_ ?_ <;> first | omega | decide) | (with_reducible refine Nat.le_of_ble_eq_true ?_; rfl) | omega)
                        · intro zc79
                          first | exact absurd rfl zc79 | exact absurd zc79 (by decide) | exact absurd (by decide) zc79 | (exfalso; first | exact zc8 rfl | exact absurd zc8 (by decide) | exact zc17 rfl | exact absurd zc17 (by decide) | exact zc17 (by decide) | exact zc26 rfl | exact absurd zc26 (by decide) | exact zc26 (by decide) | exact zc35 rfl | exact absurd zc35 (by decide) | exact zc35 (by decide) | exact zc68 rfl | exact absurd zc68 (by decide) | exact zc68 (by decide) | exact zc79 rfl | exact absurd zc79 (by decide) | exact zc79 (by decide) | exact zc61 rfl | exact absurd zc61 (by decide)) | (exfalso; simp_all; done)
                        · intro zc79
                          with_reducible first | have ze79 := Decidable.not_not.mp zc79 | have ze79 := zc79
                          refine hB bX11_term_82 _ _ _ _ _ _ _ kX11_term_82 ?_
                          dsimp only [bX11_term_82, kx_wp, kx_step, kx_lI, kx_lL, kx_lA, kx_gl, kx_pI, kx_pL, kx_pR, kx_pA, kx_pV, kx_s1, kx_s2, kx_sl, kx_pre, kx_c2, kx_pl, kx_cmp, kx_oF, kx_eqN, kx_nil, kx_c1, kx_ft, kx_aI, kx_aL, kx_aR, kx_ln, Nat.reduceAdd, Option.toList, List.cons_append, List.nil_append, mW_o, mf_7]
                          repeat (simp only [mu_7, mW_so, ck_p6, ck_p7, ck_p8, ck_p10, ck_p11, ck_p12, ck_p13, ck_p15, h6, nI_1, ck_pu7, ck_pu10, ck_pu11, ck_pu12, ck_pu13, ck_pu15, ck_pa95, ck_pa96, ck_pa97, ck_pa98, ck_pa99, ck_pem, ck_pau96, ck_pau99, va_us, va_upn, ne_eq, Nat.reduceEqDiff, not_false_eq_true, ck_skk, ck_hck, hop]; try dsimp only [kx_wp, kx_step, kx_lI, kx_lL, kx_lA, kx_gl, kx_pI, kx_pL, kx_pR, kx_pA, kx_pV, kx_s1, kx_s2, kx_sl, kx_pre, kx_c2, kx_pl, kx_cmp, kx_oF, kx_eqN, kx_nil, kx_c1, kx_ft, kx_aI, kx_aL, kx_aR, kx_ln, Nat.reduceAdd, Option.toList, List.cons_append, List.nil_append, mW_o, mf_7])
                          repeat' apply And.intro
                          all_goals try (first | with_reducible assumption | (with_reducible refine ck_nzI ?_; simp; done) | (with_reducible refine ck_nzL ?_; simp; done) | (with_reducible refine vp_in_nI ?_ ?_ <;> first | omega | decide) | (with_reducible refine Nat.le_of_ble_eq_true ?_; rfl) | omega)
                          refine hB bX11_term_89 _ _ _ _ _ _ _ kX11_term_89 ?_
                          dsimp only [bX11_term_89, kx_wp, kx_step, kx_lI, kx_lL, kx_lA, kx_gl, kx_pI, kx_pL, kx_pR, kx_pA, kx_pV, kx_s1, kx_s2, kx_sl, kx_pre, kx_c2, kx_pl, kx_cmp, kx_oF, kx_eqN, kx_nil, kx_c1, kx_ft, kx_aI, kx_aL, kx_aR, kx_ln, Nat.reduceAdd, Option.toList, List.cons_append, List.nil_append, mW_o, mf_7]
                          repeat (simp only [mu_7, mW_so, ck_p6, ck_p7, ck_p8, ck_p10, ck_p11, ck_p12, ck_p13, ck_p15, h6, nI_1, ck_pu7, ck_pu10, ck_pu11, ck_pu12, ck_pu13, ck_pu15, ck_pa95, ck_pa96, ck_pa97, ck_pa98, ck_pa99, ck_pem, ck_pau96, ck_pau99, va_us, va_upn, ne_eq, Nat.reduceEqDiff, not_false_eq_true, ck_skk, ck_hck, hop]; try dsimp only [kx_wp, kx_step, kx_lI, kx_lL, kx_lA, kx_gl, kx_pI, kx_pL, kx_pR, kx_pA, kx_pV, kx_s1, kx_s2, kx_sl, kx_pre, kx_c2, kx_pl, kx_cmp, kx_oF, kx_eqN, kx_nil, kx_c1, kx_ft, kx_aI, kx_aL, kx_aR, kx_ln, Nat.reduceAdd, Option.toList, List.cons_append, List.nil_append, mW_o, mf_7])
                          repeat' apply And.intro
                          all_goals try (first | with_reducible assumption | (with_reducible refine ck_nzI ?_; simp; done) | (with_reducible refine ck_nzL ?_; simp; done) | (with_reducible refine vp_in_nI ?_ ?_ <;> first | omega | decide) | (with_reducible refine Nat.le_of_ble_eq_true ?_; rfl) | omega)
                          refine hC.1 238 _ _ _ _ _ _ _ 11 _ _ _ _ _ _ _ _ _ _ _ _ lX11_238 (ct_X11_emit l G (k := c2) (M := ck_pM M a2 (-1) k2 o2 c2) (A := ck_pA A C2 N2) rfl (by omega)) ⟨by decide, rfl⟩ (mW_o) rfl rfl (Nat.le_of_ble_eq_true rfl) (by omega) (by decide) (by omega) (by omega) dX11_term_90 ?_
                          refine hB bX11_term_93 _ _ _ _ _ _ _ kX11_term_93 ?_
                          dsimp only [bX11_term_93, kx_wp, kx_step, kx_lI, kx_lL, kx_lA, kx_gl, kx_pI, kx_pL, kx_pR, kx_pA, kx_pV, kx_s1, kx_s2, kx_sl, kx_pre, kx_c2, kx_pl, kx_cmp, kx_oF, kx_eqN, kx_nil, kx_c1, kx_ft, kx_aI, kx_aL, kx_aR, kx_ln, Nat.reduceAdd, Option.toList, List.cons_append, List.nil_append, mW_o, mf_7]
                          repeat (simp only [mu_7, mW_so, ck_p6, ck_p7, ck_p8, ck_p10, ck_p11, ck_p12, ck_p13, ck_p15, h6, nI_1, ck_pu7, ck_pu10, ck_pu11, ck_pu12, ck_pu13, ck_pu15, ck_pa95, ck_pa96, ck_pa97, ck_pa98, ck_pa99, ck_pem, ck_pau96, ck_pau99, va_us, va_upn, ne_eq, Nat.reduceEqDiff, not_false_eq_true, ck_skk, ck_hck, hop]; try dsimp only [kx_wp, kx_step, kx_lI, kx_lL, kx_lA, kx_gl, kx_pI, kx_pL, kx_pR, kx_pA, kx_pV, kx_s1, kx_s2, kx_sl, kx_pre, kx_c2, kx_pl, kx_cmp, kx_oF, kx_eqN, kx_nil, kx_c1, kx_ft, kx_aI, kx_aL, kx_aR, kx_ln, Nat.reduceAdd, Option.toList, List.cons_append, List.nil_append, mW_o, mf_7])
                          repeat' apply And.intro
                          all_goals try (first | with_reducible assumption | (with_reducible refine ck_nzI ?_; simp; done) | (with_reducible refine ck_nzL ?_; simp; done) | (with_reducible refine vp_in_nI ?_ ?_ <;> first | omega | decide) | (with_reducible refine Nat.le_of_ble_eq_true ?_; rfl) | omega)
                          all_goals exact ih (ck_emR 7 0 (a2, -1, k2, o2, c2, C2, N2)) _ (by have := zo3.2; omega) zo3.1.1 (ck_lv_g zo3.1 hl) hE
                      · intro zc68
                        first | exact absurd rfl zc68 | exact absurd zc68 (by decide) | exact absurd (by decide) zc68 | (exfalso; first | exact zc8 rfl | exact absurd zc8 (by decide) | exact zc17 rfl | exact absurd zc17 (by decide) | exact zc17 (by decide) | exact zc26 rfl | exact absurd zc26 (by decide) | exact zc26 (by decide) | exact zc35 rfl | exact absurd zc35 (by decide) | exact zc35 (by decide) | exact zc68 rfl | exact absurd zc68 (by decide) | exact zc68 (by decide) | exact zc79 rfl | exact absurd zc79 (by decide) | exact zc79 (by decide) | exact zc61 rfl | exact absurd zc61 (by decide)) | (exfalso; simp_all; done)
                  · rw [if_neg hb2] at zo3 hE ⊢
                    refine hB bX11_term_61 _ _ _ _ _ _ _ kX11_term_61 ?_
                    dsimp only [bX11_term_61, kx_wp, kx_step, kx_lI, kx_lL, kx_lA, kx_gl, kx_pI, kx_pL, kx_pR, kx_pA, kx_pV, kx_s1, kx_s2, kx_sl, kx_pre, kx_c2, kx_pl, kx_cmp, kx_oF, kx_eqN, kx_nil, kx_c1, kx_ft, kx_aI, kx_aL, kx_aR, kx_ln, Nat.reduceAdd, Option.toList, List.cons_append, List.nil_append, mW_o, mf_7]
                    repeat (simp only [mu_7, mW_so, ck_p6, ck_p7, ck_p8, ck_p10, ck_p11, ck_p12, ck_p13, ck_p15, h6, nI_1, ck_pu7, ck_pu10, ck_pu11, ck_pu12, ck_pu13, ck_pu15, ck_pa95, ck_pa96, ck_pa97, ck_pa98, ck_pa99, ck_pem, ck_pau96, ck_pau99, va_us, va_upn, ne_eq, Nat.reduceEqDiff, not_false_eq_true, ck_skk, ck_hck, hop]; try dsimp only [kx_wp, kx_step, kx_lI, kx_lL, kx_lA, kx_gl, kx_pI, kx_pL, kx_pR, kx_pA, kx_pV, kx_s1, kx_s2, kx_sl, kx_pre, kx_c2, kx_pl, kx_cmp, kx_oF, kx_eqN, kx_nil, kx_c1, kx_ft, kx_aI, kx_aL, kx_aR, kx_ln, Nat.reduceAdd, Option.toList, List.cons_append, List.nil_append, mW_o, mf_7])
                    repeat' apply And.intro
                    all_goals try (first | with_reducible assumption | (with_reducible refine ck_nzI ?_; simp; done) | (with_reducible refine ck_nzL ?_; simp; done) | (with_reducible refine vp_in_nI ?_ ?_ <;> first | omega | decide) | (with_reducible refine Nat.le_of_ble_eq_true ?_; rfl) | omega)
                    · intro zc61
                      have ze61 := zc61
                      refine hB bX11_term_93 _ _ _ _ _ _ _ kX11_term_93 ?_
                      dsimp only [bX11_term_93, kx_wp, kx_step, kx_lI, kx_lL, kx_lA, kx_gl, kx_pI, kx_pL, kx_pR, kx_pA, kx_pV, kx_s1, kx_s2, kx_sl, kx_pre, kx_c2, kx_pl, kx_cmp, kx_oF, kx_eqN, kx_nil, kx_c1, kx_ft, kx_aI, kx_aL, kx_aR, kx_ln, Nat.reduceAdd, Option.toList, List.cons_append, List.nil_append, mW_o, mf_7]
                      repeat (simp only [mu_7, mW_so, ck_p6, ck_p7, ck_p8, ck_p10, ck_p11, ck_p12, ck_p13, ck_p15, h6, nI_1, ck_pu7, ck_pu10, ck_pu11, ck_pu12, ck_pu13, ck_pu15, ck_pa95, ck_pa96, ck_pa97, ck_pa98, ck_pa99, ck_pem, ck_pau96, ck_pau99, va_us, va_upn, ne_eq, Nat.reduceEqDiff, not_false_eq_true, ck_skk, ck_hck, hop]; try dsimp only [kx_wp, kx_step, kx_lI, kx_lL, kx_lA, kx_gl, kx_pI, kx_pL, kx_pR, kx_pA, kx_pV, kx_s1, kx_s2, kx_sl, kx_pre, kx_c2, kx_pl, kx_cmp, kx_oF, kx_eqN, kx_nil, kx_c1, kx_ft, kx_aI, kx_aL, kx_aR, kx_ln, Nat.reduceAdd, Option.toList, List.cons_append, List.nil_append, mW_o, mf_7])
                      repeat' apply And.intro
                      all_goals try (first | with_reducible assumption | (with_reducible refine ck_nzI ?_; simp; done) | (with_reducible refine ck_nzL ?_; simp; done) | (with_reducible refine vp_in_nI ?_ ?_ <;> first | omega | decide) | (with_reducible refine Nat.le_of_ble_eq_true ?_; rfl) | omega)
                      all_goals exact ih (a2, b2, k2, o2, c2, C2, N2) _ (by have := zo3.2; dsimp only at this ⊢; omega) zo3.1.1 (ck_lv_g zo3.1 hl) hE
                    · intro zc61
                      first | exact absurd rfl zc61 | exact absurd zc61 (by decide) | exact absurd (by decide) zc61 | (exfalso; first | exact zc8 rfl | exact absurd zc8 (by decide) | exact zc17 rfl | exact absurd zc17 (by decide) | exact zc17 (by decide) | exact zc26 rfl | exact absurd zc26 (by decide) | exact zc26 (by decide) | exact zc35 rfl | exact absurd zc35 (by decide) | exact zc35 (by decide) | exact zc68 rfl | exact absurd zc68 (by decide) | exact zc68 (by decide) | exact zc79 rfl | exact absurd zc79 (by decide) | exact zc79 (by decide) | exact zc61 rfl | exact absurd zc61 (by decide)) | (exfalso; simp_all; done)
                · intro zc26
                  first | exact absurd rfl zc26 | exact absurd zc26 (by decide) | exact absurd (by decide) zc26 | (exfalso; first | exact zc8 rfl | exact absurd zc8 (by decide) | exact zc17 rfl | exact absurd zc17 (by decide) | exact zc17 (by decide) | exact zc26 rfl | exact absurd zc26 (by decide) | exact zc26 (by decide) | exact zc35 rfl | exact absurd zc35 (by decide) | exact zc35 (by decide) | exact zc68 rfl | exact absurd zc68 (by decide) | exact zc68 (by decide) | exact zc79 rfl | exact absurd zc79 (by decide) | exact zc79 (by decide) | exact zc61 rfl | exact absurd zc61 (by decide)) | (exfalso; simp_all; done)
          · have zo3 := zo 8
            rw [if_neg (show ¬ ck_hcx (A 95) n a1 = 42 by rw [hop]; decide)] at hE
            rw [if_neg (show ¬ ck_hcx (A 95) n a1 = 47 by rw [hop]; decide)] at hE
            refine hB bX11_term_4 _ _ _ _ _ _ _ kX11_term_4 ?_
            dsimp only [bX11_term_4, kx_wp, kx_step, kx_lI, kx_lL, kx_lA, kx_gl, kx_pI, kx_pL, kx_pR, kx_pA, kx_pV, kx_s1, kx_s2, kx_sl, kx_pre, kx_c2, kx_pl, kx_cmp, kx_oF, kx_eqN, kx_nil, kx_c1, kx_ft, kx_aI, kx_aL, kx_aR, kx_ln, Nat.reduceAdd, Option.toList, List.cons_append, List.nil_append, mW_o, mf_7]
            repeat (simp only [mu_7, mW_so, ck_p6, ck_p7, ck_p8, ck_p10, ck_p11, ck_p12, ck_p13, ck_p15, h6, nI_1, ck_pu7, ck_pu10, ck_pu11, ck_pu12, ck_pu13, ck_pu15, ck_pa95, ck_pa96, ck_pa97, ck_pa98, ck_pa99, ck_pem, ck_pau96, ck_pau99, va_us, va_upn, ne_eq, Nat.reduceEqDiff, not_false_eq_true, ck_skk, ck_hck, hop]; try dsimp only [kx_wp, kx_step, kx_lI, kx_lL, kx_lA, kx_gl, kx_pI, kx_pL, kx_pR, kx_pA, kx_pV, kx_s1, kx_s2, kx_sl, kx_pre, kx_c2, kx_pl, kx_cmp, kx_oF, kx_eqN, kx_nil, kx_c1, kx_ft, kx_aI, kx_aL, kx_aR, kx_ln, Nat.reduceAdd, Option.toList, List.cons_append, List.nil_append, mW_o, mf_7])
            repeat' apply And.intro
            all_goals try (first | with_reducible assumption | (with_reducible refine ck_nzI ?_; simp; done) | (with_reducible refine ck_nzL ?_; simp; done) | (with_reducible refine vp_in_nI ?_ ?_ <;> first | omega | decide) | (with_reducible refine Nat.le_of_ble_eq_true ?_; rfl) | omega)
            refine hC.1 212 _ _ _ _ _ _ _ 11 _ _ _ _ _ _ _ _ _ _ _ _ lX11_212 (ct_X11_fine l G) ⟨by decide, rfl⟩ (mW_o) rfl rfl (Nat.le_of_ble_eq_true rfl) (by omega) (by decide) (by omega) (by omega) dX11_term_5 ?_
            rw [ck_p8, if_pos rfl]
            refine hB bX11_term_8 _ _ _ _ _ _ _ kX11_term_8 ?_
            dsimp only [bX11_term_8, kx_wp, kx_step, kx_lI, kx_lL, kx_lA, kx_gl, kx_pI, kx_pL, kx_pR, kx_pA, kx_pV, kx_s1, kx_s2, kx_sl, kx_pre, kx_c2, kx_pl, kx_cmp, kx_oF, kx_eqN, kx_nil, kx_c1, kx_ft, kx_aI, kx_aL, kx_aR, kx_ln, Nat.reduceAdd, Option.toList, List.cons_append, List.nil_append, mW_o, mf_7]
            repeat (simp only [mu_7, mW_so, ck_p6, ck_p7, ck_p8, ck_p10, ck_p11, ck_p12, ck_p13, ck_p15, h6, nI_1, ck_pu7, ck_pu10, ck_pu11, ck_pu12, ck_pu13, ck_pu15, ck_pa95, ck_pa96, ck_pa97, ck_pa98, ck_pa99, ck_pem, ck_pau96, ck_pau99, va_us, va_upn, ne_eq, Nat.reduceEqDiff, not_false_eq_true, ck_skk, ck_hck, hop]; try dsimp only [kx_wp, kx_step, kx_lI, kx_lL, kx_lA, kx_gl, kx_pI, kx_pL, kx_pR, kx_pA, kx_pV, kx_s1, kx_s2, kx_sl, kx_pre, kx_c2, kx_pl, kx_cmp, kx_oF, kx_eqN, kx_nil, kx_c1, kx_ft, kx_aI, kx_aL, kx_aR, kx_ln, Nat.reduceAdd, Option.toList, List.cons_append, List.nil_append, mW_o, mf_7])
            repeat' apply And.intro
            all_goals try (first | with_reducible assumption | (with_reducible refine ck_nzI ?_; simp; done) | (with_reducible refine ck_nzL ?_; simp; done) | (with_reducible refine vp_in_nI ?_ ?_ <;> first | omega | decide) | (with_reducible refine Nat.le_of_ble_eq_true ?_; rfl) | omega)
            · intro zc8
              first | exact absurd rfl zc8 | exact absurd zc8 (by decide) | exact absurd (by decide) zc8 | (exfalso; first | exact zc8 rfl | exact absurd zc8 (by decide) | exact zc17 rfl | exact absurd zc17 (by decide) | exact zc17 (by decide) | exact zc26 rfl | exact absurd zc26 (by decide) | exact zc26 (by decide) | exact zc35 rfl | exact absurd zc35 (by decide) | exact zc35 (by decide) | exact zc68 rfl | exact absurd zc68 (by decide) | exact zc68 (by decide) | exact zc79 rfl | exact absurd zc79 (by decide) | exact zc79 (by decide) | exact zc61 rfl | exact absurd zc61 (by decide)) | (exfalso; simp_all; done)
            · intro zc8
              have ze8 := zc8
              refine hB bX11_term_11 _ _ _ _ _ _ _ kX11_term_11 ?_
              dsimp only [bX11_term_11, kx_wp, kx_step, kx_lI, kx_lL, kx_lA, kx_gl, kx_pI, kx_pL, kx_pR, kx_pA, kx_pV, kx_s1, kx_s2, kx_sl, kx_pre, kx_c2, kx_pl, kx_cmp, kx_oF, kx_eqN, kx_nil, kx_c1, kx_ft, kx_aI, kx_aL, kx_aR, kx_ln, Nat.reduceAdd, Option.toList, List.cons_append, List.nil_append, mW_o, mf_7]
              repeat (simp only [mu_7, mW_so, ck_p6, ck_p7, ck_p8, ck_p10, ck_p11, ck_p12, ck_p13, ck_p15, h6, nI_1, ck_pu7, ck_pu10, ck_pu11, ck_pu12, ck_pu13, ck_pu15, ck_pa95, ck_pa96, ck_pa97, ck_pa98, ck_pa99, ck_pem, ck_pau96, ck_pau99, va_us, va_upn, ne_eq, Nat.reduceEqDiff, not_false_eq_true, ck_skk, ck_hck, hop]; try dsimp only [kx_wp, kx_step, kx_lI, kx_lL, kx_lA, kx_gl, kx_pI, kx_pL, kx_pR, kx_pA, kx_pV, kx_s1, kx_s2, kx_sl, kx_pre, kx_c2, kx_pl, kx_cmp, kx_oF, kx_eqN, kx_nil, kx_c1, kx_ft, kx_aI, kx_aL, kx_aR, kx_ln, Nat.reduceAdd, Option.toList, List.cons_append, List.nil_append, mW_o, mf_7])
              repeat' apply And.intro
              all_goals try (first | with_reducible assumption | (with_reducible refine ck_nzI ?_; simp; done) | (with_reducible refine ck_nzL ?_; simp; done) | (with_reducible refine vp_in_nI ?_ ?_ <;> first | omega | decide) | (with_reducible refine Nat.le_of_ble_eq_true ?_; rfl) | omega)
              refine hC.1 204 _ _ _ _ _ _ _ 11 _ _ _ _ _ _ _ _ _ _ _ _ lX11_204 (ct_X11_here l G h6 hn ha) ⟨by decide, rfl⟩ (mW_o) rfl rfl (Nat.le_of_ble_eq_true rfl) (by omega) (by decide) (by omega) (by omega) dX11_term_12 ?_
              refine hB bX11_term_15 _ _ _ _ _ _ _ kX11_term_15 ?_
              dsimp only [bX11_term_15, kx_wp, kx_step, kx_lI, kx_lL, kx_lA, kx_gl, kx_pI, kx_pL, kx_pR, kx_pA, kx_pV, kx_s1, kx_s2, kx_sl, kx_pre, kx_c2, kx_pl, kx_cmp, kx_oF, kx_eqN, kx_nil, kx_c1, kx_ft, kx_aI, kx_aL, kx_aR, kx_ln, Nat.reduceAdd, Option.toList, List.cons_append, List.nil_append, mW_o, mf_7]
              repeat (simp only [mu_7, mW_so, ck_p6, ck_p7, ck_p8, ck_p10, ck_p11, ck_p12, ck_p13, ck_p15, h6, nI_1, ck_pu7, ck_pu10, ck_pu11, ck_pu12, ck_pu13, ck_pu15, ck_pa95, ck_pa96, ck_pa97, ck_pa98, ck_pa99, ck_pem, ck_pau96, ck_pau99, va_us, va_upn, ne_eq, Nat.reduceEqDiff, not_false_eq_true, ck_skk, ck_hck, hop]; try dsimp only [kx_wp, kx_step, kx_lI, kx_lL, kx_lA, kx_gl, kx_pI, kx_pL, kx_pR, kx_pA, kx_pV, kx_s1, kx_s2, kx_sl, kx_pre, kx_c2, kx_pl, kx_cmp, kx_oF, kx_eqN, kx_nil, kx_c1, kx_ft, kx_aI, kx_aL, kx_aR, kx_ln, Nat.reduceAdd, Option.toList, List.cons_append, List.nil_append, mW_o, mf_7])
              repeat' apply And.intro
              all_goals try (first | with_reducible assumption | (with_reducible refine ck_nzI ?_; simp; done) | (with_reducible refine ck_nzL ?_; simp; done) | (with_reducible refine vp_in_nI ?_ ?_ <;> first | omega | decide) | (with_reducible refine Nat.le_of_ble_eq_true ?_; rfl) | omega)
              · intro zc17
                first | exact absurd rfl zc17 | exact absurd zc17 (by decide) | exact absurd (by decide) zc17 | (exfalso; first | exact zc8 rfl | exact absurd zc8 (by decide) | exact zc17 rfl | exact absurd zc17 (by decide) | exact zc17 (by decide) | exact zc26 rfl | exact absurd zc26 (by decide) | exact zc26 (by decide) | exact zc35 rfl | exact absurd zc35 (by decide) | exact zc35 (by decide) | exact zc68 rfl | exact absurd zc68 (by decide) | exact zc68 (by decide) | exact zc79 rfl | exact absurd zc79 (by decide) | exact zc79 (by decide) | exact zc61 rfl | exact absurd zc61 (by decide)) | (exfalso; simp_all; done)
              · intro zc17
                have ze17 := zc17
                refine hB bX11_term_20 _ _ _ _ _ _ _ kX11_term_20 ?_
                dsimp only [bX11_term_20, kx_wp, kx_step, kx_lI, kx_lL, kx_lA, kx_gl, kx_pI, kx_pL, kx_pR, kx_pA, kx_pV, kx_s1, kx_s2, kx_sl, kx_pre, kx_c2, kx_pl, kx_cmp, kx_oF, kx_eqN, kx_nil, kx_c1, kx_ft, kx_aI, kx_aL, kx_aR, kx_ln, Nat.reduceAdd, Option.toList, List.cons_append, List.nil_append, mW_o, mf_7]
                repeat (simp only [mu_7, mW_so, ck_p6, ck_p7, ck_p8, ck_p10, ck_p11, ck_p12, ck_p13, ck_p15, h6, nI_1, ck_pu7, ck_pu10, ck_pu11, ck_pu12, ck_pu13, ck_pu15, ck_pa95, ck_pa96, ck_pa97, ck_pa98, ck_pa99, ck_pem, ck_pau96, ck_pau99, va_us, va_upn, ne_eq, Nat.reduceEqDiff, not_false_eq_true, ck_skk, ck_hck, hop]; try dsimp only [kx_wp, kx_step, kx_lI, kx_lL, kx_lA, kx_gl, kx_pI, kx_pL, kx_pR, kx_pA, kx_pV, kx_s1, kx_s2, kx_sl, kx_pre, kx_c2, kx_pl, kx_cmp, kx_oF, kx_eqN, kx_nil, kx_c1, kx_ft, kx_aI, kx_aL, kx_aR, kx_ln, Nat.reduceAdd, Option.toList, List.cons_append, List.nil_append, mW_o, mf_7])
                repeat' apply And.intro
                all_goals try (first | with_reducible assumption | (with_reducible refine ck_nzI ?_; simp; done) | (with_reducible refine ck_nzL ?_; simp; done) | (with_reducible refine vp_in_nI ?_ ?_ <;> first | omega | decide) | (with_reducible refine Nat.le_of_ble_eq_true ?_; rfl) | omega)
                refine hC.1 204 _ _ _ _ _ _ _ 11 _ _ _ _ _ _ _ _ _ _ _ _ lX11_204 (ct_X11_here l G h6 hn hsa.2) ⟨by decide, rfl⟩ (mW_o) rfl rfl (Nat.le_of_ble_eq_true rfl) (by omega) (by decide) (by omega) (by omega) dX11_term_21 ?_
                refine hB bX11_term_24 _ _ _ _ _ _ _ kX11_term_24 ?_
                dsimp only [bX11_term_24, kx_wp, kx_step, kx_lI, kx_lL, kx_lA, kx_gl, kx_pI, kx_pL, kx_pR, kx_pA, kx_pV, kx_s1, kx_s2, kx_sl, kx_pre, kx_c2, kx_pl, kx_cmp, kx_oF, kx_eqN, kx_nil, kx_c1, kx_ft, kx_aI, kx_aL, kx_aR, kx_ln, Nat.reduceAdd, Option.toList, List.cons_append, List.nil_append, mW_o, mf_7]
                repeat (simp only [mu_7, mW_so, ck_p6, ck_p7, ck_p8, ck_p10, ck_p11, ck_p12, ck_p13, ck_p15, h6, nI_1, ck_pu7, ck_pu10, ck_pu11, ck_pu12, ck_pu13, ck_pu15, ck_pa95, ck_pa96, ck_pa97, ck_pa98, ck_pa99, ck_pem, ck_pau96, ck_pau99, va_us, va_upn, ne_eq, Nat.reduceEqDiff, not_false_eq_true, ck_skk, ck_hck, hop]; try dsimp only [kx_wp, kx_step, kx_lI, kx_lL, kx_lA, kx_gl, kx_pI, kx_pL, kx_pR, kx_pA, kx_pV, kx_s1, kx_s2, kx_sl, kx_pre, kx_c2, kx_pl, kx_cmp, kx_oF, kx_eqN, kx_nil, kx_c1, kx_ft, kx_aI, kx_aL, kx_aR, kx_ln, Nat.reduceAdd, Option.toList, List.cons_append, List.nil_append, mW_o, mf_7])
                repeat' apply And.intro
                all_goals try (first | with_reducible assumption | (with_reducible refine ck_nzI ?_; simp; done) | (with_reducible refine ck_nzL ?_; simp; done) | (with_reducible refine vp_in_nI ?_ ?_ <;> first | omega | decide) | (with_reducible refine Nat.le_of_ble_eq_true ?_; rfl) | omega)
                · intro zc26
                  first | exact absurd rfl zc26 | exact absurd zc26 (by decide) | exact absurd (by decide) zc26 | (exfalso; first | exact zc8 rfl | exact absurd zc8 (by decide) | exact zc17 rfl | exact absurd zc17 (by decide) | exact zc17 (by decide) | exact zc26 rfl | exact absurd zc26 (by decide) | exact zc26 (by decide) | exact zc35 rfl | exact absurd zc35 (by decide) | exact zc35 (by decide) | exact zc68 rfl | exact absurd zc68 (by decide) | exact zc68 (by decide) | exact zc79 rfl | exact absurd zc79 (by decide) | exact zc79 (by decide) | exact zc61 rfl | exact absurd zc61 (by decide)) | (exfalso; simp_all; done)
                · intro zc26
                  have ze26 := zc26
                  refine hB bX11_term_29 _ _ _ _ _ _ _ kX11_term_29 ?_
                  dsimp only [bX11_term_29, kx_wp, kx_step, kx_lI, kx_lL, kx_lA, kx_gl, kx_pI, kx_pL, kx_pR, kx_pA, kx_pV, kx_s1, kx_s2, kx_sl, kx_pre, kx_c2, kx_pl, kx_cmp, kx_oF, kx_eqN, kx_nil, kx_c1, kx_ft, kx_aI, kx_aL, kx_aR, kx_ln, Nat.reduceAdd, Option.toList, List.cons_append, List.nil_append, mW_o, mf_7]
                  repeat (simp only [mu_7, mW_so, ck_p6, ck_p7, ck_p8, ck_p10, ck_p11, ck_p12, ck_p13, ck_p15, h6, nI_1, ck_pu7, ck_pu10, ck_pu11, ck_pu12, ck_pu13, ck_pu15, ck_pa95, ck_pa96, ck_pa97, ck_pa98, ck_pa99, ck_pem, ck_pau96, ck_pau99, va_us, va_upn, ne_eq, Nat.reduceEqDiff, not_false_eq_true, ck_skk, ck_hck, hop]; try dsimp only [kx_wp, kx_step, kx_lI, kx_lL, kx_lA, kx_gl, kx_pI, kx_pL, kx_pR, kx_pA, kx_pV, kx_s1, kx_s2, kx_sl, kx_pre, kx_c2, kx_pl, kx_cmp, kx_oF, kx_eqN, kx_nil, kx_c1, kx_ft, kx_aI, kx_aL, kx_aR, kx_ln, Nat.reduceAdd, Option.toList, List.cons_append, List.nil_append, mW_o, mf_7])
                  repeat' apply And.intro
                  all_goals try (first | with_reducible assumption | (with_reducible refine ck_nzI ?_; simp; done) | (with_reducible refine ck_nzL ?_; simp; done) | (with_reducible refine vp_in_nI ?_ ?_ <;> first | omega | decide) | (with_reducible refine Nat.le_of_ble_eq_true ?_; rfl) | omega)
                  refine hC.1 204 _ _ _ _ _ _ _ 11 _ _ _ _ _ _ _ _ _ _ _ _ lX11_204 (ct_X11_here l G h6 hn hsa.2) ⟨by decide, rfl⟩ (mW_o) rfl rfl (Nat.le_of_ble_eq_true rfl) (by omega) (by decide) (by omega) (by omega) dX11_term_30 ?_
                  refine hB bX11_term_33 _ _ _ _ _ _ _ kX11_term_33 ?_
                  dsimp only [bX11_term_33, kx_wp, kx_step, kx_lI, kx_lL, kx_lA, kx_gl, kx_pI, kx_pL, kx_pR, kx_pA, kx_pV, kx_s1, kx_s2, kx_sl, kx_pre, kx_c2, kx_pl, kx_cmp, kx_oF, kx_eqN, kx_nil, kx_c1, kx_ft, kx_aI, kx_aL, kx_aR, kx_ln, Nat.reduceAdd, Option.toList, List.cons_append, List.nil_append, mW_o, mf_7]
                  repeat (simp only [mu_7, mW_so, ck_p6, ck_p7, ck_p8, ck_p10, ck_p11, ck_p12, ck_p13, ck_p15, h6, nI_1, ck_pu7, ck_pu10, ck_pu11, ck_pu12, ck_pu13, ck_pu15, ck_pa95, ck_pa96, ck_pa97, ck_pa98, ck_pa99, ck_pem, ck_pau96, ck_pau99, va_us, va_upn, ne_eq, Nat.reduceEqDiff, not_false_eq_true, ck_skk, ck_hck, hop]; try dsimp only [kx_wp, kx_step, kx_lI, kx_lL, kx_lA, kx_gl, kx_pI, kx_pL, kx_pR, kx_pA, kx_pV, kx_s1, kx_s2, kx_sl, kx_pre, kx_c2, kx_pl, kx_cmp, kx_oF, kx_eqN, kx_nil, kx_c1, kx_ft, kx_aI, kx_aL, kx_aR, kx_ln, Nat.reduceAdd, Option.toList, List.cons_append, List.nil_append, mW_o, mf_7])
                  repeat' apply And.intro
                  all_goals try (first | with_reducible assumption | (with_reducible refine ck_nzI ?_; simp; done) | (with_reducible refine ck_nzL ?_; simp; done) | (with_reducible refine vp_in_nI ?_ ?_ <;> first | omega | decide) | (with_reducible refine Nat.le_of_ble_eq_true ?_; rfl) | omega)
                  · intro zc35
                    first | exact absurd rfl zc35 | exact absurd zc35 (by decide) | exact absurd (by decide) zc35 | (exfalso; first | exact zc8 rfl | exact absurd zc8 (by decide) | exact zc17 rfl | exact absurd zc17 (by decide) | exact zc17 (by decide) | exact zc26 rfl | exact absurd zc26 (by decide) | exact zc26 (by decide) | exact zc35 rfl | exact absurd zc35 (by decide) | exact zc35 (by decide) | exact zc68 rfl | exact absurd zc68 (by decide) | exact zc68 (by decide) | exact zc79 rfl | exact absurd zc79 (by decide) | exact zc79 (by decide) | exact zc61 rfl | exact absurd zc61 (by decide)) | (exfalso; simp_all; done)
                  · intro zc35
                    with_reducible first | have ze35 := Decidable.not_not.mp zc35 | have ze35 := zc35
                    refine hB bX11_term_38 _ _ _ _ _ _ _ kX11_term_38 ?_
                    dsimp only [bX11_term_38, kx_wp, kx_step, kx_lI, kx_lL, kx_lA, kx_gl, kx_pI, kx_pL, kx_pR, kx_pA, kx_pV, kx_s1, kx_s2, kx_sl, kx_pre, kx_c2, kx_pl, kx_cmp, kx_oF, kx_eqN, kx_nil, kx_c1, kx_ft, kx_aI, kx_aL, kx_aR, kx_ln, Nat.reduceAdd, Option.toList, List.cons_append, List.nil_append, mW_o, mf_7]
                    repeat (simp only [mu_7, mW_so, ck_p6, ck_p7, ck_p8, ck_p10, ck_p11, ck_p12, ck_p13, ck_p15, h6, nI_1, ck_pu7, ck_pu10, ck_pu11, ck_pu12, ck_pu13, ck_pu15, ck_pa95, ck_pa96, ck_pa97, ck_pa98, ck_pa99, ck_pem, ck_pau96, ck_pau99, va_us, va_upn, ne_eq, Nat.reduceEqDiff, not_false_eq_true, ck_skk, ck_hck, hop]; try dsimp only [kx_wp, kx_step, kx_lI, kx_lL, kx_lA, kx_gl, kx_pI, kx_pL, kx_pR, kx_pA, kx_pV, kx_s1, kx_s2, kx_sl, kx_pre, kx_c2, kx_pl, kx_cmp, kx_oF, kx_eqN, kx_nil, kx_c1, kx_ft, kx_aI, kx_aL, kx_aR, kx_ln, Nat.reduceAdd, Option.toList, List.cons_append, List.nil_append, mW_o, mf_7])
                    repeat' apply And.intro
                    all_goals try (first | with_reducible assumption | (with_reducible refine ck_nzI ?_; simp; done) | (with_reducible refine ck_nzL ?_; simp; done) | (with_reducible refine vp_in_nI ?_ ?_ <;> first | omega | decide) | (with_reducible refine Nat.le_of_ble_eq_true ?_; rfl) | omega)
                    refine hC.1 204 _ _ _ _ _ _ _ 11 _ _ _ _ _ _ _ _ _ _ _ _ lX11_204 (ct_X11_here l G h6 hn hsa.2) ⟨by decide, rfl⟩ (mW_o) rfl rfl (Nat.le_of_ble_eq_true rfl) (by omega) (by decide) (by omega) (by omega) dX11_term_39 ?_
                    refine hB bX11_term_42 _ _ _ _ _ _ _ kX11_term_42 ?_
                    dsimp only [bX11_term_42, kx_wp, kx_step, kx_lI, kx_lL, kx_lA, kx_gl, kx_pI, kx_pL, kx_pR, kx_pA, kx_pV, kx_s1, kx_s2, kx_sl, kx_pre, kx_c2, kx_pl, kx_cmp, kx_oF, kx_eqN, kx_nil, kx_c1, kx_ft, kx_aI, kx_aL, kx_aR, kx_ln, Nat.reduceAdd, Option.toList, List.cons_append, List.nil_append, mW_o, mf_7]
                    repeat (simp only [mu_7, mW_so, ck_p6, ck_p7, ck_p8, ck_p10, ck_p11, ck_p12, ck_p13, ck_p15, h6, nI_1, ck_pu7, ck_pu10, ck_pu11, ck_pu12, ck_pu13, ck_pu15, ck_pa95, ck_pa96, ck_pa97, ck_pa98, ck_pa99, ck_pem, ck_pau96, ck_pau99, va_us, va_upn, ne_eq, Nat.reduceEqDiff, not_false_eq_true, ck_skk, ck_hck, hop]; try dsimp only [kx_wp, kx_step, kx_lI, kx_lL, kx_lA, kx_gl, kx_pI, kx_pL, kx_pR, kx_pA, kx_pV, kx_s1, kx_s2, kx_sl, kx_pre, kx_c2, kx_pl, kx_cmp, kx_oF, kx_eqN, kx_nil, kx_c1, kx_ft, kx_aI, kx_aL, kx_aR, kx_ln, Nat.reduceAdd, Option.toList, List.cons_append, List.nil_append, mW_o, mf_7])
                    repeat' apply And.intro
                    all_goals try (first | with_reducible assumption | (with_reducible refine ck_nzI ?_; simp; done) | (with_reducible refine ck_nzL ?_; simp; done) | (with_reducible refine vp_in_nI ?_ ?_ <;> first | omega | decide) | (with_reducible refine Nat.le_of_ble_eq_true ?_; rfl) | omega)
                    refine hC.1 268 _ _ _ _ _ _ _ 11 _ _ _ _ _ _ _ _ _ _ _ _ lX11_268 (hUc (ck_sk (A 95) n a1 + 1, -1, k1, o1, c1, C1, N1) (ck_sl_0 hs2) hl2) ⟨by decide, rfl⟩ (mW_o) rfl rfl (Nat.le_of_ble_eq_true rfl) (by omega) (by decide) (by omega) (by omega) dX11_term_54 ?_
                    rw [hS2, ck_pW_t]
                    refine hB bX11_term_57 _ _ _ _ _ _ _ kX11_term_57 ?_
                    dsimp only [bX11_term_57, kx_wp, kx_step, kx_lI, kx_lL, kx_lA, kx_gl, kx_pI, kx_pL, kx_pR, kx_pA, kx_pV, kx_s1, kx_s2, kx_sl, kx_pre, kx_c2, kx_pl, kx_cmp, kx_oF, kx_eqN, kx_nil, kx_c1, kx_ft, kx_aI, kx_aL, kx_aR, kx_ln, Nat.reduceAdd, Option.toList, List.cons_append, List.nil_append, mW_o, mf_7]
                    repeat (simp only [mu_7, mW_so, ck_p6, ck_p7, ck_p8, ck_p10, ck_p11, ck_p12, ck_p13, ck_p15, h6, nI_1, ck_pu7, ck_pu10, ck_pu11, ck_pu12, ck_pu13, ck_pu15, ck_pa95, ck_pa96, ck_pa97, ck_pa98, ck_pa99, ck_pem, ck_pau96, ck_pau99, va_us, va_upn, ne_eq, Nat.reduceEqDiff, not_false_eq_true, ck_skk, ck_hck, hop]; try dsimp only [kx_wp, kx_step, kx_lI, kx_lL, kx_lA, kx_gl, kx_pI, kx_pL, kx_pR, kx_pA, kx_pV, kx_s1, kx_s2, kx_sl, kx_pre, kx_c2, kx_pl, kx_cmp, kx_oF, kx_eqN, kx_nil, kx_c1, kx_ft, kx_aI, kx_aL, kx_aR, kx_ln, Nat.reduceAdd, Option.toList, List.cons_append, List.nil_append, mW_o, mf_7])
                    repeat' apply And.intro
                    all_goals try (first | with_reducible assumption | (with_reducible refine ck_nzI ?_; simp; done) | (with_reducible refine ck_nzL ?_; simp; done) | (with_reducible refine vp_in_nI ?_ ?_ <;> first | omega | decide) | (with_reducible refine Nat.le_of_ble_eq_true ?_; rfl) | omega)
                    refine hC.1 212 _ _ _ _ _ _ _ 11 _ _ _ _ _ _ _ _ _ _ _ _ lX11_212 (ct_X11_fine l G) ⟨by decide, rfl⟩ (mW_o) rfl rfl (Nat.le_of_ble_eq_true rfl) (by omega) (by decide) (by omega) (by omega) dX11_term_58 ?_
                    rw [ck_p8]
                    by_cases hb2 : b2 = -1
                    · subst hb2
                      rw [if_pos rfl] at zo3 hE ⊢
                      have s2c := s2b rfl
                      refine hB bX11_term_61 _ _ _ _ _ _ _ kX11_term_61 ?_
                      dsimp only [bX11_term_61, kx_wp, kx_step, kx_lI, kx_lL, kx_lA, kx_gl, kx_pI, kx_pL, kx_pR, kx_pA, kx_pV, kx_s1, kx_s2, kx_sl, kx_pre, kx_c2, kx_pl, kx_cmp, kx_oF, kx_eqN, kx_nil, kx_c1, kx_ft, kx_aI, kx_aL, kx_aR, kx_ln, Nat.reduceAdd, Option.toList, List.cons_append, List.nil_append, mW_o, mf_7]
                      repeat (simp only [mu_7, mW_so, ck_p6, ck_p7, ck_p8, ck_p10, ck_p11, ck_p12, ck_p13, ck_p15, h6, nI_1, ck_pu7, ck_pu10, ck_pu11, ck_pu12, ck_pu13, ck_pu15, ck_pa95, ck_pa96, ck_pa97, ck_pa98, ck_pa99, ck_pem, ck_pau96, ck_pau99, va_us, va_upn, ne_eq, Nat.reduceEqDiff, not_false_eq_true, ck_skk, ck_hck, hop]; try dsimp only [kx_wp, kx_step, kx_lI, kx_lL, kx_lA, kx_gl, kx_pI, kx_pL, kx_pR, kx_pA, kx_pV, kx_s1, kx_s2, kx_sl, kx_pre, kx_c2, kx_pl, kx_cmp, kx_oF, kx_eqN, kx_nil, kx_c1, kx_ft, kx_aI, kx_aL, kx_aR, kx_ln, Nat.reduceAdd, Option.toList, List.cons_append, List.nil_append, mW_o, mf_7])
                      repeat' apply And.intro
                      all_goals try (first | with_reducible assumption | (with_reducible refine ck_nzI ?_; simp; done) | (with_reducible refine ck_nzL ?_; simp; done) | (with_reducible refine vp_in_nI ?_ ?_ <;> first | omega | decide) | (with_reducible refine Nat.le_of_ble_eq_true ?_; rfl) | omega)
                      · intro zc61
                        first | exact absurd rfl zc61 | exact absurd zc61 (by decide) | exact absurd (by decide) zc61 | (exfalso; first | exact zc8 rfl | exact absurd zc8 (by decide) | exact zc17 rfl | exact absurd zc17 (by decide) | exact zc17 (by decide) | exact zc26 rfl | exact absurd zc26 (by decide) | exact zc26 (by decide) | exact zc35 rfl | exact absurd zc35 (by decide) | exact zc35 (by decide) | exact zc68 rfl | exact absurd zc68 (by decide) | exact zc68 (by decide) | exact zc79 rfl | exact absurd zc79 (by decide) | exact zc79 (by decide) | exact zc61 rfl | exact absurd zc61 (by decide)) | (exfalso; simp_all; done)
                      · intro zc61
                        have ze61 := zc61
                        refine hB bX11_term_64 _ _ _ _ _ _ _ kX11_term_64 ?_
                        dsimp only [bX11_term_64, kx_wp, kx_step, kx_lI, kx_lL, kx_lA, kx_gl, kx_pI, kx_pL, kx_pR, kx_pA, kx_pV, kx_s1, kx_s2, kx_sl, kx_pre, kx_c2, kx_pl, kx_cmp, kx_oF, kx_eqN, kx_nil, kx_c1, kx_ft, kx_aI, kx_aL, kx_aR, kx_ln, Nat.reduceAdd, Option.toList, List.cons_append, List.nil_append, mW_o, mf_7]
                        repeat (simp only [mu_7, mW_so, ck_p6, ck_p7, ck_p8, ck_p10, ck_p11, ck_p12, ck_p13, ck_p15, h6, nI_1, ck_pu7, ck_pu10, ck_pu11, ck_pu12, ck_pu13, ck_pu15, ck_pa95, ck_pa96, ck_pa97, ck_pa98, ck_pa99, ck_pem, ck_pau96, ck_pau99, va_us, va_upn, ne_eq, Nat.reduceEqDiff, not_false_eq_true, ck_skk, ck_hck, hop]; try dsimp only [kx_wp, kx_step, kx_lI, kx_lL, kx_lA, kx_gl, kx_pI, kx_pL, kx_pR, kx_pA, kx_pV, kx_s1, kx_s2, kx_sl, kx_pre, kx_c2, kx_pl, kx_cmp, kx_oF, kx_eqN, kx_nil, kx_c1, kx_ft, kx_aI, kx_aL, kx_aR, kx_ln, Nat.reduceAdd, Option.toList, List.cons_append, List.nil_append, mW_o, mf_7])
                        repeat' apply And.intro
                        all_goals try (first | with_reducible assumption | (with_reducible refine ck_nzI ?_; simp; done) | (with_reducible refine ck_nzL ?_; simp; done) | (with_reducible refine vp_in_nI ?_ ?_ <;> first | omega | decide) | (with_reducible refine Nat.le_of_ble_eq_true ?_; rfl) | omega)
                        · intro zc68
                          have ze68 := zc68
                          refine hB bX11_term_76 _ _ _ _ _ _ _ kX11_term_76 ?_
                          dsimp only [bX11_term_76, kx_wp, kx_step, kx_lI, kx_lL, kx_lA, kx_gl, kx_pI, kx_pL, kx_pR, kx_pA, kx_pV, kx_s1, kx_s2, kx_sl, kx_pre, kx_c2, kx_pl, kx_cmp, kx_oF, kx_eqN, kx_nil, kx_c1, kx_ft, kx_aI, kx_aL, kx_aR, kx_ln, Nat.reduceAdd, Option.toList, List.cons_append, List.nil_append, mW_o, mf_7]
                          repeat (simp only [mu_7, mW_so, ck_p6, ck_p7, ck_p8, ck_p10, ck_p11, ck_p12, ck_p13, ck_p15, h6, nI_1, ck_pu7, ck_pu10, ck_pu11, ck_pu12, ck_pu13, ck_pu15, ck_pa95, ck_pa96, ck_pa97, ck_pa98, ck_pa99, ck_pem, ck_pau96, ck_pau99, va_us, va_upn, ne_eq, Nat.reduceEqDiff, not_false_eq_true, ck_skk, ck_hck, hop]; try dsimp only [kx_wp, kx_step, kx_lI, kx_lL, kx_lA, kx_gl, kx_pI, kx_pL, kx_pR, kx_pA, kx_pV, kx_s1, kx_s2, kx_sl, kx_pre, kx_c2, kx_pl, kx_cmp, kx_oF, kx_eqN, kx_nil, kx_c1, kx_ft, kx_aI, kx_aL, kx_aR, kx_ln, Nat.reduceAdd, Option.toList, List.cons_append, List.nil_append, mW_o, mf_7])
                          repeat' apply And.intro
                          all_goals try (first | with_reducible assumption | (with_reducible refine ck_nzI ?_; simp; done) | (with_reducible refine ck_nzL ?_; simp; done) | (with_reducible refine vp_in_nI ?_ ?_ <;> first | omega | decide) | (with_reducible refine Nat.le_of_ble_eq_true ?_; rfl) | omega)
                          · intro zc79
                            have ze79 := zc79
                            refine hB bX11_term_87 _ _ _ _ _ _ _ kX11_term_87 ?_
                            dsimp only [bX11_term_87, kx_wp, kx_step, kx_lI, kx_lL, kx_lA, kx_gl, kx_pI, kx_pL, kx_pR, kx_pA, kx_pV, kx_s1, kx_s2, kx_sl, kx_pre, kx_c2, kx_pl, kx_cmp, kx_oF, kx_eqN, kx_nil, kx_c1, kx_ft, kx_aI, kx_aL, kx_aR, kx_ln, Nat.reduceAdd, Option.toList, List.cons_append, List.nil_append, mW_o, mf_7]
                            repeat (simp only [mu_7, mW_so, ck_p6, ck_p7, ck_p8, ck_p10, ck_p11, ck_p12, ck_p13, ck_p15, h6, nI_1, ck_pu7, ck_pu10, ck_pu11, ck_pu12, ck_pu13, ck_pu15, ck_pa95, ck_pa96, ck_pa97, ck_pa98, ck_pa99, ck_pem, ck_pau96, ck_pau99, va_us, va_upn, ne_eq, Nat.reduceEqDiff, not_false_eq_true, ck_skk, ck_hck, hop]; try dsimp only [kx_wp, kx_step, kx_lI, kx_lL, kx_lA, kx_gl, kx_pI, kx_pL, kx_pR, kx_pA, kx_pV, kx_s1, kx_s2, kx_sl, kx_pre, kx_c2, kx_pl, kx_cmp, kx_oF, kx_eqN, kx_nil, kx_c1, kx_ft, kx_aI, kx_aL, kx_aR, kx_ln, Nat.reduceAdd, Option.toList, List.cons_append, List.nil_append, mW_o, mf_7])
                            repeat' apply And.intro
                            all_goals try (first | with_reducible assumption | (with_reducible refine ck_nzI ?_; simp; done) | (with_reducible refine ck_nzL ?_; simp; done) | (with_reducible refine vp_in_nI ?_ ?_ <;> first | omega | decide) | (with_reducible refine Nat.le_of_ble_eq_true ?_; rfl) | omega)
                            refine hB bX11_term_89 _ _ _ _ _ _ _ kX11_term_89 ?_
                            dsimp only [bX11_term_89, kx_wp, kx_step, kx_lI, kx_lL, kx_lA, kx_gl, kx_pI, kx_pL, kx_pR, kx_pA, kx_pV, kx_s1, kx_s2, kx_sl, kx_pre, kx_c2, kx_pl, kx_cmp, kx_oF, kx_eqN, kx_nil, kx_c1, kx_ft, kx_aI, kx_aL, kx_aR, kx_ln, Nat.reduceAdd, Option.toList, List.cons_append, List.nil_append, mW_o, mf_7]
                            repeat (simp only [mu_7, mW_so, ck_p6, ck_p7, ck_p8, ck_p10, ck_p11, ck_p12, ck_p13, ck_p15, h6, nI_1, ck_pu7, ck_pu10, ck_pu11, ck_pu12, ck_pu13, ck_pu15, ck_pa95, ck_pa96, ck_pa97, ck_pa98, ck_pa99, ck_pem, ck_pau96, ck_pau99, va_us, va_upn, ne_eq, Nat.reduceEqDiff, not_false_eq_true, ck_skk, ck_hck, hop]; try dsimp only [kx_wp, kx_step, kx_lI, kx_lL, kx_lA, kx_gl, kx_pI, kx_pL, kx_pR, kx_pA, kx_pV, kx_s1, kx_s2, kx_sl, kx_pre, kx_c2, kx_pl, kx_cmp, kx_oF, kx_eqN, kx_nil, kx_c1, kx_ft, kx_aI, kx_aL, kx_aR, kx_ln, Nat.reduceAdd, Option.toList, List.cons_append, List.nil_append, mW_o, mf_7])
                            repeat' apply And.intro
                            all_goals try (first | with_reducible assumption | (with_reducible refine ck_nzI ?_; simp; done) | (with_reducible refine ck_nzL ?_; simp; done) | (with_reducible refine vp_in_nI ?_ ?_ <;> first | omega | decide) | (with_reducible refine Nat.le_of_ble_eq_true ?_; rfl) | omega)
                            refine hC.1 238 _ _ _ _ _ _ _ 11 _ _ _ _ _ _ _ _ _ _ _ _ lX11_238 (ct_X11_emit l G (k := c2) (M := ck_pM M a2 (-1) k2 o2 c2) (A := ck_pA A C2 N2) rfl (by omega)) ⟨by decide, rfl⟩ (mW_o) rfl rfl (Nat.le_of_ble_eq_true rfl) (by omega) (by decide) (by omega) (by omega) dX11_term_90 ?_
                            refine hB bX11_term_93 _ _ _ _ _ _ _ kX11_term_93 ?_
                            dsimp only [bX11_term_93, kx_wp, kx_step, kx_lI, kx_lL, kx_lA, kx_gl, kx_pI, kx_pL, kx_pR, kx_pA, kx_pV, kx_s1, kx_s2, kx_sl, kx_pre, kx_c2, kx_pl, kx_cmp, kx_oF, kx_eqN, kx_nil, kx_c1, kx_ft, kx_aI, kx_aL, kx_aR, kx_ln, Nat.reduceAdd, Option.toList, List.cons_append, List.nil_append, mW_o, mf_7]
                            repeat (simp only [mu_7, mW_so, ck_p6, ck_p7, ck_p8, ck_p10, ck_p11, ck_p12, ck_p13, ck_p15, h6, nI_1, ck_pu7, ck_pu10, ck_pu11, ck_pu12, ck_pu13, ck_pu15, ck_pa95, ck_pa96, ck_pa97, ck_pa98, ck_pa99, ck_pem, ck_pau96, ck_pau99, va_us, va_upn, ne_eq, Nat.reduceEqDiff, not_false_eq_true, ck_skk, ck_hck, hop]; try dsimp only [kx_wp, kx_step, kx_lI, kx_lL, kx_lA, kx_gl, kx_pI, kx_pL, kx_pR, kx_pA, kx_pV, kx_s1, kx_s2, kx_sl, kx_pre, kx_c2, kx_pl, kx_cmp, kx_oF, kx_eqN, kx_nil, kx_c1, kx_ft, kx_aI, kx_aL, kx_aR, kx_ln, Nat.reduceAdd, Option.toList, List.cons_append, List.nil_append, mW_o, mf_7])
                            repeat' apply And.intro
                            all_goals try (first | with_reducible assumption | (with_reducible refine ck_nzI ?_; simp; done) | (with_reducible refine ck_nzL ?_; simp; done) | (with_reducible refine vp_in_nI ?_ ?_ <;> first | omega | decide) | (with_reducible refine Nat.le_of_ble_eq_true ?_; rfl) | omega)
                            all_goals exact ih (ck_emR 8 0 (a2, -1, k2, o2, c2, C2, N2)) _ (by have := zo3.2; omega) zo3.1.1 (ck_lv_g zo3.1 hl) hE
                          · intro zc79
                            first | exact absurd rfl zc79 | exact absurd zc79 (by decide) | exact absurd (by decide) zc79 | (exfalso; first | exact zc8 rfl | exact absurd zc8 (by decide) | exact zc17 rfl | exact absurd zc17 (by decide) | exact zc17 (by decide) | exact zc26 rfl | exact absurd zc26 (by decide) | exact zc26 (by decide) | exact zc35 rfl | exact absurd zc35 (by decide) | exact zc35 (by decide) | exact zc68 rfl | exact absurd zc68 (by decide) | exact zc68 (by decide) | exact zc79 rfl | exact absurd zc79 (by decide) | exact zc79 (by decide) | exact zc61 rfl | exact absurd zc61 (by decide)) | (exfalso; simp_all; done)
                        · intro zc68
                          first | exact absurd rfl zc68 | exact absurd zc68 (by decide) | exact absurd (by decide) zc68 | (exfalso; first | exact zc8 rfl | exact absurd zc8 (by decide) | exact zc17 rfl | exact absurd zc17 (by decide) | exact zc17 (by decide) | exact zc26 rfl | exact absurd zc26 (by decide) | exact zc26 (by decide) | exact zc35 rfl | exact absurd zc35 (by decide) | exact zc35 (by decide) | exact zc68 rfl | exact absurd zc68 (by decide) | exact zc68 (by decide) | exact zc79 rfl | exact absurd zc79 (by decide) | exact zc79 (by decide) | exact zc61 rfl | exact absurd zc61 (by decide)) | (exfalso; simp_all; done)
                    · rw [if_neg hb2] at zo3 hE ⊢
                      refine hB bX11_term_61 _ _ _ _ _ _ _ kX11_term_61 ?_
                      dsimp only [bX11_term_61, kx_wp, kx_step, kx_lI, kx_lL, kx_lA, kx_gl, kx_pI, kx_pL, kx_pR, kx_pA, kx_pV, kx_s1, kx_s2, kx_sl, kx_pre, kx_c2, kx_pl, kx_cmp, kx_oF, kx_eqN, kx_nil, kx_c1, kx_ft, kx_aI, kx_aL, kx_aR, kx_ln, Nat.reduceAdd, Option.toList, List.cons_append, List.nil_append, mW_o, mf_7]
                      repeat (simp only [mu_7, mW_so, ck_p6, ck_p7, ck_p8, ck_p10, ck_p11, ck_p12, ck_p13, ck_p15, h6, nI_1, ck_pu7, ck_pu10, ck_pu11, ck_pu12, ck_pu13, ck_pu15, ck_pa95, ck_pa96, ck_pa97, ck_pa98, ck_pa99, ck_pem, ck_pau96, ck_pau99, va_us, va_upn, ne_eq, Nat.reduceEqDiff, not_false_eq_true, ck_skk, ck_hck, hop]; try dsimp only [kx_wp, kx_step, kx_lI, kx_lL, kx_lA, kx_gl, kx_pI, kx_pL, kx_pR, kx_pA, kx_pV, kx_s1, kx_s2, kx_sl, kx_pre, kx_c2, kx_pl, kx_cmp, kx_oF, kx_eqN, kx_nil, kx_c1, kx_ft, kx_aI, kx_aL, kx_aR, kx_ln, Nat.reduceAdd, Option.toList, List.cons_append, List.nil_append, mW_o, mf_7])
                      repeat' apply And.intro
                      all_goals try (first | with_reducible assumption | (with_reducible refine ck_nzI ?_; simp; done) | (with_reducible refine ck_nzL ?_; simp; done) | (with_reducible refine vp_in_nI ?_ ?_ <;> first | omega | decide) | (with_reducible refine Nat.le_of_ble_eq_true ?_; rfl) | omega)
                      · intro zc61
                        have ze61 := zc61
                        refine hB bX11_term_93 _ _ _ _ _ _ _ kX11_term_93 ?_
                        dsimp only [bX11_term_93, kx_wp, kx_step, kx_lI, kx_lL, kx_lA, kx_gl, kx_pI, kx_pL, kx_pR, kx_pA, kx_pV, kx_s1, kx_s2, kx_sl, kx_pre, kx_c2, kx_pl, kx_cmp, kx_oF, kx_eqN, kx_nil, kx_c1, kx_ft, kx_aI, kx_aL, kx_aR, kx_ln, Nat.reduceAdd, Option.toList, List.cons_append, List.nil_append, mW_o, mf_7]
                        repeat (simp only [mu_7, mW_so, ck_p6, ck_p7, ck_p8, ck_p10, ck_p11, ck_p12, ck_p13, ck_p15, h6, nI_1, ck_pu7, ck_pu10, ck_pu11, ck_pu12, ck_pu13, ck_pu15, ck_pa95, ck_pa96, ck_pa97, ck_pa98, ck_pa99, ck_pem, ck_pau96, ck_pau99, va_us, va_upn, ne_eq, Nat.reduceEqDiff, not_false_eq_true, ck_skk, ck_hck, hop]; try dsimp only [kx_wp, kx_step, kx_lI, kx_lL, kx_lA, kx_gl, kx_pI, kx_pL, kx_pR, kx_pA, kx_pV, kx_s1, kx_s2, kx_sl, kx_pre, kx_c2, kx_pl, kx_cmp, kx_oF, kx_eqN, kx_nil, kx_c1, kx_ft, kx_aI, kx_aL, kx_aR, kx_ln, Nat.reduceAdd, Option.toList, List.cons_append, List.nil_append, mW_o, mf_7])
                        repeat' apply And.intro
                        all_goals try (first | with_reducible assumption | (with_reducible refine ck_nzI ?_; simp; done) | (with_reducible refine ck_nzL ?_; simp; done) | (with_reducible refine vp_in_nI ?_ ?_ <;> first | omega | decide) | (with_reducible refine Nat.le_of_ble_eq_true ?_; rfl) | omega)
                        all_goals exact ih (a2, b2, k2, o2, c2, C2, N2) _ (by have := zo3.2; dsimp only at this ⊢; omega) zo3.1.1 (ck_lv_g zo3.1 hl) hE
                      · intro zc61
                        first | exact absurd rfl zc61 | exact absurd zc61 (by decide) | exact absurd (by decide) zc61 | (exfalso; first | exact zc8 rfl | exact absurd zc8 (by decide) | exact zc17 rfl | exact absurd zc17 (by decide) | exact zc17 (by decide) | exact zc26 rfl | exact absurd zc26 (by decide) | exact zc26 (by decide) | exact zc35 rfl | exact absurd zc35 (by decide) | exact zc35 (by decide) | exact zc68 rfl | exact absurd zc68 (by decide) | exact zc68 (by decide) | exact zc79 rfl | exact absurd zc79 (by decide) | exact zc79 (by decide) | exact zc61 rfl | exact absurd zc61 (by decide)) | (exfalso; simp_all; done)
        · rw [if_neg (fun q => hop q.2), ck_ex, if_pos rfl] at hE
          rw [ck_pW_t]
          exact jn _ _ _ _ _ _ _ ha (fun e => hop (Or.inl e)) (fun e => hop (Or.inr (Or.inl e))) (fun e => hop (Or.inr (Or.inr e))) hE
      · rw [ck_lpt_st (n9 + 1) _ hb] at hE
        rw [ck_pW_t]
        exact jf _ _ _ _ _ _ _ _ hb hE
  refine hB bX11_term_0 _ _ _ _ _ _ _ kX11_term_0 ?_
  dsimp only [bX11_term_0, kx_wp, kx_step, kx_lI, kx_lL, kx_lA, kx_gl, kx_pI, kx_pL, kx_pR, kx_pA, kx_pV, kx_s1, kx_s2, kx_sl, kx_pre, kx_c2, kx_pl, kx_cmp, kx_oF, kx_eqN, kx_nil, kx_c1, kx_ft, kx_aI, kx_aL, kx_aR, kx_ln, Nat.reduceAdd, Option.toList, List.cons_append, List.nil_append, mW_o, mf_7]
  repeat (simp only [mu_7, mW_so, ck_p6, ck_p7, ck_p8, ck_p10, ck_p11, ck_p12, ck_p13, ck_p15, h6, nI_1, ck_pu7, ck_pu10, ck_pu11, ck_pu12, ck_pu13, ck_pu15, ck_pa95, ck_pa96, ck_pa97, ck_pa98, ck_pa99, ck_pem, ck_pau96, ck_pau99, va_us, va_upn, ne_eq, Nat.reduceEqDiff, not_false_eq_true, ck_skk, ck_hck]; try dsimp only [kx_wp, kx_step, kx_lI, kx_lL, kx_lA, kx_gl, kx_pI, kx_pL, kx_pR, kx_pA, kx_pV, kx_s1, kx_s2, kx_sl, kx_pre, kx_c2, kx_pl, kx_cmp, kx_oF, kx_eqN, kx_nil, kx_c1, kx_ft, kx_aI, kx_aL, kx_aR, kx_ln, Nat.reduceAdd, Option.toList, List.cons_append, List.nil_append, mW_o, mf_7])
  repeat' apply And.intro
  all_goals try (first | with_reducible assumption | (with_reducible refine ck_nzI ?_; simp; done) | (with_reducible refine ck_nzL ?_; simp; done) | (with_reducible refine vp_in_nI ?_ ?_ <;> first | omega | decide) | (with_reducible refine Nat.le_of_ble_eq_true ?_; rfl) | omega)
  refine hC.1 268 _ _ _ _ _ _ _ 11 _ _ _ _ _ _ _ _ _ _ _ _ lX11_268 (hUc S hS hlv) ⟨by decide, rfl⟩ (ck_pW_o _ _ _ _ _) rfl rfl (Nat.le_of_ble_eq_true rfl) (by omega) (by decide) (by omega) (by omega) dX11_term_1 ?_
  all_goals exact loop4 _ _ _ (Nat.le_refl _) g1.1 l1 hRR

def bX11_whole_0 : List kx_O := [(.aload_n 0, 0, 0, 0, .null)]
theorem kX11_whole_0 : kx_oks kxL_X11 false cX11_whole 0 bX11_whole_0 = true := by decide +kernel
def bX11_whole_4 : List kx_O := [(.aload_n 0, 0, 0, 0, .null)]
theorem kX11_whole_4 : kx_oks kxL_X11 false cX11_whole 4 bX11_whole_4 = true := by decide +kernel
def bX11_whole_8 : List kx_O := [(.ifCond .eq 66, 74, 0, 0, .null)]
theorem kX11_whole_8 : kx_oks kxL_X11 false cX11_whole 8 bX11_whole_8 = true := by decide +kernel
def bX11_whole_11 : List kx_O := [(.aload_n 0, 0, 0, 0, .null)]
theorem kX11_whole_11 : kx_oks kxL_X11 false cX11_whole 11 bX11_whole_11 = true := by decide +kernel
def bX11_whole_15 : List kx_O := [(.bipush 43, 0, 0, 0, .int 43), (.if_icmp .eq 12, 29, 0, 0, .null)]
theorem kX11_whole_15 : kx_oks kxL_X11 false cX11_whole 15 bX11_whole_15 = true := by decide +kernel
def bX11_whole_20 : List kx_O := [(.aload_n 0, 0, 0, 0, .null)]
theorem kX11_whole_20 : kx_oks kxL_X11 false cX11_whole 20 bX11_whole_20 = true := by decide +kernel
def bX11_whole_24 : List kx_O := [(.bipush 45, 0, 0, 0, .int 45), (.if_icmp .ne 48, 74, 0, 0, .null)]
theorem kX11_whole_24 : kx_oks kxL_X11 false cX11_whole 24 bX11_whole_24 = true := by decide +kernel
def bX11_whole_29 : List kx_O := [(.aload_n 0, 0, 0, 0, .null)]
theorem kX11_whole_29 : kx_oks kxL_X11 false cX11_whole 29 bX11_whole_29 = true := by decide +kernel
def bX11_whole_33 : List kx_O := [(.istore_n 1, 1, 0, 0, .null), (.aload_n 0, 0, 0, 0, .null), (.dup, 0, 0, 0, .null), (.getfield 198, 11, 7, 0, .null), (.iconst 1, 0, 0, 0, .int 1), (.iadd, 0, 0, 0, .null), (.putfield 198, 11, 7, 0, .null), (.aload_n 0, 0, 0, 0, .null)]
theorem kX11_whole_33 : kx_oks kxL_X11 false cX11_whole 33 bX11_whole_33 = true := by decide +kernel
def bX11_whole_48 : List kx_O := [(.aload_n 0, 0, 0, 0, .null)]
theorem kX11_whole_48 : kx_oks kxL_X11 false cX11_whole 48 bX11_whole_48 = true := by decide +kernel
def bX11_whole_52 : List kx_O := [(.ifCond .eq 19, 71, 0, 0, .null)]
theorem kX11_whole_52 : kx_oks kxL_X11 false cX11_whole 52 bX11_whole_52 = true := by decide +kernel
def bX11_whole_55 : List kx_O := [(.aload_n 0, 0, 0, 0, .null), (.iload_n 1, 1, 0, 0, .null), (.bipush 43, 0, 0, 0, .int 43), (.if_icmp .ne 7, 66, 0, 0, .null)]
theorem kX11_whole_55 : kx_oks kxL_X11 false cX11_whole 55 bX11_whole_55 = true := by decide +kernel
def bX11_whole_62 : List kx_O := [(.iconst 4, 0, 0, 0, .int 4), (.goto 4, 67, 0, 0, .null)]
theorem kX11_whole_62 : kx_oks kxL_X11 false cX11_whole 62 bX11_whole_62 = true := by decide +kernel
def bX11_whole_66 : List kx_O := [(.iconst 5, 0, 0, 0, .int 5)]
theorem kX11_whole_66 : kx_oks kxL_X11 false cX11_whole 66 bX11_whole_66 = true := by decide +kernel
def bX11_whole_67 : List kx_O := [(.iconst 0, 0, 0, 0, .int 0)]
theorem kX11_whole_67 : kx_oks kxL_X11 false cX11_whole 67 bX11_whole_67 = true := by decide +kernel
def bX11_whole_71 : List kx_O := [(.goto (-67), 4, 0, 0, .null)]
theorem kX11_whole_71 : kx_oks kxL_X11 false cX11_whole 71 bX11_whole_71 = true := by decide +kernel
def bX11_whole_74 : List kx_O := [(.return_, 0, 0, 0, .null)]
theorem kX11_whole_74 : kx_oks kxL_X11 false cX11_whole 74 bX11_whole_74 = true := by decide +kernel
theorem dX11_whole_1 : decode cX11_whole 1 = .ok (.invokevirtual 271, 3) := by decide +kernel
theorem dX11_whole_5 : decode cX11_whole 5 = .ok (.invokevirtual 212, 3) := by decide +kernel
theorem dX11_whole_12 : decode cX11_whole 12 = .ok (.invokevirtual 204, 3) := by decide +kernel
theorem dX11_whole_21 : decode cX11_whole 21 = .ok (.invokevirtual 204, 3) := by decide +kernel
theorem dX11_whole_30 : decode cX11_whole 30 = .ok (.invokevirtual 204, 3) := by decide +kernel
theorem dX11_whole_45 : decode cX11_whole 45 = .ok (.invokevirtual 271, 3) := by decide +kernel
theorem dX11_whole_49 : decode cX11_whole 49 = .ok (.invokevirtual 212, 3) := by decide +kernel
theorem dX11_whole_68 : decode cX11_whole 68 = .ok (.invokevirtual 238, 3) := by decide +kernel
set_option maxRecDepth 100000 in
set_option maxHeartbeats 4000000 in
theorem ct_X11_whole_g (l : Launch) (G : kx_G) {M : Nat → Int32} {A : Nat → Nat → Int32} {L : Nat → Nat → Int64} {R : kx_P} {sz : Nat} {n Nl dU : Nat} (h6 : M 6 = nI n) (hn : n ≤ 400) {U : ck_R → ck_R} (hU : ck_gd n U) (hd : 2 ≤ dU) (hUc : ∀ S, ck_sl n 0 S → ck_lv Nl S → kx_M l G sX11_term dU 0 0 [.ref 93] (ck_pW M A L R S) sz none (ck_pW M A L R (U S)) sz) {S : ck_R} (hS : ck_sl n 0 S) (hlv : ck_lv Nl S)  : kx_M l G sX11_whole (dU + 1) 0 0 [.ref 93] (ck_pW M A L R S) sz none (ck_pW M A L R (ck_lpw (A 95) n U (n - (U S).1) (U S))) sz := by
  have hn31 : n < 2 ^ 31 := by omega
  have g1 := hU _ _ hS
  have l1 := ck_lv_g g1 hlv
  generalize hRR : ck_lpw (A 95) n U (n - (U S).1) (U S) = RES
  replace hRR := hRR.symm
  refine kx_mk kx_tab kxLok_X11 (ini := false) [some (.ref 93), none] ⟨by decide, rfl, by decide, by omega⟩ (rfl) rfl rfl (fun g hB hC => ?_)
  have jf : ∀ (a1 : Nat) (b1 k1 o1 : Int32) (c1 : Nat) (C1 N1 : Nat → Int32) (x1 : Option Value), ¬ b1 = -1 → RES = (a1, b1, k1, o1, c1, C1, N1) → g 4 [some (.ref 93), x1] [] (mW (ck_pM M a1 b1 k1 o1 c1) (ck_pA A C1 N1) L R) sz 0 0 := by
    intro a1 b1 k1 o1 c1 C1 N1 x1 hb hE
    refine hB bX11_whole_4 _ _ _ _ _ _ _ kX11_whole_4 ?_
    dsimp only [bX11_whole_4, kx_wp, kx_step, kx_lI, kx_lL, kx_lA, kx_gl, kx_pI, kx_pL, kx_pR, kx_pA, kx_pV, kx_s1, kx_s2, kx_sl, kx_pre, kx_c2, kx_pl, kx_cmp, kx_oF, kx_eqN, kx_nil, kx_c1, kx_ft, kx_aI, kx_aL, kx_aR, kx_ln, Nat.reduceAdd, Option.toList, List.cons_append, List.nil_append, mW_o, mf_7]
    repeat (simp only [mu_7, mW_so, ck_p6, ck_p7, ck_p8, ck_p10, ck_p11, ck_p12, ck_p13, ck_p15, h6, nI_1, ck_pu7, ck_pu10, ck_pu11, ck_pu12, ck_pu13, ck_pu15, ck_pa95, ck_pa96, ck_pa97, ck_pa98, ck_pa99, ck_pem, ck_pau96, ck_pau99, va_us, va_upn, ne_eq, Nat.reduceEqDiff, not_false_eq_true, ck_skk, ck_hck]; try dsimp only [kx_wp, kx_step, kx_lI, kx_lL, kx_lA, kx_gl, kx_pI, kx_pL, kx_pR, kx_pA, kx_pV, kx_s1, kx_s2, kx_sl, kx_pre, kx_c2, kx_pl, kx_cmp, kx_oF, kx_eqN, kx_nil, kx_c1, kx_ft, kx_aI, kx_aL, kx_aR, kx_ln, Nat.reduceAdd, Option.toList, List.cons_append, List.nil_append, mW_o, mf_7])
    repeat' apply And.intro
    all_goals try (first | with_reducible assumption | (with_reducible refine ck_nzI ?_; simp; done) | (with_reducible refine ck_nzL ?_; simp; done) | (with_reducible refine vp_in_nI ?_ ?_ <;> first | omega | decide) | (with_reducible refine Nat.le_of_ble_eq_true ?_; rfl) | omega)
    refine hC.1 212 _ _ _ _ _ _ _ 11 _ _ _ _ _ _ _ _ _ _ _ _ lX11_212 (ct_X11_fine l G) ⟨by decide, rfl⟩ (mW_o) rfl rfl (Nat.le_of_ble_eq_true rfl) (by omega) (by decide) (by omega) (by omega) dX11_whole_5 ?_
    rw [ck_p8, if_neg hb]
    refine hB bX11_whole_8 _ _ _ _ _ _ _ kX11_whole_8 ?_
    dsimp only [bX11_whole_8, kx_wp, kx_step, kx_lI, kx_lL, kx_lA, kx_gl, kx_pI, kx_pL, kx_pR, kx_pA, kx_pV, kx_s1, kx_s2, kx_sl, kx_pre, kx_c2, kx_pl, kx_cmp, kx_oF, kx_eqN, kx_nil, kx_c1, kx_ft, kx_aI, kx_aL, kx_aR, kx_ln, Nat.reduceAdd, Option.toList, List.cons_append, List.nil_append, mW_o, mf_7]
    repeat (simp only [mu_7, mW_so, ck_p6, ck_p7, ck_p8, ck_p10, ck_p11, ck_p12, ck_p13, ck_p15, h6, nI_1, ck_pu7, ck_pu10, ck_pu11, ck_pu12, ck_pu13, ck_pu15, ck_pa95, ck_pa96, ck_pa97, ck_pa98, ck_pa99, ck_pem, ck_pau96, ck_pau99, va_us, va_upn, ne_eq, Nat.reduceEqDiff, not_false_eq_true, ck_skk, ck_hck]; try dsimp only [kx_wp, kx_step, kx_lI, kx_lL, kx_lA, kx_gl, kx_pI, kx_pL, kx_pR, kx_pA, kx_pV, kx_s1, kx_s2, kx_sl, kx_pre, kx_c2, kx_pl, kx_cmp, kx_oF, kx_eqN, kx_nil, kx_c1, kx_ft, kx_aI, kx_aL, kx_aR, kx_ln, Nat.reduceAdd, Option.toList, List.cons_append, List.nil_append, mW_o, mf_7])
    repeat' apply And.intro
    all_goals try (first | with_reducible assumption | (with_reducible refine ck_nzI ?_; simp; done) | (with_reducible refine ck_nzL ?_; simp; done) | (with_reducible refine vp_in_nI ?_ ?_ <;> first | omega | decide) | (with_reducible refine Nat.le_of_ble_eq_true ?_; rfl) | omega)
    · intro zc8
      have ze8 := zc8
      refine hB bX11_whole_74 _ _ _ _ _ _ _ kX11_whole_74 ?_
      dsimp only [bX11_whole_74, kx_wp, kx_step, kx_lI, kx_lL, kx_lA, kx_gl, kx_pI, kx_pL, kx_pR, kx_pA, kx_pV, kx_s1, kx_s2, kx_sl, kx_pre, kx_c2, kx_pl, kx_cmp, kx_oF, kx_eqN, kx_nil, kx_c1, kx_ft, kx_aI, kx_aL, kx_aR, kx_ln, Nat.reduceAdd, Option.toList, List.cons_append, List.nil_append, mW_o, mf_7]
      repeat (simp only [mu_7, mW_so, ck_p6, ck_p7, ck_p8, ck_p10, ck_p11, ck_p12, ck_p13, ck_p15, h6, nI_1, ck_pu7, ck_pu10, ck_pu11, ck_pu12, ck_pu13, ck_pu15, ck_pa95, ck_pa96, ck_pa97, ck_pa98, ck_pa99, ck_pem, ck_pau96, ck_pau99, va_us, va_upn, ne_eq, Nat.reduceEqDiff, not_false_eq_true, ck_skk, ck_hck]; try dsimp only [kx_wp, kx_step, kx_lI, kx_lL, kx_lA, kx_gl, kx_pI, kx_pL, kx_pR, kx_pA, kx_pV, kx_s1, kx_s2, kx_sl, kx_pre, kx_c2, kx_pl, kx_cmp, kx_oF, kx_eqN, kx_nil, kx_c1, kx_ft, kx_aI, kx_aL, kx_aR, kx_ln, Nat.reduceAdd, Option.toList, List.cons_append, List.nil_append, mW_o, mf_7])
      all_goals (repeat' apply And.intro)
      all_goals ((try clear hB hC); first | exact True.intro | with_reducible rfl | with_reducible assumption | exact Nat.le_of_ble_eq_true rfl | (rw [hE]; done) | (rw [hE]; rfl))
    · intro zc8
      first | exact absurd rfl zc8 | exact absurd zc8 (by decide) | exact absurd (by decide) zc8 | (exfalso; first | exact zc8 rfl | exact absurd zc8 (by decide)) | (exfalso; simp_all; done)
  have jn : ∀ (a1 : Nat) (k1 o1 : Int32) (c1 : Nat) (C1 N1 : Nat → Int32) (x1 : Option Value), a1 ≤ n → ¬ ck_hcx (A 95) n a1 = 43 → ¬ ck_hcx (A 95) n a1 = 45 → RES = (ck_sk (A 95) n a1, -1, k1, o1, c1, C1, N1) → g 4 [some (.ref 93), x1] [] (mW (ck_pM M a1 (-1) k1 o1 c1) (ck_pA A C1 N1) L R) sz 0 0 := by
    intro a1 k1 o1 c1 C1 N1 x1 ha hno43 hno45 hE
    have hsa := (ck_sk_le (A 95) ha).2
    refine hB bX11_whole_4 _ _ _ _ _ _ _ kX11_whole_4 ?_
    dsimp only [bX11_whole_4, kx_wp, kx_step, kx_lI, kx_lL, kx_lA, kx_gl, kx_pI, kx_pL, kx_pR, kx_pA, kx_pV, kx_s1, kx_s2, kx_sl, kx_pre, kx_c2, kx_pl, kx_cmp, kx_oF, kx_eqN, kx_nil, kx_c1, kx_ft, kx_aI, kx_aL, kx_aR, kx_ln, Nat.reduceAdd, Option.toList, List.cons_append, List.nil_append, mW_o, mf_7]
    repeat (simp only [mu_7, mW_so, ck_p6, ck_p7, ck_p8, ck_p10, ck_p11, ck_p12, ck_p13, ck_p15, h6, nI_1, ck_pu7, ck_pu10, ck_pu11, ck_pu12, ck_pu13, ck_pu15, ck_pa95, ck_pa96, ck_pa97, ck_pa98, ck_pa99, ck_pem, ck_pau96, ck_pau99, va_us, va_upn, ne_eq, Nat.reduceEqDiff, not_false_eq_true, ck_skk, ck_hck]; try dsimp only [kx_wp, kx_step, kx_lI, kx_lL, kx_lA, kx_gl, kx_pI, kx_pL, kx_pR, kx_pA, kx_pV, kx_s1, kx_s2, kx_sl, kx_pre, kx_c2, kx_pl, kx_cmp, kx_oF, kx_eqN, kx_nil, kx_c1, kx_ft, kx_aI, kx_aL, kx_aR, kx_ln, Nat.reduceAdd, Option.toList, List.cons_append, List.nil_append, mW_o, mf_7])
    repeat' apply And.intro
    all_goals try (first | with_reducible assumption | (with_reducible refine ck_nzI ?_; simp; done) | (with_reducible refine ck_nzL ?_; simp; done) | (with_reducible refine vp_in_nI ?_ ?_ <;> first | omega | decide) | (with_reducible refine Nat.le_of_ble_eq_true ?_; rfl) | omega)
    refine hC.1 212 _ _ _ _ _ _ _ 11 _ _ _ _ _ _ _ _ _ _ _ _ lX11_212 (ct_X11_fine l G) ⟨by decide, rfl⟩ (mW_o) rfl rfl (Nat.le_of_ble_eq_true rfl) (by omega) (by decide) (by omega) (by omega) dX11_whole_5 ?_
    rw [ck_p8, if_pos rfl]
    refine hB bX11_whole_8 _ _ _ _ _ _ _ kX11_whole_8 ?_
    dsimp only [bX11_whole_8, kx_wp, kx_step, kx_lI, kx_lL, kx_lA, kx_gl, kx_pI, kx_pL, kx_pR, kx_pA, kx_pV, kx_s1, kx_s2, kx_sl, kx_pre, kx_c2, kx_pl, kx_cmp, kx_oF, kx_eqN, kx_nil, kx_c1, kx_ft, kx_aI, kx_aL, kx_aR, kx_ln, Nat.reduceAdd, Option.toList, List.cons_append, List.nil_append, mW_o, mf_7]
    repeat (simp only [mu_7, mW_so, ck_p6, ck_p7, ck_p8, ck_p10, ck_p11, ck_p12, ck_p13, ck_p15, h6, nI_1, ck_pu7, ck_pu10, ck_pu11, ck_pu12, ck_pu13, ck_pu15, ck_pa95, ck_pa96, ck_pa97, ck_pa98, ck_pa99, ck_pem, ck_pau96, ck_pau99, va_us, va_upn, ne_eq, Nat.reduceEqDiff, not_false_eq_true, ck_skk, ck_hck]; try dsimp only [kx_wp, kx_step, kx_lI, kx_lL, kx_lA, kx_gl, kx_pI, kx_pL, kx_pR, kx_pA, kx_pV, kx_s1, kx_s2, kx_sl, kx_pre, kx_c2, kx_pl, kx_cmp, kx_oF, kx_eqN, kx_nil, kx_c1, kx_ft, kx_aI, kx_aL, kx_aR, kx_ln, Nat.reduceAdd, Option.toList, List.cons_append, List.nil_append, mW_o, mf_7])
    repeat' apply And.intro
    all_goals try (first | with_reducible assumption | (with_reducible refine ck_nzI ?_; simp; done) | (with_reducible refine ck_nzL ?_; simp; done) | (with_reducible refine vp_in_nI ?_ ?_ <;> first | omega | decide) | (with_reducible refine Nat.le_of_ble_eq_true ?_; rfl) | omega)
    · intro zc8
      first | exact absurd rfl zc8 | exact absurd zc8 (by decide) | exact absurd (by decide) zc8 | (exfalso; first | exact zc8 rfl | exact absurd zc8 (by decide) | exact hno43 zc17 | exact hno43 (Decidable.not_not.mp zc17) | exact hno45 zc26 | exact hno45 (Decidable.not_not.mp zc26)) | (exfalso; simp_all; done)
    · intro zc8
      have ze8 := zc8
      refine hB bX11_whole_11 _ _ _ _ _ _ _ kX11_whole_11 ?_
      dsimp only [bX11_whole_11, kx_wp, kx_step, kx_lI, kx_lL, kx_lA, kx_gl, kx_pI, kx_pL, kx_pR, kx_pA, kx_pV, kx_s1, kx_s2, kx_sl, kx_pre, kx_c2, kx_pl, kx_cmp, kx_oF, kx_eqN, kx_nil, kx_c1, kx_ft, kx_aI, kx_aL, kx_aR, kx_ln, Nat.reduceAdd, Option.toList, List.cons_append, List.nil_append, mW_o, mf_7]
      repeat (simp only [mu_7, mW_so, ck_p6, ck_p7, ck_p8, ck_p10, ck_p11, ck_p12, ck_p13, ck_p15, h6, nI_1, ck_pu7, ck_pu10, ck_pu11, ck_pu12, ck_pu13, ck_pu15, ck_pa95, ck_pa96, ck_pa97, ck_pa98, ck_pa99, ck_pem, ck_pau96, ck_pau99, va_us, va_upn, ne_eq, Nat.reduceEqDiff, not_false_eq_true, ck_skk, ck_hck]; try dsimp only [kx_wp, kx_step, kx_lI, kx_lL, kx_lA, kx_gl, kx_pI, kx_pL, kx_pR, kx_pA, kx_pV, kx_s1, kx_s2, kx_sl, kx_pre, kx_c2, kx_pl, kx_cmp, kx_oF, kx_eqN, kx_nil, kx_c1, kx_ft, kx_aI, kx_aL, kx_aR, kx_ln, Nat.reduceAdd, Option.toList, List.cons_append, List.nil_append, mW_o, mf_7])
      repeat' apply And.intro
      all_goals try (first | with_reducible assumption | (with_reducible refine ck_nzI ?_; simp; done) | (with_reducible refine ck_nzL ?_; simp; done) | (with_reducible refine vp_in_nI ?_ ?_ <;> first | omega | decide) | (with_reducible refine Nat.le_of_ble_eq_true ?_; rfl) | omega)
      refine hC.1 204 _ _ _ _ _ _ _ 11 _ _ _ _ _ _ _ _ _ _ _ _ lX11_204 (ct_X11_here l G h6 hn ha) ⟨by decide, rfl⟩ (mW_o) rfl rfl (Nat.le_of_ble_eq_true rfl) (by omega) (by decide) (by omega) (by omega) dX11_whole_12 ?_
      refine hB bX11_whole_15 _ _ _ _ _ _ _ kX11_whole_15 ?_
      dsimp only [bX11_whole_15, kx_wp, kx_step, kx_lI, kx_lL, kx_lA, kx_gl, kx_pI, kx_pL, kx_pR, kx_pA, kx_pV, kx_s1, kx_s2, kx_sl, kx_pre, kx_c2, kx_pl, kx_cmp, kx_oF, kx_eqN, kx_nil, kx_c1, kx_ft, kx_aI, kx_aL, kx_aR, kx_ln, Nat.reduceAdd, Option.toList, List.cons_append, List.nil_append, mW_o, mf_7]
      repeat (simp only [mu_7, mW_so, ck_p6, ck_p7, ck_p8, ck_p10, ck_p11, ck_p12, ck_p13, ck_p15, h6, nI_1, ck_pu7, ck_pu10, ck_pu11, ck_pu12, ck_pu13, ck_pu15, ck_pa95, ck_pa96, ck_pa97, ck_pa98, ck_pa99, ck_pem, ck_pau96, ck_pau99, va_us, va_upn, ne_eq, Nat.reduceEqDiff, not_false_eq_true, ck_skk, ck_hck]; try dsimp only [kx_wp, kx_step, kx_lI, kx_lL, kx_lA, kx_gl, kx_pI, kx_pL, kx_pR, kx_pA, kx_pV, kx_s1, kx_s2, kx_sl, kx_pre, kx_c2, kx_pl, kx_cmp, kx_oF, kx_eqN, kx_nil, kx_c1, kx_ft, kx_aI, kx_aL, kx_aR, kx_ln, Nat.reduceAdd, Option.toList, List.cons_append, List.nil_append, mW_o, mf_7])
      repeat' apply And.intro
      all_goals try (first | with_reducible assumption | (with_reducible refine ck_nzI ?_; simp; done) | (with_reducible refine ck_nzL ?_; simp; done) | (with_reducible refine vp_in_nI ?_ ?_ <;> first | omega | decide) | (with_reducible refine Nat.le_of_ble_eq_true ?_; rfl) | omega)
      · intro zc17
        first | exact absurd rfl zc17 | exact absurd zc17 (by decide) | exact absurd (by decide) zc17 | (exfalso; first | exact zc8 rfl | exact absurd zc8 (by decide) | exact hno43 zc17 | exact hno43 (Decidable.not_not.mp zc17) | exact hno45 zc26 | exact hno45 (Decidable.not_not.mp zc26)) | (exfalso; simp_all; done)
      · intro zc17
        have ze17 := zc17
        refine hB bX11_whole_20 _ _ _ _ _ _ _ kX11_whole_20 ?_
        dsimp only [bX11_whole_20, kx_wp, kx_step, kx_lI, kx_lL, kx_lA, kx_gl, kx_pI, kx_pL, kx_pR, kx_pA, kx_pV, kx_s1, kx_s2, kx_sl, kx_pre, kx_c2, kx_pl, kx_cmp, kx_oF, kx_eqN, kx_nil, kx_c1, kx_ft, kx_aI, kx_aL, kx_aR, kx_ln, Nat.reduceAdd, Option.toList, List.cons_append, List.nil_append, mW_o, mf_7]
        repeat (simp only [mu_7, mW_so, ck_p6, ck_p7, ck_p8, ck_p10, ck_p11, ck_p12, ck_p13, ck_p15, h6, nI_1, ck_pu7, ck_pu10, ck_pu11, ck_pu12, ck_pu13, ck_pu15, ck_pa95, ck_pa96, ck_pa97, ck_pa98, ck_pa99, ck_pem, ck_pau96, ck_pau99, va_us, va_upn, ne_eq, Nat.reduceEqDiff, not_false_eq_true, ck_skk, ck_hck]; try dsimp only [kx_wp, kx_step, kx_lI, kx_lL, kx_lA, kx_gl, kx_pI, kx_pL, kx_pR, kx_pA, kx_pV, kx_s1, kx_s2, kx_sl, kx_pre, kx_c2, kx_pl, kx_cmp, kx_oF, kx_eqN, kx_nil, kx_c1, kx_ft, kx_aI, kx_aL, kx_aR, kx_ln, Nat.reduceAdd, Option.toList, List.cons_append, List.nil_append, mW_o, mf_7])
        repeat' apply And.intro
        all_goals try (first | with_reducible assumption | (with_reducible refine ck_nzI ?_; simp; done) | (with_reducible refine ck_nzL ?_; simp; done) | (with_reducible refine vp_in_nI ?_ ?_ <;> first | omega | decide) | (with_reducible refine Nat.le_of_ble_eq_true ?_; rfl) | omega)
        refine hC.1 204 _ _ _ _ _ _ _ 11 _ _ _ _ _ _ _ _ _ _ _ _ lX11_204 (ct_X11_here l G h6 hn hsa) ⟨by decide, rfl⟩ (mW_o) rfl rfl (Nat.le_of_ble_eq_true rfl) (by omega) (by decide) (by omega) (by omega) dX11_whole_21 ?_
        refine hB bX11_whole_24 _ _ _ _ _ _ _ kX11_whole_24 ?_
        dsimp only [bX11_whole_24, kx_wp, kx_step, kx_lI, kx_lL, kx_lA, kx_gl, kx_pI, kx_pL, kx_pR, kx_pA, kx_pV, kx_s1, kx_s2, kx_sl, kx_pre, kx_c2, kx_pl, kx_cmp, kx_oF, kx_eqN, kx_nil, kx_c1, kx_ft, kx_aI, kx_aL, kx_aR, kx_ln, Nat.reduceAdd, Option.toList, List.cons_append, List.nil_append, mW_o, mf_7]
        repeat (simp only [mu_7, mW_so, ck_p6, ck_p7, ck_p8, ck_p10, ck_p11, ck_p12, ck_p13, ck_p15, h6, nI_1, ck_pu7, ck_pu10, ck_pu11, ck_pu12, ck_pu13, ck_pu15, ck_pa95, ck_pa96, ck_pa97, ck_pa98, ck_pa99, ck_pem, ck_pau96, ck_pau99, va_us, va_upn, ne_eq, Nat.reduceEqDiff, not_false_eq_true, ck_skk, ck_hck]; try dsimp only [kx_wp, kx_step, kx_lI, kx_lL, kx_lA, kx_gl, kx_pI, kx_pL, kx_pR, kx_pA, kx_pV, kx_s1, kx_s2, kx_sl, kx_pre, kx_c2, kx_pl, kx_cmp, kx_oF, kx_eqN, kx_nil, kx_c1, kx_ft, kx_aI, kx_aL, kx_aR, kx_ln, Nat.reduceAdd, Option.toList, List.cons_append, List.nil_append, mW_o, mf_7])
        repeat' apply And.intro
        all_goals try (first | with_reducible assumption | (with_reducible refine ck_nzI ?_; simp; done) | (with_reducible refine ck_nzL ?_; simp; done) | (with_reducible refine vp_in_nI ?_ ?_ <;> first | omega | decide) | (with_reducible refine Nat.le_of_ble_eq_true ?_; rfl) | omega)
        · intro zc26
          have ze26 := zc26
          refine hB bX11_whole_74 _ _ _ _ _ _ _ kX11_whole_74 ?_
          dsimp only [bX11_whole_74, kx_wp, kx_step, kx_lI, kx_lL, kx_lA, kx_gl, kx_pI, kx_pL, kx_pR, kx_pA, kx_pV, kx_s1, kx_s2, kx_sl, kx_pre, kx_c2, kx_pl, kx_cmp, kx_oF, kx_eqN, kx_nil, kx_c1, kx_ft, kx_aI, kx_aL, kx_aR, kx_ln, Nat.reduceAdd, Option.toList, List.cons_append, List.nil_append, mW_o, mf_7]
          repeat (simp only [mu_7, mW_so, ck_p6, ck_p7, ck_p8, ck_p10, ck_p11, ck_p12, ck_p13, ck_p15, h6, nI_1, ck_pu7, ck_pu10, ck_pu11, ck_pu12, ck_pu13, ck_pu15, ck_pa95, ck_pa96, ck_pa97, ck_pa98, ck_pa99, ck_pem, ck_pau96, ck_pau99, va_us, va_upn, ne_eq, Nat.reduceEqDiff, not_false_eq_true, ck_skk, ck_hck]; try dsimp only [kx_wp, kx_step, kx_lI, kx_lL, kx_lA, kx_gl, kx_pI, kx_pL, kx_pR, kx_pA, kx_pV, kx_s1, kx_s2, kx_sl, kx_pre, kx_c2, kx_pl, kx_cmp, kx_oF, kx_eqN, kx_nil, kx_c1, kx_ft, kx_aI, kx_aL, kx_aR, kx_ln, Nat.reduceAdd, Option.toList, List.cons_append, List.nil_append, mW_o, mf_7])
          all_goals (repeat' apply And.intro)
          all_goals ((try clear hB hC); first | exact True.intro | with_reducible rfl | with_reducible assumption | exact Nat.le_of_ble_eq_true rfl | (rw [hE]; done) | (rw [hE]; rfl))
        · intro zc26
          first | exact absurd rfl zc26 | exact absurd zc26 (by decide) | exact absurd (by decide) zc26 | (exfalso; first | exact zc8 rfl | exact absurd zc8 (by decide) | exact hno43 zc17 | exact hno43 (Decidable.not_not.mp zc17) | exact hno45 zc26 | exact hno45 (Decidable.not_not.mp zc26)) | (exfalso; simp_all; done)
  have loop4 : ∀ (n9 : Nat) (S1 : ck_R) (x1 : Option Value), n - S1.1 ≤ n9 → ck_sl n 0 S1 → ck_lv Nl S1 → RES = ck_lpw (A 95) n U n9 S1 → g 4 [some (.ref 93), x1] [] (ck_pW M A L R S1) sz 0 0 := by
    intro n9
    induction n9 with
    | zero =>
      intro S1 x1 hf hs hl hE
      obtain ⟨a1, b1, k1, o1, c1, C1, N1⟩ := S1
      obtain ⟨ha, hca⟩ := id hs
      rw [ck_lpw, ck_ex] at hE
      dsimp only at hf ha hca hE
      rw [ck_pW_t]
      by_cases hb : b1 = -1
      · subst hb
        rw [if_pos rfl] at hE
        have hz : ck_hcx (A 95) n a1 = 0 := by
          have := ck_sk_le (A 95) ha
          unfold ck_hcx
          rw [if_neg (by omega)]
        exact jn _ _ _ _ _ _ _ ha (by rw [hz]; decide) (by rw [hz]; decide) hE
      · rw [if_neg hb] at hE
        exact jf _ _ _ _ _ _ _ _ hb hE
    | succ n9 ih =>
      intro S1 x1 hf hs hl hE
      obtain ⟨a1, b1, k1, o1, c1, C1, N1⟩ := S1
      obtain ⟨ha, hca⟩ := id hs
      by_cases hb : b1 = -1
      · subst hb
        rw [ck_lpw] at hE
        dsimp only at hf ha hca hE
        by_cases hop : ck_hcx (A 95) n a1 = 43 ∨ ck_hcx (A 95) n a1 = 45
        · rw [if_pos ⟨rfl, hop⟩] at hE
          have hnz : ¬ ck_hcx (A 95) n a1 = 0 := fun e => by rw [e] at hop; revert hop; decide
          have zo := fun ww => ck_one_g (T := A 95) (w := ww) hU hs rfl hnz
          have hsa := ck_sk_le (A 95) ha
          have hlt := ck_hcx_lt hnz
          have hs2 : ck_sl n 1 (ck_sk (A 95) n a1 + 1, -1, k1, o1, c1, C1, N1) := ⟨by show ck_sk (A 95) n a1 + 1 ≤ n; omega, fun _ => by have := hca rfl; show c1 + 1 ≤ ck_sk (A 95) n a1 + 1; omega⟩
          have hl2 : ck_lv Nl (ck_sk (A 95) n a1 + 1, -1, k1, o1, c1, C1, N1) := hl
          have g2 := hU _ _ hs2
          have l2 := ck_lv_g g2 hl2
          rw [ck_pW_t]
          dsimp only [ck_one] at hE zo
          generalize hS2 : U (ck_sk (A 95) n a1 + 1, -1, k1, o1, c1, C1, N1) = S2 at hE zo g2 l2
          obtain ⟨a2, b2, k2, o2, c2, C2, N2⟩ := S2
          dsimp only at hE zo
          obtain ⟨⟨s2a, s2b⟩, -⟩ := id g2
          dsimp only at s2a s2b
          rcases hop with hop | hop
          · have zo3 := zo 4
            rw [if_pos hop] at hE
            refine hB bX11_whole_4 _ _ _ _ _ _ _ kX11_whole_4 ?_
            dsimp only [bX11_whole_4, kx_wp, kx_step, kx_lI, kx_lL, kx_lA, kx_gl, kx_pI, kx_pL, kx_pR, kx_pA, kx_pV, kx_s1, kx_s2, kx_sl, kx_pre, kx_c2, kx_pl, kx_cmp, kx_oF, kx_eqN, kx_nil, kx_c1, kx_ft, kx_aI, kx_aL, kx_aR, kx_ln, Nat.reduceAdd, Option.toList, List.cons_append, List.nil_append, mW_o, mf_7]
            repeat (simp only [mu_7, mW_so, ck_p6, ck_p7, ck_p8, ck_p10, ck_p11, ck_p12, ck_p13, ck_p15, h6, nI_1, ck_pu7, ck_pu10, ck_pu11, ck_pu12, ck_pu13, ck_pu15, ck_pa95, ck_pa96, ck_pa97, ck_pa98, ck_pa99, ck_pem, ck_pau96, ck_pau99, va_us, va_upn, ne_eq, Nat.reduceEqDiff, not_false_eq_true, ck_skk, ck_hck, hop]; try dsimp only [kx_wp, kx_step, kx_lI, kx_lL, kx_lA, kx_gl, kx_pI, kx_pL, kx_pR, kx_pA, kx_pV, kx_s1, kx_s2, kx_sl, kx_pre, kx_c2, kx_pl, kx_cmp, kx_oF, kx_eqN, kx_nil, kx_c1, kx_ft, kx_aI, kx_aL, kx_aR, kx_ln, Nat.reduceAdd, Option.toList, List.cons_append, List.nil_append, mW_o, mf_7])
            repeat' apply And.intro
            all_goals try (first | with_reducible assumption | (with_reducible refine ck_nzI ?_; simp; done) | (with_reducible refine ck_nzL ?_; simp; done) | (with_reducible refine vp_in_nI ?_ ?_ <;> first | omega | decide) | (with_reducible refine Nat.le_of_ble_eq_true ?_; rfl) | omega)
            refine hC.1 212 _ _ _ _ _ _ _ 11 _ _ _ _ _ _ _ _ _ _ _ _ lX11_212 (ct_X11_fine l G) ⟨by decide, rfl⟩ (mW_o) rfl rfl (Nat.le_of_ble_eq_true rfl) (by omega) (by decide) (by omega) (by omega) dX11_whole_5 ?_
            rw [ck_p8, if_pos rfl]
            refine hB bX11_whole_8 _ _ _ _ _ _ _ kX11_whole_8 ?_
            dsimp only [bX11_whole_8, kx_wp, kx_step, kx_lI, kx_lL, kx_lA, kx_gl, kx_pI, kx_pL, kx_pR, kx_pA, kx_pV, kx_s1, kx_s2, kx_sl, kx_pre, kx_c2, kx_pl, kx_cmp, kx_oF, kx_eqN, kx_nil, kx_c1, kx_ft, kx_aI, kx_aL, kx_aR, kx_ln, Nat.reduceAdd, Option.toList, List.cons_append, List.nil_append, mW_o, mf_7]
            repeat (simp only [mu_7, mW_so, ck_p6, ck_p7, ck_p8, ck_p10, ck_p11, ck_p12, ck_p13, ck_p15, h6, nI_1, ck_pu7, ck_pu10, ck_pu11, ck_pu12, ck_pu13, ck_pu15, ck_pa95, ck_pa96, ck_pa97, ck_pa98, ck_pa99, ck_pem, ck_pau96, ck_pau99, va_us, va_upn, ne_eq, Nat.reduceEqDiff, not_false_eq_true, ck_skk, ck_hck, hop]; try dsimp only [kx_wp, kx_step, kx_lI, kx_lL, kx_lA, kx_gl, kx_pI, kx_pL, kx_pR, kx_pA, kx_pV, kx_s1, kx_s2, kx_sl, kx_pre, kx_c2, kx_pl, kx_cmp, kx_oF, kx_eqN, kx_nil, kx_c1, kx_ft, kx_aI, kx_aL, kx_aR, kx_ln, Nat.reduceAdd, Option.toList, List.cons_append, List.nil_append, mW_o, mf_7])
            repeat' apply And.intro
            all_goals try (first | with_reducible assumption | (with_reducible refine ck_nzI ?_; simp; done) | (with_reducible refine ck_nzL ?_; simp; done) | (with_reducible refine vp_in_nI ?_ ?_ <;> first | omega | decide) | (with_reducible refine Nat.le_of_ble_eq_true ?_; rfl) | omega)
            · intro zc8
              first | exact absurd rfl zc8 | exact absurd zc8 (by decide) | exact absurd (by decide) zc8 | (exfalso; first | exact zc8 rfl | exact absurd zc8 (by decide) | exact zc17 rfl | exact absurd zc17 (by decide) | exact zc17 (by decide) | exact zc26 rfl | exact absurd zc26 (by decide) | exact zc26 (by decide) | exact zc59 rfl | exact absurd zc59 (by decide) | exact zc59 (by decide) | exact zc52 rfl | exact absurd zc52 (by decide)) | (exfalso; simp_all; done)
            · intro zc8
              have ze8 := zc8
              refine hB bX11_whole_11 _ _ _ _ _ _ _ kX11_whole_11 ?_
              dsimp only [bX11_whole_11, kx_wp, kx_step, kx_lI, kx_lL, kx_lA, kx_gl, kx_pI, kx_pL, kx_pR, kx_pA, kx_pV, kx_s1, kx_s2, kx_sl, kx_pre, kx_c2, kx_pl, kx_cmp, kx_oF, kx_eqN, kx_nil, kx_c1, kx_ft, kx_aI, kx_aL, kx_aR, kx_ln, Nat.reduceAdd, Option.toList, List.cons_append, List.nil_append, mW_o, mf_7]
              repeat (simp only [mu_7, mW_so, ck_p6, ck_p7, ck_p8, ck_p10, ck_p11, ck_p12, ck_p13, ck_p15, h6, nI_1, ck_pu7, ck_pu10, ck_pu11, ck_pu12, ck_pu13, ck_pu15, ck_pa95, ck_pa96, ck_pa97, ck_pa98, ck_pa99, ck_pem, ck_pau96, ck_pau99, va_us, va_upn, ne_eq, Nat.reduceEqDiff, not_false_eq_true, ck_skk, ck_hck, hop]; try dsimp only [kx_wp, kx_step, kx_lI, kx_lL, kx_lA, kx_gl, kx_pI, kx_pL, kx_pR, kx_pA, kx_pV, kx_s1, kx_s2, kx_sl, kx_pre, kx_c2, kx_pl, kx_cmp, kx_oF, kx_eqN, kx_nil, kx_c1, kx_ft, kx_aI, kx_aL, kx_aR, kx_ln, Nat.reduceAdd, Option.toList, List.cons_append, List.nil_append, mW_o, mf_7])
              repeat' apply And.intro
              all_goals try (first | with_reducible assumption | (with_reducible refine ck_nzI ?_; simp; done) | (with_reducible refine ck_nzL ?_; simp; done) | (with_reducible refine vp_in_nI ?_ ?_ <;> first | omega | decide) | (with_reducible refine Nat.le_of_ble_eq_true ?_; rfl) | omega)
              refine hC.1 204 _ _ _ _ _ _ _ 11 _ _ _ _ _ _ _ _ _ _ _ _ lX11_204 (ct_X11_here l G h6 hn ha) ⟨by decide, rfl⟩ (mW_o) rfl rfl (Nat.le_of_ble_eq_true rfl) (by omega) (by decide) (by omega) (by omega) dX11_whole_12 ?_
              refine hB bX11_whole_15 _ _ _ _ _ _ _ kX11_whole_15 ?_
              dsimp only [bX11_whole_15, kx_wp, kx_step, kx_lI, kx_lL, kx_lA, kx_gl, kx_pI, kx_pL, kx_pR, kx_pA, kx_pV, kx_s1, kx_s2, kx_sl, kx_pre, kx_c2, kx_pl, kx_cmp, kx_oF, kx_eqN, kx_nil, kx_c1, kx_ft, kx_aI, kx_aL, kx_aR, kx_ln, Nat.reduceAdd, Option.toList, List.cons_append, List.nil_append, mW_o, mf_7]
              repeat (simp only [mu_7, mW_so, ck_p6, ck_p7, ck_p8, ck_p10, ck_p11, ck_p12, ck_p13, ck_p15, h6, nI_1, ck_pu7, ck_pu10, ck_pu11, ck_pu12, ck_pu13, ck_pu15, ck_pa95, ck_pa96, ck_pa97, ck_pa98, ck_pa99, ck_pem, ck_pau96, ck_pau99, va_us, va_upn, ne_eq, Nat.reduceEqDiff, not_false_eq_true, ck_skk, ck_hck, hop]; try dsimp only [kx_wp, kx_step, kx_lI, kx_lL, kx_lA, kx_gl, kx_pI, kx_pL, kx_pR, kx_pA, kx_pV, kx_s1, kx_s2, kx_sl, kx_pre, kx_c2, kx_pl, kx_cmp, kx_oF, kx_eqN, kx_nil, kx_c1, kx_ft, kx_aI, kx_aL, kx_aR, kx_ln, Nat.reduceAdd, Option.toList, List.cons_append, List.nil_append, mW_o, mf_7])
              repeat' apply And.intro
              all_goals try (first | with_reducible assumption | (with_reducible refine ck_nzI ?_; simp; done) | (with_reducible refine ck_nzL ?_; simp; done) | (with_reducible refine vp_in_nI ?_ ?_ <;> first | omega | decide) | (with_reducible refine Nat.le_of_ble_eq_true ?_; rfl) | omega)
              · intro zc17
                have ze17 := zc17
                refine hB bX11_whole_29 _ _ _ _ _ _ _ kX11_whole_29 ?_
                dsimp only [bX11_whole_29, kx_wp, kx_step, kx_lI, kx_lL, kx_lA, kx_gl, kx_pI, kx_pL, kx_pR, kx_pA, kx_pV, kx_s1, kx_s2, kx_sl, kx_pre, kx_c2, kx_pl, kx_cmp, kx_oF, kx_eqN, kx_nil, kx_c1, kx_ft, kx_aI, kx_aL, kx_aR, kx_ln, Nat.reduceAdd, Option.toList, List.cons_append, List.nil_append, mW_o, mf_7]
                repeat (simp only [mu_7, mW_so, ck_p6, ck_p7, ck_p8, ck_p10, ck_p11, ck_p12, ck_p13, ck_p15, h6, nI_1, ck_pu7, ck_pu10, ck_pu11, ck_pu12, ck_pu13, ck_pu15, ck_pa95, ck_pa96, ck_pa97, ck_pa98, ck_pa99, ck_pem, ck_pau96, ck_pau99, va_us, va_upn, ne_eq, Nat.reduceEqDiff, not_false_eq_true, ck_skk, ck_hck, hop]; try dsimp only [kx_wp, kx_step, kx_lI, kx_lL, kx_lA, kx_gl, kx_pI, kx_pL, kx_pR, kx_pA, kx_pV, kx_s1, kx_s2, kx_sl, kx_pre, kx_c2, kx_pl, kx_cmp, kx_oF, kx_eqN, kx_nil, kx_c1, kx_ft, kx_aI, kx_aL, kx_aR, kx_ln, Nat.reduceAdd, Option.toList, List.cons_append, List.nil_append, mW_o, mf_7])
                repeat' apply And.intro
                all_goals try (first | with_reducible assumption | (with_reducible refine ck_nzI ?_; simp; done) | (with_reducible refine ck_nzL ?_; simp; done) | (with_reducible refine vp_in_nI ?_ ?_ <;> first | omega | decide) | (with_reducible refine Nat.le_of_ble_eq_true ?_; rfl) | omega)
                refine hC.1 204 _ _ _ _ _ _ _ 11 _ _ _ _ _ _ _ _ _ _ _ _ lX11_204 (ct_X11_here l G h6 hn hsa.2) ⟨by decide, rfl⟩ (mW_o) rfl rfl (Nat.le_of_ble_eq_true rfl) (by omega) (by decide) (by omega) (by omega) dX11_whole_30 ?_
                refine hB bX11_whole_33 _ _ _ _ _ _ _ kX11_whole_33 ?_
                dsimp only [bX11_whole_33, kx_wp, kx_step, kx_lI, kx_lL, kx_lA, kx_gl, kx_pI, kx_pL, kx_pR, kx_pA, kx_pV, kx_s1, kx_s2, kx_sl, kx_pre, kx_c2, kx_pl, kx_cmp, kx_oF, kx_eqN, kx_nil, kx_c1, kx_ft, kx_aI, kx_aL, kx_aR, kx_ln, Nat.reduceAdd, Option.toList, List.cons_append, List.nil_append, mW_o, mf_7]
                repeat (simp only [mu_7, mW_so, ck_p6, ck_p7, ck_p8, ck_p10, ck_p11, ck_p12, ck_p13, ck_p15, h6, nI_1, ck_pu7, ck_pu10, ck_pu11, ck_pu12, ck_pu13, ck_pu15, ck_pa95, ck_pa96, ck_pa97, ck_pa98, ck_pa99, ck_pem, ck_pau96, ck_pau99, va_us, va_upn, ne_eq, Nat.reduceEqDiff, not_false_eq_true, ck_skk, ck_hck, hop]; try dsimp only [kx_wp, kx_step, kx_lI, kx_lL, kx_lA, kx_gl, kx_pI, kx_pL, kx_pR, kx_pA, kx_pV, kx_s1, kx_s2, kx_sl, kx_pre, kx_c2, kx_pl, kx_cmp, kx_oF, kx_eqN, kx_nil, kx_c1, kx_ft, kx_aI, kx_aL, kx_aR, kx_ln, Nat.reduceAdd, Option.toList, List.cons_append, List.nil_append, mW_o, mf_7])
                repeat' apply And.intro
                all_goals try (first | with_reducible assumption | (with_reducible refine ck_nzI ?_; simp; done) | (with_reducible refine ck_nzL ?_; simp; done) | (with_reducible refine vp_in_nI ?_ ?_ <;> first | omega | decide) | (with_reducible refine Nat.le_of_ble_eq_true ?_; rfl) | omega)
                refine hC.1 271 _ _ _ _ _ _ _ 11 _ _ _ _ _ _ _ _ _ _ _ _ lX11_271 (hUc (ck_sk (A 95) n a1 + 1, -1, k1, o1, c1, C1, N1) (ck_sl_0 hs2) hl2) ⟨by decide, rfl⟩ (mW_o) rfl rfl (Nat.le_of_ble_eq_true rfl) (by omega) (by decide) (by omega) (by omega) dX11_whole_45 ?_
                rw [hS2, ck_pW_t]
                refine hB bX11_whole_48 _ _ _ _ _ _ _ kX11_whole_48 ?_
                dsimp only [bX11_whole_48, kx_wp, kx_step, kx_lI, kx_lL, kx_lA, kx_gl, kx_pI, kx_pL, kx_pR, kx_pA, kx_pV, kx_s1, kx_s2, kx_sl, kx_pre, kx_c2, kx_pl, kx_cmp, kx_oF, kx_eqN, kx_nil, kx_c1, kx_ft, kx_aI, kx_aL, kx_aR, kx_ln, Nat.reduceAdd, Option.toList, List.cons_append, List.nil_append, mW_o, mf_7]
                repeat (simp only [mu_7, mW_so, ck_p6, ck_p7, ck_p8, ck_p10, ck_p11, ck_p12, ck_p13, ck_p15, h6, nI_1, ck_pu7, ck_pu10, ck_pu11, ck_pu12, ck_pu13, ck_pu15, ck_pa95, ck_pa96, ck_pa97, ck_pa98, ck_pa99, ck_pem, ck_pau96, ck_pau99, va_us, va_upn, ne_eq, Nat.reduceEqDiff, not_false_eq_true, ck_skk, ck_hck, hop]; try dsimp only [kx_wp, kx_step, kx_lI, kx_lL, kx_lA, kx_gl, kx_pI, kx_pL, kx_pR, kx_pA, kx_pV, kx_s1, kx_s2, kx_sl, kx_pre, kx_c2, kx_pl, kx_cmp, kx_oF, kx_eqN, kx_nil, kx_c1, kx_ft, kx_aI, kx_aL, kx_aR, kx_ln, Nat.reduceAdd, Option.toList, List.cons_append, List.nil_append, mW_o, mf_7])
                repeat' apply And.intro
                all_goals try (first | with_reducible assumption | (with_reducible refine ck_nzI ?_; simp; done) | (with_reducible refine ck_nzL ?_; simp; done) | (with_reducible refine vp_in_nI ?_ ?_ <;> first | omega | decide) | (with_reducible refine Nat.le_of_ble_eq_true ?_; rfl) | omega)
                refine hC.1 212 _ _ _ _ _ _ _ 11 _ _ _ _ _ _ _ _ _ _ _ _ lX11_212 (ct_X11_fine l G) ⟨by decide, rfl⟩ (mW_o) rfl rfl (Nat.le_of_ble_eq_true rfl) (by omega) (by decide) (by omega) (by omega) dX11_whole_49 ?_
                rw [ck_p8]
                by_cases hb2 : b2 = -1
                · subst hb2
                  rw [if_pos rfl] at zo3 hE ⊢
                  have s2c := s2b rfl
                  refine hB bX11_whole_52 _ _ _ _ _ _ _ kX11_whole_52 ?_
                  dsimp only [bX11_whole_52, kx_wp, kx_step, kx_lI, kx_lL, kx_lA, kx_gl, kx_pI, kx_pL, kx_pR, kx_pA, kx_pV, kx_s1, kx_s2, kx_sl, kx_pre, kx_c2, kx_pl, kx_cmp, kx_oF, kx_eqN, kx_nil, kx_c1, kx_ft, kx_aI, kx_aL, kx_aR, kx_ln, Nat.reduceAdd, Option.toList, List.cons_append, List.nil_append, mW_o, mf_7]
                  repeat (simp only [mu_7, mW_so, ck_p6, ck_p7, ck_p8, ck_p10, ck_p11, ck_p12, ck_p13, ck_p15, h6, nI_1, ck_pu7, ck_pu10, ck_pu11, ck_pu12, ck_pu13, ck_pu15, ck_pa95, ck_pa96, ck_pa97, ck_pa98, ck_pa99, ck_pem, ck_pau96, ck_pau99, va_us, va_upn, ne_eq, Nat.reduceEqDiff, not_false_eq_true, ck_skk, ck_hck, hop]; try dsimp only [kx_wp, kx_step, kx_lI, kx_lL, kx_lA, kx_gl, kx_pI, kx_pL, kx_pR, kx_pA, kx_pV, kx_s1, kx_s2, kx_sl, kx_pre, kx_c2, kx_pl, kx_cmp, kx_oF, kx_eqN, kx_nil, kx_c1, kx_ft, kx_aI, kx_aL, kx_aR, kx_ln, Nat.reduceAdd, Option.toList, List.cons_append, List.nil_append, mW_o, mf_7])
                  repeat' apply And.intro
                  all_goals try (first | with_reducible assumption | (with_reducible refine ck_nzI ?_; simp; done) | (with_reducible refine ck_nzL ?_; simp; done) | (with_reducible refine vp_in_nI ?_ ?_ <;> first | omega | decide) | (with_reducible refine Nat.le_of_ble_eq_true ?_; rfl) | omega)
                  · intro zc52
                    first | exact absurd rfl zc52 | exact absurd zc52 (by decide) | exact absurd (by decide) zc52 | (exfalso; first | exact zc8 rfl | exact absurd zc8 (by decide) | exact zc17 rfl | exact absurd zc17 (by decide) | exact zc17 (by decide) | exact zc26 rfl | exact absurd zc26 (by decide) | exact zc26 (by decide) | exact zc59 rfl | exact absurd zc59 (by decide) | exact zc59 (by decide) | exact zc52 rfl | exact absurd zc52 (by decide)) | (exfalso; simp_all; done)
                  · intro zc52
                    have ze52 := zc52
                    refine hB bX11_whole_55 _ _ _ _ _ _ _ kX11_whole_55 ?_
                    dsimp only [bX11_whole_55, kx_wp, kx_step, kx_lI, kx_lL, kx_lA, kx_gl, kx_pI, kx_pL, kx_pR, kx_pA, kx_pV, kx_s1, kx_s2, kx_sl, kx_pre, kx_c2, kx_pl, kx_cmp, kx_oF, kx_eqN, kx_nil, kx_c1, kx_ft, kx_aI, kx_aL, kx_aR, kx_ln, Nat.reduceAdd, Option.toList, List.cons_append, List.nil_append, mW_o, mf_7]
                    repeat (simp only [mu_7, mW_so, ck_p6, ck_p7, ck_p8, ck_p10, ck_p11, ck_p12, ck_p13, ck_p15, h6, nI_1, ck_pu7, ck_pu10, ck_pu11, ck_pu12, ck_pu13, ck_pu15, ck_pa95, ck_pa96, ck_pa97, ck_pa98, ck_pa99, ck_pem, ck_pau96, ck_pau99, va_us, va_upn, ne_eq, Nat.reduceEqDiff, not_false_eq_true, ck_skk, ck_hck, hop]; try dsimp only [kx_wp, kx_step, kx_lI, kx_lL, kx_lA, kx_gl, kx_pI, kx_pL, kx_pR, kx_pA, kx_pV, kx_s1, kx_s2, kx_sl, kx_pre, kx_c2, kx_pl, kx_cmp, kx_oF, kx_eqN, kx_nil, kx_c1, kx_ft, kx_aI, kx_aL, kx_aR, kx_ln, Nat.reduceAdd, Option.toList, List.cons_append, List.nil_append, mW_o, mf_7])
                    repeat' apply And.intro
                    all_goals try (first | with_reducible assumption | (with_reducible refine ck_nzI ?_; simp; done) | (with_reducible refine ck_nzL ?_; simp; done) | (with_reducible refine vp_in_nI ?_ ?_ <;> first | omega | decide) | (with_reducible refine Nat.le_of_ble_eq_true ?_; rfl) | omega)
                    · intro zc59
                      first | exact absurd rfl zc59 | exact absurd zc59 (by decide) | exact absurd (by decide) zc59 | (exfalso; first | exact zc8 rfl | exact absurd zc8 (by decide) | exact zc17 rfl | exact absurd zc17 (by decide) | exact zc17 (by decide) | exact zc26 rfl | exact absurd zc26 (by decide) | exact zc26 (by decide) | exact zc59 rfl | exact absurd zc59 (by decide) | exact zc59 (by decide) | exact zc52 rfl | exact absurd zc52 (by decide)) | (exfalso; simp_all; done)
                    · intro zc59
                      with_reducible first | have ze59 := Decidable.not_not.mp zc59 | have ze59 := zc59
                      refine hB bX11_whole_62 _ _ _ _ _ _ _ kX11_whole_62 ?_
                      dsimp only [bX11_whole_62, kx_wp, kx_step, kx_lI, kx_lL, kx_lA, kx_gl, kx_pI, kx_pL, kx_pR, kx_pA, kx_pV, kx_s1, kx_s2, kx_sl, kx_pre, kx_c2, kx_pl, kx_cmp, kx_oF, kx_eqN, kx_nil, kx_c1, kx_ft, kx_aI, kx_aL, kx_aR, kx_ln, Nat.reduceAdd, Option.toList, List.cons_append, List.nil_append, mW_o, mf_7]
                      repeat (simp only [mu_7, mW_so, ck_p6, ck_p7, ck_p8, ck_p10, ck_p11, ck_p12, ck_p13, ck_p15, h6, nI_1, ck_pu7, ck_pu10, ck_pu11, ck_pu12, ck_pu13, ck_pu15, ck_pa95, ck_pa96, ck_pa97, ck_pa98, ck_pa99, ck_pem, ck_pau96, ck_pau99, va_us, va_upn, ne_eq, Nat.reduceEqDiff, not_false_eq_true, ck_skk, ck_hck, hop]; try dsimp only [kx_wp, kx_step, kx_lI, kx_lL, kx_lA, kx_gl, kx_pI, kx_pL, kx_pR, kx_pA, kx_pV, kx_s1, kx_s2, kx_sl, kx_pre, kx_c2, kx_pl, kx_cmp, kx_oF, kx_eqN, kx_nil, kx_c1, kx_ft, kx_aI, kx_aL, kx_aR, kx_ln, Nat.reduceAdd, Option.toList, List.cons_append, List.nil_append, mW_o, mf_7])
                      repeat' apply And.intro
                      all_goals try (first | with_reducible assumption | (with_reducible refine ck_nzI ?_; simp; done) | (with_reducible refine ck_nzL ?_; simp; done) | (with_reducible refine vp_in_nI ?_ ?_ <;> first | omega | decide) | (with_reducible refine Nat.le_of_ble_eq_true ?_; rfl) | omega)
                      refine hB bX11_whole_67 _ _ _ _ _ _ _ kX11_whole_67 ?_
                      dsimp only [bX11_whole_67, kx_wp, kx_step, kx_lI, kx_lL, kx_lA, kx_gl, kx_pI, kx_pL, kx_pR, kx_pA, kx_pV, kx_s1, kx_s2, kx_sl, kx_pre, kx_c2, kx_pl, kx_cmp, kx_oF, kx_eqN, kx_nil, kx_c1, kx_ft, kx_aI, kx_aL, kx_aR, kx_ln, Nat.reduceAdd, Option.toList, List.cons_append, List.nil_append, mW_o, mf_7]
                      repeat (simp only [mu_7, mW_so, ck_p6, ck_p7, ck_p8, ck_p10, ck_p11, ck_p12, ck_p13, ck_p15, h6, nI_1, ck_pu7, ck_pu10, ck_pu11, ck_pu12, ck_pu13, ck_pu15, ck_pa95, ck_pa96, ck_pa97, ck_pa98, ck_pa99, ck_pem, ck_pau96, ck_pau99, va_us, va_upn, ne_eq, Nat.reduceEqDiff, not_false_eq_true, ck_skk, ck_hck, hop]; try dsimp only [kx_wp, kx_step, kx_lI, kx_lL, kx_lA, kx_gl, kx_pI, kx_pL, kx_pR, kx_pA, kx_pV, kx_s1, kx_s2, kx_sl, kx_pre, kx_c2, kx_pl, kx_cmp, kx_oF, kx_eqN, kx_nil, kx_c1, kx_ft, kx_aI, kx_aL, kx_aR, kx_ln, Nat.reduceAdd, Option.toList, List.cons_append, List.nil_append, mW_o, mf_7])
                      repeat' apply And.intro
                      all_goals try (first | with_reducible assumption | (with_reducible refine ck_nzI ?_; simp; done) | (with_reducible refine ck_nzL ?_; simp; done) | (with_reducible refine vp_in_nI ?_ ?_ <;> first | omega | decide) | (with_reducible refine Nat.le_of_ble_eq_true ?_; rfl) | omega)
                      refine hC.1 238 _ _ _ _ _ _ _ 11 _ _ _ _ _ _ _ _ _ _ _ _ lX11_238 (ct_X11_emit l G (k := c2) (M := ck_pM M a2 (-1) k2 o2 c2) (A := ck_pA A C2 N2) rfl (by omega)) ⟨by decide, rfl⟩ (mW_o) rfl rfl (Nat.le_of_ble_eq_true rfl) (by omega) (by decide) (by omega) (by omega) dX11_whole_68 ?_
                      refine hB bX11_whole_71 _ _ _ _ _ _ _ kX11_whole_71 ?_
                      dsimp only [bX11_whole_71, kx_wp, kx_step, kx_lI, kx_lL, kx_lA, kx_gl, kx_pI, kx_pL, kx_pR, kx_pA, kx_pV, kx_s1, kx_s2, kx_sl, kx_pre, kx_c2, kx_pl, kx_cmp, kx_oF, kx_eqN, kx_nil, kx_c1, kx_ft, kx_aI, kx_aL, kx_aR, kx_ln, Nat.reduceAdd, Option.toList, List.cons_append, List.nil_append, mW_o, mf_7]
                      repeat (simp only [mu_7, mW_so, ck_p6, ck_p7, ck_p8, ck_p10, ck_p11, ck_p12, ck_p13, ck_p15, h6, nI_1, ck_pu7, ck_pu10, ck_pu11, ck_pu12, ck_pu13, ck_pu15, ck_pa95, ck_pa96, ck_pa97, ck_pa98, ck_pa99, ck_pem, ck_pau96, ck_pau99, va_us, va_upn, ne_eq, Nat.reduceEqDiff, not_false_eq_true, ck_skk, ck_hck, hop]; try dsimp only [kx_wp, kx_step, kx_lI, kx_lL, kx_lA, kx_gl, kx_pI, kx_pL, kx_pR, kx_pA, kx_pV, kx_s1, kx_s2, kx_sl, kx_pre, kx_c2, kx_pl, kx_cmp, kx_oF, kx_eqN, kx_nil, kx_c1, kx_ft, kx_aI, kx_aL, kx_aR, kx_ln, Nat.reduceAdd, Option.toList, List.cons_append, List.nil_append, mW_o, mf_7])
                      repeat' apply And.intro
                      all_goals try (first | with_reducible assumption | (with_reducible refine ck_nzI ?_; simp; done) | (with_reducible refine ck_nzL ?_; simp; done) | (with_reducible refine vp_in_nI ?_ ?_ <;> first | omega | decide) | (with_reducible refine Nat.le_of_ble_eq_true ?_; rfl) | omega)
                      all_goals exact ih (ck_emR 4 0 (a2, -1, k2, o2, c2, C2, N2)) _ (by have := zo3.2; omega) zo3.1.1 (ck_lv_g zo3.1 hl) hE
                · rw [if_neg hb2] at zo3 hE ⊢
                  refine hB bX11_whole_52 _ _ _ _ _ _ _ kX11_whole_52 ?_
                  dsimp only [bX11_whole_52, kx_wp, kx_step, kx_lI, kx_lL, kx_lA, kx_gl, kx_pI, kx_pL, kx_pR, kx_pA, kx_pV, kx_s1, kx_s2, kx_sl, kx_pre, kx_c2, kx_pl, kx_cmp, kx_oF, kx_eqN, kx_nil, kx_c1, kx_ft, kx_aI, kx_aL, kx_aR, kx_ln, Nat.reduceAdd, Option.toList, List.cons_append, List.nil_append, mW_o, mf_7]
                  repeat (simp only [mu_7, mW_so, ck_p6, ck_p7, ck_p8, ck_p10, ck_p11, ck_p12, ck_p13, ck_p15, h6, nI_1, ck_pu7, ck_pu10, ck_pu11, ck_pu12, ck_pu13, ck_pu15, ck_pa95, ck_pa96, ck_pa97, ck_pa98, ck_pa99, ck_pem, ck_pau96, ck_pau99, va_us, va_upn, ne_eq, Nat.reduceEqDiff, not_false_eq_true, ck_skk, ck_hck, hop]; try dsimp only [kx_wp, kx_step, kx_lI, kx_lL, kx_lA, kx_gl, kx_pI, kx_pL, kx_pR, kx_pA, kx_pV, kx_s1, kx_s2, kx_sl, kx_pre, kx_c2, kx_pl, kx_cmp, kx_oF, kx_eqN, kx_nil, kx_c1, kx_ft, kx_aI, kx_aL, kx_aR, kx_ln, Nat.reduceAdd, Option.toList, List.cons_append, List.nil_append, mW_o, mf_7])
                  repeat' apply And.intro
                  all_goals try (first | with_reducible assumption | (with_reducible refine ck_nzI ?_; simp; done) | (with_reducible refine ck_nzL ?_; simp; done) | (with_reducible refine vp_in_nI ?_ ?_ <;> first | omega | decide) | (with_reducible refine Nat.le_of_ble_eq_true ?_; rfl) | omega)
                  · intro zc52
                    have ze52 := zc52
                    refine hB bX11_whole_71 _ _ _ _ _ _ _ kX11_whole_71 ?_
                    dsimp only [bX11_whole_71, kx_wp, kx_step, kx_lI, kx_lL, kx_lA, kx_gl, kx_pI, kx_pL, kx_pR, kx_pA, kx_pV, kx_s1, kx_s2, kx_sl, kx_pre, kx_c2, kx_pl, kx_cmp, kx_oF, kx_eqN, kx_nil, kx_c1, kx_ft, kx_aI, kx_aL, kx_aR, kx_ln, Nat.reduceAdd, Option.toList, List.cons_append, List.nil_append, mW_o, mf_7]
                    repeat (simp only [mu_7, mW_so, ck_p6, ck_p7, ck_p8, ck_p10, ck_p11, ck_p12, ck_p13, ck_p15, h6, nI_1, ck_pu7, ck_pu10, ck_pu11, ck_pu12, ck_pu13, ck_pu15, ck_pa95, ck_pa96, ck_pa97, ck_pa98, ck_pa99, ck_pem, ck_pau96, ck_pau99, va_us, va_upn, ne_eq, Nat.reduceEqDiff, not_false_eq_true, ck_skk, ck_hck, hop]; try dsimp only [kx_wp, kx_step, kx_lI, kx_lL, kx_lA, kx_gl, kx_pI, kx_pL, kx_pR, kx_pA, kx_pV, kx_s1, kx_s2, kx_sl, kx_pre, kx_c2, kx_pl, kx_cmp, kx_oF, kx_eqN, kx_nil, kx_c1, kx_ft, kx_aI, kx_aL, kx_aR, kx_ln, Nat.reduceAdd, Option.toList, List.cons_append, List.nil_append, mW_o, mf_7])
                    repeat' apply And.intro
                    all_goals try (first | with_reducible assumption | (with_reducible refine ck_nzI ?_; simp; done) | (with_reducible refine ck_nzL ?_; simp; done) | (with_reducible refine vp_in_nI ?_ ?_ <;> first | omega | decide) | (with_reducible refine Nat.le_of_ble_eq_true ?_; rfl) | omega)
                    all_goals exact ih (a2, b2, k2, o2, c2, C2, N2) _ (by have := zo3.2; dsimp only at this ⊢; omega) zo3.1.1 (ck_lv_g zo3.1 hl) hE
                  · intro zc52
                    first | exact absurd rfl zc52 | exact absurd zc52 (by decide) | exact absurd (by decide) zc52 | (exfalso; first | exact zc8 rfl | exact absurd zc8 (by decide) | exact zc17 rfl | exact absurd zc17 (by decide) | exact zc17 (by decide) | exact zc26 rfl | exact absurd zc26 (by decide) | exact zc26 (by decide) | exact zc59 rfl | exact absurd zc59 (by decide) | exact zc59 (by decide) | exact zc52 rfl | exact absurd zc52 (by decide)) | (exfalso; simp_all; done)
              · intro zc17
                first | exact absurd rfl zc17 | exact absurd zc17 (by decide) | exact absurd (by decide) zc17 | (exfalso; first | exact zc8 rfl | exact absurd zc8 (by decide) | exact zc17 rfl | exact absurd zc17 (by decide) | exact zc17 (by decide) | exact zc26 rfl | exact absurd zc26 (by decide) | exact zc26 (by decide) | exact zc59 rfl | exact absurd zc59 (by decide) | exact zc59 (by decide) | exact zc52 rfl | exact absurd zc52 (by decide)) | (exfalso; simp_all; done)
          · have zo3 := zo 5
            rw [if_neg (show ¬ ck_hcx (A 95) n a1 = 43 by rw [hop]; decide)] at hE
            refine hB bX11_whole_4 _ _ _ _ _ _ _ kX11_whole_4 ?_
            dsimp only [bX11_whole_4, kx_wp, kx_step, kx_lI, kx_lL, kx_lA, kx_gl, kx_pI, kx_pL, kx_pR, kx_pA, kx_pV, kx_s1, kx_s2, kx_sl, kx_pre, kx_c2, kx_pl, kx_cmp, kx_oF, kx_eqN, kx_nil, kx_c1, kx_ft, kx_aI, kx_aL, kx_aR, kx_ln, Nat.reduceAdd, Option.toList, List.cons_append, List.nil_append, mW_o, mf_7]
            repeat (simp only [mu_7, mW_so, ck_p6, ck_p7, ck_p8, ck_p10, ck_p11, ck_p12, ck_p13, ck_p15, h6, nI_1, ck_pu7, ck_pu10, ck_pu11, ck_pu12, ck_pu13, ck_pu15, ck_pa95, ck_pa96, ck_pa97, ck_pa98, ck_pa99, ck_pem, ck_pau96, ck_pau99, va_us, va_upn, ne_eq, Nat.reduceEqDiff, not_false_eq_true, ck_skk, ck_hck, hop]; try dsimp only [kx_wp, kx_step, kx_lI, kx_lL, kx_lA, kx_gl, kx_pI, kx_pL, kx_pR, kx_pA, kx_pV, kx_s1, kx_s2, kx_sl, kx_pre, kx_c2, kx_pl, kx_cmp, kx_oF, kx_eqN, kx_nil, kx_c1, kx_ft, kx_aI, kx_aL, kx_aR, kx_ln, Nat.reduceAdd, Option.toList, List.cons_append, List.nil_append, mW_o, mf_7])
            repeat' apply And.intro
            all_goals try (first | with_reducible assumption | (with_reducible refine ck_nzI ?_; simp; done) | (with_reducible refine ck_nzL ?_; simp; done) | (with_reducible refine vp_in_nI ?_ ?_ <;> first | omega | decide) | (with_reducible refine Nat.le_of_ble_eq_true ?_; rfl) | omega)
            refine hC.1 212 _ _ _ _ _ _ _ 11 _ _ _ _ _ _ _ _ _ _ _ _ lX11_212 (ct_X11_fine l G) ⟨by decide, rfl⟩ (mW_o) rfl rfl (Nat.le_of_ble_eq_true rfl) (by omega) (by decide) (by omega) (by omega) dX11_whole_5 ?_
            rw [ck_p8, if_pos rfl]
            refine hB bX11_whole_8 _ _ _ _ _ _ _ kX11_whole_8 ?_
            dsimp only [bX11_whole_8, kx_wp, kx_step, kx_lI, kx_lL, kx_lA, kx_gl, kx_pI, kx_pL, kx_pR, kx_pA, kx_pV, kx_s1, kx_s2, kx_sl, kx_pre, kx_c2, kx_pl, kx_cmp, kx_oF, kx_eqN, kx_nil, kx_c1, kx_ft, kx_aI, kx_aL, kx_aR, kx_ln, Nat.reduceAdd, Option.toList, List.cons_append, List.nil_append, mW_o, mf_7]
            repeat (simp only [mu_7, mW_so, ck_p6, ck_p7, ck_p8, ck_p10, ck_p11, ck_p12, ck_p13, ck_p15, h6, nI_1, ck_pu7, ck_pu10, ck_pu11, ck_pu12, ck_pu13, ck_pu15, ck_pa95, ck_pa96, ck_pa97, ck_pa98, ck_pa99, ck_pem, ck_pau96, ck_pau99, va_us, va_upn, ne_eq, Nat.reduceEqDiff, not_false_eq_true, ck_skk, ck_hck, hop]; try dsimp only [kx_wp, kx_step, kx_lI, kx_lL, kx_lA, kx_gl, kx_pI, kx_pL, kx_pR, kx_pA, kx_pV, kx_s1, kx_s2, kx_sl, kx_pre, kx_c2, kx_pl, kx_cmp, kx_oF, kx_eqN, kx_nil, kx_c1, kx_ft, kx_aI, kx_aL, kx_aR, kx_ln, Nat.reduceAdd, Option.toList, List.cons_append, List.nil_append, mW_o, mf_7])
            repeat' apply And.intro
            all_goals try (first | with_reducible assumption | (with_reducible refine ck_nzI ?_; simp; done) | (with_reducible refine ck_nzL ?_; simp; done) | (with_reducible refine vp_in_nI ?_ ?_ <;> first | omega | decide) | (with_reducible refine Nat.le_of_ble_eq_true ?_; rfl) | omega)
            · intro zc8
              first | exact absurd rfl zc8 | exact absurd zc8 (by decide) | exact absurd (by decide) zc8 | (exfalso; first | exact zc8 rfl | exact absurd zc8 (by decide) | exact zc17 rfl | exact absurd zc17 (by decide) | exact zc17 (by decide) | exact zc26 rfl | exact absurd zc26 (by decide) | exact zc26 (by decide) | exact zc59 rfl | exact absurd zc59 (by decide) | exact zc59 (by decide) | exact zc52 rfl | exact absurd zc52 (by decide)) | (exfalso; simp_all; done)
            · intro zc8
              have ze8 := zc8
              refine hB bX11_whole_11 _ _ _ _ _ _ _ kX11_whole_11 ?_
              dsimp only [bX11_whole_11, kx_wp, kx_step, kx_lI, kx_lL, kx_lA, kx_gl, kx_pI, kx_pL, kx_pR, kx_pA, kx_pV, kx_s1, kx_s2, kx_sl, kx_pre, kx_c2, kx_pl, kx_cmp, kx_oF, kx_eqN, kx_nil, kx_c1, kx_ft, kx_aI, kx_aL, kx_aR, kx_ln, Nat.reduceAdd, Option.toList, List.cons_append, List.nil_append, mW_o, mf_7]
              repeat (simp only [mu_7, mW_so, ck_p6, ck_p7, ck_p8, ck_p10, ck_p11, ck_p12, ck_p13, ck_p15, h6, nI_1, ck_pu7, ck_pu10, ck_pu11, ck_pu12, ck_pu13, ck_pu15, ck_pa95, ck_pa96, ck_pa97, ck_pa98, ck_pa99, ck_pem, ck_pau96, ck_pau99, va_us, va_upn, ne_eq, Nat.reduceEqDiff, not_false_eq_true, ck_skk, ck_hck, hop]; try dsimp only [kx_wp, kx_step, kx_lI, kx_lL, kx_lA, kx_gl, kx_pI, kx_pL, kx_pR, kx_pA, kx_pV, kx_s1, kx_s2, kx_sl, kx_pre, kx_c2, kx_pl, kx_cmp, kx_oF, kx_eqN, kx_nil, kx_c1, kx_ft, kx_aI, kx_aL, kx_aR, kx_ln, Nat.reduceAdd, Option.toList, List.cons_append, List.nil_append, mW_o, mf_7])
              repeat' apply And.intro
              all_goals try (first | with_reducible assumption | (with_reducible refine ck_nzI ?_; simp; done) | (with_reducible refine ck_nzL ?_; simp; done) | (with_reducible refine vp_in_nI ?_ ?_ <;> first | omega | decide) | (with_reducible refine Nat.le_of_ble_eq_true ?_; rfl) | omega)
              refine hC.1 204 _ _ _ _ _ _ _ 11 _ _ _ _ _ _ _ _ _ _ _ _ lX11_204 (ct_X11_here l G h6 hn ha) ⟨by decide, rfl⟩ (mW_o) rfl rfl (Nat.le_of_ble_eq_true rfl) (by omega) (by decide) (by omega) (by omega) dX11_whole_12 ?_
              refine hB bX11_whole_15 _ _ _ _ _ _ _ kX11_whole_15 ?_
              dsimp only [bX11_whole_15, kx_wp, kx_step, kx_lI, kx_lL, kx_lA, kx_gl, kx_pI, kx_pL, kx_pR, kx_pA, kx_pV, kx_s1, kx_s2, kx_sl, kx_pre, kx_c2, kx_pl, kx_cmp, kx_oF, kx_eqN, kx_nil, kx_c1, kx_ft, kx_aI, kx_aL, kx_aR, kx_ln, Nat.reduceAdd, Option.toList, List.cons_append, List.nil_append, mW_o, mf_7]
              repeat (simp only [mu_7, mW_so, ck_p6, ck_p7, ck_p8, ck_p10, ck_p11, ck_p12, ck_p13, ck_p15, h6, nI_1, ck_pu7, ck_pu10, ck_pu11, ck_pu12, ck_pu13, ck_pu15, ck_pa95, ck_pa96, ck_pa97, ck_pa98, ck_pa99, ck_pem, ck_pau96, ck_pau99, va_us, va_upn, ne_eq, Nat.reduceEqDiff, not_false_eq_true, ck_skk, ck_hck, hop]; try dsimp only [kx_wp, kx_step, kx_lI, kx_lL, kx_lA, kx_gl, kx_pI, kx_pL, kx_pR, kx_pA, kx_pV, kx_s1, kx_s2, kx_sl, kx_pre, kx_c2, kx_pl, kx_cmp, kx_oF, kx_eqN, kx_nil, kx_c1, kx_ft, kx_aI, kx_aL, kx_aR, kx_ln, Nat.reduceAdd, Option.toList, List.cons_append, List.nil_append, mW_o, mf_7])
              repeat' apply And.intro
              all_goals try (first | with_reducible assumption | (with_reducible refine ck_nzI ?_; simp; done) | (with_reducible refine ck_nzL ?_; simp; done) | (with_reducible refine vp_in_nI ?_ ?_ <;> first | omega | decide) | (with_reducible refine Nat.le_of_ble_eq_true ?_; rfl) | omega)
              · intro zc17
                first | exact absurd rfl zc17 | exact absurd zc17 (by decide) | exact absurd (by decide) zc17 | (exfalso; first | exact zc8 rfl | exact absurd zc8 (by decide) | exact zc17 rfl | exact absurd zc17 (by decide) | exact zc17 (by decide) | exact zc26 rfl | exact absurd zc26 (by decide) | exact zc26 (by decide) | exact zc59 rfl | exact absurd zc59 (by decide) | exact zc59 (by decide) | exact zc52 rfl | exact absurd zc52 (by decide)) | (exfalso; simp_all; done)
              · intro zc17
                have ze17 := zc17
                refine hB bX11_whole_20 _ _ _ _ _ _ _ kX11_whole_20 ?_
                dsimp only [bX11_whole_20, kx_wp, kx_step, kx_lI, kx_lL, kx_lA, kx_gl, kx_pI, kx_pL, kx_pR, kx_pA, kx_pV, kx_s1, kx_s2, kx_sl, kx_pre, kx_c2, kx_pl, kx_cmp, kx_oF, kx_eqN, kx_nil, kx_c1, kx_ft, kx_aI, kx_aL, kx_aR, kx_ln, Nat.reduceAdd, Option.toList, List.cons_append, List.nil_append, mW_o, mf_7]
                repeat (simp only [mu_7, mW_so, ck_p6, ck_p7, ck_p8, ck_p10, ck_p11, ck_p12, ck_p13, ck_p15, h6, nI_1, ck_pu7, ck_pu10, ck_pu11, ck_pu12, ck_pu13, ck_pu15, ck_pa95, ck_pa96, ck_pa97, ck_pa98, ck_pa99, ck_pem, ck_pau96, ck_pau99, va_us, va_upn, ne_eq, Nat.reduceEqDiff, not_false_eq_true, ck_skk, ck_hck, hop]; try dsimp only [kx_wp, kx_step, kx_lI, kx_lL, kx_lA, kx_gl, kx_pI, kx_pL, kx_pR, kx_pA, kx_pV, kx_s1, kx_s2, kx_sl, kx_pre, kx_c2, kx_pl, kx_cmp, kx_oF, kx_eqN, kx_nil, kx_c1, kx_ft, kx_aI, kx_aL, kx_aR, kx_ln, Nat.reduceAdd, Option.toList, List.cons_append, List.nil_append, mW_o, mf_7])
                repeat' apply And.intro
                all_goals try (first | with_reducible assumption | (with_reducible refine ck_nzI ?_; simp; done) | (with_reducible refine ck_nzL ?_; simp; done) | (with_reducible refine vp_in_nI ?_ ?_ <;> first | omega | decide) | (with_reducible refine Nat.le_of_ble_eq_true ?_; rfl) | omega)
                refine hC.1 204 _ _ _ _ _ _ _ 11 _ _ _ _ _ _ _ _ _ _ _ _ lX11_204 (ct_X11_here l G h6 hn hsa.2) ⟨by decide, rfl⟩ (mW_o) rfl rfl (Nat.le_of_ble_eq_true rfl) (by omega) (by decide) (by omega) (by omega) dX11_whole_21 ?_
                refine hB bX11_whole_24 _ _ _ _ _ _ _ kX11_whole_24 ?_
                dsimp only [bX11_whole_24, kx_wp, kx_step, kx_lI, kx_lL, kx_lA, kx_gl, kx_pI, kx_pL, kx_pR, kx_pA, kx_pV, kx_s1, kx_s2, kx_sl, kx_pre, kx_c2, kx_pl, kx_cmp, kx_oF, kx_eqN, kx_nil, kx_c1, kx_ft, kx_aI, kx_aL, kx_aR, kx_ln, Nat.reduceAdd, Option.toList, List.cons_append, List.nil_append, mW_o, mf_7]
                repeat (simp only [mu_7, mW_so, ck_p6, ck_p7, ck_p8, ck_p10, ck_p11, ck_p12, ck_p13, ck_p15, h6, nI_1, ck_pu7, ck_pu10, ck_pu11, ck_pu12, ck_pu13, ck_pu15, ck_pa95, ck_pa96, ck_pa97, ck_pa98, ck_pa99, ck_pem, ck_pau96, ck_pau99, va_us, va_upn, ne_eq, Nat.reduceEqDiff, not_false_eq_true, ck_skk, ck_hck, hop]; try dsimp only [kx_wp, kx_step, kx_lI, kx_lL, kx_lA, kx_gl, kx_pI, kx_pL, kx_pR, kx_pA, kx_pV, kx_s1, kx_s2, kx_sl, kx_pre, kx_c2, kx_pl, kx_cmp, kx_oF, kx_eqN, kx_nil, kx_c1, kx_ft, kx_aI, kx_aL, kx_aR, kx_ln, Nat.reduceAdd, Option.toList, List.cons_append, List.nil_append, mW_o, mf_7])
                repeat' apply And.intro
                all_goals try (first | with_reducible assumption | (with_reducible refine ck_nzI ?_; simp; done) | (with_reducible refine ck_nzL ?_; simp; done) | (with_reducible refine vp_in_nI ?_ ?_ <;> first | omega | decide) | (with_reducible refine Nat.le_of_ble_eq_true ?_; rfl) | omega)
                · intro zc26
                  first | exact absurd rfl zc26 | exact absurd zc26 (by decide) | exact absurd (by decide) zc26 | (exfalso; first | exact zc8 rfl | exact absurd zc8 (by decide) | exact zc17 rfl | exact absurd zc17 (by decide) | exact zc17 (by decide) | exact zc26 rfl | exact absurd zc26 (by decide) | exact zc26 (by decide) | exact zc59 rfl | exact absurd zc59 (by decide) | exact zc59 (by decide) | exact zc52 rfl | exact absurd zc52 (by decide)) | (exfalso; simp_all; done)
                · intro zc26
                  with_reducible first | have ze26 := Decidable.not_not.mp zc26 | have ze26 := zc26
                  refine hB bX11_whole_29 _ _ _ _ _ _ _ kX11_whole_29 ?_
                  dsimp only [bX11_whole_29, kx_wp, kx_step, kx_lI, kx_lL, kx_lA, kx_gl, kx_pI, kx_pL, kx_pR, kx_pA, kx_pV, kx_s1, kx_s2, kx_sl, kx_pre, kx_c2, kx_pl, kx_cmp, kx_oF, kx_eqN, kx_nil, kx_c1, kx_ft, kx_aI, kx_aL, kx_aR, kx_ln, Nat.reduceAdd, Option.toList, List.cons_append, List.nil_append, mW_o, mf_7]
                  repeat (simp only [mu_7, mW_so, ck_p6, ck_p7, ck_p8, ck_p10, ck_p11, ck_p12, ck_p13, ck_p15, h6, nI_1, ck_pu7, ck_pu10, ck_pu11, ck_pu12, ck_pu13, ck_pu15, ck_pa95, ck_pa96, ck_pa97, ck_pa98, ck_pa99, ck_pem, ck_pau96, ck_pau99, va_us, va_upn, ne_eq, Nat.reduceEqDiff, not_false_eq_true, ck_skk, ck_hck, hop]; try dsimp only [kx_wp, kx_step, kx_lI, kx_lL, kx_lA, kx_gl, kx_pI, kx_pL, kx_pR, kx_pA, kx_pV, kx_s1, kx_s2, kx_sl, kx_pre, kx_c2, kx_pl, kx_cmp, kx_oF, kx_eqN, kx_nil, kx_c1, kx_ft, kx_aI, kx_aL, kx_aR, kx_ln, Nat.reduceAdd, Option.toList, List.cons_append, List.nil_append, mW_o, mf_7])
                  repeat' apply And.intro
                  all_goals try (first | with_reducible assumption | (with_reducible refine ck_nzI ?_; simp; done) | (with_reducible refine ck_nzL ?_; simp; done) | (with_reducible refine vp_in_nI ?_ ?_ <;> first | omega | decide) | (with_reducible refine Nat.le_of_ble_eq_true ?_; rfl) | omega)
                  refine hC.1 204 _ _ _ _ _ _ _ 11 _ _ _ _ _ _ _ _ _ _ _ _ lX11_204 (ct_X11_here l G h6 hn hsa.2) ⟨by decide, rfl⟩ (mW_o) rfl rfl (Nat.le_of_ble_eq_true rfl) (by omega) (by decide) (by omega) (by omega) dX11_whole_30 ?_
                  refine hB bX11_whole_33 _ _ _ _ _ _ _ kX11_whole_33 ?_
                  dsimp only [bX11_whole_33, kx_wp, kx_step, kx_lI, kx_lL, kx_lA, kx_gl, kx_pI, kx_pL, kx_pR, kx_pA, kx_pV, kx_s1, kx_s2, kx_sl, kx_pre, kx_c2, kx_pl, kx_cmp, kx_oF, kx_eqN, kx_nil, kx_c1, kx_ft, kx_aI, kx_aL, kx_aR, kx_ln, Nat.reduceAdd, Option.toList, List.cons_append, List.nil_append, mW_o, mf_7]
                  repeat (simp only [mu_7, mW_so, ck_p6, ck_p7, ck_p8, ck_p10, ck_p11, ck_p12, ck_p13, ck_p15, h6, nI_1, ck_pu7, ck_pu10, ck_pu11, ck_pu12, ck_pu13, ck_pu15, ck_pa95, ck_pa96, ck_pa97, ck_pa98, ck_pa99, ck_pem, ck_pau96, ck_pau99, va_us, va_upn, ne_eq, Nat.reduceEqDiff, not_false_eq_true, ck_skk, ck_hck, hop]; try dsimp only [kx_wp, kx_step, kx_lI, kx_lL, kx_lA, kx_gl, kx_pI, kx_pL, kx_pR, kx_pA, kx_pV, kx_s1, kx_s2, kx_sl, kx_pre, kx_c2, kx_pl, kx_cmp, kx_oF, kx_eqN, kx_nil, kx_c1, kx_ft, kx_aI, kx_aL, kx_aR, kx_ln, Nat.reduceAdd, Option.toList, List.cons_append, List.nil_append, mW_o, mf_7])
                  repeat' apply And.intro
                  all_goals try (first | with_reducible assumption | (with_reducible refine ck_nzI ?_; simp; done) | (with_reducible refine ck_nzL ?_; simp; done) | (with_reducible refine vp_in_nI ?_ ?_ <;> first | omega | decide) | (with_reducible refine Nat.le_of_ble_eq_true ?_; rfl) | omega)
                  refine hC.1 271 _ _ _ _ _ _ _ 11 _ _ _ _ _ _ _ _ _ _ _ _ lX11_271 (hUc (ck_sk (A 95) n a1 + 1, -1, k1, o1, c1, C1, N1) (ck_sl_0 hs2) hl2) ⟨by decide, rfl⟩ (mW_o) rfl rfl (Nat.le_of_ble_eq_true rfl) (by omega) (by decide) (by omega) (by omega) dX11_whole_45 ?_
                  rw [hS2, ck_pW_t]
                  refine hB bX11_whole_48 _ _ _ _ _ _ _ kX11_whole_48 ?_
                  dsimp only [bX11_whole_48, kx_wp, kx_step, kx_lI, kx_lL, kx_lA, kx_gl, kx_pI, kx_pL, kx_pR, kx_pA, kx_pV, kx_s1, kx_s2, kx_sl, kx_pre, kx_c2, kx_pl, kx_cmp, kx_oF, kx_eqN, kx_nil, kx_c1, kx_ft, kx_aI, kx_aL, kx_aR, kx_ln, Nat.reduceAdd, Option.toList, List.cons_append, List.nil_append, mW_o, mf_7]
                  repeat (simp only [mu_7, mW_so, ck_p6, ck_p7, ck_p8, ck_p10, ck_p11, ck_p12, ck_p13, ck_p15, h6, nI_1, ck_pu7, ck_pu10, ck_pu11, ck_pu12, ck_pu13, ck_pu15, ck_pa95, ck_pa96, ck_pa97, ck_pa98, ck_pa99, ck_pem, ck_pau96, ck_pau99, va_us, va_upn, ne_eq, Nat.reduceEqDiff, not_false_eq_true, ck_skk, ck_hck, hop]; try dsimp only [kx_wp, kx_step, kx_lI, kx_lL, kx_lA, kx_gl, kx_pI, kx_pL, kx_pR, kx_pA, kx_pV, kx_s1, kx_s2, kx_sl, kx_pre, kx_c2, kx_pl, kx_cmp, kx_oF, kx_eqN, kx_nil, kx_c1, kx_ft, kx_aI, kx_aL, kx_aR, kx_ln, Nat.reduceAdd, Option.toList, List.cons_append, List.nil_append, mW_o, mf_7])
                  repeat' apply And.intro
                  all_goals try (first | with_reducible assumption | (with_reducible refine ck_nzI ?_; simp; done) | (with_reducible refine ck_nzL ?_; simp; done) | (with_reducible refine vp_in_nI ?_ ?_ <;> first | omega | decide) | (with_reducible refine Nat.le_of_ble_eq_true ?_; rfl) | omega)
                  refine hC.1 212 _ _ _ _ _ _ _ 11 _ _ _ _ _ _ _ _ _ _ _ _ lX11_212 (ct_X11_fine l G) ⟨by decide, rfl⟩ (mW_o) rfl rfl (Nat.le_of_ble_eq_true rfl) (by omega) (by decide) (by omega) (by omega) dX11_whole_49 ?_
                  rw [ck_p8]
                  by_cases hb2 : b2 = -1
                  · subst hb2
                    rw [if_pos rfl] at zo3 hE ⊢
                    have s2c := s2b rfl
                    refine hB bX11_whole_52 _ _ _ _ _ _ _ kX11_whole_52 ?_
                    dsimp only [bX11_whole_52, kx_wp, kx_step, kx_lI, kx_lL, kx_lA, kx_gl, kx_pI, kx_pL, kx_pR, kx_pA, kx_pV, kx_s1, kx_s2, kx_sl, kx_pre, kx_c2, kx_pl, kx_cmp, kx_oF, kx_eqN, kx_nil, kx_c1, kx_ft, kx_aI, kx_aL, kx_aR, kx_ln, Nat.reduceAdd, Option.toList, List.cons_append, List.nil_append, mW_o, mf_7]
                    repeat (simp only [mu_7, mW_so, ck_p6, ck_p7, ck_p8, ck_p10, ck_p11, ck_p12, ck_p13, ck_p15, h6, nI_1, ck_pu7, ck_pu10, ck_pu11, ck_pu12, ck_pu13, ck_pu15, ck_pa95, ck_pa96, ck_pa97, ck_pa98, ck_pa99, ck_pem, ck_pau96, ck_pau99, va_us, va_upn, ne_eq, Nat.reduceEqDiff, not_false_eq_true, ck_skk, ck_hck, hop]; try dsimp only [kx_wp, kx_step, kx_lI, kx_lL, kx_lA, kx_gl, kx_pI, kx_pL, kx_pR, kx_pA, kx_pV, kx_s1, kx_s2, kx_sl, kx_pre, kx_c2, kx_pl, kx_cmp, kx_oF, kx_eqN, kx_nil, kx_c1, kx_ft, kx_aI, kx_aL, kx_aR, kx_ln, Nat.reduceAdd, Option.toList, List.cons_append, List.nil_append, mW_o, mf_7])
                    repeat' apply And.intro
                    all_goals try (first | with_reducible assumption | (with_reducible refine ck_nzI ?_; simp; done) | (with_reducible refine ck_nzL ?_; simp; done) | (with_reducible refine vp_in_nI ?_ ?_ <;> first | omega | decide) | (with_reducible refine Nat.le_of_ble_eq_true ?_; rfl) | omega)
                    · intro zc52
                      first | exact absurd rfl zc52 | exact absurd zc52 (by decide) | exact absurd (by decide) zc52 | (exfalso; first | exact zc8 rfl | exact absurd zc8 (by decide) | exact zc17 rfl | exact absurd zc17 (by decide) | exact zc17 (by decide) | exact zc26 rfl | exact absurd zc26 (by decide) | exact zc26 (by decide) | exact zc59 rfl | exact absurd zc59 (by decide) | exact zc59 (by decide) | exact zc52 rfl | exact absurd zc52 (by decide)) | (exfalso; simp_all; done)
                    · intro zc52
                      have ze52 := zc52
                      refine hB bX11_whole_55 _ _ _ _ _ _ _ kX11_whole_55 ?_
                      dsimp only [bX11_whole_55, kx_wp, kx_step, kx_lI, kx_lL, kx_lA, kx_gl, kx_pI, kx_pL, kx_pR, kx_pA, kx_pV, kx_s1, kx_s2, kx_sl, kx_pre, kx_c2, kx_pl, kx_cmp, kx_oF, kx_eqN, kx_nil, kx_c1, kx_ft, kx_aI, kx_aL, kx_aR, kx_ln, Nat.reduceAdd, Option.toList, List.cons_append, List.nil_append, mW_o, mf_7]
                      repeat (simp only [mu_7, mW_so, ck_p6, ck_p7, ck_p8, ck_p10, ck_p11, ck_p12, ck_p13, ck_p15, h6, nI_1, ck_pu7, ck_pu10, ck_pu11, ck_pu12, ck_pu13, ck_pu15, ck_pa95, ck_pa96, ck_pa97, ck_pa98, ck_pa99, ck_pem, ck_pau96, ck_pau99, va_us, va_upn, ne_eq, Nat.reduceEqDiff, not_false_eq_true, ck_skk, ck_hck, hop]; try dsimp only [kx_wp, kx_step, kx_lI, kx_lL, kx_lA, kx_gl, kx_pI, kx_pL, kx_pR, kx_pA, kx_pV, kx_s1, kx_s2, kx_sl, kx_pre, kx_c2, kx_pl, kx_cmp, kx_oF, kx_eqN, kx_nil, kx_c1, kx_ft, kx_aI, kx_aL, kx_aR, kx_ln, Nat.reduceAdd, Option.toList, List.cons_append, List.nil_append, mW_o, mf_7])
                      repeat' apply And.intro
                      all_goals try (first | with_reducible assumption | (with_reducible refine ck_nzI ?_; simp; done) | (with_reducible refine ck_nzL ?_; simp; done) | (with_reducible refine vp_in_nI ?_ ?_ <;> first | omega | decide) | (with_reducible refine Nat.le_of_ble_eq_true ?_; rfl) | omega)
                      · intro zc59
                        have ze59 := zc59
                        refine hB bX11_whole_66 _ _ _ _ _ _ _ kX11_whole_66 ?_
                        dsimp only [bX11_whole_66, kx_wp, kx_step, kx_lI, kx_lL, kx_lA, kx_gl, kx_pI, kx_pL, kx_pR, kx_pA, kx_pV, kx_s1, kx_s2, kx_sl, kx_pre, kx_c2, kx_pl, kx_cmp, kx_oF, kx_eqN, kx_nil, kx_c1, kx_ft, kx_aI, kx_aL, kx_aR, kx_ln, Nat.reduceAdd, Option.toList, List.cons_append, List.nil_append, mW_o, mf_7]
                        repeat (simp only [mu_7, mW_so, ck_p6, ck_p7, ck_p8, ck_p10, ck_p11, ck_p12, ck_p13, ck_p15, h6, nI_1, ck_pu7, ck_pu10, ck_pu11, ck_pu12, ck_pu13, ck_pu15, ck_pa95, ck_pa96, ck_pa97, ck_pa98, ck_pa99, ck_pem, ck_pau96, ck_pau99, va_us, va_upn, ne_eq, Nat.reduceEqDiff, not_false_eq_true, ck_skk, ck_hck, hop]; try dsimp only [kx_wp, kx_step, kx_lI, kx_lL, kx_lA, kx_gl, kx_pI, kx_pL, kx_pR, kx_pA, kx_pV, kx_s1, kx_s2, kx_sl, kx_pre, kx_c2, kx_pl, kx_cmp, kx_oF, kx_eqN, kx_nil, kx_c1, kx_ft, kx_aI, kx_aL, kx_aR, kx_ln, Nat.reduceAdd, Option.toList, List.cons_append, List.nil_append, mW_o, mf_7])
                        repeat' apply And.intro
                        all_goals try (first | with_reducible assumption | (with_reducible refine ck_nzI ?_; simp; done) | (with_reducible refine ck_nzL ?_; simp; done) | (with_reducible refine vp_in_nI ?_ ?_ <;> first | omega | decide) | (with_reducible refine Nat.le_of_ble_eq_true ?_; rfl) | omega)
                        refine hB bX11_whole_67 _ _ _ _ _ _ _ kX11_whole_67 ?_
                        dsimp only [bX11_whole_67, kx_wp, kx_step, kx_lI, kx_lL, kx_lA, kx_gl, kx_pI, kx_pL, kx_pR, kx_pA, kx_pV, kx_s1, kx_s2, kx_sl, kx_pre, kx_c2, kx_pl, kx_cmp, kx_oF, kx_eqN, kx_nil, kx_c1, kx_ft, kx_aI, kx_aL, kx_aR, kx_ln, Nat.reduceAdd, Option.toList, List.cons_append, List.nil_append, mW_o, mf_7]
                        repeat (simp only [mu_7, mW_so, ck_p6, ck_p7, ck_p8, ck_p10, ck_p11, ck_p12, ck_p13, ck_p15, h6, nI_1, ck_pu7, ck_pu10, ck_pu11, ck_pu12, ck_pu13, ck_pu15, ck_pa95, ck_pa96, ck_pa97, ck_pa98, ck_pa99, ck_pem, ck_pau96, ck_pau99, va_us, va_upn, ne_eq, Nat.reduceEqDiff, not_false_eq_true, ck_skk, ck_hck, hop]; try dsimp only [kx_wp, kx_step, kx_lI, kx_lL, kx_lA, kx_gl, kx_pI, kx_pL, kx_pR, kx_pA, kx_pV, kx_s1, kx_s2, kx_sl, kx_pre, kx_c2, kx_pl, kx_cmp, kx_oF, kx_eqN, kx_nil, kx_c1, kx_ft, kx_aI, kx_aL, kx_aR, kx_ln, Nat.reduceAdd, Option.toList, List.cons_append, List.nil_append, mW_o, mf_7])
                        repeat' apply And.intro
                        all_goals try (first | with_reducible assumption | (with_reducible refine ck_nzI ?_; simp; done) | (with_reducible refine ck_nzL ?_; simp; done) | (with_reducible refine vp_in_nI ?_ ?_ <;> first | omega | decide) | (with_reducible refine Nat.le_of_ble_eq_true ?_; rfl) | omega)
                        refine hC.1 238 _ _ _ _ _ _ _ 11 _ _ _ _ _ _ _ _ _ _ _ _ lX11_238 (ct_X11_emit l G (k := c2) (M := ck_pM M a2 (-1) k2 o2 c2) (A := ck_pA A C2 N2) rfl (by omega)) ⟨by decide, rfl⟩ (mW_o) rfl rfl (Nat.le_of_ble_eq_true rfl) (by omega) (by decide) (by omega) (by omega) dX11_whole_68 ?_
                        refine hB bX11_whole_71 _ _ _ _ _ _ _ kX11_whole_71 ?_
                        dsimp only [bX11_whole_71, kx_wp, kx_step, kx_lI, kx_lL, kx_lA, kx_gl, kx_pI, kx_pL, kx_pR, kx_pA, kx_pV, kx_s1, kx_s2, kx_sl, kx_pre, kx_c2, kx_pl, kx_cmp, kx_oF, kx_eqN, kx_nil, kx_c1, kx_ft, kx_aI, kx_aL, kx_aR, kx_ln, Nat.reduceAdd, Option.toList, List.cons_append, List.nil_append, mW_o, mf_7]
                        repeat (simp only [mu_7, mW_so, ck_p6, ck_p7, ck_p8, ck_p10, ck_p11, ck_p12, ck_p13, ck_p15, h6, nI_1, ck_pu7, ck_pu10, ck_pu11, ck_pu12, ck_pu13, ck_pu15, ck_pa95, ck_pa96, ck_pa97, ck_pa98, ck_pa99, ck_pem, ck_pau96, ck_pau99, va_us, va_upn, ne_eq, Nat.reduceEqDiff, not_false_eq_true, ck_skk, ck_hck, hop]; try dsimp only [kx_wp, kx_step, kx_lI, kx_lL, kx_lA, kx_gl, kx_pI, kx_pL, kx_pR, kx_pA, kx_pV, kx_s1, kx_s2, kx_sl, kx_pre, kx_c2, kx_pl, kx_cmp, kx_oF, kx_eqN, kx_nil, kx_c1, kx_ft, kx_aI, kx_aL, kx_aR, kx_ln, Nat.reduceAdd, Option.toList, List.cons_append, List.nil_append, mW_o, mf_7])
                        repeat' apply And.intro
                        all_goals try (first | with_reducible assumption | (with_reducible refine ck_nzI ?_; simp; done) | (with_reducible refine ck_nzL ?_; simp; done) | (with_reducible refine vp_in_nI ?_ ?_ <;> first | omega | decide) | (with_reducible refine Nat.le_of_ble_eq_true ?_; rfl) | omega)
                        all_goals exact ih (ck_emR 5 0 (a2, -1, k2, o2, c2, C2, N2)) _ (by have := zo3.2; omega) zo3.1.1 (ck_lv_g zo3.1 hl) hE
                      · intro zc59
                        first | exact absurd rfl zc59 | exact absurd zc59 (by decide) | exact absurd (by decide) zc59 | (exfalso; first | exact zc8 rfl | exact absurd zc8 (by decide) | exact zc17 rfl | exact absurd zc17 (by decide) | exact zc17 (by decide) | exact zc26 rfl | exact absurd zc26 (by decide) | exact zc26 (by decide) | exact zc59 rfl | exact absurd zc59 (by decide) | exact zc59 (by decide) | exact zc52 rfl | exact absurd zc52 (by decide)) | (exfalso; simp_all; done)
                  · rw [if_neg hb2] at zo3 hE ⊢
                    refine hB bX11_whole_52 _ _ _ _ _ _ _ kX11_whole_52 ?_
                    dsimp only [bX11_whole_52, kx_wp, kx_step, kx_lI, kx_lL, kx_lA, kx_gl, kx_pI, kx_pL, kx_pR, kx_pA, kx_pV, kx_s1, kx_s2, kx_sl, kx_pre, kx_c2, kx_pl, kx_cmp, kx_oF, kx_eqN, kx_nil, kx_c1, kx_ft, kx_aI, kx_aL, kx_aR, kx_ln, Nat.reduceAdd, Option.toList, List.cons_append, List.nil_append, mW_o, mf_7]
                    repeat (simp only [mu_7, mW_so, ck_p6, ck_p7, ck_p8, ck_p10, ck_p11, ck_p12, ck_p13, ck_p15, h6, nI_1, ck_pu7, ck_pu10, ck_pu11, ck_pu12, ck_pu13, ck_pu15, ck_pa95, ck_pa96, ck_pa97, ck_pa98, ck_pa99, ck_pem, ck_pau96, ck_pau99, va_us, va_upn, ne_eq, Nat.reduceEqDiff, not_false_eq_true, ck_skk, ck_hck, hop]; try dsimp only [kx_wp, kx_step, kx_lI, kx_lL, kx_lA, kx_gl, kx_pI, kx_pL, kx_pR, kx_pA, kx_pV, kx_s1, kx_s2, kx_sl, kx_pre, kx_c2, kx_pl, kx_cmp, kx_oF, kx_eqN, kx_nil, kx_c1, kx_ft, kx_aI, kx_aL, kx_aR, kx_ln, Nat.reduceAdd, Option.toList, List.cons_append, List.nil_append, mW_o, mf_7])
                    repeat' apply And.intro
                    all_goals try (first | with_reducible assumption | (with_reducible refine ck_nzI ?_; simp; done) | (with_reducible refine ck_nzL ?_; simp; done) | (with_reducible refine vp_in_nI ?_ ?_ <;> first | omega | decide) | (with_reducible refine Nat.le_of_ble_eq_true ?_; rfl) | omega)
                    · intro zc52
                      have ze52 := zc52
                      refine hB bX11_whole_71 _ _ _ _ _ _ _ kX11_whole_71 ?_
                      dsimp only [bX11_whole_71, kx_wp, kx_step, kx_lI, kx_lL, kx_lA, kx_gl, kx_pI, kx_pL, kx_pR, kx_pA, kx_pV, kx_s1, kx_s2, kx_sl, kx_pre, kx_c2, kx_pl, kx_cmp, kx_oF, kx_eqN, kx_nil, kx_c1, kx_ft, kx_aI, kx_aL, kx_aR, kx_ln, Nat.reduceAdd, Option.toList, List.cons_append, List.nil_append, mW_o, mf_7]
                      repeat (simp only [mu_7, mW_so, ck_p6, ck_p7, ck_p8, ck_p10, ck_p11, ck_p12, ck_p13, ck_p15, h6, nI_1, ck_pu7, ck_pu10, ck_pu11, ck_pu12, ck_pu13, ck_pu15, ck_pa95, ck_pa96, ck_pa97, ck_pa98, ck_pa99, ck_pem, ck_pau96, ck_pau99, va_us, va_upn, ne_eq, Nat.reduceEqDiff, not_false_eq_true, ck_skk, ck_hck, hop]; try dsimp only [kx_wp, kx_step, kx_lI, kx_lL, kx_lA, kx_gl, kx_pI, kx_pL, kx_pR, kx_pA, kx_pV, kx_s1, kx_s2, kx_sl, kx_pre, kx_c2, kx_pl, kx_cmp, kx_oF, kx_eqN, kx_nil, kx_c1, kx_ft, kx_aI, kx_aL, kx_aR, kx_ln, Nat.reduceAdd, Option.toList, List.cons_append, List.nil_append, mW_o, mf_7])
                      repeat' apply And.intro
                      all_goals try (first | with_reducible assumption | (with_reducible refine ck_nzI ?_; simp; done) | (with_reducible refine ck_nzL ?_; simp; done) | (with_reducible refine vp_in_nI ?_ ?_ <;> first | omega | decide) | (with_reducible refine Nat.le_of_ble_eq_true ?_; rfl) | omega)
                      all_goals exact ih (a2, b2, k2, o2, c2, C2, N2) _ (by have := zo3.2; dsimp only at this ⊢; omega) zo3.1.1 (ck_lv_g zo3.1 hl) hE
                    · intro zc52
                      first | exact absurd rfl zc52 | exact absurd zc52 (by decide) | exact absurd (by decide) zc52 | (exfalso; first | exact zc8 rfl | exact absurd zc8 (by decide) | exact zc17 rfl | exact absurd zc17 (by decide) | exact zc17 (by decide) | exact zc26 rfl | exact absurd zc26 (by decide) | exact zc26 (by decide) | exact zc59 rfl | exact absurd zc59 (by decide) | exact zc59 (by decide) | exact zc52 rfl | exact absurd zc52 (by decide)) | (exfalso; simp_all; done)
        · rw [if_neg (fun q => hop q.2), ck_ex, if_pos rfl] at hE
          rw [ck_pW_t]
          exact jn _ _ _ _ _ _ _ ha (fun e => hop (Or.inl e)) (fun e => hop (Or.inr e)) hE
      · rw [ck_lpw_st (n9 + 1) _ hb] at hE
        rw [ck_pW_t]
        exact jf _ _ _ _ _ _ _ _ hb hE
  refine hB bX11_whole_0 _ _ _ _ _ _ _ kX11_whole_0 ?_
  dsimp only [bX11_whole_0, kx_wp, kx_step, kx_lI, kx_lL, kx_lA, kx_gl, kx_pI, kx_pL, kx_pR, kx_pA, kx_pV, kx_s1, kx_s2, kx_sl, kx_pre, kx_c2, kx_pl, kx_cmp, kx_oF, kx_eqN, kx_nil, kx_c1, kx_ft, kx_aI, kx_aL, kx_aR, kx_ln, Nat.reduceAdd, Option.toList, List.cons_append, List.nil_append, mW_o, mf_7]
  repeat (simp only [mu_7, mW_so, ck_p6, ck_p7, ck_p8, ck_p10, ck_p11, ck_p12, ck_p13, ck_p15, h6, nI_1, ck_pu7, ck_pu10, ck_pu11, ck_pu12, ck_pu13, ck_pu15, ck_pa95, ck_pa96, ck_pa97, ck_pa98, ck_pa99, ck_pem, ck_pau96, ck_pau99, va_us, va_upn, ne_eq, Nat.reduceEqDiff, not_false_eq_true, ck_skk, ck_hck]; try dsimp only [kx_wp, kx_step, kx_lI, kx_lL, kx_lA, kx_gl, kx_pI, kx_pL, kx_pR, kx_pA, kx_pV, kx_s1, kx_s2, kx_sl, kx_pre, kx_c2, kx_pl, kx_cmp, kx_oF, kx_eqN, kx_nil, kx_c1, kx_ft, kx_aI, kx_aL, kx_aR, kx_ln, Nat.reduceAdd, Option.toList, List.cons_append, List.nil_append, mW_o, mf_7])
  repeat' apply And.intro
  all_goals try (first | with_reducible assumption | (with_reducible refine ck_nzI ?_; simp; done) | (with_reducible refine ck_nzL ?_; simp; done) | (with_reducible refine vp_in_nI ?_ ?_ <;> first | omega | decide) | (with_reducible refine Nat.le_of_ble_eq_true ?_; rfl) | omega)
  refine hC.1 271 _ _ _ _ _ _ _ 11 _ _ _ _ _ _ _ _ _ _ _ _ lX11_271 (hUc S hS hlv) ⟨by decide, rfl⟩ (ck_pW_o _ _ _ _ _) rfl rfl (Nat.le_of_ble_eq_true rfl) (by omega) (by decide) (by omega) (by omega) dX11_whole_1 ?_
  all_goals exact loop4 _ _ _ (Nat.le_refl _) g1.1 l1 hRR

/-- E, with N brackets that may still open -/
theorem ct_X11_whole (l : Launch) (G : kx_G) {M : Nat → Int32} {A : Nat → Nat → Int32} {L : Nat → Nat → Int64} {R : kx_P} {sz : Nat} {n : Nat} (h6 : M 6 = nI n) (hn : n ≤ 400) : ∀ (N : Nat) (S : ck_R), ck_sl n 0 S → ck_lv N S → kx_M l G sX11_whole (4 * N + 4) 0 0 [.ref 93] (ck_pW M A L R S) sz none (ck_pW M A L R (ck_wh (A 95) n N S)) sz
  | 0, S, hS, hlv => by
    have hb : ∀ S, ck_lv 0 S → ¬ S.2.1 = -1 := fun S h e => by
      obtain ⟨q, -, h1, h2⟩ := h e
      omega
    have hid : ck_gd n (fun S : ck_R => S) := fun _ S h => ⟨h, fun e => ⟨e, rfl⟩, Nat.le_refl _⟩
    have hst : ck_st (fun S : ck_R => S) := fun _ _ => rfl
    have h1 : ∀ S, ck_sl n 0 S → ck_lv 0 S → kx_M l G sX11_unit 2 0 0 [.ref 93] (ck_pW M A L R S) sz none (ck_pW M A L R S) sz := fun S _ h => ct_X11_unit_f l G (dU := 0) (hb S h)
    have h2 : ∀ S, ck_sl n 0 S → ck_lv 0 S → kx_M l G sX11_term 3 0 0 [.ref 93] (ck_pW M A L R S) sz none (ck_pW M A L R (ck_te (A 95) n (fun S => S) S)) sz := fun S hs h => ct_X11_term_g l G h6 hn hid (by decide) h1 hs h
    have h3 := ct_X11_whole_g l G h6 hn (ck_te_gd (T := A 95) hid) (by decide) h2 hS hlv
    have e1 : ck_te (A 95) n (fun S => S) S = S := ck_te_st hst S (hb S hlv)
    rw [e1, ck_lpw_st _ S (hb S hlv)] at h3
    exact h3
  | N + 1, S, hS, hlv => by
    have hn31 : n < 2 ^ 31 := by omega
    have hW := ck_wh_gd (T := A 95) hn31 N
    have h1 : ∀ S, ck_sl n 0 S → ck_lv (N + 1) S → kx_M l G sX11_unit (4 * N + 4 + 2) 0 0 [.ref 93] (ck_pW M A L R S) sz none (ck_pW M A L R (ck_un (A 95) n (ck_wh (A 95) n N) S)) sz := fun S hs h => ct_X11_unit l G h6 hn hW (by omega) (fun S a b => ct_X11_whole l G h6 hn N S a b) hs h
    have hU := ck_un_gd (T := A 95) hn31 hW
    have h2 : ∀ S, ck_sl n 0 S → ck_lv (N + 1) S → kx_M l G sX11_term (4 * N + 4 + 2 + 1) 0 0 [.ref 93] (ck_pW M A L R S) sz none (ck_pW M A L R (ck_te (A 95) n (ck_un (A 95) n (ck_wh (A 95) n N)) S)) sz := fun S hs h => ct_X11_term_g l G h6 hn hU (by omega) h1 hs h
    exact ct_X11_whole_g l G h6 hn (ck_te_gd (T := A 95) hU) (by omega) h2 hS hlv


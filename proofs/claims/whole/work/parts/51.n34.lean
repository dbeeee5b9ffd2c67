theorem ck_wof_le (T : Nat → Int32) : ∀ f a v m, (ck_wof T f a v m).2 ≤ m + f
  | 0, a, v, m => Nat.le_refl _
  | f + 1, a, v, m => by
    unfold ck_wof
    split
    · have := ck_wof_le T f (a + 1) (if m < 8 then (v <<< ((5 : Int32).toInt64 &&& 63)) ||| (T a - 96).toInt64 else 0) (m + 1)
      omega
    · exact Nat.le_add_right _ _

def bX11_pass_0 : List kx_O := [(.aload_n 0, 0, 0, 0, .null), (.getfield 198, 11, 7, 0, .null), (.aload_n 0, 0, 0, 0, .null), (.getfield 201, 11, 6, 0, .null), (.if_icmp .ge 31, 39, 0, 0, .null)]
theorem kX11_pass_0 : kx_oks kxL_X11 false cX11_pass 0 bX11_pass_0 = true := by decide +kernel
def bX11_pass_11 : List kx_O := [(.aload_n 0, 0, 0, 0, .null), (.getfield 20, 11, 16, 0, .null), (.aload_n 0, 0, 0, 0, .null), (.getfield 198, 11, 7, 0, .null), (.iaload, 0, 0, 0, .null)]
theorem kX11_pass_11 : kx_oks kxL_X11 false cX11_pass 11 bX11_pass_11 = true := by decide +kernel
def bX11_pass_23 : List kx_O := [(.ifCond .eq 16, 39, 0, 0, .null)]
theorem kX11_pass_23 : kx_oks kxL_X11 false cX11_pass 23 bX11_pass_23 = true := by decide +kernel
def bX11_pass_26 : List kx_O := [(.aload_n 0, 0, 0, 0, .null), (.dup, 0, 0, 0, .null), (.getfield 198, 11, 7, 0, .null), (.iconst 1, 0, 0, 0, .int 1), (.iadd, 0, 0, 0, .null), (.putfield 198, 11, 7, 0, .null), (.goto (-36), 0, 0, 0, .null)]
theorem kX11_pass_26 : kx_oks kxL_X11 false cX11_pass 26 bX11_pass_26 = true := by decide +kernel
def bX11_pass_39 : List kx_O := [(.return_, 0, 0, 0, .null)]
theorem kX11_pass_39 : kx_oks kxL_X11 false cX11_pass 39 bX11_pass_39 = true := by decide +kernel
theorem dX11_pass_20 : decode cX11_pass 20 = .ok (.invokestatic 208, 3) := by decide +kernel
set_option maxRecDepth 100000 in
set_option maxHeartbeats 4000000 in
theorem ct_X11_pass (l : Launch) (G : kx_G) {M : Nat → Int32} {A : Nat → Nat → Int32} {L : Nat → Nat → Int64} {R : kx_P} {sz : Nat} {a c n : Nat} {b k o : Int32} {C N : Nat → Int32} (h6 : M 6 = nI n) (hn : n ≤ 400) (ha : a ≤ n)  : kx_M l G sX11_pass 2 0 0 [.ref 93] (mW (ck_pM M a b k o c) (ck_pA A C N) L R) sz none (mW (ck_pM M (ck_ps (A 95) n a) b k o c) (ck_pA A C N) L R) sz := by
  generalize hSS : ck_ps (A 95) n a = SS
  replace hSS := hSS.symm
  unfold ck_ps at hSS
  refine kx_mk kx_tab kxLok_X11 (ini := false) [some (.ref 93)] ⟨by decide, rfl, by decide, by decide⟩ (rfl) rfl rfl (fun g hB hC => ?_)
  have j39 : g 39 [some (.ref 93)] [] (mW (ck_pM M SS b k o c) (ck_pA A C N) L R) sz 0 0 := by
    refine hB bX11_pass_39 _ _ _ _ _ _ _ kX11_pass_39 ?_
    dsimp only [bX11_pass_39, kx_wp, kx_step, kx_lI, kx_lL, kx_lA, kx_gl, kx_pI, kx_pL, kx_pR, kx_pA, kx_pV, kx_s1, kx_s2, kx_sl, kx_pre, kx_c2, kx_pl, kx_cmp, kx_oF, kx_eqN, kx_nil, kx_c1, kx_ft, kx_aI, kx_aL, kx_aR, kx_ln, Nat.reduceAdd, Option.toList, List.cons_append, List.nil_append, mW_o, mf_7, mf_6, mf_16, m_95]
    repeat (simp only [ms_95, mu_7, mW_so, ck_p6, ck_p7, ck_p8, ck_p10, ck_p11, ck_p12, ck_p13, ck_p15, h6, nI_1, ck_pu7, ck_pu10, ck_pu11, ck_pu12, ck_pu13, ck_pu15, ck_pa95, ck_pa96, ck_pa97, ck_pa98, ck_pa99, ck_pem, ck_pau96, ck_pau99, va_us, va_upn, ne_eq, Nat.reduceEqDiff, not_false_eq_true]; try dsimp only [kx_wp, kx_step, kx_lI, kx_lL, kx_lA, kx_gl, kx_pI, kx_pL, kx_pR, kx_pA, kx_pV, kx_s1, kx_s2, kx_sl, kx_pre, kx_c2, kx_pl, kx_cmp, kx_oF, kx_eqN, kx_nil, kx_c1, kx_ft, kx_aI, kx_aL, kx_aR, kx_ln, Nat.reduceAdd, Option.toList, List.cons_append, List.nil_append, mW_o, mf_7, mf_6, mf_16, m_95])
    all_goals (repeat' apply And.intro)
    all_goals ((try clear hB hC); first | exact True.intro | with_reducible rfl | with_reducible assumption | (with_reducible refine vp_in_nI ?_ ?_ <;> first | omega | decide) | exact Nat.le_of_ble_eq_true rfl | (with_reducible refine ck_nzI ?_; simp; done) | (with_reducible refine ck_nzL ?_; simp; done) | (simp only [pk_us, pk_uLs, ↓reduceIte, not_true_eq_false, not_false_eq_true]; done) | (simp only [↓reduceIte, not_true_eq_false, not_false_eq_true]; with_reducible rfl) | skip)
  have loop0 : ∀ (n9 a : Nat), a + n9 = n → SS = ck_psf (A 95) n9 a → g 0 [some (.ref 93)] [] (mW (ck_pM M a b k o c) (ck_pA A C N) L R) sz 0 0 := by
    intro n9
    induction n9 with
    | zero =>
      intro a ha hE
      rw [ck_psf] at hE
      subst hE
      skip
      refine hB bX11_pass_0 _ _ _ _ _ _ _ kX11_pass_0 ?_
      dsimp only [bX11_pass_0, kx_wp, kx_step, kx_lI, kx_lL, kx_lA, kx_gl, kx_pI, kx_pL, kx_pR, kx_pA, kx_pV, kx_s1, kx_s2, kx_sl, kx_pre, kx_c2, kx_pl, kx_cmp, kx_oF, kx_eqN, kx_nil, kx_c1, kx_ft, kx_aI, kx_aL, kx_aR, kx_ln, Nat.reduceAdd, Option.toList, List.cons_append, List.nil_append, mW_o, mf_7, mf_6, mf_16, m_95]
      repeat (simp only [ms_95, mu_7, mW_so, ck_p6, ck_p7, ck_p8, ck_p10, ck_p11, ck_p12, ck_p13, ck_p15, h6, nI_1, ck_pu7, ck_pu10, ck_pu11, ck_pu12, ck_pu13, ck_pu15, ck_pa95, ck_pa96, ck_pa97, ck_pa98, ck_pa99, ck_pem, ck_pau96, ck_pau99, va_us, va_upn, ne_eq, Nat.reduceEqDiff, not_false_eq_true]; try dsimp only [kx_wp, kx_step, kx_lI, kx_lL, kx_lA, kx_gl, kx_pI, kx_pL, kx_pR, kx_pA, kx_pV, kx_s1, kx_s2, kx_sl, kx_pre, kx_c2, kx_pl, kx_cmp, kx_oF, kx_eqN, kx_nil, kx_c1, kx_ft, kx_aI, kx_aL, kx_aR, kx_ln, Nat.reduceAdd, Option.toList, List.cons_append, List.nil_append, mW_o, mf_7, mf_6, mf_16, m_95])
      repeat' apply And.intro
      all_goals try (first | with_reducible assumption | (with_reducible refine ck_nzI ?_; simp; done) | (with_reducible refine ck_nzL ?_; simp; done) | (with_reducible refine vp_in_nI ?_ ?_ <;> first | omega | decide) | (with_reducible refine Nat.le_of_ble_eq_true ?_; rfl) | omega)
      · intro zc8
        with_reducible first | have ze8 := Int32.not_lt.mpr zc8 | have ze8 := zc8
        all_goals exact j39
      · intro zc8
        first | exact absurd rfl zc8 | exact absurd zc8 (by decide) | exact absurd (by decide) zc8 | (exfalso; first | exact absurd zc8 (by first | (simp only [nI_leI (show n < 2 ^ 31 by omega) (show SS < 2 ^ 31 by omega)]; omega) | (simp only [nI_leI (show n < 2 ^ 31 by omega) (show SS < 2 ^ 31 by omega), Decidable.not_not]; omega)) | exact absurd zc23 (by decide) | exact zc23 rfl) | (exfalso; simp_all; done)
    | succ n9 ih =>
      intro a ha hE
      rw [ck_psf] at hE
      by_cases hb : 97 ≤ A 95 a ∧ A 95 a ≤ 122
      · rw [if_pos hb] at hE
        refine hB bX11_pass_0 _ _ _ _ _ _ _ kX11_pass_0 ?_
        dsimp only [bX11_pass_0, kx_wp, kx_step, kx_lI, kx_lL, kx_lA, kx_gl, kx_pI, kx_pL, kx_pR, kx_pA, kx_pV, kx_s1, kx_s2, kx_sl, kx_pre, kx_c2, kx_pl, kx_cmp, kx_oF, kx_eqN, kx_nil, kx_c1, kx_ft, kx_aI, kx_aL, kx_aR, kx_ln, Nat.reduceAdd, Option.toList, List.cons_append, List.nil_append, mW_o, mf_7, mf_6, mf_16, m_95]
        repeat (simp only [ms_95, mu_7, mW_so, ck_p6, ck_p7, ck_p8, ck_p10, ck_p11, ck_p12, ck_p13, ck_p15, h6, nI_1, ck_pu7, ck_pu10, ck_pu11, ck_pu12, ck_pu13, ck_pu15, ck_pa95, ck_pa96, ck_pa97, ck_pa98, ck_pa99, ck_pem, ck_pau96, ck_pau99, va_us, va_upn, ne_eq, Nat.reduceEqDiff, not_false_eq_true, nI_clamp (show a < 2 ^ 31 by omega)]; try dsimp only [kx_wp, kx_step, kx_lI, kx_lL, kx_lA, kx_gl, kx_pI, kx_pL, kx_pR, kx_pA, kx_pV, kx_s1, kx_s2, kx_sl, kx_pre, kx_c2, kx_pl, kx_cmp, kx_oF, kx_eqN, kx_nil, kx_c1, kx_ft, kx_aI, kx_aL, kx_aR, kx_ln, Nat.reduceAdd, Option.toList, List.cons_append, List.nil_append, mW_o, mf_7, mf_6, mf_16, m_95])
        repeat' apply And.intro
        all_goals try (first | with_reducible assumption | (with_reducible refine ck_nzI ?_; simp; done) | (with_reducible refine ck_nzL ?_; simp; done) | (with_reducible refine vp_in_nI ?_ ?_ <;> first | omega | decide) | (with_reducible refine Nat.le_of_ble_eq_true ?_; rfl) | omega)
        · intro zc8
          first | exact absurd rfl zc8 | exact absurd zc8 (by decide) | exact absurd (by decide) zc8 | (exfalso; first | exact absurd zc8 (by first | (simp only [nI_leI (show n < 2 ^ 31 by omega) (show a < 2 ^ 31 by omega)]; omega) | (simp only [nI_leI (show n < 2 ^ 31 by omega) (show a < 2 ^ 31 by omega), Decidable.not_not]; omega)) | exact absurd zc23 (by decide) | exact zc23 rfl) | (exfalso; simp_all; done)
        · intro zc8
          with_reducible first | have ze8 := Int32.not_le.mp zc8 | have ze8 := zc8
          refine hB bX11_pass_11 _ _ _ _ _ _ _ kX11_pass_11 ?_
          dsimp only [bX11_pass_11, kx_wp, kx_step, kx_lI, kx_lL, kx_lA, kx_gl, kx_pI, kx_pL, kx_pR, kx_pA, kx_pV, kx_s1, kx_s2, kx_sl, kx_pre, kx_c2, kx_pl, kx_cmp, kx_oF, kx_eqN, kx_nil, kx_c1, kx_ft, kx_aI, kx_aL, kx_aR, kx_ln, Nat.reduceAdd, Option.toList, List.cons_append, List.nil_append, mW_o, mf_7, mf_6, mf_16, m_95]
          repeat (simp only [ms_95, mu_7, mW_so, ck_p6, ck_p7, ck_p8, ck_p10, ck_p11, ck_p12, ck_p13, ck_p15, h6, nI_1, ck_pu7, ck_pu10, ck_pu11, ck_pu12, ck_pu13, ck_pu15, ck_pa95, ck_pa96, ck_pa97, ck_pa98, ck_pa99, ck_pem, ck_pau96, ck_pau99, va_us, va_upn, ne_eq, Nat.reduceEqDiff, not_false_eq_true, nI_clamp (show a < 2 ^ 31 by omega)]; try dsimp only [kx_wp, kx_step, kx_lI, kx_lL, kx_lA, kx_gl, kx_pI, kx_pL, kx_pR, kx_pA, kx_pV, kx_s1, kx_s2, kx_sl, kx_pre, kx_c2, kx_pl, kx_cmp, kx_oF, kx_eqN, kx_nil, kx_c1, kx_ft, kx_aI, kx_aL, kx_aR, kx_ln, Nat.reduceAdd, Option.toList, List.cons_append, List.nil_append, mW_o, mf_7, mf_6, mf_16, m_95])
          repeat' apply And.intro
          all_goals try (first | with_reducible assumption | (with_reducible refine ck_nzI ?_; simp; done) | (with_reducible refine ck_nzL ?_; simp; done) | (with_reducible refine vp_in_nI ?_ ?_ <;> first | omega | decide) | (with_reducible refine Nat.le_of_ble_eq_true ?_; rfl) | omega)
          refine hC.2.1 208 _ _ _ _ _ _ _ _ _ _ _ _ _ _ _ _ _ lX11_208 (ct_X11_isSmall l G) rfl rfl (Nat.le_of_ble_eq_true rfl) (by decide) (by decide) (by omega) (by omega) dX11_pass_20 ?_
          rw [if_pos hb]
          refine hB bX11_pass_23 _ _ _ _ _ _ _ kX11_pass_23 ?_
          dsimp only [bX11_pass_23, kx_wp, kx_step, kx_lI, kx_lL, kx_lA, kx_gl, kx_pI, kx_pL, kx_pR, kx_pA, kx_pV, kx_s1, kx_s2, kx_sl, kx_pre, kx_c2, kx_pl, kx_cmp, kx_oF, kx_eqN, kx_nil, kx_c1, kx_ft, kx_aI, kx_aL, kx_aR, kx_ln, Nat.reduceAdd, Option.toList, List.cons_append, List.nil_append, mW_o, mf_7, mf_6, mf_16, m_95]
          repeat (simp only [ms_95, mu_7, mW_so, ck_p6, ck_p7, ck_p8, ck_p10, ck_p11, ck_p12, ck_p13, ck_p15, h6, nI_1, ck_pu7, ck_pu10, ck_pu11, ck_pu12, ck_pu13, ck_pu15, ck_pa95, ck_pa96, ck_pa97, ck_pa98, ck_pa99, ck_pem, ck_pau96, ck_pau99, va_us, va_upn, ne_eq, Nat.reduceEqDiff, not_false_eq_true, nI_clamp (show a < 2 ^ 31 by omega)]; try dsimp only [kx_wp, kx_step, kx_lI, kx_lL, kx_lA, kx_gl, kx_pI, kx_pL, kx_pR, kx_pA, kx_pV, kx_s1, kx_s2, kx_sl, kx_pre, kx_c2, kx_pl, kx_cmp, kx_oF, kx_eqN, kx_nil, kx_c1, kx_ft, kx_aI, kx_aL, kx_aR, kx_ln, Nat.reduceAdd, Option.toList, List.cons_append, List.nil_append, mW_o, mf_7, mf_6, mf_16, m_95])
          repeat' apply And.intro
          all_goals try (first | with_reducible assumption | (with_reducible refine ck_nzI ?_; simp; done) | (with_reducible refine ck_nzL ?_; simp; done) | (with_reducible refine vp_in_nI ?_ ?_ <;> first | omega | decide) | (with_reducible refine Nat.le_of_ble_eq_true ?_; rfl) | omega)
          · intro zc23
            first | exact absurd rfl zc23 | exact absurd zc23 (by decide) | exact absurd (by decide) zc23 | (exfalso; first | exact absurd zc8 (by first | (simp only [nI_leI (show n < 2 ^ 31 by omega) (show a < 2 ^ 31 by omega)]; omega) | (simp only [nI_leI (show n < 2 ^ 31 by omega) (show a < 2 ^ 31 by omega), Decidable.not_not]; omega)) | exact absurd zc23 (by decide) | exact zc23 rfl) | (exfalso; simp_all; done)
          · intro zc23
            have ze23 := zc23
            refine hB bX11_pass_26 _ _ _ _ _ _ _ kX11_pass_26 ?_
            dsimp only [bX11_pass_26, kx_wp, kx_step, kx_lI, kx_lL, kx_lA, kx_gl, kx_pI, kx_pL, kx_pR, kx_pA, kx_pV, kx_s1, kx_s2, kx_sl, kx_pre, kx_c2, kx_pl, kx_cmp, kx_oF, kx_eqN, kx_nil, kx_c1, kx_ft, kx_aI, kx_aL, kx_aR, kx_ln, Nat.reduceAdd, Option.toList, List.cons_append, List.nil_append, mW_o, mf_7, mf_6, mf_16, m_95]
            repeat (simp only [ms_95, mu_7, mW_so, ck_p6, ck_p7, ck_p8, ck_p10, ck_p11, ck_p12, ck_p13, ck_p15, h6, nI_1, ck_pu7, ck_pu10, ck_pu11, ck_pu12, ck_pu13, ck_pu15, ck_pa95, ck_pa96, ck_pa97, ck_pa98, ck_pa99, ck_pem, ck_pau96, ck_pau99, va_us, va_upn, ne_eq, Nat.reduceEqDiff, not_false_eq_true, nI_clamp (show a < 2 ^ 31 by omega)]; try dsimp only [kx_wp, kx_step, kx_lI, kx_lL, kx_lA, kx_gl, kx_pI, kx_pL, kx_pR, kx_pA, kx_pV, kx_s1, kx_s2, kx_sl, kx_pre, kx_c2, kx_pl, kx_cmp, kx_oF, kx_eqN, kx_nil, kx_c1, kx_ft, kx_aI, kx_aL, kx_aR, kx_ln, Nat.reduceAdd, Option.toList, List.cons_append, List.nil_append, mW_o, mf_7, mf_6, mf_16, m_95])
            repeat' apply And.intro
            all_goals try (first | with_reducible assumption | (with_reducible refine ck_nzI ?_; simp; done) | (with_reducible refine ck_nzL ?_; simp; done) | (with_reducible refine vp_in_nI ?_ ?_ <;> first | omega | decide) | (with_reducible refine Nat.le_of_ble_eq_true ?_; rfl) | omega)
            all_goals exact ih (a + 1) (by omega) hE
      · rw [if_neg hb] at hE
        subst hE
        refine hB bX11_pass_0 _ _ _ _ _ _ _ kX11_pass_0 ?_
        dsimp only [bX11_pass_0, kx_wp, kx_step, kx_lI, kx_lL, kx_lA, kx_gl, kx_pI, kx_pL, kx_pR, kx_pA, kx_pV, kx_s1, kx_s2, kx_sl, kx_pre, kx_c2, kx_pl, kx_cmp, kx_oF, kx_eqN, kx_nil, kx_c1, kx_ft, kx_aI, kx_aL, kx_aR, kx_ln, Nat.reduceAdd, Option.toList, List.cons_append, List.nil_append, mW_o, mf_7, mf_6, mf_16, m_95]
        repeat (simp only [ms_95, mu_7, mW_so, ck_p6, ck_p7, ck_p8, ck_p10, ck_p11, ck_p12, ck_p13, ck_p15, h6, nI_1, ck_pu7, ck_pu10, ck_pu11, ck_pu12, ck_pu13, ck_pu15, ck_pa95, ck_pa96, ck_pa97, ck_pa98, ck_pa99, ck_pem, ck_pau96, ck_pau99, va_us, va_upn, ne_eq, Nat.reduceEqDiff, not_false_eq_true, nI_clamp (show SS < 2 ^ 31 by omega)]; try dsimp only [kx_wp, kx_step, kx_lI, kx_lL, kx_lA, kx_gl, kx_pI, kx_pL, kx_pR, kx_pA, kx_pV, kx_s1, kx_s2, kx_sl, kx_pre, kx_c2, kx_pl, kx_cmp, kx_oF, kx_eqN, kx_nil, kx_c1, kx_ft, kx_aI, kx_aL, kx_aR, kx_ln, Nat.reduceAdd, Option.toList, List.cons_append, List.nil_append, mW_o, mf_7, mf_6, mf_16, m_95])
        repeat' apply And.intro
        all_goals try (first | with_reducible assumption | (with_reducible refine ck_nzI ?_; simp; done) | (with_reducible refine ck_nzL ?_; simp; done) | (with_reducible refine vp_in_nI ?_ ?_ <;> first | omega | decide) | (with_reducible refine Nat.le_of_ble_eq_true ?_; rfl) | omega)
        · intro zc8
          first | exact absurd rfl zc8 | exact absurd zc8 (by decide) | exact absurd (by decide) zc8 | (exfalso; first | exact absurd zc8 (by first | (simp only [nI_leI (show n < 2 ^ 31 by omega) (show SS < 2 ^ 31 by omega)]; omega) | (simp only [nI_leI (show n < 2 ^ 31 by omega) (show SS < 2 ^ 31 by omega), Decidable.not_not]; omega)) | exact absurd zc23 (by decide) | exact zc23 rfl) | (exfalso; simp_all; done)
        · intro zc8
          with_reducible first | have ze8 := Int32.not_le.mp zc8 | have ze8 := zc8
          refine hB bX11_pass_11 _ _ _ _ _ _ _ kX11_pass_11 ?_
          dsimp only [bX11_pass_11, kx_wp, kx_step, kx_lI, kx_lL, kx_lA, kx_gl, kx_pI, kx_pL, kx_pR, kx_pA, kx_pV, kx_s1, kx_s2, kx_sl, kx_pre, kx_c2, kx_pl, kx_cmp, kx_oF, kx_eqN, kx_nil, kx_c1, kx_ft, kx_aI, kx_aL, kx_aR, kx_ln, Nat.reduceAdd, Option.toList, List.cons_append, List.nil_append, mW_o, mf_7, mf_6, mf_16, m_95]
          repeat (simp only [ms_95, mu_7, mW_so, ck_p6, ck_p7, ck_p8, ck_p10, ck_p11, ck_p12, ck_p13, ck_p15, h6, nI_1, ck_pu7, ck_pu10, ck_pu11, ck_pu12, ck_pu13, ck_pu15, ck_pa95, ck_pa96, ck_pa97, ck_pa98, ck_pa99, ck_pem, ck_pau96, ck_pau99, va_us, va_upn, ne_eq, Nat.reduceEqDiff, not_false_eq_true, nI_clamp (show SS < 2 ^ 31 by omega)]; try dsimp only [kx_wp, kx_step, kx_lI, kx_lL, kx_lA, kx_gl, kx_pI, kx_pL, kx_pR, kx_pA, kx_pV, kx_s1, kx_s2, kx_sl, kx_pre, kx_c2, kx_pl, kx_cmp, kx_oF, kx_eqN, kx_nil, kx_c1, kx_ft, kx_aI, kx_aL, kx_aR, kx_ln, Nat.reduceAdd, Option.toList, List.cons_append, List.nil_append, mW_o, mf_7, mf_6, mf_16, m_95])
          repeat' apply And.intro
          all_goals try (first | with_reducible assumption | (with_reducible refine ck_nzI ?_; simp; done) | (with_reducible refine ck_nzL ?_; simp; done) | (with_reducible refine vp_in_nI ?_ ?_ <;> first | omega | decide) | (with_reducible refine Nat.le_of_ble_eq_true ?_; rfl) | omega)
          refine hC.2.1 208 _ _ _ _ _ _ _ _ _ _ _ _ _ _ _ _ _ lX11_208 (ct_X11_isSmall l G) rfl rfl (Nat.le_of_ble_eq_true rfl) (by decide) (by decide) (by omega) (by omega) dX11_pass_20 ?_
          rw [if_neg hb]
          refine hB bX11_pass_23 _ _ _ _ _ _ _ kX11_pass_23 ?_
          dsimp only [bX11_pass_23, kx_wp, kx_step, kx_lI, kx_lL, kx_lA, kx_gl, kx_pI, kx_pL, kx_pR, kx_pA, kx_pV, kx_s1, kx_s2, kx_sl, kx_pre, kx_c2, kx_pl, kx_cmp, kx_oF, kx_eqN, kx_nil, kx_c1, kx_ft, kx_aI, kx_aL, kx_aR, kx_ln, Nat.reduceAdd, Option.toList, List.cons_append, List.nil_append, mW_o, mf_7, mf_6, mf_16, m_95]
          repeat (simp only [ms_95, mu_7, mW_so, ck_p6, ck_p7, ck_p8, ck_p10, ck_p11, ck_p12, ck_p13, ck_p15, h6, nI_1, ck_pu7, ck_pu10, ck_pu11, ck_pu12, ck_pu13, ck_pu15, ck_pa95, ck_pa96, ck_pa97, ck_pa98, ck_pa99, ck_pem, ck_pau96, ck_pau99, va_us, va_upn, ne_eq, Nat.reduceEqDiff, not_false_eq_true, nI_clamp (show SS < 2 ^ 31 by omega)]; try dsimp only [kx_wp, kx_step, kx_lI, kx_lL, kx_lA, kx_gl, kx_pI, kx_pL, kx_pR, kx_pA, kx_pV, kx_s1, kx_s2, kx_sl, kx_pre, kx_c2, kx_pl, kx_cmp, kx_oF, kx_eqN, kx_nil, kx_c1, kx_ft, kx_aI, kx_aL, kx_aR, kx_ln, Nat.reduceAdd, Option.toList, List.cons_append, List.nil_append, mW_o, mf_7, mf_6, mf_16, m_95])
          repeat' apply And.intro
          all_goals try (first | with_reducible assumption | (with_reducible refine ck_nzI ?_; simp; done) | (with_reducible refine ck_nzL ?_; simp; done) | (with_reducible refine vp_in_nI ?_ ?_ <;> first | omega | decide) | (with_reducible refine Nat.le_of_ble_eq_true ?_; rfl) | omega)
          · intro zc23
            have ze23 := zc23
            all_goals exact j39
          · intro zc23
            first | exact absurd rfl zc23 | exact absurd zc23 (by decide) | exact absurd (by decide) zc23 | (exfalso; first | exact absurd zc8 (by first | (simp only [nI_leI (show n < 2 ^ 31 by omega) (show SS < 2 ^ 31 by omega)]; omega) | (simp only [nI_leI (show n < 2 ^ 31 by omega) (show SS < 2 ^ 31 by omega), Decidable.not_not]; omega)) | exact absurd zc23 (by decide) | exact zc23 rfl) | (exfalso; simp_all; done)
  exact loop0 (n - a) a (by omega) hSS

def bX11_word_0 : List kx_O := [(.aload_n 0, 0, 0, 0, .null)]
theorem kX11_word_0 : kx_oks kxL_X11 false cX11_word 0 bX11_word_0 = true := by decide +kernel
def bX11_word_4 : List kx_O := [(.pop, 0, 0, 0, .null), (.lconst 0, 0, 0, 0, .long 0), (.lstore_n 1, 1, 0, 0, .null), (.iconst 0, 0, 0, 0, .int 0), (.istore_n 3, 3, 0, 0, .null), (.aload_n 0, 0, 0, 0, .null), (.getfield 198, 11, 7, 0, .null), (.istore 4, 4, 0, 0, .null)]
theorem kX11_word_4 : kx_oks kxL_X11 false cX11_word 4 bX11_word_4 = true := by decide +kernel
def bX11_word_15 : List kx_O := [(.iload 4, 4, 0, 0, .null), (.aload_n 0, 0, 0, 0, .null), (.getfield 201, 11, 6, 0, .null), (.if_icmp .ge 51, 72, 0, 0, .null)]
theorem kX11_word_15 : kx_oks kxL_X11 false cX11_word 15 bX11_word_15 = true := by decide +kernel
def bX11_word_24 : List kx_O := [(.aload_n 0, 0, 0, 0, .null), (.getfield 20, 11, 16, 0, .null), (.iload 4, 4, 0, 0, .null), (.iaload, 0, 0, 0, .null)]
theorem kX11_word_24 : kx_oks kxL_X11 false cX11_word 24 bX11_word_24 = true := by decide +kernel
def bX11_word_34 : List kx_O := [(.ifCond .eq 38, 72, 0, 0, .null)]
theorem kX11_word_34 : kx_oks kxL_X11 false cX11_word 34 bX11_word_34 = true := by decide +kernel
def bX11_word_37 : List kx_O := [(.iload_n 3, 3, 0, 0, .null), (.bipush 8, 0, 0, 0, .int 8), (.if_icmp .ge 21, 61, 0, 0, .null)]
theorem kX11_word_37 : kx_oks kxL_X11 false cX11_word 37 bX11_word_37 = true := by decide +kernel
def bX11_word_43 : List kx_O := [(.lload_n 1, 1, 0, 0, .null), (.iconst 5, 0, 0, 0, .int 5), (.lshl, 0, 0, 0, .null), (.aload_n 0, 0, 0, 0, .null), (.getfield 20, 11, 16, 0, .null), (.iload 4, 4, 0, 0, .null), (.iaload, 0, 0, 0, .null), (.bipush 96, 0, 0, 0, .int 96), (.isub, 0, 0, 0, .null), (.i2l, 0, 0, 0, .null), (.lor, 0, 0, 0, .null), (.goto 4, 62, 0, 0, .null)]
theorem kX11_word_43 : kx_oks kxL_X11 false cX11_word 43 bX11_word_43 = true := by decide +kernel
def bX11_word_61 : List kx_O := [(.lconst 0, 0, 0, 0, .long 0)]
theorem kX11_word_61 : kx_oks kxL_X11 false cX11_word 61 bX11_word_61 = true := by decide +kernel
def bX11_word_62 : List kx_O := [(.lstore_n 1, 1, 0, 0, .null), (.iinc 3 1, 3, 0, 0, .int 1), (.iinc 4 1, 4, 0, 0, .int 1), (.goto (-54), 15, 0, 0, .null)]
theorem kX11_word_62 : kx_oks kxL_X11 false cX11_word 62 bX11_word_62 = true := by decide +kernel
def bX11_word_72 : List kx_O := [(.iload_n 3, 3, 0, 0, .null), (.bipush 8, 0, 0, 0, .int 8), (.if_icmp .le 7, 82, 0, 0, .null)]
theorem kX11_word_72 : kx_oks kxL_X11 false cX11_word 72 bX11_word_72 = true := by decide +kernel
def bX11_word_78 : List kx_O := [(.lconst 0, 0, 0, 0, .long 0), (.goto 4, 83, 0, 0, .null)]
theorem kX11_word_78 : kx_oks kxL_X11 false cX11_word 78 bX11_word_78 = true := by decide +kernel
def bX11_word_82 : List kx_O := [(.lload_n 1, 1, 0, 0, .null)]
theorem kX11_word_82 : kx_oks kxL_X11 false cX11_word 82 bX11_word_82 = true := by decide +kernel
def bX11_word_83 : List kx_O := [(.lreturn, 0, 0, 0, .null)]
theorem kX11_word_83 : kx_oks kxL_X11 false cX11_word 83 bX11_word_83 = true := by decide +kernel
theorem dX11_word_1 : decode cX11_word 1 = .ok (.invokevirtual 204, 3) := by decide +kernel
theorem dX11_word_31 : decode cX11_word 31 = .ok (.invokestatic 208, 3) := by decide +kernel
set_option maxRecDepth 100000 in
set_option maxHeartbeats 4000000 in
theorem ct_X11_word (l : Launch) (G : kx_G) {M : Nat → Int32} {A : Nat → Nat → Int32} {L : Nat → Nat → Int64} {R : kx_P} {sz : Nat} {a c n : Nat} {b k o : Int32} {C N : Nat → Int32} (h6 : M 6 = nI n) (hn : n ≤ 400) (ha : a ≤ n)  : kx_M l G sX11_word 2 0 0 [.ref 93] (mW (ck_pM M a b k o c) (ck_pA A C N) L R) sz (some (.long (ck_wo_ (A 95) n (ck_sk (A 95) n a)))) (mW (ck_pM M (ck_sk (A 95) n a) b k o c) (ck_pA A C N) L R) sz := by
  have zsk := ck_sk_le (A 95) ha
  generalize hA1 : ck_sk (A 95) n a = a1 at zsk ⊢
  unfold ck_wo_
  have zwl := ck_wof_le (A 95) (n - a1) a1 0 0
  generalize hSS : ck_wof (A 95) (n - a1) a1 0 0 = SS at zwl
  obtain ⟨vv, mm⟩ := SS
  dsimp only at zwl
  replace hSS := hSS.symm
  refine kx_mk kx_tab kxLok_X11 (ini := false) [some (.ref 93), none, none, none, none] ⟨by decide, rfl, by decide, by decide⟩ (⟨_, rfl⟩) rfl rfl (fun g hB hC => ?_)
  have j72 : ∀ x4, g 72 [some (.ref 93), some (.long vv), none, some (.int (nI mm)), x4] [] (mW (ck_pM M a1 b k o c) (ck_pA A C N) L R) sz 0 0 := by
    intro x4
    by_cases h8 : 8 < mm
    · skip
      refine hB bX11_word_72 _ _ _ _ _ _ _ kX11_word_72 ?_
      dsimp only [bX11_word_72, kx_wp, kx_step, kx_lI, kx_lL, kx_lA, kx_gl, kx_pI, kx_pL, kx_pR, kx_pA, kx_pV, kx_s1, kx_s2, kx_sl, kx_pre, kx_c2, kx_pl, kx_cmp, kx_oF, kx_eqN, kx_nil, kx_c1, kx_ft, kx_aI, kx_aL, kx_aR, kx_ln, Nat.reduceAdd, Option.toList, List.cons_append, List.nil_append, mW_o, mf_7, mf_6, mf_16, m_95]
      repeat (simp only [ms_95, ck_p6, ck_p7, ck_p8, ck_p10, ck_p11, ck_p12, ck_p13, ck_p15, h6, nI_1, ck_pu7, ck_pu10, ck_pu11, ck_pu12, ck_pu13, ck_pu15, ck_pa95, ck_pa96, ck_pa97, ck_pa98, ck_pa99, ck_pem, ck_pau96, ck_pau99, va_us, va_upn, ne_eq, Nat.reduceEqDiff, not_false_eq_true, hA1]; try dsimp only [kx_wp, kx_step, kx_lI, kx_lL, kx_lA, kx_gl, kx_pI, kx_pL, kx_pR, kx_pA, kx_pV, kx_s1, kx_s2, kx_sl, kx_pre, kx_c2, kx_pl, kx_cmp, kx_oF, kx_eqN, kx_nil, kx_c1, kx_ft, kx_aI, kx_aL, kx_aR, kx_ln, Nat.reduceAdd, Option.toList, List.cons_append, List.nil_append, mW_o, mf_7, mf_6, mf_16, m_95])
      repeat' apply And.intro
      all_goals try (first | with_reducible assumption | (with_reducible refine ck_nzI ?_; simp; done) | (with_reducible refine ck_nzL ?_; simp; done) | (with_reducible refine vp_in_nI ?_ ?_ <;> first | omega | decide) | (with_reducible refine Nat.le_of_ble_eq_true ?_; rfl) | omega)
      · intro zc75
        first | exact absurd rfl zc75 | exact absurd zc75 (by decide) | exact absurd (by decide) zc75 | (exfalso; first | exact absurd ((nI_leI (b := 8) (by omega) (by decide)).mp zc75) (by omega) | exact zc75 ((nI_leI (b := 8) (by omega) (by decide)).mpr (by omega)) | exact zc75 (nI_lt (a := 8) h8 (by omega)) | exact nI_nlt (a := 8) (b := mm) (by omega) (by omega) zc75) | (exfalso; simp_all; done)
      · intro zc75
        with_reducible first | have ze75 := Int32.not_le.mp zc75 | have ze75 := zc75
        refine hB bX11_word_78 _ _ _ _ _ _ _ kX11_word_78 ?_
        dsimp only [bX11_word_78, kx_wp, kx_step, kx_lI, kx_lL, kx_lA, kx_gl, kx_pI, kx_pL, kx_pR, kx_pA, kx_pV, kx_s1, kx_s2, kx_sl, kx_pre, kx_c2, kx_pl, kx_cmp, kx_oF, kx_eqN, kx_nil, kx_c1, kx_ft, kx_aI, kx_aL, kx_aR, kx_ln, Nat.reduceAdd, Option.toList, List.cons_append, List.nil_append, mW_o, mf_7, mf_6, mf_16, m_95]
        repeat (simp only [ms_95, ck_p6, ck_p7, ck_p8, ck_p10, ck_p11, ck_p12, ck_p13, ck_p15, h6, nI_1, ck_pu7, ck_pu10, ck_pu11, ck_pu12, ck_pu13, ck_pu15, ck_pa95, ck_pa96, ck_pa97, ck_pa98, ck_pa99, ck_pem, ck_pau96, ck_pau99, va_us, va_upn, ne_eq, Nat.reduceEqDiff, not_false_eq_true, hA1]; try dsimp only [kx_wp, kx_step, kx_lI, kx_lL, kx_lA, kx_gl, kx_pI, kx_pL, kx_pR, kx_pA, kx_pV, kx_s1, kx_s2, kx_sl, kx_pre, kx_c2, kx_pl, kx_cmp, kx_oF, kx_eqN, kx_nil, kx_c1, kx_ft, kx_aI, kx_aL, kx_aR, kx_ln, Nat.reduceAdd, Option.toList, List.cons_append, List.nil_append, mW_o, mf_7, mf_6, mf_16, m_95])
        repeat' apply And.intro
        all_goals try (first | with_reducible assumption | (with_reducible refine ck_nzI ?_; simp; done) | (with_reducible refine ck_nzL ?_; simp; done) | (with_reducible refine vp_in_nI ?_ ?_ <;> first | omega | decide) | (with_reducible refine Nat.le_of_ble_eq_true ?_; rfl) | omega)
        refine hB bX11_word_83 _ _ _ _ _ _ _ kX11_word_83 ?_
        dsimp only [bX11_word_83, kx_wp, kx_step, kx_lI, kx_lL, kx_lA, kx_gl, kx_pI, kx_pL, kx_pR, kx_pA, kx_pV, kx_s1, kx_s2, kx_sl, kx_pre, kx_c2, kx_pl, kx_cmp, kx_oF, kx_eqN, kx_nil, kx_c1, kx_ft, kx_aI, kx_aL, kx_aR, kx_ln, Nat.reduceAdd, Option.toList, List.cons_append, List.nil_append, mW_o, mf_7, mf_6, mf_16, m_95]
        repeat (simp only [ms_95, ck_p6, ck_p7, ck_p8, ck_p10, ck_p11, ck_p12, ck_p13, ck_p15, h6, nI_1, ck_pu7, ck_pu10, ck_pu11, ck_pu12, ck_pu13, ck_pu15, ck_pa95, ck_pa96, ck_pa97, ck_pa98, ck_pa99, ck_pem, ck_pau96, ck_pau99, va_us, va_upn, ne_eq, Nat.reduceEqDiff, not_false_eq_true, hA1]; try dsimp only [kx_wp, kx_step, kx_lI, kx_lL, kx_lA, kx_gl, kx_pI, kx_pL, kx_pR, kx_pA, kx_pV, kx_s1, kx_s2, kx_sl, kx_pre, kx_c2, kx_pl, kx_cmp, kx_oF, kx_eqN, kx_nil, kx_c1, kx_ft, kx_aI, kx_aL, kx_aR, kx_ln, Nat.reduceAdd, Option.toList, List.cons_append, List.nil_append, mW_o, mf_7, mf_6, mf_16, m_95])
        all_goals (repeat' apply And.intro)
        all_goals ((try clear hB hC); first | exact True.intro | (rw [if_pos h8]; done) | (rw [if_neg h8]; done) | (rw [if_pos h8]) | (rw [if_neg h8]) | with_reducible rfl | with_reducible assumption)
    · skip
      refine hB bX11_word_72 _ _ _ _ _ _ _ kX11_word_72 ?_
      dsimp only [bX11_word_72, kx_wp, kx_step, kx_lI, kx_lL, kx_lA, kx_gl, kx_pI, kx_pL, kx_pR, kx_pA, kx_pV, kx_s1, kx_s2, kx_sl, kx_pre, kx_c2, kx_pl, kx_cmp, kx_oF, kx_eqN, kx_nil, kx_c1, kx_ft, kx_aI, kx_aL, kx_aR, kx_ln, Nat.reduceAdd, Option.toList, List.cons_append, List.nil_append, mW_o, mf_7, mf_6, mf_16, m_95]
      repeat (simp only [ms_95, ck_p6, ck_p7, ck_p8, ck_p10, ck_p11, ck_p12, ck_p13, ck_p15, h6, nI_1, ck_pu7, ck_pu10, ck_pu11, ck_pu12, ck_pu13, ck_pu15, ck_pa95, ck_pa96, ck_pa97, ck_pa98, ck_pa99, ck_pem, ck_pau96, ck_pau99, va_us, va_upn, ne_eq, Nat.reduceEqDiff, not_false_eq_true, hA1]; try dsimp only [kx_wp, kx_step, kx_lI, kx_lL, kx_lA, kx_gl, kx_pI, kx_pL, kx_pR, kx_pA, kx_pV, kx_s1, kx_s2, kx_sl, kx_pre, kx_c2, kx_pl, kx_cmp, kx_oF, kx_eqN, kx_nil, kx_c1, kx_ft, kx_aI, kx_aL, kx_aR, kx_ln, Nat.reduceAdd, Option.toList, List.cons_append, List.nil_append, mW_o, mf_7, mf_6, mf_16, m_95])
      repeat' apply And.intro
      all_goals try (first | with_reducible assumption | (with_reducible refine ck_nzI ?_; simp; done) | (with_reducible refine ck_nzL ?_; simp; done) | (with_reducible refine vp_in_nI ?_ ?_ <;> first | omega | decide) | (with_reducible refine Nat.le_of_ble_eq_true ?_; rfl) | omega)
      · intro zc75
        with_reducible first | have ze75 := Int32.not_lt.mpr zc75 | have ze75 := zc75
        refine hB bX11_word_82 _ _ _ _ _ _ _ kX11_word_82 ?_
        dsimp only [bX11_word_82, kx_wp, kx_step, kx_lI, kx_lL, kx_lA, kx_gl, kx_pI, kx_pL, kx_pR, kx_pA, kx_pV, kx_s1, kx_s2, kx_sl, kx_pre, kx_c2, kx_pl, kx_cmp, kx_oF, kx_eqN, kx_nil, kx_c1, kx_ft, kx_aI, kx_aL, kx_aR, kx_ln, Nat.reduceAdd, Option.toList, List.cons_append, List.nil_append, mW_o, mf_7, mf_6, mf_16, m_95]
        repeat (simp only [ms_95, ck_p6, ck_p7, ck_p8, ck_p10, ck_p11, ck_p12, ck_p13, ck_p15, h6, nI_1, ck_pu7, ck_pu10, ck_pu11, ck_pu12, ck_pu13, ck_pu15, ck_pa95, ck_pa96, ck_pa97, ck_pa98, ck_pa99, ck_pem, ck_pau96, ck_pau99, va_us, va_upn, ne_eq, Nat.reduceEqDiff, not_false_eq_true, hA1]; try dsimp only [kx_wp, kx_step, kx_lI, kx_lL, kx_lA, kx_gl, kx_pI, kx_pL, kx_pR, kx_pA, kx_pV, kx_s1, kx_s2, kx_sl, kx_pre, kx_c2, kx_pl, kx_cmp, kx_oF, kx_eqN, kx_nil, kx_c1, kx_ft, kx_aI, kx_aL, kx_aR, kx_ln, Nat.reduceAdd, Option.toList, List.cons_append, List.nil_append, mW_o, mf_7, mf_6, mf_16, m_95])
        repeat' apply And.intro
        all_goals try (first | with_reducible assumption | (with_reducible refine ck_nzI ?_; simp; done) | (with_reducible refine ck_nzL ?_; simp; done) | (with_reducible refine vp_in_nI ?_ ?_ <;> first | omega | decide) | (with_reducible refine Nat.le_of_ble_eq_true ?_; rfl) | omega)
        refine hB bX11_word_83 _ _ _ _ _ _ _ kX11_word_83 ?_
        dsimp only [bX11_word_83, kx_wp, kx_step, kx_lI, kx_lL, kx_lA, kx_gl, kx_pI, kx_pL, kx_pR, kx_pA, kx_pV, kx_s1, kx_s2, kx_sl, kx_pre, kx_c2, kx_pl, kx_cmp, kx_oF, kx_eqN, kx_nil, kx_c1, kx_ft, kx_aI, kx_aL, kx_aR, kx_ln, Nat.reduceAdd, Option.toList, List.cons_append, List.nil_append, mW_o, mf_7, mf_6, mf_16, m_95]
        repeat (simp only [ms_95, ck_p6, ck_p7, ck_p8, ck_p10, ck_p11, ck_p12, ck_p13, ck_p15, h6, nI_1, ck_pu7, ck_pu10, ck_pu11, ck_pu12, ck_pu13, ck_pu15, ck_pa95, ck_pa96, ck_pa97, ck_pa98, ck_pa99, ck_pem, ck_pau96, ck_pau99, va_us, va_upn, ne_eq, Nat.reduceEqDiff, not_false_eq_true, hA1]; try dsimp only [kx_wp, kx_step, kx_lI, kx_lL, kx_lA, kx_gl, kx_pI, kx_pL, kx_pR, kx_pA, kx_pV, kx_s1, kx_s2, kx_sl, kx_pre, kx_c2, kx_pl, kx_cmp, kx_oF, kx_eqN, kx_nil, kx_c1, kx_ft, kx_aI, kx_aL, kx_aR, kx_ln, Nat.reduceAdd, Option.toList, List.cons_append, List.nil_append, mW_o, mf_7, mf_6, mf_16, m_95])
        all_goals (repeat' apply And.intro)
        all_goals ((try clear hB hC); first | exact True.intro | (rw [if_pos h8]; done) | (rw [if_neg h8]; done) | (rw [if_pos h8]) | (rw [if_neg h8]) | with_reducible rfl | with_reducible assumption)
      · intro zc75
        first | exact absurd rfl zc75 | exact absurd zc75 (by decide) | exact absurd (by decide) zc75 | (exfalso; first | exact absurd ((nI_leI (b := 8) (by omega) (by decide)).mp zc75) (by omega) | exact zc75 ((nI_leI (b := 8) (by omega) (by decide)).mpr (by omega)) | exact zc75 (nI_lt (a := 8) h8 (by omega)) | exact nI_nlt (a := 8) (b := mm) (by omega) (by omega) zc75) | (exfalso; simp_all; done)
  have loop15 : ∀ (n9 a : Nat) (v : Int64) (m : Nat), a + n9 = n → m ≤ a → (vv, mm) = ck_wof (A 95) n9 a v m → g 15 [some (.ref 93), some (.long v), none, some (.int (nI m)), some (.int (nI a))] [] (mW (ck_pM M a1 b k o c) (ck_pA A C N) L R) sz 0 0 := by
    intro n9
    induction n9 with
    | zero =>
      intro a v m ha hma hE
      rw [ck_wof] at hE
      obtain ⟨rfl, rfl⟩ := Prod.mk.inj hE
      skip
      refine hB bX11_word_15 _ _ _ _ _ _ _ kX11_word_15 ?_
      dsimp only [bX11_word_15, kx_wp, kx_step, kx_lI, kx_lL, kx_lA, kx_gl, kx_pI, kx_pL, kx_pR, kx_pA, kx_pV, kx_s1, kx_s2, kx_sl, kx_pre, kx_c2, kx_pl, kx_cmp, kx_oF, kx_eqN, kx_nil, kx_c1, kx_ft, kx_aI, kx_aL, kx_aR, kx_ln, Nat.reduceAdd, Option.toList, List.cons_append, List.nil_append, mW_o, mf_7, mf_6, mf_16, m_95]
      repeat (simp only [ms_95, ck_p6, ck_p7, ck_p8, ck_p10, ck_p11, ck_p12, ck_p13, ck_p15, h6, nI_1, ck_pu7, ck_pu10, ck_pu11, ck_pu12, ck_pu13, ck_pu15, ck_pa95, ck_pa96, ck_pa97, ck_pa98, ck_pa99, ck_pem, ck_pau96, ck_pau99, va_us, va_upn, ne_eq, Nat.reduceEqDiff, not_false_eq_true, hA1]; try dsimp only [kx_wp, kx_step, kx_lI, kx_lL, kx_lA, kx_gl, kx_pI, kx_pL, kx_pR, kx_pA, kx_pV, kx_s1, kx_s2, kx_sl, kx_pre, kx_c2, kx_pl, kx_cmp, kx_oF, kx_eqN, kx_nil, kx_c1, kx_ft, kx_aI, kx_aL, kx_aR, kx_ln, Nat.reduceAdd, Option.toList, List.cons_append, List.nil_append, mW_o, mf_7, mf_6, mf_16, m_95])
      repeat' apply And.intro
      all_goals try (first | with_reducible assumption | (with_reducible refine ck_nzI ?_; simp; done) | (with_reducible refine ck_nzL ?_; simp; done) | (with_reducible refine vp_in_nI ?_ ?_ <;> first | omega | decide) | (with_reducible refine Nat.le_of_ble_eq_true ?_; rfl) | omega)
      · intro zc21
        with_reducible first | have ze21 := Int32.not_lt.mpr zc21 | have ze21 := zc21
        all_goals exact j72 _
      · intro zc21
        first | exact absurd rfl zc21 | exact absurd zc21 (by decide) | exact absurd (by decide) zc21 | (exfalso; first | exact absurd zc21 (by first | (simp only [nI_leI (show n < 2 ^ 31 by omega) (show a < 2 ^ 31 by omega)]; omega) | (simp only [nI_leI (show n < 2 ^ 31 by omega) (show a < 2 ^ 31 by omega), Decidable.not_not]; omega)) | exact absurd zc34 (by decide) | exact zc34 rfl | exact nI_nlt (by omega) (by omega) zc40 | exact zc40 (nI_lt (by omega) (by omega)) | exact absurd ((nI_leI (a := 8) (by decide) (by omega)).mp zc40) (by omega) | exact zc40 ((nI_leI (a := 8) (by decide) (by omega)).mpr (by omega))) | (exfalso; simp_all; done)
    | succ n9 ih =>
      intro a v m ha hma hE
      rw [ck_wof] at hE
      by_cases hb : 97 ≤ A 95 a ∧ A 95 a ≤ 122
      · rw [if_pos hb] at hE
        by_cases hm : m < 8
        · rw [if_pos hm] at hE
          refine hB bX11_word_15 _ _ _ _ _ _ _ kX11_word_15 ?_
          dsimp only [bX11_word_15, kx_wp, kx_step, kx_lI, kx_lL, kx_lA, kx_gl, kx_pI, kx_pL, kx_pR, kx_pA, kx_pV, kx_s1, kx_s2, kx_sl, kx_pre, kx_c2, kx_pl, kx_cmp, kx_oF, kx_eqN, kx_nil, kx_c1, kx_ft, kx_aI, kx_aL, kx_aR, kx_ln, Nat.reduceAdd, Option.toList, List.cons_append, List.nil_append, mW_o, mf_7, mf_6, mf_16, m_95]
          repeat (simp only [ms_95, ck_p6, ck_p7, ck_p8, ck_p10, ck_p11, ck_p12, ck_p13, ck_p15, h6, nI_1, ck_pu7, ck_pu10, ck_pu11, ck_pu12, ck_pu13, ck_pu15, ck_pa95, ck_pa96, ck_pa97, ck_pa98, ck_pa99, ck_pem, ck_pau96, ck_pau99, va_us, va_upn, ne_eq, Nat.reduceEqDiff, not_false_eq_true, hA1, nI_clamp (show a < 2 ^ 31 by omega)]; try dsimp only [kx_wp, kx_step, kx_lI, kx_lL, kx_lA, kx_gl, kx_pI, kx_pL, kx_pR, kx_pA, kx_pV, kx_s1, kx_s2, kx_sl, kx_pre, kx_c2, kx_pl, kx_cmp, kx_oF, kx_eqN, kx_nil, kx_c1, kx_ft, kx_aI, kx_aL, kx_aR, kx_ln, Nat.reduceAdd, Option.toList, List.cons_append, List.nil_append, mW_o, mf_7, mf_6, mf_16, m_95])
          repeat' apply And.intro
          all_goals try (first | with_reducible assumption | (with_reducible refine ck_nzI ?_; simp; done) | (with_reducible refine ck_nzL ?_; simp; done) | (with_reducible refine vp_in_nI ?_ ?_ <;> first | omega | decide) | (with_reducible refine Nat.le_of_ble_eq_true ?_; rfl) | omega)
          · intro zc21
            first | exact absurd rfl zc21 | exact absurd zc21 (by decide) | exact absurd (by decide) zc21 | (exfalso; first | exact absurd zc21 (by first | (simp only [nI_leI (show n < 2 ^ 31 by omega) (show a < 2 ^ 31 by omega)]; omega) | (simp only [nI_leI (show n < 2 ^ 31 by omega) (show a < 2 ^ 31 by omega), Decidable.not_not]; omega)) | exact absurd zc34 (by decide) | exact zc34 rfl | exact nI_nlt (by omega) (by omega) zc40 | exact zc40 (nI_lt (by omega) (by omega)) | exact absurd ((nI_leI (a := 8) (by decide) (by omega)).mp zc40) (by omega) | exact zc40 ((nI_leI (a := 8) (by decide) (by omega)).mpr (by omega))) | (exfalso; simp_all; done)
          · intro zc21
            with_reducible first | have ze21 := Int32.not_le.mp zc21 | have ze21 := zc21
            refine hB bX11_word_24 _ _ _ _ _ _ _ kX11_word_24 ?_
            dsimp only [bX11_word_24, kx_wp, kx_step, kx_lI, kx_lL, kx_lA, kx_gl, kx_pI, kx_pL, kx_pR, kx_pA, kx_pV, kx_s1, kx_s2, kx_sl, kx_pre, kx_c2, kx_pl, kx_cmp, kx_oF, kx_eqN, kx_nil, kx_c1, kx_ft, kx_aI, kx_aL, kx_aR, kx_ln, Nat.reduceAdd, Option.toList, List.cons_append, List.nil_append, mW_o, mf_7, mf_6, mf_16, m_95]
            repeat (simp only [ms_95, ck_p6, ck_p7, ck_p8, ck_p10, ck_p11, ck_p12, ck_p13, ck_p15, h6, nI_1, ck_pu7, ck_pu10, ck_pu11, ck_pu12, ck_pu13, ck_pu15, ck_pa95, ck_pa96, ck_pa97, ck_pa98, ck_pa99, ck_pem, ck_pau96, ck_pau99, va_us, va_upn, ne_eq, Nat.reduceEqDiff, not_false_eq_true, hA1, nI_clamp (show a < 2 ^ 31 by omega)]; try dsimp only [kx_wp, kx_step, kx_lI, kx_lL, kx_lA, kx_gl, kx_pI, kx_pL, kx_pR, kx_pA, kx_pV, kx_s1, kx_s2, kx_sl, kx_pre, kx_c2, kx_pl, kx_cmp, kx_oF, kx_eqN, kx_nil, kx_c1, kx_ft, kx_aI, kx_aL, kx_aR, kx_ln, Nat.reduceAdd, Option.toList, List.cons_append, List.nil_append, mW_o, mf_7, mf_6, mf_16, m_95])
            repeat' apply And.intro
            all_goals try (first | with_reducible assumption | (with_reducible refine ck_nzI ?_; simp; done) | (with_reducible refine ck_nzL ?_; simp; done) | (with_reducible refine vp_in_nI ?_ ?_ <;> first | omega | decide) | (with_reducible refine Nat.le_of_ble_eq_true ?_; rfl) | omega)
            refine hC.2.1 208 _ _ _ _ _ _ _ _ _ _ _ _ _ _ _ _ _ lX11_208 (ct_X11_isSmall l G) rfl rfl (Nat.le_of_ble_eq_true rfl) (by decide) (by decide) (by omega) (by omega) dX11_word_31 ?_
            rw [if_pos hb]
            refine hB bX11_word_34 _ _ _ _ _ _ _ kX11_word_34 ?_
            dsimp only [bX11_word_34, kx_wp, kx_step, kx_lI, kx_lL, kx_lA, kx_gl, kx_pI, kx_pL, kx_pR, kx_pA, kx_pV, kx_s1, kx_s2, kx_sl, kx_pre, kx_c2, kx_pl, kx_cmp, kx_oF, kx_eqN, kx_nil, kx_c1, kx_ft, kx_aI, kx_aL, kx_aR, kx_ln, Nat.reduceAdd, Option.toList, List.cons_append, List.nil_append, mW_o, mf_7, mf_6, mf_16, m_95]
            repeat (simp only [ms_95, ck_p6, ck_p7, ck_p8, ck_p10, ck_p11, ck_p12, ck_p13, ck_p15, h6, nI_1, ck_pu7, ck_pu10, ck_pu11, ck_pu12, ck_pu13, ck_pu15, ck_pa95, ck_pa96, ck_pa97, ck_pa98, ck_pa99, ck_pem, ck_pau96, ck_pau99, va_us, va_upn, ne_eq, Nat.reduceEqDiff, not_false_eq_true, hA1, nI_clamp (show a < 2 ^ 31 by omega)]; try dsimp only [kx_wp, kx_step, kx_lI, kx_lL, kx_lA, kx_gl, kx_pI, kx_pL, kx_pR, kx_pA, kx_pV, kx_s1, kx_s2, kx_sl, kx_pre, kx_c2, kx_pl, kx_cmp, kx_oF, kx_eqN, kx_nil, kx_c1, kx_ft, kx_aI, kx_aL, kx_aR, kx_ln, Nat.reduceAdd, Option.toList, List.cons_append, List.nil_append, mW_o, mf_7, mf_6, mf_16, m_95])
            repeat' apply And.intro
            all_goals try (first | with_reducible assumption | (with_reducible refine ck_nzI ?_; simp; done) | (with_reducible refine ck_nzL ?_; simp; done) | (with_reducible refine vp_in_nI ?_ ?_ <;> first | omega | decide) | (with_reducible refine Nat.le_of_ble_eq_true ?_; rfl) | omega)
            · intro zc34
              first | exact absurd rfl zc34 | exact absurd zc34 (by decide) | exact absurd (by decide) zc34 | (exfalso; first | exact absurd zc21 (by first | (simp only [nI_leI (show n < 2 ^ 31 by omega) (show a < 2 ^ 31 by omega)]; omega) | (simp only [nI_leI (show n < 2 ^ 31 by omega) (show a < 2 ^ 31 by omega), Decidable.not_not]; omega)) | exact absurd zc34 (by decide) | exact zc34 rfl | exact nI_nlt (by omega) (by omega) zc40 | exact zc40 (nI_lt (by omega) (by omega)) | exact absurd ((nI_leI (a := 8) (by decide) (by omega)).mp zc40) (by omega) | exact zc40 ((nI_leI (a := 8) (by decide) (by omega)).mpr (by omega))) | (exfalso; simp_all; done)
            · intro zc34
              have ze34 := zc34
              refine hB bX11_word_37 _ _ _ _ _ _ _ kX11_word_37 ?_
              dsimp only [bX11_word_37, kx_wp, kx_step, kx_lI, kx_lL, kx_lA, kx_gl, kx_pI, kx_pL, kx_pR, kx_pA, kx_pV, kx_s1, kx_s2, kx_sl, kx_pre, kx_c2, kx_pl, kx_cmp, kx_oF, kx_eqN, kx_nil, kx_c1, kx_ft, kx_aI, kx_aL, kx_aR, kx_ln, Nat.reduceAdd, Option.toList, List.cons_append, List.nil_append, mW_o, mf_7, mf_6, mf_16, m_95]
              repeat (simp only [ms_95, ck_p6, ck_p7, ck_p8, ck_p10, ck_p11, ck_p12, ck_p13, ck_p15, h6, nI_1, ck_pu7, ck_pu10, ck_pu11, ck_pu12, ck_pu13, ck_pu15, ck_pa95, ck_pa96, ck_pa97, ck_pa98, ck_pa99, ck_pem, ck_pau96, ck_pau99, va_us, va_upn, ne_eq, Nat.reduceEqDiff, not_false_eq_true, hA1, nI_clamp (show a < 2 ^ 31 by omega)]; try dsimp only [kx_wp, kx_step, kx_lI, kx_lL, kx_lA, kx_gl, kx_pI, kx_pL, kx_pR, kx_pA, kx_pV, kx_s1, kx_s2, kx_sl, kx_pre, kx_c2, kx_pl, kx_cmp, kx_oF, kx_eqN, kx_nil, kx_c1, kx_ft, kx_aI, kx_aL, kx_aR, kx_ln, Nat.reduceAdd, Option.toList, List.cons_append, List.nil_append, mW_o, mf_7, mf_6, mf_16, m_95])
              repeat' apply And.intro
              all_goals try (first | with_reducible assumption | (with_reducible refine ck_nzI ?_; simp; done) | (with_reducible refine ck_nzL ?_; simp; done) | (with_reducible refine vp_in_nI ?_ ?_ <;> first | omega | decide) | (with_reducible refine Nat.le_of_ble_eq_true ?_; rfl) | omega)
              · intro zc40
                first | exact absurd rfl zc40 | exact absurd zc40 (by decide) | exact absurd (by decide) zc40 | (exfalso; first | exact absurd zc21 (by first | (simp only [nI_leI (show n < 2 ^ 31 by omega) (show a < 2 ^ 31 by omega)]; omega) | (simp only [nI_leI (show n < 2 ^ 31 by omega) (show a < 2 ^ 31 by omega), Decidable.not_not]; omega)) | exact absurd zc34 (by decide) | exact zc34 rfl | exact nI_nlt (by omega) (by omega) zc40 | exact zc40 (nI_lt (by omega) (by omega)) | exact absurd ((nI_leI (a := 8) (by decide) (by omega)).mp zc40) (by omega) | exact zc40 ((nI_leI (a := 8) (by decide) (by omega)).mpr (by omega))) | (exfalso; simp_all; done)
              · intro zc40
                with_reducible first | have ze40 := Int32.not_le.mp zc40 | have ze40 := zc40
                refine hB bX11_word_43 _ _ _ _ _ _ _ kX11_word_43 ?_
                dsimp only [bX11_word_43, kx_wp, kx_step, kx_lI, kx_lL, kx_lA, kx_gl, kx_pI, kx_pL, kx_pR, kx_pA, kx_pV, kx_s1, kx_s2, kx_sl, kx_pre, kx_c2, kx_pl, kx_cmp, kx_oF, kx_eqN, kx_nil, kx_c1, kx_ft, kx_aI, kx_aL, kx_aR, kx_ln, Nat.reduceAdd, Option.toList, List.cons_append, List.nil_append, mW_o, mf_7, mf_6, mf_16, m_95]
                repeat (simp only [ms_95, ck_p6, ck_p7, ck_p8, ck_p10, ck_p11, ck_p12, ck_p13, ck_p15, h6, nI_1, ck_pu7, ck_pu10, ck_pu11, ck_pu12, ck_pu13, ck_pu15, ck_pa95, ck_pa96, ck_pa97, ck_pa98, ck_pa99, ck_pem, ck_pau96, ck_pau99, va_us, va_upn, ne_eq, Nat.reduceEqDiff, not_false_eq_true, hA1, nI_clamp (show a < 2 ^ 31 by omega)]; try dsimp only [kx_wp, kx_step, kx_lI, kx_lL, kx_lA, kx_gl, kx_pI, kx_pL, kx_pR, kx_pA, kx_pV, kx_s1, kx_s2, kx_sl, kx_pre, kx_c2, kx_pl, kx_cmp, kx_oF, kx_eqN, kx_nil, kx_c1, kx_ft, kx_aI, kx_aL, kx_aR, kx_ln, Nat.reduceAdd, Option.toList, List.cons_append, List.nil_append, mW_o, mf_7, mf_6, mf_16, m_95])
                repeat' apply And.intro
                all_goals try (first | with_reducible assumption | (with_reducible refine ck_nzI ?_; simp; done) | (with_reducible refine ck_nzL ?_; simp; done) | (with_reducible refine vp_in_nI ?_ ?_ <;> first | omega | decide) | (with_reducible refine Nat.le_of_ble_eq_true ?_; rfl) | omega)
                refine hB bX11_word_62 _ _ _ _ _ _ _ kX11_word_62 ?_
                dsimp only [bX11_word_62, kx_wp, kx_step, kx_lI, kx_lL, kx_lA, kx_gl, kx_pI, kx_pL, kx_pR, kx_pA, kx_pV, kx_s1, kx_s2, kx_sl, kx_pre, kx_c2, kx_pl, kx_cmp, kx_oF, kx_eqN, kx_nil, kx_c1, kx_ft, kx_aI, kx_aL, kx_aR, kx_ln, Nat.reduceAdd, Option.toList, List.cons_append, List.nil_append, mW_o, mf_7, mf_6, mf_16, m_95]
                repeat (simp only [ms_95, ck_p6, ck_p7, ck_p8, ck_p10, ck_p11, ck_p12, ck_p13, ck_p15, h6, nI_1, ck_pu7, ck_pu10, ck_pu11, ck_pu12, ck_pu13, ck_pu15, ck_pa95, ck_pa96, ck_pa97, ck_pa98, ck_pa99, ck_pem, ck_pau96, ck_pau99, va_us, va_upn, ne_eq, Nat.reduceEqDiff, not_false_eq_true, hA1, nI_clamp (show a < 2 ^ 31 by omega)]; try dsimp only [kx_wp, kx_step, kx_lI, kx_lL, kx_lA, kx_gl, kx_pI, kx_pL, kx_pR, kx_pA, kx_pV, kx_s1, kx_s2, kx_sl, kx_pre, kx_c2, kx_pl, kx_cmp, kx_oF, kx_eqN, kx_nil, kx_c1, kx_ft, kx_aI, kx_aL, kx_aR, kx_ln, Nat.reduceAdd, Option.toList, List.cons_append, List.nil_append, mW_o, mf_7, mf_6, mf_16, m_95])
                repeat' apply And.intro
                all_goals try (first | with_reducible assumption | (with_reducible refine ck_nzI ?_; simp; done) | (with_reducible refine ck_nzL ?_; simp; done) | (with_reducible refine vp_in_nI ?_ ?_ <;> first | omega | decide) | (with_reducible refine Nat.le_of_ble_eq_true ?_; rfl) | omega)
                all_goals exact ih (a + 1) _ (m + 1) (by omega) (by omega) hE
        · rw [if_neg hm] at hE
          refine hB bX11_word_15 _ _ _ _ _ _ _ kX11_word_15 ?_
          dsimp only [bX11_word_15, kx_wp, kx_step, kx_lI, kx_lL, kx_lA, kx_gl, kx_pI, kx_pL, kx_pR, kx_pA, kx_pV, kx_s1, kx_s2, kx_sl, kx_pre, kx_c2, kx_pl, kx_cmp, kx_oF, kx_eqN, kx_nil, kx_c1, kx_ft, kx_aI, kx_aL, kx_aR, kx_ln, Nat.reduceAdd, Option.toList, List.cons_append, List.nil_append, mW_o, mf_7, mf_6, mf_16, m_95]
          repeat (simp only [ms_95, ck_p6, ck_p7, ck_p8, ck_p10, ck_p11, ck_p12, ck_p13, ck_p15, h6, nI_1, ck_pu7, ck_pu10, ck_pu11, ck_pu12, ck_pu13, ck_pu15, ck_pa95, ck_pa96, ck_pa97, ck_pa98, ck_pa99, ck_pem, ck_pau96, ck_pau99, va_us, va_upn, ne_eq, Nat.reduceEqDiff, not_false_eq_true, hA1, nI_clamp (show a < 2 ^ 31 by omega)]; try dsimp only [kx_wp, kx_step, kx_lI, kx_lL, kx_lA, kx_gl, kx_pI, kx_pL, kx_pR, kx_pA, kx_pV, kx_s1, kx_s2, kx_sl, kx_pre, kx_c2, kx_pl, kx_cmp, kx_oF, kx_eqN, kx_nil, kx_c1, kx_ft, kx_aI, kx_aL, kx_aR, kx_ln, Nat.reduceAdd, Option.toList, List.cons_append, List.nil_append, mW_o, mf_7, mf_6, mf_16, m_95])
          repeat' apply And.intro
          all_goals try (first | with_reducible assumption | (with_reducible refine ck_nzI ?_; simp; done) | (with_reducible refine ck_nzL ?_; simp; done) | (with_reducible refine vp_in_nI ?_ ?_ <;> first | omega | decide) | (with_reducible refine Nat.le_of_ble_eq_true ?_; rfl) | omega)
          · intro zc21
            first | exact absurd rfl zc21 | exact absurd zc21 (by decide) | exact absurd (by decide) zc21 | (exfalso; first | exact absurd zc21 (by first | (simp only [nI_leI (show n < 2 ^ 31 by omega) (show a < 2 ^ 31 by omega)]; omega) | (simp only [nI_leI (show n < 2 ^ 31 by omega) (show a < 2 ^ 31 by omega), Decidable.not_not]; omega)) | exact absurd zc34 (by decide) | exact zc34 rfl | exact nI_nlt (by omega) (by omega) zc40 | exact zc40 (nI_lt (by omega) (by omega)) | exact absurd ((nI_leI (a := 8) (by decide) (by omega)).mp zc40) (by omega) | exact zc40 ((nI_leI (a := 8) (by decide) (by omega)).mpr (by omega))) | (exfalso; simp_all; done)
          · intro zc21
            with_reducible first | have ze21 := Int32.not_le.mp zc21 | have ze21 := zc21
            refine hB bX11_word_24 _ _ _ _ _ _ _ kX11_word_24 ?_
            dsimp only [bX11_word_24, kx_wp, kx_step, kx_lI, kx_lL, kx_lA, kx_gl, kx_pI, kx_pL, kx_pR, kx_pA, kx_pV, kx_s1, kx_s2, kx_sl, kx_pre, kx_c2, kx_pl, kx_cmp, kx_oF, kx_eqN, kx_nil, kx_c1, kx_ft, kx_aI, kx_aL, kx_aR, kx_ln, Nat.reduceAdd, Option.toList, List.cons_append, List.nil_append, mW_o, mf_7, mf_6, mf_16, m_95]
            repeat (simp only [ms_95, ck_p6, ck_p7, ck_p8, ck_p10, ck_p11, ck_p12, ck_p13, ck_p15, h6, nI_1, ck_pu7, ck_pu10, ck_pu11, ck_pu12, ck_pu13, ck_pu15, ck_pa95, ck_pa96, ck_pa97, ck_pa98, ck_pa99, ck_pem, ck_pau96, ck_pau99, va_us, va_upn, ne_eq, Nat.reduceEqDiff, not_false_eq_true, hA1, nI_clamp (show a < 2 ^ 31 by omega)]; try dsimp only [kx_wp, kx_step, kx_lI, kx_lL, kx_lA, kx_gl, kx_pI, kx_pL, kx_pR, kx_pA, kx_pV, kx_s1, kx_s2, kx_sl, kx_pre, kx_c2, kx_pl, kx_cmp, kx_oF, kx_eqN, kx_nil, kx_c1, kx_ft, kx_aI, kx_aL, kx_aR, kx_ln, Nat.reduceAdd, Option.toList, List.cons_append, List.nil_append, mW_o, mf_7, mf_6, mf_16, m_95])
            repeat' apply And.intro
            all_goals try (first | with_reducible assumption | (with_reducible refine ck_nzI ?_; simp; done) | (with_reducible refine ck_nzL ?_; simp; done) | (with_reducible refine vp_in_nI ?_ ?_ <;> first | omega | decide) | (with_reducible refine Nat.le_of_ble_eq_true ?_; rfl) | omega)
            refine hC.2.1 208 _ _ _ _ _ _ _ _ _ _ _ _ _ _ _ _ _ lX11_208 (ct_X11_isSmall l G) rfl rfl (Nat.le_of_ble_eq_true rfl) (by decide) (by decide) (by omega) (by omega) dX11_word_31 ?_
            rw [if_pos hb]
            refine hB bX11_word_34 _ _ _ _ _ _ _ kX11_word_34 ?_
            dsimp only [bX11_word_34, kx_wp, kx_step, kx_lI, kx_lL, kx_lA, kx_gl, kx_pI, kx_pL, kx_pR, kx_pA, kx_pV, kx_s1, kx_s2, kx_sl, kx_pre, kx_c2, kx_pl, kx_cmp, kx_oF, kx_eqN, kx_nil, kx_c1, kx_ft, kx_aI, kx_aL, kx_aR, kx_ln, Nat.reduceAdd, Option.toList, List.cons_append, List.nil_append, mW_o, mf_7, mf_6, mf_16, m_95]
            repeat (simp only [ms_95, ck_p6, ck_p7, ck_p8, ck_p10, ck_p11, ck_p12, ck_p13, ck_p15, h6, nI_1, ck_pu7, ck_pu10, ck_pu11, ck_pu12, ck_pu13, ck_pu15, ck_pa95, ck_pa96, ck_pa97, ck_pa98, ck_pa99, ck_pem, ck_pau96, ck_pau99, va_us, va_upn, ne_eq, Nat.reduceEqDiff, not_false_eq_true, hA1, nI_clamp (show a < 2 ^ 31 by omega)]; try dsimp only [kx_wp, kx_step, kx_lI, kx_lL, kx_lA, kx_gl, kx_pI, kx_pL, kx_pR, kx_pA, kx_pV, kx_s1, kx_s2, kx_sl, kx_pre, kx_c2, kx_pl, kx_cmp, kx_oF, kx_eqN, kx_nil, kx_c1, kx_ft, kx_aI, kx_aL, kx_aR, kx_ln, Nat.reduceAdd, Option.toList, List.cons_append, List.nil_append, mW_o, mf_7, mf_6, mf_16, m_95])
            repeat' apply And.intro
            all_goals try (first | with_reducible assumption | (with_reducible refine ck_nzI ?_; simp; done) | (with_reducible refine ck_nzL ?_; simp; done) | (with_reducible refine vp_in_nI ?_ ?_ <;> first | omega | decide) | (with_reducible refine Nat.le_of_ble_eq_true ?_; rfl) | omega)
            · intro zc34
              first | exact absurd rfl zc34 | exact absurd zc34 (by decide) | exact absurd (by decide) zc34 | (exfalso; first | exact absurd zc21 (by first | (simp only [nI_leI (show n < 2 ^ 31 by omega) (show a < 2 ^ 31 by omega)]; omega) | (simp only [nI_leI (show n < 2 ^ 31 by omega) (show a < 2 ^ 31 by omega), Decidable.not_not]; omega)) | exact absurd zc34 (by decide) | exact zc34 rfl | exact nI_nlt (by omega) (by omega) zc40 | exact zc40 (nI_lt (by omega) (by omega)) | exact absurd ((nI_leI (a := 8) (by decide) (by omega)).mp zc40) (by omega) | exact zc40 ((nI_leI (a := 8) (by decide) (by omega)).mpr (by omega))) | (exfalso; simp_all; done)
            · intro zc34
              have ze34 := zc34
              refine hB bX11_word_37 _ _ _ _ _ _ _ kX11_word_37 ?_
              dsimp only [bX11_word_37, kx_wp, kx_step, kx_lI, kx_lL, kx_lA, kx_gl, kx_pI, kx_pL, kx_pR, kx_pA, kx_pV, kx_s1, kx_s2, kx_sl, kx_pre, kx_c2, kx_pl, kx_cmp, kx_oF, kx_eqN, kx_nil, kx_c1, kx_ft, kx_aI, kx_aL, kx_aR, kx_ln, Nat.reduceAdd, Option.toList, List.cons_append, List.nil_append, mW_o, mf_7, mf_6, mf_16, m_95]
              repeat (simp only [ms_95, ck_p6, ck_p7, ck_p8, ck_p10, ck_p11, ck_p12, ck_p13, ck_p15, h6, nI_1, ck_pu7, ck_pu10, ck_pu11, ck_pu12, ck_pu13, ck_pu15, ck_pa95, ck_pa96, ck_pa97, ck_pa98, ck_pa99, ck_pem, ck_pau96, ck_pau99, va_us, va_upn, ne_eq, Nat.reduceEqDiff, not_false_eq_true, hA1, nI_clamp (show a < 2 ^ 31 by omega)]; try dsimp only [kx_wp, kx_step, kx_lI, kx_lL, kx_lA, kx_gl, kx_pI, kx_pL, kx_pR, kx_pA, kx_pV, kx_s1, kx_s2, kx_sl, kx_pre, kx_c2, kx_pl, kx_cmp, kx_oF, kx_eqN, kx_nil, kx_c1, kx_ft, kx_aI, kx_aL, kx_aR, kx_ln, Nat.reduceAdd, Option.toList, List.cons_append, List.nil_append, mW_o, mf_7, mf_6, mf_16, m_95])
              repeat' apply And.intro
              all_goals try (first | with_reducible assumption | (with_reducible refine ck_nzI ?_; simp; done) | (with_reducible refine ck_nzL ?_; simp; done) | (with_reducible refine vp_in_nI ?_ ?_ <;> first | omega | decide) | (with_reducible refine Nat.le_of_ble_eq_true ?_; rfl) | omega)
              · intro zc40
                with_reducible first | have ze40 := Int32.not_lt.mpr zc40 | have ze40 := zc40
                refine hB bX11_word_61 _ _ _ _ _ _ _ kX11_word_61 ?_
                dsimp only [bX11_word_61, kx_wp, kx_step, kx_lI, kx_lL, kx_lA, kx_gl, kx_pI, kx_pL, kx_pR, kx_pA, kx_pV, kx_s1, kx_s2, kx_sl, kx_pre, kx_c2, kx_pl, kx_cmp, kx_oF, kx_eqN, kx_nil, kx_c1, kx_ft, kx_aI, kx_aL, kx_aR, kx_ln, Nat.reduceAdd, Option.toList, List.cons_append, List.nil_append, mW_o, mf_7, mf_6, mf_16, m_95]
                repeat (simp only [ms_95, ck_p6, ck_p7, ck_p8, ck_p10, ck_p11, ck_p12, ck_p13, ck_p15, h6, nI_1, ck_pu7, ck_pu10, ck_pu11, ck_pu12, ck_pu13, ck_pu15, ck_pa95, ck_pa96, ck_pa97, ck_pa98, ck_pa99, ck_pem, ck_pau96, ck_pau99, va_us, va_upn, ne_eq, Nat.reduceEqDiff, not_false_eq_true, hA1, nI_clamp (show a < 2 ^ 31 by omega)]; try dsimp only [kx_wp, kx_step, kx_lI, kx_lL, kx_lA, kx_gl, kx_pI, kx_pL, kx_pR, kx_pA, kx_pV, kx_s1, kx_s2, kx_sl, kx_pre, kx_c2, kx_pl, kx_cmp, kx_oF, kx_eqN, kx_nil, kx_c1, kx_ft, kx_aI, kx_aL, kx_aR, kx_ln, Nat.reduceAdd, Option.toList, List.cons_append, List.nil_append, mW_o, mf_7, mf_6, mf_16, m_95])
                repeat' apply And.intro
                all_goals try (first | with_reducible assumption | (with_reducible refine ck_nzI ?_; simp; done) | (with_reducible refine ck_nzL ?_; simp; done) | (with_reducible refine vp_in_nI ?_ ?_ <;> first | omega | decide) | (with_reducible refine Nat.le_of_ble_eq_true ?_; rfl) | omega)
                refine hB bX11_word_62 _ _ _ _ _ _ _ kX11_word_62 ?_
                dsimp only [bX11_word_62, kx_wp, kx_step, kx_lI, kx_lL, kx_lA, kx_gl, kx_pI, kx_pL, kx_pR, kx_pA, kx_pV, kx_s1, kx_s2, kx_sl, kx_pre, kx_c2, kx_pl, kx_cmp, kx_oF, kx_eqN, kx_nil, kx_c1, kx_ft, kx_aI, kx_aL, kx_aR, kx_ln, Nat.reduceAdd, Option.toList, List.cons_append, List.nil_append, mW_o, mf_7, mf_6, mf_16, m_95]
                repeat (simp only [ms_95, ck_p6, ck_p7, ck_p8, ck_p10, ck_p11, ck_p12, ck_p13, ck_p15, h6, nI_1, ck_pu7, ck_pu10, ck_pu11, ck_pu12, ck_pu13, ck_pu15, ck_pa95, ck_pa96, ck_pa97, ck_pa98, ck_pa99, ck_pem, ck_pau96, ck_pau99, va_us, va_upn, ne_eq, Nat.reduceEqDiff, not_false_eq_true, hA1, nI_clamp (show a < 2 ^ 31 by omega)]; try dsimp only [kx_wp, kx_step, kx_lI, kx_lL, kx_lA, kx_gl, kx_pI, kx_pL, kx_pR, kx_pA, kx_pV, kx_s1, kx_s2, kx_sl, kx_pre, kx_c2, kx_pl, kx_cmp, kx_oF, kx_eqN, kx_nil, kx_c1, kx_ft, kx_aI, kx_aL, kx_aR, kx_ln, Nat.reduceAdd, Option.toList, List.cons_append, List.nil_append, mW_o, mf_7, mf_6, mf_16, m_95])
                repeat' apply And.intro
                all_goals try (first | with_reducible assumption | (with_reducible refine ck_nzI ?_; simp; done) | (with_reducible refine ck_nzL ?_; simp; done) | (with_reducible refine vp_in_nI ?_ ?_ <;> first | omega | decide) | (with_reducible refine Nat.le_of_ble_eq_true ?_; rfl) | omega)
                all_goals exact ih (a + 1) _ (m + 1) (by omega) (by omega) hE
              · intro zc40
                first | exact absurd rfl zc40 | exact absurd zc40 (by decide) | exact absurd (by decide) zc40 | (exfalso; first | exact absurd zc21 (by first | (simp only [nI_leI (show n < 2 ^ 31 by omega) (show a < 2 ^ 31 by omega)]; omega) | (simp only [nI_leI (show n < 2 ^ 31 by omega) (show a < 2 ^ 31 by omega), Decidable.not_not]; omega)) | exact absurd zc34 (by decide) | exact zc34 rfl | exact nI_nlt (by omega) (by omega) zc40 | exact zc40 (nI_lt (by omega) (by omega)) | exact absurd ((nI_leI (a := 8) (by decide) (by omega)).mp zc40) (by omega) | exact zc40 ((nI_leI (a := 8) (by decide) (by omega)).mpr (by omega))) | (exfalso; simp_all; done)
      · rw [if_neg hb] at hE
        obtain ⟨rfl, rfl⟩ := Prod.mk.inj hE
        refine hB bX11_word_15 _ _ _ _ _ _ _ kX11_word_15 ?_
        dsimp only [bX11_word_15, kx_wp, kx_step, kx_lI, kx_lL, kx_lA, kx_gl, kx_pI, kx_pL, kx_pR, kx_pA, kx_pV, kx_s1, kx_s2, kx_sl, kx_pre, kx_c2, kx_pl, kx_cmp, kx_oF, kx_eqN, kx_nil, kx_c1, kx_ft, kx_aI, kx_aL, kx_aR, kx_ln, Nat.reduceAdd, Option.toList, List.cons_append, List.nil_append, mW_o, mf_7, mf_6, mf_16, m_95]
        repeat (simp only [ms_95, ck_p6, ck_p7, ck_p8, ck_p10, ck_p11, ck_p12, ck_p13, ck_p15, h6, nI_1, ck_pu7, ck_pu10, ck_pu11, ck_pu12, ck_pu13, ck_pu15, ck_pa95, ck_pa96, ck_pa97, ck_pa98, ck_pa99, ck_pem, ck_pau96, ck_pau99, va_us, va_upn, ne_eq, Nat.reduceEqDiff, not_false_eq_true, hA1, nI_clamp (show a < 2 ^ 31 by omega)]; try dsimp only [kx_wp, kx_step, kx_lI, kx_lL, kx_lA, kx_gl, kx_pI, kx_pL, kx_pR, kx_pA, kx_pV, kx_s1, kx_s2, kx_sl, kx_pre, kx_c2, kx_pl, kx_cmp, kx_oF, kx_eqN, kx_nil, kx_c1, kx_ft, kx_aI, kx_aL, kx_aR, kx_ln, Nat.reduceAdd, Option.toList, List.cons_append, List.nil_append, mW_o, mf_7, mf_6, mf_16, m_95])
        repeat' apply And.intro
        all_goals try (first | with_reducible assumption | (with_reducible refine ck_nzI ?_; simp; done) | (with_reducible refine ck_nzL ?_; simp; done) | (with_reducible refine vp_in_nI ?_ ?_ <;> first | omega | decide) | (with_reducible refine Nat.le_of_ble_eq_true ?_; rfl) | omega)
        · intro zc21
          first | exact absurd rfl zc21 | exact absurd zc21 (by decide) | exact absurd (by decide) zc21 | (exfalso; first | exact absurd zc21 (by first | (simp only [nI_leI (show n < 2 ^ 31 by omega) (show a < 2 ^ 31 by omega)]; omega) | (simp only [nI_leI (show n < 2 ^ 31 by omega) (show a < 2 ^ 31 by omega), Decidable.not_not]; omega)) | exact absurd zc34 (by decide) | exact zc34 rfl | exact nI_nlt (by omega) (by omega) zc40 | exact zc40 (nI_lt (by omega) (by omega)) | exact absurd ((nI_leI (a := 8) (by decide) (by omega)).mp zc40) (by omega) | exact zc40 ((nI_leI (a := 8) (by decide) (by omega)).mpr (by omega))) | (exfalso; simp_all; done)
        · intro zc21
          with_reducible first | have ze21 := Int32.not_le.mp zc21 | have ze21 := zc21
          refine hB bX11_word_24 _ _ _ _ _ _ _ kX11_word_24 ?_
          dsimp only [bX11_word_24, kx_wp, kx_step, kx_lI, kx_lL, kx_lA, kx_gl, kx_pI, kx_pL, kx_pR, kx_pA, kx_pV, kx_s1, kx_s2, kx_sl, kx_pre, kx_c2, kx_pl, kx_cmp, kx_oF, kx_eqN, kx_nil, kx_c1, kx_ft, kx_aI, kx_aL, kx_aR, kx_ln, Nat.reduceAdd, Option.toList, List.cons_append, List.nil_append, mW_o, mf_7, mf_6, mf_16, m_95]
          repeat (simp only [ms_95, ck_p6, ck_p7, ck_p8, ck_p10, ck_p11, ck_p12, ck_p13, ck_p15, h6, nI_1, ck_pu7, ck_pu10, ck_pu11, ck_pu12, ck_pu13, ck_pu15, ck_pa95, ck_pa96, ck_pa97, ck_pa98, ck_pa99, ck_pem, ck_pau96, ck_pau99, va_us, va_upn, ne_eq, Nat.reduceEqDiff, not_false_eq_true, hA1, nI_clamp (show a < 2 ^ 31 by omega)]; try dsimp only [kx_wp, kx_step, kx_lI, kx_lL, kx_lA, kx_gl, kx_pI, kx_pL, kx_pR, kx_pA, kx_pV, kx_s1, kx_s2, kx_sl, kx_pre, kx_c2, kx_pl, kx_cmp, kx_oF, kx_eqN, kx_nil, kx_c1, kx_ft, kx_aI, kx_aL, kx_aR, kx_ln, Nat.reduceAdd, Option.toList, List.cons_append, List.nil_append, mW_o, mf_7, mf_6, mf_16, m_95])
          repeat' apply And.intro
          all_goals try (first | with_reducible assumption | (with_reducible refine ck_nzI ?_; simp; done) | (with_reducible refine ck_nzL ?_; simp; done) | (with_reducible refine vp_in_nI ?_ ?_ <;> first | omega | decide) | (with_reducible refine Nat.le_of_ble_eq_true ?_; rfl) | omega)
          refine hC.2.1 208 _ _ _ _ _ _ _ _ _ _ _ _ _ _ _ _ _ lX11_208 (ct_X11_isSmall l G) rfl rfl (Nat.le_of_ble_eq_true rfl) (by decide) (by decide) (by omega) (by omega) dX11_word_31 ?_
          rw [if_neg hb]
          refine hB bX11_word_34 _ _ _ _ _ _ _ kX11_word_34 ?_
          dsimp only [bX11_word_34, kx_wp, kx_step, kx_lI, kx_lL, kx_lA, kx_gl, kx_pI, kx_pL, kx_pR, kx_pA, kx_pV, kx_s1, kx_s2, kx_sl, kx_pre, kx_c2, kx_pl, kx_cmp, kx_oF, kx_eqN, kx_nil, kx_c1, kx_ft, kx_aI, kx_aL, kx_aR, kx_ln, Nat.reduceAdd, Option.toList, List.cons_append, List.nil_append, mW_o, mf_7, mf_6, mf_16, m_95]
          repeat (simp only [ms_95, ck_p6, ck_p7, ck_p8, ck_p10, ck_p11, ck_p12, ck_p13, ck_p15, h6, nI_1, ck_pu7, ck_pu10, ck_pu11, ck_pu12, ck_pu13, ck_pu15, ck_pa95, ck_pa96, ck_pa97, ck_pa98, ck_pa99, ck_pem, ck_pau96, ck_pau99, va_us, va_upn, ne_eq, Nat.reduceEqDiff, not_false_eq_true, hA1, nI_clamp (show a < 2 ^ 31 by omega)]; try dsimp only [kx_wp, kx_step, kx_lI, kx_lL, kx_lA, kx_gl, kx_pI, kx_pL, kx_pR, kx_pA, kx_pV, kx_s1, kx_s2, kx_sl, kx_pre, kx_c2, kx_pl, kx_cmp, kx_oF, kx_eqN, kx_nil, kx_c1, kx_ft, kx_aI, kx_aL, kx_aR, kx_ln, Nat.reduceAdd, Option.toList, List.cons_append, List.nil_append, mW_o, mf_7, mf_6, mf_16, m_95])
          repeat' apply And.intro
          all_goals try (first | with_reducible assumption | (with_reducible refine ck_nzI ?_; simp; done) | (with_reducible refine ck_nzL ?_; simp; done) | (with_reducible refine vp_in_nI ?_ ?_ <;> first | omega | decide) | (with_reducible refine Nat.le_of_ble_eq_true ?_; rfl) | omega)
          · intro zc34
            have ze34 := zc34
            all_goals exact j72 _
          · intro zc34
            first | exact absurd rfl zc34 | exact absurd zc34 (by decide) | exact absurd (by decide) zc34 | (exfalso; first | exact absurd zc21 (by first | (simp only [nI_leI (show n < 2 ^ 31 by omega) (show a < 2 ^ 31 by omega)]; omega) | (simp only [nI_leI (show n < 2 ^ 31 by omega) (show a < 2 ^ 31 by omega), Decidable.not_not]; omega)) | exact absurd zc34 (by decide) | exact zc34 rfl | exact nI_nlt (by omega) (by omega) zc40 | exact zc40 (nI_lt (by omega) (by omega)) | exact absurd ((nI_leI (a := 8) (by decide) (by omega)).mp zc40) (by omega) | exact zc40 ((nI_leI (a := 8) (by decide) (by omega)).mpr (by omega))) | (exfalso; simp_all; done)
  refine hB bX11_word_0 _ _ _ _ _ _ _ kX11_word_0 ?_
  dsimp only [bX11_word_0, kx_wp, kx_step, kx_lI, kx_lL, kx_lA, kx_gl, kx_pI, kx_pL, kx_pR, kx_pA, kx_pV, kx_s1, kx_s2, kx_sl, kx_pre, kx_c2, kx_pl, kx_cmp, kx_oF, kx_eqN, kx_nil, kx_c1, kx_ft, kx_aI, kx_aL, kx_aR, kx_ln, Nat.reduceAdd, Option.toList, List.cons_append, List.nil_append, mW_o, mf_7, mf_6, mf_16, m_95]
  repeat (simp only [ms_95, ck_p6, ck_p7, ck_p8, ck_p10, ck_p11, ck_p12, ck_p13, ck_p15, h6, nI_1, ck_pu7, ck_pu10, ck_pu11, ck_pu12, ck_pu13, ck_pu15, ck_pa95, ck_pa96, ck_pa97, ck_pa98, ck_pa99, ck_pem, ck_pau96, ck_pau99, va_us, va_upn, ne_eq, Nat.reduceEqDiff, not_false_eq_true, hA1]; try dsimp only [kx_wp, kx_step, kx_lI, kx_lL, kx_lA, kx_gl, kx_pI, kx_pL, kx_pR, kx_pA, kx_pV, kx_s1, kx_s2, kx_sl, kx_pre, kx_c2, kx_pl, kx_cmp, kx_oF, kx_eqN, kx_nil, kx_c1, kx_ft, kx_aI, kx_aL, kx_aR, kx_ln, Nat.reduceAdd, Option.toList, List.cons_append, List.nil_append, mW_o, mf_7, mf_6, mf_16, m_95])
  repeat' apply And.intro
  all_goals try (first | with_reducible assumption | (with_reducible refine ck_nzI ?_; simp; done) | (with_reducible refine ck_nzL ?_; simp; done) | (with_reducible refine vp_in_nI ?_ ?_ <;> first | omega | decide) | (with_reducible refine Nat.le_of_ble_eq_true ?_; rfl) | omega)
  refine hC.1 204 _ _ _ _ _ _ _ 11 _ _ _ _ _ _ _ _ _ _ _ _ lX11_204 (ct_X11_here l G h6 hn ha) ⟨by decide, rfl⟩ (mW_o) rfl rfl (Nat.le_of_ble_eq_true rfl) (by decide) (by decide) (by omega) (by omega) dX11_word_1 ?_
  refine hB bX11_word_4 _ _ _ _ _ _ _ kX11_word_4 ?_
  dsimp only [bX11_word_4, kx_wp, kx_step, kx_lI, kx_lL, kx_lA, kx_gl, kx_pI, kx_pL, kx_pR, kx_pA, kx_pV, kx_s1, kx_s2, kx_sl, kx_pre, kx_c2, kx_pl, kx_cmp, kx_oF, kx_eqN, kx_nil, kx_c1, kx_ft, kx_aI, kx_aL, kx_aR, kx_ln, Nat.reduceAdd, Option.toList, List.cons_append, List.nil_append, mW_o, mf_7, mf_6, mf_16, m_95]
  repeat (simp only [ms_95, ck_p6, ck_p7, ck_p8, ck_p10, ck_p11, ck_p12, ck_p13, ck_p15, h6, nI_1, ck_pu7, ck_pu10, ck_pu11, ck_pu12, ck_pu13, ck_pu15, ck_pa95, ck_pa96, ck_pa97, ck_pa98, ck_pa99, ck_pem, ck_pau96, ck_pau99, va_us, va_upn, ne_eq, Nat.reduceEqDiff, not_false_eq_true, hA1]; try dsimp only [kx_wp, kx_step, kx_lI, kx_lL, kx_lA, kx_gl, kx_pI, kx_pL, kx_pR, kx_pA, kx_pV, kx_s1, kx_s2, kx_sl, kx_pre, kx_c2, kx_pl, kx_cmp, kx_oF, kx_eqN, kx_nil, kx_c1, kx_ft, kx_aI, kx_aL, kx_aR, kx_ln, Nat.reduceAdd, Option.toList, List.cons_append, List.nil_append, mW_o, mf_7, mf_6, mf_16, m_95])
  repeat' apply And.intro
  all_goals try (first | with_reducible assumption | (with_reducible refine ck_nzI ?_; simp; done) | (with_reducible refine ck_nzL ?_; simp; done) | (with_reducible refine vp_in_nI ?_ ?_ <;> first | omega | decide) | (with_reducible refine Nat.le_of_ble_eq_true ?_; rfl) | omega)
  all_goals exact loop15 (n - a1) a1 0 0 (by omega) (Nat.zero_le _) hSS


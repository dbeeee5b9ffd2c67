def ck_mn1 (x : Int32) : Nat := x.toNatClampNeg
/-- a MINUTE of all clocks -/
def ck_mgA (S : ck_S) (cl : Nat) : Nat → Nat → Int32 :=
  if ck_mn1 (S.1 1) % 60 = 0 ∧ S.1 49 = 0 then va_up S.2.1 122 (ck_kh (S.2.2 116) (ck_mn1 (S.1 1) / 60) (S.2.1 122) cl) else S.2.1
def ck_mn (S : ck_S) (cl : Nat) : ck_S :=
  (upd (ck_gs (S.1, ck_mgA S cl, S.2.2) cl).1 1 (nI (ck_mn1 (S.1 1) + 1)), (ck_gs (S.1, ck_mgA S cl, S.2.2) cl).2)
theorem ck_iv_122 {cl sd : Nat} {M : Nat → Int32} {A : Nat → Nat → Int32} {L : Nat → Nat → Int64} {K : Nat → Int32} (h : ck_iv cl sd (M, A, L)) : ck_iv cl sd (M, va_up A 122 K, L) := by
  simpa only [ck_iv, ck_ci, ck_wf, ck_rg, ck_wo, va_us, va_upn, ne_eq, Nat.reduceEqDiff, not_false_eq_true] using h
theorem ck_iv_mg {cl sd k : Nat} {M : Nat → Int32} {A : Nat → Nat → Int32} {L : Nat → Nat → Int64} (h : ck_iv cl sd (M, A, L)) : ck_iv cl sd (M, ck_mgA (M, A, L) k, L) := by
  unfold ck_mgA
  split
  · exact ck_iv_122 h
  · exact h
theorem ck_gs_s (S : ck_S) (n : Nat) : ck_go (ck_gs S n) n = ck_gs S (n + 1) := rfl
theorem ck_kh_s (D : Nat → Int64) (h : Nat) (K : Nat → Int32) (c : Nat) : upd (ck_kh D h K c) (1700 * c + h) ((D c / 1000).toInt32) = ck_kh D h K (c + 1) := rfl
def bX11_minuteGoes_0 : List kx_O := [(.aload_n 0, 0, 0, 0, .null), (.getfield 182, 11, 1, 0, .null), (.bipush 60, 0, 0, 0, .int 60), (.irem, 0, 0, 0, .null), (.ifCond .ne 55, 62, 0, 0, .null)]
theorem kX11_minuteGoes_0 : kx_oks kxL_X11 false cX11_minuteGoes 0 bX11_minuteGoes_0 = true := by decide +kernel
def bX11_minuteGoes_10 : List kx_O := [(.aload_n 0, 0, 0, 0, .null), (.getfield 412, 11, 49, 0, .null), (.ifCond .ne 48, 62, 0, 0, .null)]
theorem kX11_minuteGoes_10 : kx_oks kxL_X11 false cX11_minuteGoes 10 bX11_minuteGoes_10 = true := by decide +kernel
def bX11_minuteGoes_17 : List kx_O := [(.iconst 0, 0, 0, 0, .int 0), (.istore_n 1, 1, 0, 0, .null)]
theorem kX11_minuteGoes_17 : kx_oks kxL_X11 false cX11_minuteGoes 17 bX11_minuteGoes_17 = true := by decide +kernel
def bX11_minuteGoes_19 : List kx_O := [(.iload_n 1, 1, 0, 0, .null), (.aload_n 0, 0, 0, 0, .null), (.getfield 337, 11, 21, 0, .null), (.if_icmp .ge 38, 62, 0, 0, .null)]
theorem kX11_minuteGoes_19 : kx_oks kxL_X11 false cX11_minuteGoes 19 bX11_minuteGoes_19 = true := by decide +kernel
def bX11_minuteGoes_27 : List kx_O := [(.aload_n 0, 0, 0, 0, .null), (.getfield 103, 11, 45, 0, .null), (.sipush 1700, 0, 0, 0, .int 1700), (.iload_n 1, 1, 0, 0, .null), (.imul, 0, 0, 0, .null), (.aload_n 0, 0, 0, 0, .null), (.getfield 182, 11, 1, 0, .null), (.bipush 60, 0, 0, 0, .int 60), (.idiv, 0, 0, 0, .null), (.iadd, 0, 0, 0, .null), (.aload_n 0, 0, 0, 0, .null), (.getfield 83, 11, 39, 0, .null), (.iload_n 1, 1, 0, 0, .null), (.laload, 0, 0, 0, .null), (.ldc2_w 427, 0, 0, 0, .long (1000)), (.ldiv, 0, 0, 0, .null), (.l2i, 0, 0, 0, .null), (.iastore, 0, 0, 0, .null), (.iinc 1 1, 1, 0, 0, .int 1), (.goto (-40), 19, 0, 0, .null)]
theorem kX11_minuteGoes_27 : kx_oks kxL_X11 false cX11_minuteGoes 27 bX11_minuteGoes_27 = true := by decide +kernel
def bX11_minuteGoes_62 : List kx_O := [(.iconst 0, 0, 0, 0, .int 0), (.istore_n 1, 1, 0, 0, .null)]
theorem kX11_minuteGoes_62 : kx_oks kxL_X11 false cX11_minuteGoes 62 bX11_minuteGoes_62 = true := by decide +kernel
def bX11_minuteGoes_64 : List kx_O := [(.iload_n 1, 1, 0, 0, .null), (.aload_n 0, 0, 0, 0, .null), (.getfield 337, 11, 21, 0, .null), (.if_icmp .ge 14, 83, 0, 0, .null)]
theorem kX11_minuteGoes_64 : kx_oks kxL_X11 false cX11_minuteGoes 64 bX11_minuteGoes_64 = true := by decide +kernel
def bX11_minuteGoes_72 : List kx_O := [(.aload_n 0, 0, 0, 0, .null), (.iload_n 1, 1, 0, 0, .null)]
theorem kX11_minuteGoes_72 : kx_oks kxL_X11 false cX11_minuteGoes 72 bX11_minuteGoes_72 = true := by decide +kernel
def bX11_minuteGoes_77 : List kx_O := [(.iinc 1 1, 1, 0, 0, .int 1), (.goto (-16), 64, 0, 0, .null)]
theorem kX11_minuteGoes_77 : kx_oks kxL_X11 false cX11_minuteGoes 77 bX11_minuteGoes_77 = true := by decide +kernel
def bX11_minuteGoes_83 : List kx_O := [(.aload_n 0, 0, 0, 0, .null), (.dup, 0, 0, 0, .null), (.getfield 182, 11, 1, 0, .null), (.iconst 1, 0, 0, 0, .int 1), (.iadd, 0, 0, 0, .null), (.putfield 182, 11, 1, 0, .null), (.return_, 0, 0, 0, .null)]
theorem kX11_minuteGoes_83 : kx_oks kxL_X11 false cX11_minuteGoes 83 bX11_minuteGoes_83 = true := by decide +kernel
theorem dX11_minuteGoes_74 : decode cX11_minuteGoes 74 = .ok (.invokevirtual 429, 3) := by decide +kernel
set_option maxRecDepth 100000 in
set_option maxHeartbeats 4000000 in
theorem ct_X11_minuteGoes_k (l : Launch) (G : kx_G) {M : Nat → Int32} {A : Nat → Nat → Int32} {L : Nat → Nat → Int64} {R : kx_P} {sz : Nat} {cl sd mi : Nat} (h21 : M 21 = nI cl) (hcl : cl ≤ 8) (h1 : M 1 = nI mi) (hmi : mi < 100000) (hsd : sd < 2 ^ 29) (hI : ck_iv cl sd (M, A, L)) (hm : mi % 60 = 0) (h49 : M 49 = 0)  : kx_M l G sX11_minuteGoes 5 0 0 [.ref 93] (mW M A L R) sz none (mW (upd (ck_gs (M, (va_up A 122 (ck_kh (L 116) (mi / 60) (A 122) cl)), L) cl).1 1 (nI (mi + 1))) (ck_gs (M, (va_up A 122 (ck_kh (L 116) (mi / 60) (A 122) cl)), L) cl).2.1 (ck_gs (M, (va_up A 122 (ck_kh (L 116) (mi / 60) (A 122) cl)), L) cl).2.2 R) sz := by
  have zd : nI mi / 60 = nI (mi / 60) := pk_div (d := 60) (by omega) (by decide) (by decide)
  have zr : nI mi - nI (mi / 60) * 60 = nI (mi % 60) := by rw [← zd]; exact pk_rem (d := 60) (by omega) (by decide) (by decide)
  have hI2 : ck_iv cl sd (M, (va_up A 122 (ck_kh (L 116) (mi / 60) (A 122) cl)), L) := ck_iv_122 hI
  have zN : ∀ c, ck_iv cl (sd + c) (ck_gs (M, (va_up A 122 (ck_kh (L 116) (mi / 60) (A 122) cl)), L) c) := ck_gs_iv hI2
  have z1 : ∀ c, (ck_gs (M, (va_up A 122 (ck_kh (L 116) (mi / 60) (A 122) cl)), L) c).1 1 = M 1 := ck_gs_M (by decide) (by decide) (by decide) (by decide) (by decide)
  have z21 : ∀ c, (ck_gs (M, (va_up A 122 (ck_kh (L 116) (mi / 60) (A 122) cl)), L) c).1 21 = M 21 := ck_gs_M (by decide) (by decide) (by decide) (by decide) (by decide)
  refine kx_mk kx_tab kxLok_X11 (ini := false) [some (.ref 93), none] ⟨by decide, rfl, by decide, by decide⟩ (rfl) rfl rfl (fun g hB hC => ?_)
  have loop64 : ∀ (n9 : Nat) (c : Nat), c + n9 = cl → g 64 [some (.ref 93), some (.int (nI c))] [] (mW (ck_gs (M, (va_up A 122 (ck_kh (L 116) (mi / 60) (A 122) cl)), L) c).1 (ck_gs (M, (va_up A 122 (ck_kh (L 116) (mi / 60) (A 122) cl)), L) c).2.1 (ck_gs (M, (va_up A 122 (ck_kh (L 116) (mi / 60) (A 122) cl)), L) c).2.2 R) sz 0 0 := by
    intro n9
    induction n9 with
    | zero =>
      intro c hk
      obtain rfl : c = cl := by omega
      refine hB bX11_minuteGoes_64 _ _ _ _ _ _ _ kX11_minuteGoes_64 ?_
      dsimp only [bX11_minuteGoes_64, kx_wp, kx_step, kx_lI, kx_lL, kx_lA, kx_gl, kx_pI, kx_pL, kx_pR, kx_pA, kx_pV, kx_s1, kx_s2, kx_sl, kx_pre, kx_c2, kx_pl, kx_cmp, kx_oF, kx_eqN, kx_nil, kx_c1, kx_ft, kx_aI, kx_aL, kx_aR, kx_ln, Nat.reduceAdd, Option.toList, List.cons_append, List.nil_append, mW_o, mf_1, mf_49, mf_21, mf_45, m_122, mf_39, m_116]
      repeat (simp only [ms_122, ms_116, mu_1, mW_so, h1, h21, z1, z21, zd, zr, nI_1, ck_i1700, va_us, va_upn, ne_eq, Nat.reduceEqDiff, not_false_eq_true, va_upup, ck_kh_s, nI_clamp (show c < 2 ^ 31 by omega)]; try dsimp only [kx_wp, kx_step, kx_lI, kx_lL, kx_lA, kx_gl, kx_pI, kx_pL, kx_pR, kx_pA, kx_pV, kx_s1, kx_s2, kx_sl, kx_pre, kx_c2, kx_pl, kx_cmp, kx_oF, kx_eqN, kx_nil, kx_c1, kx_ft, kx_aI, kx_aL, kx_aR, kx_ln, Nat.reduceAdd, Option.toList, List.cons_append, List.nil_append, mW_o, mf_1, mf_49, mf_21, mf_45, m_122, mf_39, m_116])
      repeat' apply And.intro
      all_goals try (first | with_reducible assumption | (with_reducible refine ck_nzI ?_; simp; done) | (with_reducible refine ck_nzL ?_; simp; done) | (with_reducible refine vp_in_nI ?_ ?_ <;> first | omega | decide) | (with_reducible refine Nat.le_of_ble_eq_true ?_; rfl) | omega)
      · intro zc69
        with_reducible first | have ze69 := Int32.not_lt.mpr zc69 | have ze69 := zc69
        refine hB bX11_minuteGoes_83 _ _ _ _ _ _ _ kX11_minuteGoes_83 ?_
        dsimp only [bX11_minuteGoes_83, kx_wp, kx_step, kx_lI, kx_lL, kx_lA, kx_gl, kx_pI, kx_pL, kx_pR, kx_pA, kx_pV, kx_s1, kx_s2, kx_sl, kx_pre, kx_c2, kx_pl, kx_cmp, kx_oF, kx_eqN, kx_nil, kx_c1, kx_ft, kx_aI, kx_aL, kx_aR, kx_ln, Nat.reduceAdd, Option.toList, List.cons_append, List.nil_append, mW_o, mf_1, mf_49, mf_21, mf_45, m_122, mf_39, m_116]
        repeat (simp only [ms_122, ms_116, mu_1, mW_so, h1, h21, z1, z21, zd, zr, nI_1, ck_i1700, va_us, va_upn, ne_eq, Nat.reduceEqDiff, not_false_eq_true, va_upup, ck_kh_s, nI_clamp (show c < 2 ^ 31 by omega)]; try dsimp only [kx_wp, kx_step, kx_lI, kx_lL, kx_lA, kx_gl, kx_pI, kx_pL, kx_pR, kx_pA, kx_pV, kx_s1, kx_s2, kx_sl, kx_pre, kx_c2, kx_pl, kx_cmp, kx_oF, kx_eqN, kx_nil, kx_c1, kx_ft, kx_aI, kx_aL, kx_aR, kx_ln, Nat.reduceAdd, Option.toList, List.cons_append, List.nil_append, mW_o, mf_1, mf_49, mf_21, mf_45, m_122, mf_39, m_116])
        all_goals (repeat' apply And.intro)
        all_goals ((try clear hB hC); first | exact True.intro | with_reducible rfl | with_reducible assumption | (with_reducible refine vp_in_nI ?_ ?_ <;> first | omega | decide) | exact Nat.le_of_ble_eq_true rfl | (with_reducible refine ck_nzI ?_; simp; done) | (with_reducible refine ck_nzL ?_; simp; done) | (simp only [pk_us, pk_uLs, zc69, ze69, ↓reduceIte, not_true_eq_false, not_false_eq_true]; done) | (simp only [zc69, ze69, ↓reduceIte, not_true_eq_false, not_false_eq_true]; with_reducible rfl) | skip)
      · intro zc69
        first | exact absurd rfl zc69 | exact absurd zc69 (by decide) | exact absurd (by decide) zc69 | (exfalso; first | exact absurd zc69 (by first | (simp only [nI_leI (show cl < 2 ^ 31 by omega) (show c < 2 ^ 31 by omega)]; omega) | (simp only [nI_leI (show cl < 2 ^ 31 by omega) (show c < 2 ^ 31 by omega), Decidable.not_not]; omega))) | (exfalso; simp_all; done)
    | succ n9 ih =>
      intro c hk
      obtain ⟨zi1, zi2, zi3⟩ := zN c
      refine hB bX11_minuteGoes_64 _ _ _ _ _ _ _ kX11_minuteGoes_64 ?_
      dsimp only [bX11_minuteGoes_64, kx_wp, kx_step, kx_lI, kx_lL, kx_lA, kx_gl, kx_pI, kx_pL, kx_pR, kx_pA, kx_pV, kx_s1, kx_s2, kx_sl, kx_pre, kx_c2, kx_pl, kx_cmp, kx_oF, kx_eqN, kx_nil, kx_c1, kx_ft, kx_aI, kx_aL, kx_aR, kx_ln, Nat.reduceAdd, Option.toList, List.cons_append, List.nil_append, mW_o, mf_1, mf_49, mf_21, mf_45, m_122, mf_39, m_116]
      repeat (simp only [ms_122, ms_116, mu_1, mW_so, h1, h21, z1, z21, zd, zr, nI_1, ck_i1700, va_us, va_upn, ne_eq, Nat.reduceEqDiff, not_false_eq_true, va_upup, ck_kh_s, nI_clamp (show c < 2 ^ 31 by omega)]; try dsimp only [kx_wp, kx_step, kx_lI, kx_lL, kx_lA, kx_gl, kx_pI, kx_pL, kx_pR, kx_pA, kx_pV, kx_s1, kx_s2, kx_sl, kx_pre, kx_c2, kx_pl, kx_cmp, kx_oF, kx_eqN, kx_nil, kx_c1, kx_ft, kx_aI, kx_aL, kx_aR, kx_ln, Nat.reduceAdd, Option.toList, List.cons_append, List.nil_append, mW_o, mf_1, mf_49, mf_21, mf_45, m_122, mf_39, m_116])
      repeat' apply And.intro
      all_goals try (first | with_reducible assumption | (with_reducible refine ck_nzI ?_; simp; done) | (with_reducible refine ck_nzL ?_; simp; done) | (with_reducible refine vp_in_nI ?_ ?_ <;> first | omega | decide) | (with_reducible refine Nat.le_of_ble_eq_true ?_; rfl) | omega)
      · intro zc69
        first | exact absurd rfl zc69 | exact absurd zc69 (by decide) | exact absurd (by decide) zc69 | (exfalso; first | exact absurd zc69 (by first | (simp only [nI_leI (show cl < 2 ^ 31 by omega) (show c < 2 ^ 31 by omega)]; omega) | (simp only [nI_leI (show cl < 2 ^ 31 by omega) (show c < 2 ^ 31 by omega), Decidable.not_not]; omega))) | (exfalso; simp_all; done)
      · intro zc69
        with_reducible first | have ze69 := Int32.not_le.mp zc69 | have ze69 := zc69
        refine hB bX11_minuteGoes_72 _ _ _ _ _ _ _ kX11_minuteGoes_72 ?_
        dsimp only [bX11_minuteGoes_72, kx_wp, kx_step, kx_lI, kx_lL, kx_lA, kx_gl, kx_pI, kx_pL, kx_pR, kx_pA, kx_pV, kx_s1, kx_s2, kx_sl, kx_pre, kx_c2, kx_pl, kx_cmp, kx_oF, kx_eqN, kx_nil, kx_c1, kx_ft, kx_aI, kx_aL, kx_aR, kx_ln, Nat.reduceAdd, Option.toList, List.cons_append, List.nil_append, mW_o, mf_1, mf_49, mf_21, mf_45, m_122, mf_39, m_116]
        repeat (simp only [ms_122, ms_116, mu_1, mW_so, h1, h21, z1, z21, zd, zr, nI_1, ck_i1700, va_us, va_upn, ne_eq, Nat.reduceEqDiff, not_false_eq_true, va_upup, ck_kh_s, nI_clamp (show c < 2 ^ 31 by omega)]; try dsimp only [kx_wp, kx_step, kx_lI, kx_lL, kx_lA, kx_gl, kx_pI, kx_pL, kx_pR, kx_pA, kx_pV, kx_s1, kx_s2, kx_sl, kx_pre, kx_c2, kx_pl, kx_cmp, kx_oF, kx_eqN, kx_nil, kx_c1, kx_ft, kx_aI, kx_aL, kx_aR, kx_ln, Nat.reduceAdd, Option.toList, List.cons_append, List.nil_append, mW_o, mf_1, mf_49, mf_21, mf_45, m_122, mf_39, m_116])
        repeat' apply And.intro
        all_goals try (first | with_reducible assumption | (with_reducible refine ck_nzI ?_; simp; done) | (with_reducible refine ck_nzL ?_; simp; done) | (with_reducible refine vp_in_nI ?_ ?_ <;> first | omega | decide) | (with_reducible refine Nat.le_of_ble_eq_true ?_; rfl) | omega)
        refine hC.1 429 _ _ _ _ _ _ _ 11 _ _ _ _ _ _ _ _ _ _ _ _ lX11_429 (ct_X11_goes l G (S := ck_gs (M, (va_up A 122 (ck_kh (L 116) (mi / 60) (A 122) cl)), L) c) (by omega) (zi1 c (by omega)).1 (zi1 c (by omega)).2.1 zi2 (zi1 c (by omega)).2.2 ((z1 c).trans h1) (by omega) (fun _ => zi3.elim (fun n hn => ⟨n, by omega, hn.2⟩))) ⟨by decide, rfl⟩ (mW_o) rfl rfl (Nat.le_of_ble_eq_true rfl) (by decide) (by decide) (by omega) (by omega) dX11_minuteGoes_74 ?_
        dsimp only [ck_W]
        rw [ck_gs_s]
        refine hB bX11_minuteGoes_77 _ _ _ _ _ _ _ kX11_minuteGoes_77 ?_
        dsimp only [bX11_minuteGoes_77, kx_wp, kx_step, kx_lI, kx_lL, kx_lA, kx_gl, kx_pI, kx_pL, kx_pR, kx_pA, kx_pV, kx_s1, kx_s2, kx_sl, kx_pre, kx_c2, kx_pl, kx_cmp, kx_oF, kx_eqN, kx_nil, kx_c1, kx_ft, kx_aI, kx_aL, kx_aR, kx_ln, Nat.reduceAdd, Option.toList, List.cons_append, List.nil_append, mW_o, mf_1, mf_49, mf_21, mf_45, m_122, mf_39, m_116]
        repeat (simp only [ms_122, ms_116, mu_1, mW_so, h1, h21, z1, z21, zd, zr, nI_1, ck_i1700, va_us, va_upn, ne_eq, Nat.reduceEqDiff, not_false_eq_true, va_upup, ck_kh_s, nI_clamp (show c < 2 ^ 31 by omega)]; try dsimp only [kx_wp, kx_step, kx_lI, kx_lL, kx_lA, kx_gl, kx_pI, kx_pL, kx_pR, kx_pA, kx_pV, kx_s1, kx_s2, kx_sl, kx_pre, kx_c2, kx_pl, kx_cmp, kx_oF, kx_eqN, kx_nil, kx_c1, kx_ft, kx_aI, kx_aL, kx_aR, kx_ln, Nat.reduceAdd, Option.toList, List.cons_append, List.nil_append, mW_o, mf_1, mf_49, mf_21, mf_45, m_122, mf_39, m_116])
        repeat' apply And.intro
        all_goals try (first | with_reducible assumption | (with_reducible refine ck_nzI ?_; simp; done) | (with_reducible refine ck_nzL ?_; simp; done) | (with_reducible refine vp_in_nI ?_ ?_ <;> first | omega | decide) | (with_reducible refine Nat.le_of_ble_eq_true ?_; rfl) | omega)
        exact ih (c + 1) (by omega)
  have j62 : ∀ x1, g 62 [some (.ref 93), some (.int x1)] [] (mW M (va_up A 122 (ck_kh (L 116) (mi / 60) (A 122) cl)) L R) sz 0 0 := by
    intro x1
    refine hB bX11_minuteGoes_62 _ _ _ _ _ _ _ kX11_minuteGoes_62 ?_
    dsimp only [bX11_minuteGoes_62, kx_wp, kx_step, kx_lI, kx_lL, kx_lA, kx_gl, kx_pI, kx_pL, kx_pR, kx_pA, kx_pV, kx_s1, kx_s2, kx_sl, kx_pre, kx_c2, kx_pl, kx_cmp, kx_oF, kx_eqN, kx_nil, kx_c1, kx_ft, kx_aI, kx_aL, kx_aR, kx_ln, Nat.reduceAdd, Option.toList, List.cons_append, List.nil_append, mW_o, mf_1, mf_49, mf_21, mf_45, m_122, mf_39, m_116]
    repeat (simp only [ms_122, ms_116, mu_1, mW_so, h1, h21, z1, z21, zd, zr, nI_1, ck_i1700, va_us, va_upn, ne_eq, Nat.reduceEqDiff, not_false_eq_true, va_upup, ck_kh_s]; try dsimp only [kx_wp, kx_step, kx_lI, kx_lL, kx_lA, kx_gl, kx_pI, kx_pL, kx_pR, kx_pA, kx_pV, kx_s1, kx_s2, kx_sl, kx_pre, kx_c2, kx_pl, kx_cmp, kx_oF, kx_eqN, kx_nil, kx_c1, kx_ft, kx_aI, kx_aL, kx_aR, kx_ln, Nat.reduceAdd, Option.toList, List.cons_append, List.nil_append, mW_o, mf_1, mf_49, mf_21, mf_45, m_122, mf_39, m_116])
    repeat' apply And.intro
    all_goals try (first | with_reducible assumption | (with_reducible refine ck_nzI ?_; simp; done) | (with_reducible refine ck_nzL ?_; simp; done) | (with_reducible refine vp_in_nI ?_ ?_ <;> first | omega | decide) | (with_reducible refine Nat.le_of_ble_eq_true ?_; rfl) | omega)
    exact loop64 cl 0 (by omega)
  have loop19 : ∀ (n9 : Nat) (c : Nat), c + n9 = cl → g 19 [some (.ref 93), some (.int (nI c))] [] (mW M (va_up A 122 (ck_kh (L 116) (mi / 60) (A 122) c)) L R) sz 0 0 := by
    intro n9
    induction n9 with
    | zero =>
      intro c hk
      obtain rfl : c = cl := by omega
      refine hB bX11_minuteGoes_19 _ _ _ _ _ _ _ kX11_minuteGoes_19 ?_
      dsimp only [bX11_minuteGoes_19, kx_wp, kx_step, kx_lI, kx_lL, kx_lA, kx_gl, kx_pI, kx_pL, kx_pR, kx_pA, kx_pV, kx_s1, kx_s2, kx_sl, kx_pre, kx_c2, kx_pl, kx_cmp, kx_oF, kx_eqN, kx_nil, kx_c1, kx_ft, kx_aI, kx_aL, kx_aR, kx_ln, Nat.reduceAdd, Option.toList, List.cons_append, List.nil_append, mW_o, mf_1, mf_49, mf_21, mf_45, m_122, mf_39, m_116]
      repeat (simp only [ms_122, ms_116, mu_1, mW_so, h1, h21, z1, z21, zd, zr, nI_1, ck_i1700, va_us, va_upn, ne_eq, Nat.reduceEqDiff, not_false_eq_true, va_upup, ck_kh_s, nI_clamp (show c < 2 ^ 31 by omega), nI_clamp (show 1700 * c + mi / 60 < 2 ^ 31 by omega)]; try dsimp only [kx_wp, kx_step, kx_lI, kx_lL, kx_lA, kx_gl, kx_pI, kx_pL, kx_pR, kx_pA, kx_pV, kx_s1, kx_s2, kx_sl, kx_pre, kx_c2, kx_pl, kx_cmp, kx_oF, kx_eqN, kx_nil, kx_c1, kx_ft, kx_aI, kx_aL, kx_aR, kx_ln, Nat.reduceAdd, Option.toList, List.cons_append, List.nil_append, mW_o, mf_1, mf_49, mf_21, mf_45, m_122, mf_39, m_116])
      repeat' apply And.intro
      all_goals try (first | with_reducible assumption | (with_reducible refine ck_nzI ?_; simp; done) | (with_reducible refine ck_nzL ?_; simp; done) | (with_reducible refine vp_in_nI ?_ ?_ <;> first | omega | decide) | (with_reducible refine Nat.le_of_ble_eq_true ?_; rfl) | omega)
      · intro zc24
        with_reducible first | have ze24 := Int32.not_lt.mpr zc24 | have ze24 := zc24
        exact j62 _
      · intro zc24
        first | exact absurd rfl zc24 | exact absurd zc24 (by decide) | exact absurd (by decide) zc24 | (exfalso; first | exact absurd zc24 (by first | (simp only [nI_leI (show cl < 2 ^ 31 by omega) (show c < 2 ^ 31 by omega)]; omega) | (simp only [nI_leI (show cl < 2 ^ 31 by omega) (show c < 2 ^ 31 by omega), Decidable.not_not]; omega))) | (exfalso; simp_all; done)
    | succ n9 ih =>
      intro c hk
      refine hB bX11_minuteGoes_19 _ _ _ _ _ _ _ kX11_minuteGoes_19 ?_
      dsimp only [bX11_minuteGoes_19, kx_wp, kx_step, kx_lI, kx_lL, kx_lA, kx_gl, kx_pI, kx_pL, kx_pR, kx_pA, kx_pV, kx_s1, kx_s2, kx_sl, kx_pre, kx_c2, kx_pl, kx_cmp, kx_oF, kx_eqN, kx_nil, kx_c1, kx_ft, kx_aI, kx_aL, kx_aR, kx_ln, Nat.reduceAdd, Option.toList, List.cons_append, List.nil_append, mW_o, mf_1, mf_49, mf_21, mf_45, m_122, mf_39, m_116]
      repeat (simp only [ms_122, ms_116, mu_1, mW_so, h1, h21, z1, z21, zd, zr, nI_1, ck_i1700, va_us, va_upn, ne_eq, Nat.reduceEqDiff, not_false_eq_true, va_upup, ck_kh_s, nI_clamp (show c < 2 ^ 31 by omega), nI_clamp (show 1700 * c + mi / 60 < 2 ^ 31 by omega)]; try dsimp only [kx_wp, kx_step, kx_lI, kx_lL, kx_lA, kx_gl, kx_pI, kx_pL, kx_pR, kx_pA, kx_pV, kx_s1, kx_s2, kx_sl, kx_pre, kx_c2, kx_pl, kx_cmp, kx_oF, kx_eqN, kx_nil, kx_c1, kx_ft, kx_aI, kx_aL, kx_aR, kx_ln, Nat.reduceAdd, Option.toList, List.cons_append, List.nil_append, mW_o, mf_1, mf_49, mf_21, mf_45, m_122, mf_39, m_116])
      repeat' apply And.intro
      all_goals try (first | with_reducible assumption | (with_reducible refine ck_nzI ?_; simp; done) | (with_reducible refine ck_nzL ?_; simp; done) | (with_reducible refine vp_in_nI ?_ ?_ <;> first | omega | decide) | (with_reducible refine Nat.le_of_ble_eq_true ?_; rfl) | omega)
      · intro zc24
        first | exact absurd rfl zc24 | exact absurd zc24 (by decide) | exact absurd (by decide) zc24 | (exfalso; first | exact absurd zc24 (by first | (simp only [nI_leI (show cl < 2 ^ 31 by omega) (show c < 2 ^ 31 by omega)]; omega) | (simp only [nI_leI (show cl < 2 ^ 31 by omega) (show c < 2 ^ 31 by omega), Decidable.not_not]; omega))) | (exfalso; simp_all; done)
      · intro zc24
        with_reducible first | have ze24 := Int32.not_le.mp zc24 | have ze24 := zc24
        refine hB bX11_minuteGoes_27 _ _ _ _ _ _ _ kX11_minuteGoes_27 ?_
        dsimp only [bX11_minuteGoes_27, kx_wp, kx_step, kx_lI, kx_lL, kx_lA, kx_gl, kx_pI, kx_pL, kx_pR, kx_pA, kx_pV, kx_s1, kx_s2, kx_sl, kx_pre, kx_c2, kx_pl, kx_cmp, kx_oF, kx_eqN, kx_nil, kx_c1, kx_ft, kx_aI, kx_aL, kx_aR, kx_ln, Nat.reduceAdd, Option.toList, List.cons_append, List.nil_append, mW_o, mf_1, mf_49, mf_21, mf_45, m_122, mf_39, m_116]
        repeat (simp only [ms_122, ms_116, mu_1, mW_so, h1, h21, z1, z21, zd, zr, nI_1, ck_i1700, va_us, va_upn, ne_eq, Nat.reduceEqDiff, not_false_eq_true, va_upup, ck_kh_s, nI_clamp (show c < 2 ^ 31 by omega), nI_clamp (show 1700 * c + mi / 60 < 2 ^ 31 by omega)]; try dsimp only [kx_wp, kx_step, kx_lI, kx_lL, kx_lA, kx_gl, kx_pI, kx_pL, kx_pR, kx_pA, kx_pV, kx_s1, kx_s2, kx_sl, kx_pre, kx_c2, kx_pl, kx_cmp, kx_oF, kx_eqN, kx_nil, kx_c1, kx_ft, kx_aI, kx_aL, kx_aR, kx_ln, Nat.reduceAdd, Option.toList, List.cons_append, List.nil_append, mW_o, mf_1, mf_49, mf_21, mf_45, m_122, mf_39, m_116])
        repeat' apply And.intro
        all_goals try (first | with_reducible assumption | (with_reducible refine ck_nzI ?_; simp; done) | (with_reducible refine ck_nzL ?_; simp; done) | (with_reducible refine vp_in_nI ?_ ?_ <;> first | omega | decide) | (with_reducible refine Nat.le_of_ble_eq_true ?_; rfl) | omega)
        exact ih (c + 1) (by omega)
  refine hB bX11_minuteGoes_0 _ _ _ _ _ _ _ kX11_minuteGoes_0 ?_
  dsimp only [bX11_minuteGoes_0, kx_wp, kx_step, kx_lI, kx_lL, kx_lA, kx_gl, kx_pI, kx_pL, kx_pR, kx_pA, kx_pV, kx_s1, kx_s2, kx_sl, kx_pre, kx_c2, kx_pl, kx_cmp, kx_oF, kx_eqN, kx_nil, kx_c1, kx_ft, kx_aI, kx_aL, kx_aR, kx_ln, Nat.reduceAdd, Option.toList, List.cons_append, List.nil_append, mW_o, mf_1, mf_49, mf_21, mf_45, m_122, mf_39, m_116]
  repeat (simp only [ms_122, ms_116, mu_1, mW_so, h1, h21, z1, z21, zd, zr, nI_1, ck_i1700, va_us, va_upn, ne_eq, Nat.reduceEqDiff, not_false_eq_true, va_upup, ck_kh_s]; try dsimp only [kx_wp, kx_step, kx_lI, kx_lL, kx_lA, kx_gl, kx_pI, kx_pL, kx_pR, kx_pA, kx_pV, kx_s1, kx_s2, kx_sl, kx_pre, kx_c2, kx_pl, kx_cmp, kx_oF, kx_eqN, kx_nil, kx_c1, kx_ft, kx_aI, kx_aL, kx_aR, kx_ln, Nat.reduceAdd, Option.toList, List.cons_append, List.nil_append, mW_o, mf_1, mf_49, mf_21, mf_45, m_122, mf_39, m_116])
  repeat' apply And.intro
  all_goals try (first | with_reducible assumption | (with_reducible refine ck_nzI ?_; simp; done) | (with_reducible refine ck_nzL ?_; simp; done) | (with_reducible refine vp_in_nI ?_ ?_ <;> first | omega | decide) | (with_reducible refine Nat.le_of_ble_eq_true ?_; rfl) | omega)
  · intro zc7
    first | exact absurd rfl zc7 | exact absurd zc7 (by decide) | exact absurd (by decide) zc7 | (exfalso; first | exact zc7 (by rw [hm]; rfl) | exact zc14 h49 | exact hno ⟨(nI_eq (b := 0) (by omega) (by decide)).mp (Decidable.not_not.mp zc7), Decidable.not_not.mp zc14⟩ | exact hno ⟨(nI_eq (b := 0) (by omega) (by decide)).mp zc7, zc14⟩) | (exfalso; simp_all; done)
  · intro zc7
    with_reducible first | have ze7 := Decidable.not_not.mp zc7 | have ze7 := zc7
    refine hB bX11_minuteGoes_10 _ _ _ _ _ _ _ kX11_minuteGoes_10 ?_
    dsimp only [bX11_minuteGoes_10, kx_wp, kx_step, kx_lI, kx_lL, kx_lA, kx_gl, kx_pI, kx_pL, kx_pR, kx_pA, kx_pV, kx_s1, kx_s2, kx_sl, kx_pre, kx_c2, kx_pl, kx_cmp, kx_oF, kx_eqN, kx_nil, kx_c1, kx_ft, kx_aI, kx_aL, kx_aR, kx_ln, Nat.reduceAdd, Option.toList, List.cons_append, List.nil_append, mW_o, mf_1, mf_49, mf_21, mf_45, m_122, mf_39, m_116]
    repeat (simp only [ms_122, ms_116, mu_1, mW_so, h1, h21, z1, z21, zd, zr, nI_1, ck_i1700, va_us, va_upn, ne_eq, Nat.reduceEqDiff, not_false_eq_true, va_upup, ck_kh_s]; try dsimp only [kx_wp, kx_step, kx_lI, kx_lL, kx_lA, kx_gl, kx_pI, kx_pL, kx_pR, kx_pA, kx_pV, kx_s1, kx_s2, kx_sl, kx_pre, kx_c2, kx_pl, kx_cmp, kx_oF, kx_eqN, kx_nil, kx_c1, kx_ft, kx_aI, kx_aL, kx_aR, kx_ln, Nat.reduceAdd, Option.toList, List.cons_append, List.nil_append, mW_o, mf_1, mf_49, mf_21, mf_45, m_122, mf_39, m_116])
    repeat' apply And.intro
    all_goals try (first | with_reducible assumption | (with_reducible refine ck_nzI ?_; simp; done) | (with_reducible refine ck_nzL ?_; simp; done) | (with_reducible refine vp_in_nI ?_ ?_ <;> first | omega | decide) | (with_reducible refine Nat.le_of_ble_eq_true ?_; rfl) | omega)
    · intro zc14
      first | exact absurd rfl zc14 | exact absurd zc14 (by decide) | exact absurd (by decide) zc14 | (exfalso; first | exact zc7 (by rw [hm]; rfl) | exact zc14 h49 | exact hno ⟨(nI_eq (b := 0) (by omega) (by decide)).mp (Decidable.not_not.mp zc7), Decidable.not_not.mp zc14⟩ | exact hno ⟨(nI_eq (b := 0) (by omega) (by decide)).mp zc7, zc14⟩) | (exfalso; simp_all; done)
    · intro zc14
      with_reducible first | have ze14 := Decidable.not_not.mp zc14 | have ze14 := zc14
      refine hB bX11_minuteGoes_17 _ _ _ _ _ _ _ kX11_minuteGoes_17 ?_
      dsimp only [bX11_minuteGoes_17, kx_wp, kx_step, kx_lI, kx_lL, kx_lA, kx_gl, kx_pI, kx_pL, kx_pR, kx_pA, kx_pV, kx_s1, kx_s2, kx_sl, kx_pre, kx_c2, kx_pl, kx_cmp, kx_oF, kx_eqN, kx_nil, kx_c1, kx_ft, kx_aI, kx_aL, kx_aR, kx_ln, Nat.reduceAdd, Option.toList, List.cons_append, List.nil_append, mW_o, mf_1, mf_49, mf_21, mf_45, m_122, mf_39, m_116]
      repeat (simp only [ms_122, ms_116, mu_1, mW_so, h1, h21, z1, z21, zd, zr, nI_1, ck_i1700, va_us, va_upn, ne_eq, Nat.reduceEqDiff, not_false_eq_true, va_upup, ck_kh_s]; try dsimp only [kx_wp, kx_step, kx_lI, kx_lL, kx_lA, kx_gl, kx_pI, kx_pL, kx_pR, kx_pA, kx_pV, kx_s1, kx_s2, kx_sl, kx_pre, kx_c2, kx_pl, kx_cmp, kx_oF, kx_eqN, kx_nil, kx_c1, kx_ft, kx_aI, kx_aL, kx_aR, kx_ln, Nat.reduceAdd, Option.toList, List.cons_append, List.nil_append, mW_o, mf_1, mf_49, mf_21, mf_45, m_122, mf_39, m_116])
      repeat' apply And.intro
      all_goals try (first | with_reducible assumption | (with_reducible refine ck_nzI ?_; simp; done) | (with_reducible refine ck_nzL ?_; simp; done) | (with_reducible refine vp_in_nI ?_ ?_ <;> first | omega | decide) | (with_reducible refine Nat.le_of_ble_eq_true ?_; rfl) | omega)
      have ze := loop19 cl 0 (by omega)
      rw [show ck_kh (L 116) (mi / 60) (A 122) 0 = A 122 from rfl, va_upself] at ze
      exact ze

set_option maxRecDepth 100000 in
set_option maxHeartbeats 4000000 in
theorem ct_X11_minuteGoes_o (l : Launch) (G : kx_G) {M : Nat → Int32} {A : Nat → Nat → Int32} {L : Nat → Nat → Int64} {R : kx_P} {sz : Nat} {cl sd mi : Nat} (h21 : M 21 = nI cl) (hcl : cl ≤ 8) (h1 : M 1 = nI mi) (hmi : mi < 100000) (hsd : sd < 2 ^ 29) (hI : ck_iv cl sd (M, A, L)) (hno : ¬ (mi % 60 = 0 ∧ M 49 = 0))  : kx_M l G sX11_minuteGoes 5 0 0 [.ref 93] (mW M A L R) sz none (mW (upd (ck_gs (M, A, L) cl).1 1 (nI (mi + 1))) (ck_gs (M, A, L) cl).2.1 (ck_gs (M, A, L) cl).2.2 R) sz := by
  have zd : nI mi / 60 = nI (mi / 60) := pk_div (d := 60) (by omega) (by decide) (by decide)
  have zr : nI mi - nI (mi / 60) * 60 = nI (mi % 60) := by rw [← zd]; exact pk_rem (d := 60) (by omega) (by decide) (by decide)
  have hI2 : ck_iv cl sd (M, A, L) := hI
  have zN : ∀ c, ck_iv cl (sd + c) (ck_gs (M, A, L) c) := ck_gs_iv hI2
  have z1 : ∀ c, (ck_gs (M, A, L) c).1 1 = M 1 := ck_gs_M (by decide) (by decide) (by decide) (by decide) (by decide)
  have z21 : ∀ c, (ck_gs (M, A, L) c).1 21 = M 21 := ck_gs_M (by decide) (by decide) (by decide) (by decide) (by decide)
  refine kx_mk kx_tab kxLok_X11 (ini := false) [some (.ref 93), none] ⟨by decide, rfl, by decide, by decide⟩ (rfl) rfl rfl (fun g hB hC => ?_)
  have loop64 : ∀ (n9 : Nat) (c : Nat), c + n9 = cl → g 64 [some (.ref 93), some (.int (nI c))] [] (mW (ck_gs (M, A, L) c).1 (ck_gs (M, A, L) c).2.1 (ck_gs (M, A, L) c).2.2 R) sz 0 0 := by
    intro n9
    induction n9 with
    | zero =>
      intro c hk
      obtain rfl : c = cl := by omega
      refine hB bX11_minuteGoes_64 _ _ _ _ _ _ _ kX11_minuteGoes_64 ?_
      dsimp only [bX11_minuteGoes_64, kx_wp, kx_step, kx_lI, kx_lL, kx_lA, kx_gl, kx_pI, kx_pL, kx_pR, kx_pA, kx_pV, kx_s1, kx_s2, kx_sl, kx_pre, kx_c2, kx_pl, kx_cmp, kx_oF, kx_eqN, kx_nil, kx_c1, kx_ft, kx_aI, kx_aL, kx_aR, kx_ln, Nat.reduceAdd, Option.toList, List.cons_append, List.nil_append, mW_o, mf_1, mf_49, mf_21, mf_45, m_122, mf_39, m_116]
      repeat (simp only [ms_122, ms_116, mu_1, mW_so, h1, h21, z1, z21, zd, zr, nI_1, ck_i1700, va_us, va_upn, ne_eq, Nat.reduceEqDiff, not_false_eq_true, va_upup, ck_kh_s, nI_clamp (show c < 2 ^ 31 by omega)]; try dsimp only [kx_wp, kx_step, kx_lI, kx_lL, kx_lA, kx_gl, kx_pI, kx_pL, kx_pR, kx_pA, kx_pV, kx_s1, kx_s2, kx_sl, kx_pre, kx_c2, kx_pl, kx_cmp, kx_oF, kx_eqN, kx_nil, kx_c1, kx_ft, kx_aI, kx_aL, kx_aR, kx_ln, Nat.reduceAdd, Option.toList, List.cons_append, List.nil_append, mW_o, mf_1, mf_49, mf_21, mf_45, m_122, mf_39, m_116])
      repeat' apply And.intro
      all_goals try (first | with_reducible assumption | (with_reducible refine ck_nzI ?_; simp; done) | (with_reducible refine ck_nzL ?_; simp; done) | (with_reducible refine vp_in_nI ?_ ?_ <;> first | omega | decide) | (with_reducible refine Nat.le_of_ble_eq_true ?_; rfl) | omega)
      · intro zc69
        with_reducible first | have ze69 := Int32.not_lt.mpr zc69 | have ze69 := zc69
        refine hB bX11_minuteGoes_83 _ _ _ _ _ _ _ kX11_minuteGoes_83 ?_
        dsimp only [bX11_minuteGoes_83, kx_wp, kx_step, kx_lI, kx_lL, kx_lA, kx_gl, kx_pI, kx_pL, kx_pR, kx_pA, kx_pV, kx_s1, kx_s2, kx_sl, kx_pre, kx_c2, kx_pl, kx_cmp, kx_oF, kx_eqN, kx_nil, kx_c1, kx_ft, kx_aI, kx_aL, kx_aR, kx_ln, Nat.reduceAdd, Option.toList, List.cons_append, List.nil_append, mW_o, mf_1, mf_49, mf_21, mf_45, m_122, mf_39, m_116]
        repeat (simp only [ms_122, ms_116, mu_1, mW_so, h1, h21, z1, z21, zd, zr, nI_1, ck_i1700, va_us, va_upn, ne_eq, Nat.reduceEqDiff, not_false_eq_true, va_upup, ck_kh_s, nI_clamp (show c < 2 ^ 31 by omega)]; try dsimp only [kx_wp, kx_step, kx_lI, kx_lL, kx_lA, kx_gl, kx_pI, kx_pL, kx_pR, kx_pA, kx_pV, kx_s1, kx_s2, kx_sl, kx_pre, kx_c2, kx_pl, kx_cmp, kx_oF, kx_eqN, kx_nil, kx_c1, kx_ft, kx_aI, kx_aL, kx_aR, kx_ln, Nat.reduceAdd, Option.toList, List.cons_append, List.nil_append, mW_o, mf_1, mf_49, mf_21, mf_45, m_122, mf_39, m_116])
        all_goals (repeat' apply And.intro)
        all_goals ((try clear hB hC); first | exact True.intro | with_reducible rfl | with_reducible assumption | (with_reducible refine vp_in_nI ?_ ?_ <;> first | omega | decide) | exact Nat.le_of_ble_eq_true rfl | (with_reducible refine ck_nzI ?_; simp; done) | (with_reducible refine ck_nzL ?_; simp; done) | (simp only [pk_us, pk_uLs, zc69, ze69, ↓reduceIte, not_true_eq_false, not_false_eq_true]; done) | (simp only [zc69, ze69, ↓reduceIte, not_true_eq_false, not_false_eq_true]; with_reducible rfl) | skip)
      · intro zc69
        first | exact absurd rfl zc69 | exact absurd zc69 (by decide) | exact absurd (by decide) zc69 | (exfalso; first | exact absurd zc69 (by first | (simp only [nI_leI (show cl < 2 ^ 31 by omega) (show c < 2 ^ 31 by omega)]; omega) | (simp only [nI_leI (show cl < 2 ^ 31 by omega) (show c < 2 ^ 31 by omega), Decidable.not_not]; omega))) | (exfalso; simp_all; done)
    | succ n9 ih =>
      intro c hk
      obtain ⟨zi1, zi2, zi3⟩ := zN c
      refine hB bX11_minuteGoes_64 _ _ _ _ _ _ _ kX11_minuteGoes_64 ?_
      dsimp only [bX11_minuteGoes_64, kx_wp, kx_step, kx_lI, kx_lL, kx_lA, kx_gl, kx_pI, kx_pL, kx_pR, kx_pA, kx_pV, kx_s1, kx_s2, kx_sl, kx_pre, kx_c2, kx_pl, kx_cmp, kx_oF, kx_eqN, kx_nil, kx_c1, kx_ft, kx_aI, kx_aL, kx_aR, kx_ln, Nat.reduceAdd, Option.toList, List.cons_append, List.nil_append, mW_o, mf_1, mf_49, mf_21, mf_45, m_122, mf_39, m_116]
      repeat (simp only [ms_122, ms_116, mu_1, mW_so, h1, h21, z1, z21, zd, zr, nI_1, ck_i1700, va_us, va_upn, ne_eq, Nat.reduceEqDiff, not_false_eq_true, va_upup, ck_kh_s, nI_clamp (show c < 2 ^ 31 by omega)]; try dsimp only [kx_wp, kx_step, kx_lI, kx_lL, kx_lA, kx_gl, kx_pI, kx_pL, kx_pR, kx_pA, kx_pV, kx_s1, kx_s2, kx_sl, kx_pre, kx_c2, kx_pl, kx_cmp, kx_oF, kx_eqN, kx_nil, kx_c1, kx_ft, kx_aI, kx_aL, kx_aR, kx_ln, Nat.reduceAdd, Option.toList, List.cons_append, List.nil_append, mW_o, mf_1, mf_49, mf_21, mf_45, m_122, mf_39, m_116])
      repeat' apply And.intro
      all_goals try (first | with_reducible assumption | (with_reducible refine ck_nzI ?_; simp; done) | (with_reducible refine ck_nzL ?_; simp; done) | (with_reducible refine vp_in_nI ?_ ?_ <;> first | omega | decide) | (with_reducible refine Nat.le_of_ble_eq_true ?_; rfl) | omega)
      · intro zc69
        first | exact absurd rfl zc69 | exact absurd zc69 (by decide) | exact absurd (by decide) zc69 | (exfalso; first | exact absurd zc69 (by first | (simp only [nI_leI (show cl < 2 ^ 31 by omega) (show c < 2 ^ 31 by omega)]; omega) | (simp only [nI_leI (show cl < 2 ^ 31 by omega) (show c < 2 ^ 31 by omega), Decidable.not_not]; omega))) | (exfalso; simp_all; done)
      · intro zc69
        with_reducible first | have ze69 := Int32.not_le.mp zc69 | have ze69 := zc69
        refine hB bX11_minuteGoes_72 _ _ _ _ _ _ _ kX11_minuteGoes_72 ?_
        dsimp only [bX11_minuteGoes_72, kx_wp, kx_step, kx_lI, kx_lL, kx_lA, kx_gl, kx_pI, kx_pL, kx_pR, kx_pA, kx_pV, kx_s1, kx_s2, kx_sl, kx_pre, kx_c2, kx_pl, kx_cmp, kx_oF, kx_eqN, kx_nil, kx_c1, kx_ft, kx_aI, kx_aL, kx_aR, kx_ln, Nat.reduceAdd, Option.toList, List.cons_append, List.nil_append, mW_o, mf_1, mf_49, mf_21, mf_45, m_122, mf_39, m_116]
        repeat (simp only [ms_122, ms_116, mu_1, mW_so, h1, h21, z1, z21, zd, zr, nI_1, ck_i1700, va_us, va_upn, ne_eq, Nat.reduceEqDiff, not_false_eq_true, va_upup, ck_kh_s, nI_clamp (show c < 2 ^ 31 by omega)]; try dsimp only [kx_wp, kx_step, kx_lI, kx_lL, kx_lA, kx_gl, kx_pI, kx_pL, kx_pR, kx_pA, kx_pV, kx_s1, kx_s2, kx_sl, kx_pre, kx_c2, kx_pl, kx_cmp, kx_oF, kx_eqN, kx_nil, kx_c1, kx_ft, kx_aI, kx_aL, kx_aR, kx_ln, Nat.reduceAdd, Option.toList, List.cons_append, List.nil_append, mW_o, mf_1, mf_49, mf_21, mf_45, m_122, mf_39, m_116])
        repeat' apply And.intro
        all_goals try (first | with_reducible assumption | (with_reducible refine ck_nzI ?_; simp; done) | (with_reducible refine ck_nzL ?_; simp; done) | (with_reducible refine vp_in_nI ?_ ?_ <;> first | omega | decide) | (with_reducible refine Nat.le_of_ble_eq_true ?_; rfl) | omega)
        refine hC.1 429 _ _ _ _ _ _ _ 11 _ _ _ _ _ _ _ _ _ _ _ _ lX11_429 (ct_X11_goes l G (S := ck_gs (M, A, L) c) (by omega) (zi1 c (by omega)).1 (zi1 c (by omega)).2.1 zi2 (zi1 c (by omega)).2.2 ((z1 c).trans h1) (by omega) (fun _ => zi3.elim (fun n hn => ⟨n, by omega, hn.2⟩))) ⟨by decide, rfl⟩ (mW_o) rfl rfl (Nat.le_of_ble_eq_true rfl) (by decide) (by decide) (by omega) (by omega) dX11_minuteGoes_74 ?_
        dsimp only [ck_W]
        rw [ck_gs_s]
        refine hB bX11_minuteGoes_77 _ _ _ _ _ _ _ kX11_minuteGoes_77 ?_
        dsimp only [bX11_minuteGoes_77, kx_wp, kx_step, kx_lI, kx_lL, kx_lA, kx_gl, kx_pI, kx_pL, kx_pR, kx_pA, kx_pV, kx_s1, kx_s2, kx_sl, kx_pre, kx_c2, kx_pl, kx_cmp, kx_oF, kx_eqN, kx_nil, kx_c1, kx_ft, kx_aI, kx_aL, kx_aR, kx_ln, Nat.reduceAdd, Option.toList, List.cons_append, List.nil_append, mW_o, mf_1, mf_49, mf_21, mf_45, m_122, mf_39, m_116]
        repeat (simp only [ms_122, ms_116, mu_1, mW_so, h1, h21, z1, z21, zd, zr, nI_1, ck_i1700, va_us, va_upn, ne_eq, Nat.reduceEqDiff, not_false_eq_true, va_upup, ck_kh_s, nI_clamp (show c < 2 ^ 31 by omega)]; try dsimp only [kx_wp, kx_step, kx_lI, kx_lL, kx_lA, kx_gl, kx_pI, kx_pL, kx_pR, kx_pA, kx_pV, kx_s1, kx_s2, kx_sl, kx_pre, kx_c2, kx_pl, kx_cmp, kx_oF, kx_eqN, kx_nil, kx_c1, kx_ft, kx_aI, kx_aL, kx_aR, kx_ln, Nat.reduceAdd, Option.toList, List.cons_append, List.nil_append, mW_o, mf_1, mf_49, mf_21, mf_45, m_122, mf_39, m_116])
        repeat' apply And.intro
        all_goals try (first | with_reducible assumption | (with_reducible refine ck_nzI ?_; simp; done) | (with_reducible refine ck_nzL ?_; simp; done) | (with_reducible refine vp_in_nI ?_ ?_ <;> first | omega | decide) | (with_reducible refine Nat.le_of_ble_eq_true ?_; rfl) | omega)
        exact ih (c + 1) (by omega)
  refine hB bX11_minuteGoes_0 _ _ _ _ _ _ _ kX11_minuteGoes_0 ?_
  dsimp only [bX11_minuteGoes_0, kx_wp, kx_step, kx_lI, kx_lL, kx_lA, kx_gl, kx_pI, kx_pL, kx_pR, kx_pA, kx_pV, kx_s1, kx_s2, kx_sl, kx_pre, kx_c2, kx_pl, kx_cmp, kx_oF, kx_eqN, kx_nil, kx_c1, kx_ft, kx_aI, kx_aL, kx_aR, kx_ln, Nat.reduceAdd, Option.toList, List.cons_append, List.nil_append, mW_o, mf_1, mf_49, mf_21, mf_45, m_122, mf_39, m_116]
  repeat (simp only [ms_122, ms_116, mu_1, mW_so, h1, h21, z1, z21, zd, zr, nI_1, ck_i1700, va_us, va_upn, ne_eq, Nat.reduceEqDiff, not_false_eq_true, va_upup, ck_kh_s]; try dsimp only [kx_wp, kx_step, kx_lI, kx_lL, kx_lA, kx_gl, kx_pI, kx_pL, kx_pR, kx_pA, kx_pV, kx_s1, kx_s2, kx_sl, kx_pre, kx_c2, kx_pl, kx_cmp, kx_oF, kx_eqN, kx_nil, kx_c1, kx_ft, kx_aI, kx_aL, kx_aR, kx_ln, Nat.reduceAdd, Option.toList, List.cons_append, List.nil_append, mW_o, mf_1, mf_49, mf_21, mf_45, m_122, mf_39, m_116])
  repeat' apply And.intro
  all_goals try (first | with_reducible assumption | (with_reducible refine ck_nzI ?_; simp; done) | (with_reducible refine ck_nzL ?_; simp; done) | (with_reducible refine vp_in_nI ?_ ?_ <;> first | omega | decide) | (with_reducible refine Nat.le_of_ble_eq_true ?_; rfl) | omega)
  · intro zc7
    have ze7 := zc7
    refine hB bX11_minuteGoes_62 _ _ _ _ _ _ _ kX11_minuteGoes_62 ?_
    dsimp only [bX11_minuteGoes_62, kx_wp, kx_step, kx_lI, kx_lL, kx_lA, kx_gl, kx_pI, kx_pL, kx_pR, kx_pA, kx_pV, kx_s1, kx_s2, kx_sl, kx_pre, kx_c2, kx_pl, kx_cmp, kx_oF, kx_eqN, kx_nil, kx_c1, kx_ft, kx_aI, kx_aL, kx_aR, kx_ln, Nat.reduceAdd, Option.toList, List.cons_append, List.nil_append, mW_o, mf_1, mf_49, mf_21, mf_45, m_122, mf_39, m_116]
    repeat (simp only [ms_122, ms_116, mu_1, mW_so, h1, h21, z1, z21, zd, zr, nI_1, ck_i1700, va_us, va_upn, ne_eq, Nat.reduceEqDiff, not_false_eq_true, va_upup, ck_kh_s]; try dsimp only [kx_wp, kx_step, kx_lI, kx_lL, kx_lA, kx_gl, kx_pI, kx_pL, kx_pR, kx_pA, kx_pV, kx_s1, kx_s2, kx_sl, kx_pre, kx_c2, kx_pl, kx_cmp, kx_oF, kx_eqN, kx_nil, kx_c1, kx_ft, kx_aI, kx_aL, kx_aR, kx_ln, Nat.reduceAdd, Option.toList, List.cons_append, List.nil_append, mW_o, mf_1, mf_49, mf_21, mf_45, m_122, mf_39, m_116])
    repeat' apply And.intro
    all_goals try (first | with_reducible assumption | (with_reducible refine ck_nzI ?_; simp; done) | (with_reducible refine ck_nzL ?_; simp; done) | (with_reducible refine vp_in_nI ?_ ?_ <;> first | omega | decide) | (with_reducible refine Nat.le_of_ble_eq_true ?_; rfl) | omega)
    exact loop64 cl 0 (by omega)
  · intro zc7
    with_reducible first | have ze7 := Decidable.not_not.mp zc7 | have ze7 := zc7
    refine hB bX11_minuteGoes_10 _ _ _ _ _ _ _ kX11_minuteGoes_10 ?_
    dsimp only [bX11_minuteGoes_10, kx_wp, kx_step, kx_lI, kx_lL, kx_lA, kx_gl, kx_pI, kx_pL, kx_pR, kx_pA, kx_pV, kx_s1, kx_s2, kx_sl, kx_pre, kx_c2, kx_pl, kx_cmp, kx_oF, kx_eqN, kx_nil, kx_c1, kx_ft, kx_aI, kx_aL, kx_aR, kx_ln, Nat.reduceAdd, Option.toList, List.cons_append, List.nil_append, mW_o, mf_1, mf_49, mf_21, mf_45, m_122, mf_39, m_116]
    repeat (simp only [ms_122, ms_116, mu_1, mW_so, h1, h21, z1, z21, zd, zr, nI_1, ck_i1700, va_us, va_upn, ne_eq, Nat.reduceEqDiff, not_false_eq_true, va_upup, ck_kh_s]; try dsimp only [kx_wp, kx_step, kx_lI, kx_lL, kx_lA, kx_gl, kx_pI, kx_pL, kx_pR, kx_pA, kx_pV, kx_s1, kx_s2, kx_sl, kx_pre, kx_c2, kx_pl, kx_cmp, kx_oF, kx_eqN, kx_nil, kx_c1, kx_ft, kx_aI, kx_aL, kx_aR, kx_ln, Nat.reduceAdd, Option.toList, List.cons_append, List.nil_append, mW_o, mf_1, mf_49, mf_21, mf_45, m_122, mf_39, m_116])
    repeat' apply And.intro
    all_goals try (first | with_reducible assumption | (with_reducible refine ck_nzI ?_; simp; done) | (with_reducible refine ck_nzL ?_; simp; done) | (with_reducible refine vp_in_nI ?_ ?_ <;> first | omega | decide) | (with_reducible refine Nat.le_of_ble_eq_true ?_; rfl) | omega)
    · intro zc14
      have ze14 := zc14
      refine hB bX11_minuteGoes_62 _ _ _ _ _ _ _ kX11_minuteGoes_62 ?_
      dsimp only [bX11_minuteGoes_62, kx_wp, kx_step, kx_lI, kx_lL, kx_lA, kx_gl, kx_pI, kx_pL, kx_pR, kx_pA, kx_pV, kx_s1, kx_s2, kx_sl, kx_pre, kx_c2, kx_pl, kx_cmp, kx_oF, kx_eqN, kx_nil, kx_c1, kx_ft, kx_aI, kx_aL, kx_aR, kx_ln, Nat.reduceAdd, Option.toList, List.cons_append, List.nil_append, mW_o, mf_1, mf_49, mf_21, mf_45, m_122, mf_39, m_116]
      repeat (simp only [ms_122, ms_116, mu_1, mW_so, h1, h21, z1, z21, zd, zr, nI_1, ck_i1700, va_us, va_upn, ne_eq, Nat.reduceEqDiff, not_false_eq_true, va_upup, ck_kh_s]; try dsimp only [kx_wp, kx_step, kx_lI, kx_lL, kx_lA, kx_gl, kx_pI, kx_pL, kx_pR, kx_pA, kx_pV, kx_s1, kx_s2, kx_sl, kx_pre, kx_c2, kx_pl, kx_cmp, kx_oF, kx_eqN, kx_nil, kx_c1, kx_ft, kx_aI, kx_aL, kx_aR, kx_ln, Nat.reduceAdd, Option.toList, List.cons_append, List.nil_append, mW_o, mf_1, mf_49, mf_21, mf_45, m_122, mf_39, m_116])
      repeat' apply And.intro
      all_goals try (first | with_reducible assumption | (with_reducible refine ck_nzI ?_; simp; done) | (with_reducible refine ck_nzL ?_; simp; done) | (with_reducible refine vp_in_nI ?_ ?_ <;> first | omega | decide) | (with_reducible refine Nat.le_of_ble_eq_true ?_; rfl) | omega)
      exact loop64 cl 0 (by omega)
    · intro zc14
      first | exact absurd rfl zc14 | exact absurd zc14 (by decide) | exact absurd (by decide) zc14 | (exfalso; first | exact zc7 (by rw [hm]; rfl) | exact zc14 h49 | exact hno ⟨(nI_eq (b := 0) (by omega) (by decide)).mp (Decidable.not_not.mp zc7), Decidable.not_not.mp zc14⟩ | exact hno ⟨(nI_eq (b := 0) (by omega) (by decide)).mp zc7, zc14⟩) | (exfalso; simp_all; done)

theorem ct_X11_minuteGoes (l : Launch) (G : kx_G) {S : ck_S} {R : kx_P} {sz : Nat} {cl sd mi : Nat} (h21 : S.1 21 = nI cl) (hcl : cl ≤ 8) (h1 : S.1 1 = nI mi) (hmi : mi < 100000) (hsd : sd < 2 ^ 29) (hI : ck_iv cl sd S) :
    kx_M l G sX11_minuteGoes 5 0 0 [.ref 93] (ck_W S R) sz none (ck_W (ck_mn S cl) R) sz := by
  obtain ⟨M, A, L⟩ := S
  dsimp only at h21 h1
  have e : ck_mn1 (M 1) = mi := by unfold ck_mn1; rw [h1, nI_clamp (by omega)]
  unfold ck_mn ck_mgA ck_W
  dsimp only
  rw [e]
  by_cases h : mi % 60 = 0 ∧ M 49 = 0
  · rw [if_pos h]
    exact ct_X11_minuteGoes_k l G h21 hcl h1 hmi hsd hI h.1 h.2
  · rw [if_neg h]
    exact ct_X11_minuteGoes_o l G h21 hcl h1 hmi hsd hI h
theorem ck_mn_iv {cl sd mi : Nat} {S : ck_S} (h : ck_iv cl sd S) (h1 : S.1 1 = nI mi) (hmi : mi < 100000) : ck_iv cl (sd + cl) (ck_mn S cl) ∧ (ck_mn S cl).1 1 = nI (mi + 1) := by
  obtain ⟨M, A, L⟩ := S
  have e : ck_mn1 (M 1) = mi := by unfold ck_mn1; rw [show M 1 = nI mi from h1, nI_clamp (by omega)]
  have hz := ck_gs_iv (ck_iv_mg (k := cl) h) cl
  refine ⟨?_, by unfold ck_mn; dsimp only; rw [e]; exact pk_us⟩
  obtain ⟨a, b, n, hn, hn2⟩ := hz
  refine ⟨a, ?_, n, hn, hn2⟩
  obtain ⟨w, hw, h2, hj⟩ := b
  exact ⟨w, hw, h2, hj⟩
theorem ck_mn_M {S : ck_S} {cl j : Nat} (h0 : j ≠ 1) (h1 : j ≠ 22) (h2 : j ≠ 51) (h3 : j ≠ 52) (h4 : j ≠ 47) (h5 : j ≠ 48) : (ck_mn S cl).1 j = S.1 j := by
  unfold ck_mn
  dsimp only
  rw [pk_un h0]
  exact ck_gs_M h1 h2 h3 h4 h5 cl
/-- n MINUTEs -/
def ck_mns (S : ck_S) (cl : Nat) : Nat → ck_S
  | 0 => S
  | n + 1 => ck_mn (ck_mns S cl n) cl
theorem ck_mns_s (S : ck_S) (cl n : Nat) : ck_mn (ck_mns S cl n) cl = ck_mns S cl (n + 1) := rfl
theorem ck_mns_M {S : ck_S} {cl j : Nat} (h0 : j ≠ 1) (h1 : j ≠ 22) (h2 : j ≠ 51) (h3 : j ≠ 52) (h4 : j ≠ 47) (h5 : j ≠ 48) : ∀ n, (ck_mns S cl n).1 j = S.1 j
  | 0 => rfl
  | n + 1 => (ck_mn_M h0 h1 h2 h3 h4 h5).trans (ck_mns_M h0 h1 h2 h3 h4 h5 n)
theorem ck_mns_iv {cl sd mi : Nat} {S : ck_S} (h : ck_iv cl sd S) (h1 : S.1 1 = nI mi) : ∀ n, mi + n ≤ 100000 → ck_iv cl (sd + n * cl) (ck_mns S cl n) ∧ (ck_mns S cl n).1 1 = nI (mi + n)
  | 0, _ => ⟨by rw [Nat.zero_mul]; exact h, h1⟩
  | n + 1, hn => by
    obtain ⟨a, b⟩ := ck_mns_iv h h1 n (by omega)
    have := ck_mn_iv (cl := cl) a b (by omega)
    rw [Nat.succ_mul, ← Nat.add_assoc, ← Nat.add_assoc]
    exact this

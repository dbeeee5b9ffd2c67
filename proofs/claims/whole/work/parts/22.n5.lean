def ck_abL (v : Int64) : Int64 := if v < 0 then -v else v
def ck_reg (v0 : Int64) (pen cur : Int32) : Nat → Int32 × Int64
  | 0 => (-20, -1)
  | k + 1 => if 0 ≤ (ck_reg v0 pen cur k).2 then (if (ck_reg v0 pen cur k).2 ≤ ck_abL (v0 + pen.toInt64 * (nI k - 20 - cur).toInt64) then ck_reg v0 pen cur k else (nI k - 20, ck_abL (v0 + pen.toInt64 * (nI k - 20 - cur).toInt64))) else (nI k - 20, ck_abL (v0 + pen.toInt64 * (nI k - 20 - cur).toInt64))
theorem ck_p1 (k : Nat) : nI k - 20 + 1 = nI (k + 1) - 20 := by rw [nI_succ, Int32.sub_eq_add_neg, Int32.sub_eq_add_neg, Int32.add_assoc, Int32.add_assoc, Int32.add_comm (-20) 1]
theorem ck_p20 {k : Nat} (h : k < 2 ^ 30) : (nI k - 20).toInt = (k : Int) - 20 := pk_sub_toInt (a := k) (b := 20) h (by decide)
def bX11_regulated_0 : List kx_O := [(.aload_n 0, 0, 0, 0, .null), (.iconst 0, 0, 0, 0, .int 0), (.putfield 1, 11, 0, 0, .null), (.aload_n 0, 0, 0, 0, .null), (.iload_n 1, 1, 0, 0, .null)]
theorem kX11_regulated_0 : kx_oks kxL_X11 false cX11_regulated 0 bX11_regulated_0 = true := by decide +kernel
def bX11_regulated_10 : List kx_O := [(.ifCond .ne 5, 15, 0, 0, .null)]
theorem kX11_regulated_10 : kx_oks kxL_X11 false cX11_regulated 10 bX11_regulated_10 = true := by decide +kernel
def bX11_regulated_13 : List kx_O := [(.iconst 0, 0, 0, 0, .int 0), (.ireturn, 0, 0, 0, .null)]
theorem kX11_regulated_13 : kx_oks kxL_X11 false cX11_regulated 13 bX11_regulated_13 = true := by decide +kernel
def bX11_regulated_15 : List kx_O := [(.aload_n 0, 0, 0, 0, .null), (.iload_n 1, 1, 0, 0, .null), (.iload_n 2, 2, 0, 0, .null)]
theorem kX11_regulated_15 : kx_oks kxL_X11 false cX11_regulated 15 bX11_regulated_15 = true := by decide +kernel
def bX11_regulated_21 : List kx_O := [(.aload_n 0, 0, 0, 0, .null), (.getfield 535, 11, 76, 0, .null), (.iconst (-1), 0, 0, 0, .int (-1)), (.if_icmp .ne 7, 33, 0, 0, .null)]
theorem kX11_regulated_21 : kx_oks kxL_X11 false cX11_regulated 21 bX11_regulated_21 = true := by decide +kernel
def bX11_regulated_29 : List kx_O := [(.ldc_w 563, 0, 0, 0, .int (-2000000000)), (.ireturn, 0, 0, 0, .null)]
theorem kX11_regulated_29 : kx_oks kxL_X11 false cX11_regulated 29 bX11_regulated_29 = true := by decide +kernel
def bX11_regulated_33 : List kx_O := [(.bipush (-20), 0, 0, 0, .int (-20)), (.istore_n 3, 3, 0, 0, .null), (.ldc2_w 564, 0, 0, 0, .long (-1)), (.lstore 4, 4, 0, 0, .null), (.bipush (-20), 0, 0, 0, .int (-20)), (.istore 6, 6, 0, 0, .null)]
theorem kX11_regulated_33 : kx_oks kxL_X11 false cX11_regulated 33 bX11_regulated_33 = true := by decide +kernel
def bX11_regulated_45 : List kx_O := [(.iload 6, 6, 0, 0, .null), (.bipush 20, 0, 0, 0, .int 20), (.if_icmp .gt 77, 126, 0, 0, .null)]
theorem kX11_regulated_45 : kx_oks kxL_X11 false cX11_regulated 45 bX11_regulated_45 = true := by decide +kernel
def bX11_regulated_52 : List kx_O := [(.aload_n 0, 0, 0, 0, .null)]
theorem kX11_regulated_52 : kx_oks kxL_X11 false cX11_regulated 52 bX11_regulated_52 = true := by decide +kernel
def bX11_regulated_56 : List kx_O := [(.aload_n 0, 0, 0, 0, .null), (.iload_n 1, 1, 0, 0, .null), (.bipush 15, 0, 0, 0, .int 15)]
theorem kX11_regulated_56 : kx_oks kxL_X11 false cX11_regulated 56 bX11_regulated_56 = true := by decide +kernel
def bX11_regulated_63 : List kx_O := [(.i2l, 0, 0, 0, .null), (.iload 6, 6, 0, 0, .null), (.aload_n 0, 0, 0, 0, .null), (.getfield 80, 11, 38, 0, .null), (.iload_n 1, 1, 0, 0, .null), (.iaload, 0, 0, 0, .null), (.isub, 0, 0, 0, .null), (.i2l, 0, 0, 0, .null), (.lmul, 0, 0, 0, .null), (.ladd, 0, 0, 0, .null), (.lstore 7, 7, 0, 0, .null), (.lload 7, 7, 0, 0, .null), (.lconst 0, 0, 0, 0, .long 0), (.lcmp, 0, 0, 0, .null), (.ifCond .ge 9, 91, 0, 0, .null)]
theorem kX11_regulated_63 : kx_oks kxL_X11 false cX11_regulated 63 bX11_regulated_63 = true := by decide +kernel
def bX11_regulated_85 : List kx_O := [(.lload 7, 7, 0, 0, .null), (.lneg, 0, 0, 0, .null), (.goto 5, 93, 0, 0, .null)]
theorem kX11_regulated_85 : kx_oks kxL_X11 false cX11_regulated 85 bX11_regulated_85 = true := by decide +kernel
def bX11_regulated_91 : List kx_O := [(.lload 7, 7, 0, 0, .null)]
theorem kX11_regulated_91 : kx_oks kxL_X11 false cX11_regulated 91 bX11_regulated_91 = true := by decide +kernel
def bX11_regulated_93 : List kx_O := [(.lstore 7, 7, 0, 0, .null), (.lload 4, 4, 0, 0, .null), (.lconst 0, 0, 0, 0, .long 0), (.lcmp, 0, 0, 0, .null), (.ifCond .lt 14, 113, 0, 0, .null)]
theorem kX11_regulated_93 : kx_oks kxL_X11 false cX11_regulated 93 bX11_regulated_93 = true := by decide +kernel
def bX11_regulated_102 : List kx_O := [(.lload 7, 7, 0, 0, .null), (.lload 4, 4, 0, 0, .null), (.lcmp, 0, 0, 0, .null), (.ifCond .lt 6, 113, 0, 0, .null)]
theorem kX11_regulated_102 : kx_oks kxL_X11 false cX11_regulated 102 bX11_regulated_102 = true := by decide +kernel
def bX11_regulated_110 : List kx_O := [(.goto 10, 120, 0, 0, .null)]
theorem kX11_regulated_110 : kx_oks kxL_X11 false cX11_regulated 110 bX11_regulated_110 = true := by decide +kernel
def bX11_regulated_113 : List kx_O := [(.lload 7, 7, 0, 0, .null), (.lstore 4, 4, 0, 0, .null), (.iload 6, 6, 0, 0, .null), (.istore_n 3, 3, 0, 0, .null)]
theorem kX11_regulated_113 : kx_oks kxL_X11 false cX11_regulated 113 bX11_regulated_113 = true := by decide +kernel
def bX11_regulated_120 : List kx_O := [(.iinc 6 1, 6, 0, 0, .int 1), (.goto (-78), 45, 0, 0, .null)]
theorem kX11_regulated_120 : kx_oks kxL_X11 false cX11_regulated 120 bX11_regulated_120 = true := by decide +kernel
def bX11_regulated_126 : List kx_O := [(.iload_n 3, 3, 0, 0, .null), (.ireturn, 0, 0, 0, .null)]
theorem kX11_regulated_126 : kx_oks kxL_X11 false cX11_regulated 126 bX11_regulated_126 = true := by decide +kernel
theorem dX11_regulated_7 : decode cX11_regulated 7 = .ok (.invokevirtual 358, 3) := by decide +kernel
theorem dX11_regulated_18 : decode cX11_regulated 18 = .ok (.invokevirtual 551, 3) := by decide +kernel
theorem dX11_regulated_53 : decode cX11_regulated 53 = .ok (.invokevirtual 560, 3) := by decide +kernel
theorem dX11_regulated_60 : decode cX11_regulated 60 = .ok (.invokevirtual 365, 3) := by decide +kernel
set_option maxRecDepth 100000 in
set_option maxHeartbeats 4000000 in
theorem ct_X11_regulated_v (l : Launch) (G : kx_G) {M : Nat → Int32} {A : Nat → Nat → Int32} {L : Nat → Nat → Int64} {R : kx_P} {sz : Nat} {cl c : Nat} (h21 : M 21 = nI cl) (hcl : cl ≤ 8) (hc : c < cl) {t : Int32} {n : Nat} (h71 : M 71 = nI n) (hn : n ≤ 100) {a b x y : Int32} (hq : ck_ft A (nI c) t (M 78) (M 79) n = (a, b, x, y)) (ha : a = -1)  : kx_M l G sX11_regulated 3 0 0 [.ref 93, .int (nI c), .int (t)] (mW M A L R) sz (some (.int ((-2000000000)))) (mW (ck_q4 (upd M 0 0) (a, b, x, y)) A L R) sz := by
  have h71b : upd M 0 0 71 = nI n := by rw [show upd M 0 0 71 = M 71 from rfl]; exact h71
  refine kx_mk kx_tab kxLok_X11 (ini := false) [some (.ref 93), some (.int (nI c)), some (.int (t)), none, none, none, none, none, none] ⟨by decide, rfl, by decide, by decide⟩ (⟨_, rfl⟩) rfl rfl (fun g hB hC => ?_)
  refine hB bX11_regulated_0 _ _ _ _ _ _ _ kX11_regulated_0 ?_
  dsimp only [bX11_regulated_0, kx_wp, kx_step, kx_lI, kx_lL, kx_lA, kx_gl, kx_pI, kx_pL, kx_pR, kx_pA, kx_pV, kx_s1, kx_s2, kx_sl, kx_pre, kx_c2, kx_pl, kx_cmp, kx_oF, kx_eqN, kx_nil, kx_c1, kx_ft, kx_aI, kx_aL, kx_aR, kx_ln, Nat.reduceAdd, Option.toList, List.cons_append, List.nil_append, mW_o, mf_0, mf_76, mf_38, m_115]
  repeat (simp only [mu_0, mW_so, ms_115, show upd M 0 0 76 = M 76 from rfl, ck_q4_76, ck_q4_77, ck_q4_78, ck_q4_79, ck_q4_0, ck_q4r_76, ck_q4r_77, ck_q4r_78, ck_q4r_79, ck_q4r_71, show upd M 0 0 78 = M 78 from rfl, show upd M 0 0 79 = M 79 from rfl, hq]; try dsimp only [kx_wp, kx_step, kx_lI, kx_lL, kx_lA, kx_gl, kx_pI, kx_pL, kx_pR, kx_pA, kx_pV, kx_s1, kx_s2, kx_sl, kx_pre, kx_c2, kx_pl, kx_cmp, kx_oF, kx_eqN, kx_nil, kx_c1, kx_ft, kx_aI, kx_aL, kx_aR, kx_ln, Nat.reduceAdd, Option.toList, List.cons_append, List.nil_append, mW_o, mf_0, mf_76, mf_38, m_115])
  repeat' apply And.intro
  all_goals try (first | with_reducible assumption | (with_reducible refine ck_nzI ?_; simp; done) | (with_reducible refine ck_nzL ?_; simp; done) | (with_reducible refine vp_in_nI ?_ ?_ <;> first | omega | decide) | (with_reducible refine Nat.le_of_ble_eq_true ?_; rfl) | omega)
  refine hC.1 358 _ _ _ _ _ _ _ 11 _ _ _ _ _ _ _ _ _ _ _ _ lX11_358 (ct_X11_isClock_t l G (M := upd M 0 0) h21 hcl hc rfl) ⟨by decide, rfl⟩ (mW_o) rfl rfl (Nat.le_of_ble_eq_true rfl) (by decide) (by decide) (by omega) (by omega) dX11_regulated_7 ?_
  refine hB bX11_regulated_10 _ _ _ _ _ _ _ kX11_regulated_10 ?_
  dsimp only [bX11_regulated_10, kx_wp, kx_step, kx_lI, kx_lL, kx_lA, kx_gl, kx_pI, kx_pL, kx_pR, kx_pA, kx_pV, kx_s1, kx_s2, kx_sl, kx_pre, kx_c2, kx_pl, kx_cmp, kx_oF, kx_eqN, kx_nil, kx_c1, kx_ft, kx_aI, kx_aL, kx_aR, kx_ln, Nat.reduceAdd, Option.toList, List.cons_append, List.nil_append, mW_o, mf_0, mf_76, mf_38, m_115]
  repeat (simp only [mu_0, mW_so, ms_115, show upd M 0 0 76 = M 76 from rfl, ck_q4_76, ck_q4_77, ck_q4_78, ck_q4_79, ck_q4_0, ck_q4r_76, ck_q4r_77, ck_q4r_78, ck_q4r_79, ck_q4r_71, show upd M 0 0 78 = M 78 from rfl, show upd M 0 0 79 = M 79 from rfl, hq]; try dsimp only [kx_wp, kx_step, kx_lI, kx_lL, kx_lA, kx_gl, kx_pI, kx_pL, kx_pR, kx_pA, kx_pV, kx_s1, kx_s2, kx_sl, kx_pre, kx_c2, kx_pl, kx_cmp, kx_oF, kx_eqN, kx_nil, kx_c1, kx_ft, kx_aI, kx_aL, kx_aR, kx_ln, Nat.reduceAdd, Option.toList, List.cons_append, List.nil_append, mW_o, mf_0, mf_76, mf_38, m_115])
  repeat' apply And.intro
  all_goals try (first | with_reducible assumption | (with_reducible refine ck_nzI ?_; simp; done) | (with_reducible refine ck_nzL ?_; simp; done) | (with_reducible refine vp_in_nI ?_ ?_ <;> first | omega | decide) | (with_reducible refine Nat.le_of_ble_eq_true ?_; rfl) | omega)
  · intro zc10
    have ze10 := zc10
    refine hB bX11_regulated_15 _ _ _ _ _ _ _ kX11_regulated_15 ?_
    dsimp only [bX11_regulated_15, kx_wp, kx_step, kx_lI, kx_lL, kx_lA, kx_gl, kx_pI, kx_pL, kx_pR, kx_pA, kx_pV, kx_s1, kx_s2, kx_sl, kx_pre, kx_c2, kx_pl, kx_cmp, kx_oF, kx_eqN, kx_nil, kx_c1, kx_ft, kx_aI, kx_aL, kx_aR, kx_ln, Nat.reduceAdd, Option.toList, List.cons_append, List.nil_append, mW_o, mf_0, mf_76, mf_38, m_115]
    repeat (simp only [mu_0, mW_so, ms_115, show upd M 0 0 76 = M 76 from rfl, ck_q4_76, ck_q4_77, ck_q4_78, ck_q4_79, ck_q4_0, ck_q4r_76, ck_q4r_77, ck_q4r_78, ck_q4r_79, ck_q4r_71, show upd M 0 0 78 = M 78 from rfl, show upd M 0 0 79 = M 79 from rfl, hq]; try dsimp only [kx_wp, kx_step, kx_lI, kx_lL, kx_lA, kx_gl, kx_pI, kx_pL, kx_pR, kx_pA, kx_pV, kx_s1, kx_s2, kx_sl, kx_pre, kx_c2, kx_pl, kx_cmp, kx_oF, kx_eqN, kx_nil, kx_c1, kx_ft, kx_aI, kx_aL, kx_aR, kx_ln, Nat.reduceAdd, Option.toList, List.cons_append, List.nil_append, mW_o, mf_0, mf_76, mf_38, m_115])
    repeat' apply And.intro
    all_goals try (first | with_reducible assumption | (with_reducible refine ck_nzI ?_; simp; done) | (with_reducible refine ck_nzL ?_; simp; done) | (with_reducible refine vp_in_nI ?_ ?_ <;> first | omega | decide) | (with_reducible refine Nat.le_of_ble_eq_true ?_; rfl) | omega)
    refine hC.1 551 _ _ _ _ _ _ _ 11 _ _ _ _ _ _ _ _ _ _ _ _ lX11_551 (ct_X11_findTwo l G (M := upd M 0 0) (n := n) h71b hn) ⟨by decide, rfl⟩ (mW_o) rfl rfl (Nat.le_of_ble_eq_true rfl) (by decide) (by decide) (by omega) (by omega) dX11_regulated_18 ?_
    refine hB bX11_regulated_21 _ _ _ _ _ _ _ kX11_regulated_21 ?_
    dsimp only [bX11_regulated_21, kx_wp, kx_step, kx_lI, kx_lL, kx_lA, kx_gl, kx_pI, kx_pL, kx_pR, kx_pA, kx_pV, kx_s1, kx_s2, kx_sl, kx_pre, kx_c2, kx_pl, kx_cmp, kx_oF, kx_eqN, kx_nil, kx_c1, kx_ft, kx_aI, kx_aL, kx_aR, kx_ln, Nat.reduceAdd, Option.toList, List.cons_append, List.nil_append, mW_o, mf_0, mf_76, mf_38, m_115]
    repeat (simp only [mu_0, mW_so, ms_115, show upd M 0 0 76 = M 76 from rfl, ck_q4_76, ck_q4_77, ck_q4_78, ck_q4_79, ck_q4_0, ck_q4r_76, ck_q4r_77, ck_q4r_78, ck_q4r_79, ck_q4r_71, show upd M 0 0 78 = M 78 from rfl, show upd M 0 0 79 = M 79 from rfl, hq]; try dsimp only [kx_wp, kx_step, kx_lI, kx_lL, kx_lA, kx_gl, kx_pI, kx_pL, kx_pR, kx_pA, kx_pV, kx_s1, kx_s2, kx_sl, kx_pre, kx_c2, kx_pl, kx_cmp, kx_oF, kx_eqN, kx_nil, kx_c1, kx_ft, kx_aI, kx_aL, kx_aR, kx_ln, Nat.reduceAdd, Option.toList, List.cons_append, List.nil_append, mW_o, mf_0, mf_76, mf_38, m_115])
    repeat' apply And.intro
    all_goals try (first | with_reducible assumption | (with_reducible refine ck_nzI ?_; simp; done) | (with_reducible refine ck_nzL ?_; simp; done) | (with_reducible refine vp_in_nI ?_ ?_ <;> first | omega | decide) | (with_reducible refine Nat.le_of_ble_eq_true ?_; rfl) | omega)
    · intro zc26
      first | exact absurd rfl zc26 | exact absurd zc26 (by decide) | exact absurd (by decide) zc26 | (exfalso; exact zc26 ha) | (exfalso; simp_all; done)
    · intro zc26
      with_reducible first | have ze26 := Decidable.not_not.mp zc26 | have ze26 := zc26
      refine hB bX11_regulated_29 _ _ _ _ _ _ _ kX11_regulated_29 ?_
      dsimp only [bX11_regulated_29, kx_wp, kx_step, kx_lI, kx_lL, kx_lA, kx_gl, kx_pI, kx_pL, kx_pR, kx_pA, kx_pV, kx_s1, kx_s2, kx_sl, kx_pre, kx_c2, kx_pl, kx_cmp, kx_oF, kx_eqN, kx_nil, kx_c1, kx_ft, kx_aI, kx_aL, kx_aR, kx_ln, Nat.reduceAdd, Option.toList, List.cons_append, List.nil_append, mW_o, mf_0, mf_76, mf_38, m_115]
      repeat (simp only [mu_0, mW_so, ms_115, show upd M 0 0 76 = M 76 from rfl, ck_q4_76, ck_q4_77, ck_q4_78, ck_q4_79, ck_q4_0, ck_q4r_76, ck_q4r_77, ck_q4r_78, ck_q4r_79, ck_q4r_71, show upd M 0 0 78 = M 78 from rfl, show upd M 0 0 79 = M 79 from rfl, hq]; try dsimp only [kx_wp, kx_step, kx_lI, kx_lL, kx_lA, kx_gl, kx_pI, kx_pL, kx_pR, kx_pA, kx_pV, kx_s1, kx_s2, kx_sl, kx_pre, kx_c2, kx_pl, kx_cmp, kx_oF, kx_eqN, kx_nil, kx_c1, kx_ft, kx_aI, kx_aL, kx_aR, kx_ln, Nat.reduceAdd, Option.toList, List.cons_append, List.nil_append, mW_o, mf_0, mf_76, mf_38, m_115])
      all_goals (repeat' apply And.intro)
      all_goals ((try clear hB hC); first | exact True.intro | with_reducible rfl | with_reducible assumption | (with_reducible refine vp_in_nI ?_ ?_ <;> first | omega | decide) | exact Nat.le_of_ble_eq_true rfl | (with_reducible refine ck_nzI ?_; simp; done) | (with_reducible refine ck_nzL ?_; simp; done) | (simp only [pk_us, pk_uLs, ze10, eq_true ze26, ↓reduceIte, not_true_eq_false, not_false_eq_true]; done) | (simp only [ze10, eq_true ze26, ↓reduceIte, not_true_eq_false, not_false_eq_true]; with_reducible rfl) | skip)
  · intro zc10
    first | exact absurd rfl zc10 | exact absurd zc10 (by decide) | exact absurd (by decide) zc10 | (exfalso; exact zc26 ha) | (exfalso; simp_all; done)

set_option maxRecDepth 100000 in
set_option maxHeartbeats 4000000 in
theorem ct_X11_regulated_f (l : Launch) (G : kx_G) {M : Nat → Int32} {A : Nat → Nat → Int32} {L : Nat → Nat → Int64} {R : kx_P} {sz : Nat} {x : Int32} {t : Int32} (hx : ¬ (0 ≤ x ∧ x ≤ M 21 - 1)) : kx_M l G sX11_regulated 3 0 0 [.ref 93, .int (x), .int (t)] (mW M A L R) sz (some (.int (0))) (mW (upd (upd M 0 0) 0 1) A L R) sz := by
  refine kx_mk kx_tab kxLok_X11 (ini := false) [some (.ref 93), some (.int (x)), some (.int (t)), none, none, none, none, none, none] ⟨by decide, rfl, by decide, by decide⟩ (⟨_, rfl⟩) rfl rfl (fun g hB hC => ?_)
  refine hB bX11_regulated_0 _ _ _ _ _ _ _ kX11_regulated_0 ?_
  dsimp only [bX11_regulated_0, kx_wp, kx_step, kx_lI, kx_lL, kx_lA, kx_gl, kx_pI, kx_pL, kx_pR, kx_pA, kx_pV, kx_s1, kx_s2, kx_sl, kx_pre, kx_c2, kx_pl, kx_cmp, kx_oF, kx_eqN, kx_nil, kx_c1, kx_ft, kx_aI, kx_aL, kx_aR, kx_ln, Nat.reduceAdd, Option.toList, List.cons_append, List.nil_append, mW_o, mf_0, mf_76, mf_38, m_115]
  repeat (simp only [mu_0, mW_so, ms_115]; try dsimp only [kx_wp, kx_step, kx_lI, kx_lL, kx_lA, kx_gl, kx_pI, kx_pL, kx_pR, kx_pA, kx_pV, kx_s1, kx_s2, kx_sl, kx_pre, kx_c2, kx_pl, kx_cmp, kx_oF, kx_eqN, kx_nil, kx_c1, kx_ft, kx_aI, kx_aL, kx_aR, kx_ln, Nat.reduceAdd, Option.toList, List.cons_append, List.nil_append, mW_o, mf_0, mf_76, mf_38, m_115])
  repeat' apply And.intro
  all_goals try (first | with_reducible assumption | (with_reducible refine ck_nzI ?_; simp; done) | (with_reducible refine ck_nzL ?_; simp; done) | (with_reducible refine vp_in_nI ?_ ?_ <;> first | omega | decide) | (with_reducible refine Nat.le_of_ble_eq_true ?_; rfl) | omega)
  have hx2 : ¬ (0 ≤ x ∧ x ≤ upd M 0 0 21 - 1) := by rw [show upd M 0 0 21 = M 21 from rfl]; exact hx
  refine hC.1 358 _ _ _ _ _ _ _ 11 _ _ _ _ _ _ _ _ _ _ _ _ lX11_358 (ct_X11_isClock_f l G (M := upd M 0 0) hx2 rfl) ⟨by decide, rfl⟩ (mW_o) rfl rfl (Nat.le_of_ble_eq_true rfl) (by decide) (by decide) (by omega) (by omega) dX11_regulated_7 ?_
  refine hB bX11_regulated_10 _ _ _ _ _ _ _ kX11_regulated_10 ?_
  dsimp only [bX11_regulated_10, kx_wp, kx_step, kx_lI, kx_lL, kx_lA, kx_gl, kx_pI, kx_pL, kx_pR, kx_pA, kx_pV, kx_s1, kx_s2, kx_sl, kx_pre, kx_c2, kx_pl, kx_cmp, kx_oF, kx_eqN, kx_nil, kx_c1, kx_ft, kx_aI, kx_aL, kx_aR, kx_ln, Nat.reduceAdd, Option.toList, List.cons_append, List.nil_append, mW_o, mf_0, mf_76, mf_38, m_115]
  repeat (simp only [mu_0, mW_so, ms_115]; try dsimp only [kx_wp, kx_step, kx_lI, kx_lL, kx_lA, kx_gl, kx_pI, kx_pL, kx_pR, kx_pA, kx_pV, kx_s1, kx_s2, kx_sl, kx_pre, kx_c2, kx_pl, kx_cmp, kx_oF, kx_eqN, kx_nil, kx_c1, kx_ft, kx_aI, kx_aL, kx_aR, kx_ln, Nat.reduceAdd, Option.toList, List.cons_append, List.nil_append, mW_o, mf_0, mf_76, mf_38, m_115])
  repeat' apply And.intro
  all_goals try (first | with_reducible assumption | (with_reducible refine ck_nzI ?_; simp; done) | (with_reducible refine ck_nzL ?_; simp; done) | (with_reducible refine vp_in_nI ?_ ?_ <;> first | omega | decide) | (with_reducible refine Nat.le_of_ble_eq_true ?_; rfl) | omega)
  · intro zc10
    first | exact absurd rfl zc10 | exact absurd zc10 (by decide) | exact absurd (by decide) zc10 | (exfalso; ((try clear hB hC); simp only [ck_lt, ck_le, ck_eq, not_true_eq_false, not_false_eq_true, Int32.reduceToInt, Int32.reduceAdd, Int32.reduceSub, Int32.reduceMul] at * <;> omega)) | (exfalso; simp_all; done)
  · intro zc10
    with_reducible first | have ze10 := Decidable.not_not.mp zc10 | have ze10 := zc10
    refine hB bX11_regulated_13 _ _ _ _ _ _ _ kX11_regulated_13 ?_
    dsimp only [bX11_regulated_13, kx_wp, kx_step, kx_lI, kx_lL, kx_lA, kx_gl, kx_pI, kx_pL, kx_pR, kx_pA, kx_pV, kx_s1, kx_s2, kx_sl, kx_pre, kx_c2, kx_pl, kx_cmp, kx_oF, kx_eqN, kx_nil, kx_c1, kx_ft, kx_aI, kx_aL, kx_aR, kx_ln, Nat.reduceAdd, Option.toList, List.cons_append, List.nil_append, mW_o, mf_0, mf_76, mf_38, m_115]
    repeat (simp only [mu_0, mW_so, ms_115]; try dsimp only [kx_wp, kx_step, kx_lI, kx_lL, kx_lA, kx_gl, kx_pI, kx_pL, kx_pR, kx_pA, kx_pV, kx_s1, kx_s2, kx_sl, kx_pre, kx_c2, kx_pl, kx_cmp, kx_oF, kx_eqN, kx_nil, kx_c1, kx_ft, kx_aI, kx_aL, kx_aR, kx_ln, Nat.reduceAdd, Option.toList, List.cons_append, List.nil_append, mW_o, mf_0, mf_76, mf_38, m_115])
    all_goals (repeat' apply And.intro)
    all_goals ((try clear hB hC); first | exact True.intro | with_reducible rfl | with_reducible assumption | (with_reducible refine vp_in_nI ?_ ?_ <;> first | omega | decide) | exact Nat.le_of_ble_eq_true rfl | (with_reducible refine ck_nzI ?_; simp; done) | (with_reducible refine ck_nzL ?_; simp; done) | (simp only [pk_us, pk_uLs, eq_true ze10, ↓reduceIte, not_true_eq_false, not_false_eq_true]; done) | (simp only [eq_true ze10, ↓reduceIte, not_true_eq_false, not_false_eq_true]; with_reducible rfl) | skip)

set_option maxRecDepth 100000 in
set_option maxHeartbeats 4000000 in
theorem ct_X11_regulated_t (l : Launch) (G : kx_G) {M : Nat → Int32} {A : Nat → Nat → Int32} {L : Nat → Nat → Int64} {R : kx_P} {sz : Nat} {cl c : Nat} (h21 : M 21 = nI cl) (hcl : cl ≤ 8) (hc : c < cl) {t : Int32} {n : Nat} (h71 : M 71 = nI n) (hn : n ≤ 100) {a b x y : Int32} (hq : ck_ft A (nI c) t (M 78) (M 79) n = (a, b, x, y)) (ha : ¬ a = -1) (hz : ¬ 60 * (b - a).toInt64 = 0)  : kx_M l G sX11_regulated 3 0 0 [.ref 93, .int (nI c), .int (t)] (mW M A L R) sz (some (.int ((ck_reg (ck_sp (a, b, x, y)) (A 102 (16 * c + 15)) (A 115 c) 41).1))) (mW (ck_q4 (upd M 0 0) (a, b, x, y)) A L R) sz := by
  have h71b : upd M 0 0 71 = nI n := by rw [show upd M 0 0 71 = M 71 from rfl]; exact h71
  refine kx_mk kx_tab kxLok_X11 (ini := false) [some (.ref 93), some (.int (nI c)), some (.int (t)), none, none, none, none, none, none] ⟨by decide, rfl, by decide, by decide⟩ (⟨_, rfl⟩) rfl rfl (fun g hB hC => ?_)
  have loop45 : ∀ (n9 : Nat) (k : Nat) (x7 x8 : Option Value), k + n9 = 41 → g 45 [some (.ref 93), some (.int (nI c)), some (.int t), some (.int (ck_reg (ck_sp (a, b, x, y)) (A 102 (16 * c + 15)) (A 115 c) k).1), some (.long (ck_reg (ck_sp (a, b, x, y)) (A 102 (16 * c + 15)) (A 115 c) k).2), none, some (.int (nI k - 20)), x7, x8] [] (mW (ck_q4 (upd M 0 0) (a, b, x, y)) A L R) sz 0 0 := by
    intro n9
    induction n9 with
    | zero =>
      intro k x7 x8 hk
      obtain rfl : k = 41 := by omega
      refine hB bX11_regulated_45 _ _ _ _ _ _ _ kX11_regulated_45 ?_
      dsimp only [bX11_regulated_45, kx_wp, kx_step, kx_lI, kx_lL, kx_lA, kx_gl, kx_pI, kx_pL, kx_pR, kx_pA, kx_pV, kx_s1, kx_s2, kx_sl, kx_pre, kx_c2, kx_pl, kx_cmp, kx_oF, kx_eqN, kx_nil, kx_c1, kx_ft, kx_aI, kx_aL, kx_aR, kx_ln, Nat.reduceAdd, Option.toList, List.cons_append, List.nil_append, mW_o, mf_0, mf_76, mf_38, m_115]
      repeat (simp only [mu_0, mW_so, ms_115, show upd M 0 0 76 = M 76 from rfl, ck_q4_76, ck_q4_77, ck_q4_78, ck_q4_79, ck_q4_0, ck_q4r_76, ck_q4r_77, ck_q4r_78, ck_q4r_79, ck_q4r_71, show upd M 0 0 78 = M 78 from rfl, show upd M 0 0 79 = M 79 from rfl, hq, lg_cmp_ge, lg_cmp_le, lg_cmp_gt, lg_cmp_lt, lg_cmp_eq, ck_p1, nI_clamp (show c < 2 ^ 31 by omega)]; try dsimp only [kx_wp, kx_step, kx_lI, kx_lL, kx_lA, kx_gl, kx_pI, kx_pL, kx_pR, kx_pA, kx_pV, kx_s1, kx_s2, kx_sl, kx_pre, kx_c2, kx_pl, kx_cmp, kx_oF, kx_eqN, kx_nil, kx_c1, kx_ft, kx_aI, kx_aL, kx_aR, kx_ln, Nat.reduceAdd, Option.toList, List.cons_append, List.nil_append, mW_o, mf_0, mf_76, mf_38, m_115])
      repeat' apply And.intro
      all_goals try (first | with_reducible assumption | (with_reducible refine ck_nzI ?_; simp; done) | (with_reducible refine ck_nzL ?_; simp; done) | (with_reducible refine vp_in_nI ?_ ?_ <;> first | omega | decide) | (with_reducible refine Nat.le_of_ble_eq_true ?_; rfl) | omega)
      · intro zc49
        with_reducible first | have ze49 := Int32.not_le.mpr zc49 | have ze49 := zc49
        refine hB bX11_regulated_126 _ _ _ _ _ _ _ kX11_regulated_126 ?_
        dsimp only [bX11_regulated_126, kx_wp, kx_step, kx_lI, kx_lL, kx_lA, kx_gl, kx_pI, kx_pL, kx_pR, kx_pA, kx_pV, kx_s1, kx_s2, kx_sl, kx_pre, kx_c2, kx_pl, kx_cmp, kx_oF, kx_eqN, kx_nil, kx_c1, kx_ft, kx_aI, kx_aL, kx_aR, kx_ln, Nat.reduceAdd, Option.toList, List.cons_append, List.nil_append, mW_o, mf_0, mf_76, mf_38, m_115]
        repeat (simp only [mu_0, mW_so, ms_115, show upd M 0 0 76 = M 76 from rfl, ck_q4_76, ck_q4_77, ck_q4_78, ck_q4_79, ck_q4_0, ck_q4r_76, ck_q4r_77, ck_q4r_78, ck_q4r_79, ck_q4r_71, show upd M 0 0 78 = M 78 from rfl, show upd M 0 0 79 = M 79 from rfl, hq, lg_cmp_ge, lg_cmp_le, lg_cmp_gt, lg_cmp_lt, lg_cmp_eq, ck_p1, nI_clamp (show c < 2 ^ 31 by omega)]; try dsimp only [kx_wp, kx_step, kx_lI, kx_lL, kx_lA, kx_gl, kx_pI, kx_pL, kx_pR, kx_pA, kx_pV, kx_s1, kx_s2, kx_sl, kx_pre, kx_c2, kx_pl, kx_cmp, kx_oF, kx_eqN, kx_nil, kx_c1, kx_ft, kx_aI, kx_aL, kx_aR, kx_ln, Nat.reduceAdd, Option.toList, List.cons_append, List.nil_append, mW_o, mf_0, mf_76, mf_38, m_115])
        all_goals (repeat' apply And.intro)
        all_goals ((try clear hB hC); first | exact True.intro | with_reducible rfl | with_reducible assumption | (with_reducible refine vp_in_nI ?_ ?_ <;> first | omega | decide) | exact Nat.le_of_ble_eq_true rfl | (with_reducible refine ck_nzI ?_; simp; done) | (with_reducible refine ck_nzL ?_; simp; done) | (simp only [pk_us, pk_uLs, zc49, ze49, ↓reduceIte, not_true_eq_false, not_false_eq_true]; done) | (simp only [zc49, ze49, ↓reduceIte, not_true_eq_false, not_false_eq_true]; with_reducible rfl) | skip)
      · intro zc49
        first | exact absurd rfl zc49 | exact absurd zc49 (by decide) | exact absurd (by decide) zc49 | (exfalso; first | exact zc26 ha | exact absurd zc49 (by simp only [ck_lt, Int32.reduceToInt, ck_p20 (show k < 2 ^ 30 by omega)]; omega)) | (exfalso; simp_all; done)
    | succ n9 ih =>
      intro k x7 x8 hk
      rcases hb : ck_reg (ck_sp (a, b, x, y)) (A 102 (16 * c + 15)) (A 115 c) k with ⟨bs, ls⟩
      refine hB bX11_regulated_45 _ _ _ _ _ _ _ kX11_regulated_45 ?_
      dsimp only [bX11_regulated_45, kx_wp, kx_step, kx_lI, kx_lL, kx_lA, kx_gl, kx_pI, kx_pL, kx_pR, kx_pA, kx_pV, kx_s1, kx_s2, kx_sl, kx_pre, kx_c2, kx_pl, kx_cmp, kx_oF, kx_eqN, kx_nil, kx_c1, kx_ft, kx_aI, kx_aL, kx_aR, kx_ln, Nat.reduceAdd, Option.toList, List.cons_append, List.nil_append, mW_o, mf_0, mf_76, mf_38, m_115]
      repeat (simp only [mu_0, mW_so, ms_115, show upd M 0 0 76 = M 76 from rfl, ck_q4_76, ck_q4_77, ck_q4_78, ck_q4_79, ck_q4_0, ck_q4r_76, ck_q4r_77, ck_q4r_78, ck_q4r_79, ck_q4r_71, show upd M 0 0 78 = M 78 from rfl, show upd M 0 0 79 = M 79 from rfl, hq, lg_cmp_ge, lg_cmp_le, lg_cmp_gt, lg_cmp_lt, lg_cmp_eq, ck_p1, nI_clamp (show c < 2 ^ 31 by omega)]; try dsimp only [kx_wp, kx_step, kx_lI, kx_lL, kx_lA, kx_gl, kx_pI, kx_pL, kx_pR, kx_pA, kx_pV, kx_s1, kx_s2, kx_sl, kx_pre, kx_c2, kx_pl, kx_cmp, kx_oF, kx_eqN, kx_nil, kx_c1, kx_ft, kx_aI, kx_aL, kx_aR, kx_ln, Nat.reduceAdd, Option.toList, List.cons_append, List.nil_append, mW_o, mf_0, mf_76, mf_38, m_115])
      repeat' apply And.intro
      all_goals try (first | with_reducible assumption | (with_reducible refine ck_nzI ?_; simp; done) | (with_reducible refine ck_nzL ?_; simp; done) | (with_reducible refine vp_in_nI ?_ ?_ <;> first | omega | decide) | (with_reducible refine Nat.le_of_ble_eq_true ?_; rfl) | omega)
      · intro zc49
        first | exact absurd rfl zc49 | exact absurd zc49 (by decide) | exact absurd (by decide) zc49 | (exfalso; first | exact zc26 ha | exact absurd zc49 (by simp only [ck_lt, Int32.reduceToInt, ck_p20 (show k < 2 ^ 30 by omega)]; omega)) | (exfalso; simp_all; done)
      · intro zc49
        with_reducible first | have ze49 := Int32.not_lt.mp zc49 | have ze49 := zc49
        refine hB bX11_regulated_52 _ _ _ _ _ _ _ kX11_regulated_52 ?_
        dsimp only [bX11_regulated_52, kx_wp, kx_step, kx_lI, kx_lL, kx_lA, kx_gl, kx_pI, kx_pL, kx_pR, kx_pA, kx_pV, kx_s1, kx_s2, kx_sl, kx_pre, kx_c2, kx_pl, kx_cmp, kx_oF, kx_eqN, kx_nil, kx_c1, kx_ft, kx_aI, kx_aL, kx_aR, kx_ln, Nat.reduceAdd, Option.toList, List.cons_append, List.nil_append, mW_o, mf_0, mf_76, mf_38, m_115]
        repeat (simp only [mu_0, mW_so, ms_115, show upd M 0 0 76 = M 76 from rfl, ck_q4_76, ck_q4_77, ck_q4_78, ck_q4_79, ck_q4_0, ck_q4r_76, ck_q4r_77, ck_q4r_78, ck_q4r_79, ck_q4r_71, show upd M 0 0 78 = M 78 from rfl, show upd M 0 0 79 = M 79 from rfl, hq, lg_cmp_ge, lg_cmp_le, lg_cmp_gt, lg_cmp_lt, lg_cmp_eq, ck_p1, nI_clamp (show c < 2 ^ 31 by omega)]; try dsimp only [kx_wp, kx_step, kx_lI, kx_lL, kx_lA, kx_gl, kx_pI, kx_pL, kx_pR, kx_pA, kx_pV, kx_s1, kx_s2, kx_sl, kx_pre, kx_c2, kx_pl, kx_cmp, kx_oF, kx_eqN, kx_nil, kx_c1, kx_ft, kx_aI, kx_aL, kx_aR, kx_ln, Nat.reduceAdd, Option.toList, List.cons_append, List.nil_append, mW_o, mf_0, mf_76, mf_38, m_115])
        repeat' apply And.intro
        all_goals try (first | with_reducible assumption | (with_reducible refine ck_nzI ?_; simp; done) | (with_reducible refine ck_nzL ?_; simp; done) | (with_reducible refine vp_in_nI ?_ ?_ <;> first | omega | decide) | (with_reducible refine Nat.le_of_ble_eq_true ?_; rfl) | omega)
        refine hC.1 560 _ _ _ _ _ _ _ 11 _ _ _ _ _ _ _ _ _ _ _ _ lX11_560 (ct_X11_speedNow l G (M := ck_q4 (upd M 0 0) (a, b, x, y)) hz) ⟨by decide, rfl⟩ (mW_o) rfl rfl (Nat.le_of_ble_eq_true rfl) (by decide) (by decide) (by omega) (by omega) dX11_regulated_53 ?_
        refine hB bX11_regulated_56 _ _ _ _ _ _ _ kX11_regulated_56 ?_
        dsimp only [bX11_regulated_56, kx_wp, kx_step, kx_lI, kx_lL, kx_lA, kx_gl, kx_pI, kx_pL, kx_pR, kx_pA, kx_pV, kx_s1, kx_s2, kx_sl, kx_pre, kx_c2, kx_pl, kx_cmp, kx_oF, kx_eqN, kx_nil, kx_c1, kx_ft, kx_aI, kx_aL, kx_aR, kx_ln, Nat.reduceAdd, Option.toList, List.cons_append, List.nil_append, mW_o, mf_0, mf_76, mf_38, m_115]
        repeat (simp only [mu_0, mW_so, ms_115, show upd M 0 0 76 = M 76 from rfl, ck_q4_76, ck_q4_77, ck_q4_78, ck_q4_79, ck_q4_0, ck_q4r_76, ck_q4r_77, ck_q4r_78, ck_q4r_79, ck_q4r_71, show upd M 0 0 78 = M 78 from rfl, show upd M 0 0 79 = M 79 from rfl, hq, lg_cmp_ge, lg_cmp_le, lg_cmp_gt, lg_cmp_lt, lg_cmp_eq, ck_p1, nI_clamp (show c < 2 ^ 31 by omega)]; try dsimp only [kx_wp, kx_step, kx_lI, kx_lL, kx_lA, kx_gl, kx_pI, kx_pL, kx_pR, kx_pA, kx_pV, kx_s1, kx_s2, kx_sl, kx_pre, kx_c2, kx_pl, kx_cmp, kx_oF, kx_eqN, kx_nil, kx_c1, kx_ft, kx_aI, kx_aL, kx_aR, kx_ln, Nat.reduceAdd, Option.toList, List.cons_append, List.nil_append, mW_o, mf_0, mf_76, mf_38, m_115])
        repeat' apply And.intro
        all_goals try (first | with_reducible assumption | (with_reducible refine ck_nzI ?_; simp; done) | (with_reducible refine ck_nzL ?_; simp; done) | (with_reducible refine vp_in_nI ?_ ?_ <;> first | omega | decide) | (with_reducible refine Nat.le_of_ble_eq_true ?_; rfl) | omega)
        refine hC.1 365 _ _ _ _ _ _ _ 11 _ _ _ _ _ _ _ _ _ _ _ _ lX11_365 (ct_X11_its l G (c := c) (w := 15) (show c < 8 by omega) (by decide)) ⟨by decide, rfl⟩ (mW_o) rfl rfl (Nat.le_of_ble_eq_true rfl) (by decide) (by decide) (by omega) (by omega) dX11_regulated_60 ?_
        refine hB bX11_regulated_63 _ _ _ _ _ _ _ kX11_regulated_63 ?_
        dsimp only [bX11_regulated_63, kx_wp, kx_step, kx_lI, kx_lL, kx_lA, kx_gl, kx_pI, kx_pL, kx_pR, kx_pA, kx_pV, kx_s1, kx_s2, kx_sl, kx_pre, kx_c2, kx_pl, kx_cmp, kx_oF, kx_eqN, kx_nil, kx_c1, kx_ft, kx_aI, kx_aL, kx_aR, kx_ln, Nat.reduceAdd, Option.toList, List.cons_append, List.nil_append, mW_o, mf_0, mf_76, mf_38, m_115]
        repeat (simp only [mu_0, mW_so, ms_115, show upd M 0 0 76 = M 76 from rfl, ck_q4_76, ck_q4_77, ck_q4_78, ck_q4_79, ck_q4_0, ck_q4r_76, ck_q4r_77, ck_q4r_78, ck_q4r_79, ck_q4r_71, show upd M 0 0 78 = M 78 from rfl, show upd M 0 0 79 = M 79 from rfl, hq, lg_cmp_ge, lg_cmp_le, lg_cmp_gt, lg_cmp_lt, lg_cmp_eq, ck_p1, nI_clamp (show c < 2 ^ 31 by omega)]; try dsimp only [kx_wp, kx_step, kx_lI, kx_lL, kx_lA, kx_gl, kx_pI, kx_pL, kx_pR, kx_pA, kx_pV, kx_s1, kx_s2, kx_sl, kx_pre, kx_c2, kx_pl, kx_cmp, kx_oF, kx_eqN, kx_nil, kx_c1, kx_ft, kx_aI, kx_aL, kx_aR, kx_ln, Nat.reduceAdd, Option.toList, List.cons_append, List.nil_append, mW_o, mf_0, mf_76, mf_38, m_115])
        repeat' apply And.intro
        all_goals try (first | with_reducible assumption | (with_reducible refine ck_nzI ?_; simp; done) | (with_reducible refine ck_nzL ?_; simp; done) | (with_reducible refine vp_in_nI ?_ ?_ <;> first | omega | decide) | (with_reducible refine Nat.le_of_ble_eq_true ?_; rfl) | omega)
        · intro zc82
          with_reducible first | have ze82 := Int64.not_lt.mpr zc82 | have ze82 := zc82
          refine hB bX11_regulated_91 _ _ _ _ _ _ _ kX11_regulated_91 ?_
          dsimp only [bX11_regulated_91, kx_wp, kx_step, kx_lI, kx_lL, kx_lA, kx_gl, kx_pI, kx_pL, kx_pR, kx_pA, kx_pV, kx_s1, kx_s2, kx_sl, kx_pre, kx_c2, kx_pl, kx_cmp, kx_oF, kx_eqN, kx_nil, kx_c1, kx_ft, kx_aI, kx_aL, kx_aR, kx_ln, Nat.reduceAdd, Option.toList, List.cons_append, List.nil_append, mW_o, mf_0, mf_76, mf_38, m_115]
          repeat (simp only [mu_0, mW_so, ms_115, show upd M 0 0 76 = M 76 from rfl, ck_q4_76, ck_q4_77, ck_q4_78, ck_q4_79, ck_q4_0, ck_q4r_76, ck_q4r_77, ck_q4r_78, ck_q4r_79, ck_q4r_71, show upd M 0 0 78 = M 78 from rfl, show upd M 0 0 79 = M 79 from rfl, hq, lg_cmp_ge, lg_cmp_le, lg_cmp_gt, lg_cmp_lt, lg_cmp_eq, ck_p1, nI_clamp (show c < 2 ^ 31 by omega)]; try dsimp only [kx_wp, kx_step, kx_lI, kx_lL, kx_lA, kx_gl, kx_pI, kx_pL, kx_pR, kx_pA, kx_pV, kx_s1, kx_s2, kx_sl, kx_pre, kx_c2, kx_pl, kx_cmp, kx_oF, kx_eqN, kx_nil, kx_c1, kx_ft, kx_aI, kx_aL, kx_aR, kx_ln, Nat.reduceAdd, Option.toList, List.cons_append, List.nil_append, mW_o, mf_0, mf_76, mf_38, m_115])
          repeat' apply And.intro
          all_goals try (first | with_reducible assumption | (with_reducible refine ck_nzI ?_; simp; done) | (with_reducible refine ck_nzL ?_; simp; done) | (with_reducible refine vp_in_nI ?_ ?_ <;> first | omega | decide) | (with_reducible refine Nat.le_of_ble_eq_true ?_; rfl) | omega)
          refine hB bX11_regulated_93 _ _ _ _ _ _ _ kX11_regulated_93 ?_
          dsimp only [bX11_regulated_93, kx_wp, kx_step, kx_lI, kx_lL, kx_lA, kx_gl, kx_pI, kx_pL, kx_pR, kx_pA, kx_pV, kx_s1, kx_s2, kx_sl, kx_pre, kx_c2, kx_pl, kx_cmp, kx_oF, kx_eqN, kx_nil, kx_c1, kx_ft, kx_aI, kx_aL, kx_aR, kx_ln, Nat.reduceAdd, Option.toList, List.cons_append, List.nil_append, mW_o, mf_0, mf_76, mf_38, m_115]
          repeat (simp only [mu_0, mW_so, ms_115, show upd M 0 0 76 = M 76 from rfl, ck_q4_76, ck_q4_77, ck_q4_78, ck_q4_79, ck_q4_0, ck_q4r_76, ck_q4r_77, ck_q4r_78, ck_q4r_79, ck_q4r_71, show upd M 0 0 78 = M 78 from rfl, show upd M 0 0 79 = M 79 from rfl, hq, lg_cmp_ge, lg_cmp_le, lg_cmp_gt, lg_cmp_lt, lg_cmp_eq, ck_p1, nI_clamp (show c < 2 ^ 31 by omega)]; try dsimp only [kx_wp, kx_step, kx_lI, kx_lL, kx_lA, kx_gl, kx_pI, kx_pL, kx_pR, kx_pA, kx_pV, kx_s1, kx_s2, kx_sl, kx_pre, kx_c2, kx_pl, kx_cmp, kx_oF, kx_eqN, kx_nil, kx_c1, kx_ft, kx_aI, kx_aL, kx_aR, kx_ln, Nat.reduceAdd, Option.toList, List.cons_append, List.nil_append, mW_o, mf_0, mf_76, mf_38, m_115])
          repeat' apply And.intro
          all_goals try (first | with_reducible assumption | (with_reducible refine ck_nzI ?_; simp; done) | (with_reducible refine ck_nzL ?_; simp; done) | (with_reducible refine vp_in_nI ?_ ?_ <;> first | omega | decide) | (with_reducible refine Nat.le_of_ble_eq_true ?_; rfl) | omega)
          · intro zc99
            with_reducible first | have ze99 := Int64.not_le.mpr zc99 | have ze99 := zc99
            refine hB bX11_regulated_113 _ _ _ _ _ _ _ kX11_regulated_113 ?_
            dsimp only [bX11_regulated_113, kx_wp, kx_step, kx_lI, kx_lL, kx_lA, kx_gl, kx_pI, kx_pL, kx_pR, kx_pA, kx_pV, kx_s1, kx_s2, kx_sl, kx_pre, kx_c2, kx_pl, kx_cmp, kx_oF, kx_eqN, kx_nil, kx_c1, kx_ft, kx_aI, kx_aL, kx_aR, kx_ln, Nat.reduceAdd, Option.toList, List.cons_append, List.nil_append, mW_o, mf_0, mf_76, mf_38, m_115]
            repeat (simp only [mu_0, mW_so, ms_115, show upd M 0 0 76 = M 76 from rfl, ck_q4_76, ck_q4_77, ck_q4_78, ck_q4_79, ck_q4_0, ck_q4r_76, ck_q4r_77, ck_q4r_78, ck_q4r_79, ck_q4r_71, show upd M 0 0 78 = M 78 from rfl, show upd M 0 0 79 = M 79 from rfl, hq, lg_cmp_ge, lg_cmp_le, lg_cmp_gt, lg_cmp_lt, lg_cmp_eq, ck_p1, nI_clamp (show c < 2 ^ 31 by omega)]; try dsimp only [kx_wp, kx_step, kx_lI, kx_lL, kx_lA, kx_gl, kx_pI, kx_pL, kx_pR, kx_pA, kx_pV, kx_s1, kx_s2, kx_sl, kx_pre, kx_c2, kx_pl, kx_cmp, kx_oF, kx_eqN, kx_nil, kx_c1, kx_ft, kx_aI, kx_aL, kx_aR, kx_ln, Nat.reduceAdd, Option.toList, List.cons_append, List.nil_append, mW_o, mf_0, mf_76, mf_38, m_115])
            repeat' apply And.intro
            all_goals try (first | with_reducible assumption | (with_reducible refine ck_nzI ?_; simp; done) | (with_reducible refine ck_nzL ?_; simp; done) | (with_reducible refine vp_in_nI ?_ ?_ <;> first | omega | decide) | (with_reducible refine Nat.le_of_ble_eq_true ?_; rfl) | omega)
            refine hB bX11_regulated_120 _ _ _ _ _ _ _ kX11_regulated_120 ?_
            dsimp only [bX11_regulated_120, kx_wp, kx_step, kx_lI, kx_lL, kx_lA, kx_gl, kx_pI, kx_pL, kx_pR, kx_pA, kx_pV, kx_s1, kx_s2, kx_sl, kx_pre, kx_c2, kx_pl, kx_cmp, kx_oF, kx_eqN, kx_nil, kx_c1, kx_ft, kx_aI, kx_aL, kx_aR, kx_ln, Nat.reduceAdd, Option.toList, List.cons_append, List.nil_append, mW_o, mf_0, mf_76, mf_38, m_115]
            repeat (simp only [mu_0, mW_so, ms_115, show upd M 0 0 76 = M 76 from rfl, ck_q4_76, ck_q4_77, ck_q4_78, ck_q4_79, ck_q4_0, ck_q4r_76, ck_q4r_77, ck_q4r_78, ck_q4r_79, ck_q4r_71, show upd M 0 0 78 = M 78 from rfl, show upd M 0 0 79 = M 79 from rfl, hq, lg_cmp_ge, lg_cmp_le, lg_cmp_gt, lg_cmp_lt, lg_cmp_eq, ck_p1, nI_clamp (show c < 2 ^ 31 by omega)]; try dsimp only [kx_wp, kx_step, kx_lI, kx_lL, kx_lA, kx_gl, kx_pI, kx_pL, kx_pR, kx_pA, kx_pV, kx_s1, kx_s2, kx_sl, kx_pre, kx_c2, kx_pl, kx_cmp, kx_oF, kx_eqN, kx_nil, kx_c1, kx_ft, kx_aI, kx_aL, kx_aR, kx_ln, Nat.reduceAdd, Option.toList, List.cons_append, List.nil_append, mW_o, mf_0, mf_76, mf_38, m_115])
            repeat' apply And.intro
            all_goals try (first | with_reducible assumption | (with_reducible refine ck_nzI ?_; simp; done) | (with_reducible refine ck_nzL ?_; simp; done) | (with_reducible refine vp_in_nI ?_ ?_ <;> first | omega | decide) | (with_reducible refine Nat.le_of_ble_eq_true ?_; rfl) | omega)
            have ze := fun x7 x8 => ih (k + 1) x7 x8 (by omega)
            simp only [ck_reg, hb, ck_abL, zc49, ze49, zc82, ze82, zc99, ze99, ↓reduceIte] at ze
            exact ze _ _
          · intro zc99
            with_reducible first | have ze99 := Int64.not_lt.mp zc99 | have ze99 := zc99
            refine hB bX11_regulated_102 _ _ _ _ _ _ _ kX11_regulated_102 ?_
            dsimp only [bX11_regulated_102, kx_wp, kx_step, kx_lI, kx_lL, kx_lA, kx_gl, kx_pI, kx_pL, kx_pR, kx_pA, kx_pV, kx_s1, kx_s2, kx_sl, kx_pre, kx_c2, kx_pl, kx_cmp, kx_oF, kx_eqN, kx_nil, kx_c1, kx_ft, kx_aI, kx_aL, kx_aR, kx_ln, Nat.reduceAdd, Option.toList, List.cons_append, List.nil_append, mW_o, mf_0, mf_76, mf_38, m_115]
            repeat (simp only [mu_0, mW_so, ms_115, show upd M 0 0 76 = M 76 from rfl, ck_q4_76, ck_q4_77, ck_q4_78, ck_q4_79, ck_q4_0, ck_q4r_76, ck_q4r_77, ck_q4r_78, ck_q4r_79, ck_q4r_71, show upd M 0 0 78 = M 78 from rfl, show upd M 0 0 79 = M 79 from rfl, hq, lg_cmp_ge, lg_cmp_le, lg_cmp_gt, lg_cmp_lt, lg_cmp_eq, ck_p1, nI_clamp (show c < 2 ^ 31 by omega)]; try dsimp only [kx_wp, kx_step, kx_lI, kx_lL, kx_lA, kx_gl, kx_pI, kx_pL, kx_pR, kx_pA, kx_pV, kx_s1, kx_s2, kx_sl, kx_pre, kx_c2, kx_pl, kx_cmp, kx_oF, kx_eqN, kx_nil, kx_c1, kx_ft, kx_aI, kx_aL, kx_aR, kx_ln, Nat.reduceAdd, Option.toList, List.cons_append, List.nil_append, mW_o, mf_0, mf_76, mf_38, m_115])
            repeat' apply And.intro
            all_goals try (first | with_reducible assumption | (with_reducible refine ck_nzI ?_; simp; done) | (with_reducible refine ck_nzL ?_; simp; done) | (with_reducible refine vp_in_nI ?_ ?_ <;> first | omega | decide) | (with_reducible refine Nat.le_of_ble_eq_true ?_; rfl) | omega)
            · intro zc107
              with_reducible first | have ze107 := Int64.not_le.mpr zc107 | have ze107 := zc107
              refine hB bX11_regulated_113 _ _ _ _ _ _ _ kX11_regulated_113 ?_
              dsimp only [bX11_regulated_113, kx_wp, kx_step, kx_lI, kx_lL, kx_lA, kx_gl, kx_pI, kx_pL, kx_pR, kx_pA, kx_pV, kx_s1, kx_s2, kx_sl, kx_pre, kx_c2, kx_pl, kx_cmp, kx_oF, kx_eqN, kx_nil, kx_c1, kx_ft, kx_aI, kx_aL, kx_aR, kx_ln, Nat.reduceAdd, Option.toList, List.cons_append, List.nil_append, mW_o, mf_0, mf_76, mf_38, m_115]
              repeat (simp only [mu_0, mW_so, ms_115, show upd M 0 0 76 = M 76 from rfl, ck_q4_76, ck_q4_77, ck_q4_78, ck_q4_79, ck_q4_0, ck_q4r_76, ck_q4r_77, ck_q4r_78, ck_q4r_79, ck_q4r_71, show upd M 0 0 78 = M 78 from rfl, show upd M 0 0 79 = M 79 from rfl, hq, lg_cmp_ge, lg_cmp_le, lg_cmp_gt, lg_cmp_lt, lg_cmp_eq, ck_p1, nI_clamp (show c < 2 ^ 31 by omega)]; try dsimp only [kx_wp, kx_step, kx_lI, kx_lL, kx_lA, kx_gl, kx_pI, kx_pL, kx_pR, kx_pA, kx_pV, kx_s1, kx_s2, kx_sl, kx_pre, kx_c2, kx_pl, kx_cmp, kx_oF, kx_eqN, kx_nil, kx_c1, kx_ft, kx_aI, kx_aL, kx_aR, kx_ln, Nat.reduceAdd, Option.toList, List.cons_append, List.nil_append, mW_o, mf_0, mf_76, mf_38, m_115])
              repeat' apply And.intro
              all_goals try (first | with_reducible assumption | (with_reducible refine ck_nzI ?_; simp; done) | (with_reducible refine ck_nzL ?_; simp; done) | (with_reducible refine vp_in_nI ?_ ?_ <;> first | omega | decide) | (with_reducible refine Nat.le_of_ble_eq_true ?_; rfl) | omega)
              refine hB bX11_regulated_120 _ _ _ _ _ _ _ kX11_regulated_120 ?_
              dsimp only [bX11_regulated_120, kx_wp, kx_step, kx_lI, kx_lL, kx_lA, kx_gl, kx_pI, kx_pL, kx_pR, kx_pA, kx_pV, kx_s1, kx_s2, kx_sl, kx_pre, kx_c2, kx_pl, kx_cmp, kx_oF, kx_eqN, kx_nil, kx_c1, kx_ft, kx_aI, kx_aL, kx_aR, kx_ln, Nat.reduceAdd, Option.toList, List.cons_append, List.nil_append, mW_o, mf_0, mf_76, mf_38, m_115]
              repeat (simp only [mu_0, mW_so, ms_115, show upd M 0 0 76 = M 76 from rfl, ck_q4_76, ck_q4_77, ck_q4_78, ck_q4_79, ck_q4_0, ck_q4r_76, ck_q4r_77, ck_q4r_78, ck_q4r_79, ck_q4r_71, show upd M 0 0 78 = M 78 from rfl, show upd M 0 0 79 = M 79 from rfl, hq, lg_cmp_ge, lg_cmp_le, lg_cmp_gt, lg_cmp_lt, lg_cmp_eq, ck_p1, nI_clamp (show c < 2 ^ 31 by omega)]; try dsimp only [kx_wp, kx_step, kx_lI, kx_lL, kx_lA, kx_gl, kx_pI, kx_pL, kx_pR, kx_pA, kx_pV, kx_s1, kx_s2, kx_sl, kx_pre, kx_c2, kx_pl, kx_cmp, kx_oF, kx_eqN, kx_nil, kx_c1, kx_ft, kx_aI, kx_aL, kx_aR, kx_ln, Nat.reduceAdd, Option.toList, List.cons_append, List.nil_append, mW_o, mf_0, mf_76, mf_38, m_115])
              repeat' apply And.intro
              all_goals try (first | with_reducible assumption | (with_reducible refine ck_nzI ?_; simp; done) | (with_reducible refine ck_nzL ?_; simp; done) | (with_reducible refine vp_in_nI ?_ ?_ <;> first | omega | decide) | (with_reducible refine Nat.le_of_ble_eq_true ?_; rfl) | omega)
              have ze := fun x7 x8 => ih (k + 1) x7 x8 (by omega)
              simp only [ck_reg, hb, ck_abL, zc49, ze49, zc82, ze82, zc99, ze99, zc107, ze107, ↓reduceIte] at ze
              exact ze _ _
            · intro zc107
              with_reducible first | have ze107 := Int64.not_lt.mp zc107 | have ze107 := zc107
              refine hB bX11_regulated_110 _ _ _ _ _ _ _ kX11_regulated_110 ?_
              dsimp only [bX11_regulated_110, kx_wp, kx_step, kx_lI, kx_lL, kx_lA, kx_gl, kx_pI, kx_pL, kx_pR, kx_pA, kx_pV, kx_s1, kx_s2, kx_sl, kx_pre, kx_c2, kx_pl, kx_cmp, kx_oF, kx_eqN, kx_nil, kx_c1, kx_ft, kx_aI, kx_aL, kx_aR, kx_ln, Nat.reduceAdd, Option.toList, List.cons_append, List.nil_append, mW_o, mf_0, mf_76, mf_38, m_115]
              repeat (simp only [mu_0, mW_so, ms_115, show upd M 0 0 76 = M 76 from rfl, ck_q4_76, ck_q4_77, ck_q4_78, ck_q4_79, ck_q4_0, ck_q4r_76, ck_q4r_77, ck_q4r_78, ck_q4r_79, ck_q4r_71, show upd M 0 0 78 = M 78 from rfl, show upd M 0 0 79 = M 79 from rfl, hq, lg_cmp_ge, lg_cmp_le, lg_cmp_gt, lg_cmp_lt, lg_cmp_eq, ck_p1, nI_clamp (show c < 2 ^ 31 by omega)]; try dsimp only [kx_wp, kx_step, kx_lI, kx_lL, kx_lA, kx_gl, kx_pI, kx_pL, kx_pR, kx_pA, kx_pV, kx_s1, kx_s2, kx_sl, kx_pre, kx_c2, kx_pl, kx_cmp, kx_oF, kx_eqN, kx_nil, kx_c1, kx_ft, kx_aI, kx_aL, kx_aR, kx_ln, Nat.reduceAdd, Option.toList, List.cons_append, List.nil_append, mW_o, mf_0, mf_76, mf_38, m_115])
              repeat' apply And.intro
              all_goals try (first | with_reducible assumption | (with_reducible refine ck_nzI ?_; simp; done) | (with_reducible refine ck_nzL ?_; simp; done) | (with_reducible refine vp_in_nI ?_ ?_ <;> first | omega | decide) | (with_reducible refine Nat.le_of_ble_eq_true ?_; rfl) | omega)
              refine hB bX11_regulated_120 _ _ _ _ _ _ _ kX11_regulated_120 ?_
              dsimp only [bX11_regulated_120, kx_wp, kx_step, kx_lI, kx_lL, kx_lA, kx_gl, kx_pI, kx_pL, kx_pR, kx_pA, kx_pV, kx_s1, kx_s2, kx_sl, kx_pre, kx_c2, kx_pl, kx_cmp, kx_oF, kx_eqN, kx_nil, kx_c1, kx_ft, kx_aI, kx_aL, kx_aR, kx_ln, Nat.reduceAdd, Option.toList, List.cons_append, List.nil_append, mW_o, mf_0, mf_76, mf_38, m_115]
              repeat (simp only [mu_0, mW_so, ms_115, show upd M 0 0 76 = M 76 from rfl, ck_q4_76, ck_q4_77, ck_q4_78, ck_q4_79, ck_q4_0, ck_q4r_76, ck_q4r_77, ck_q4r_78, ck_q4r_79, ck_q4r_71, show upd M 0 0 78 = M 78 from rfl, show upd M 0 0 79 = M 79 from rfl, hq, lg_cmp_ge, lg_cmp_le, lg_cmp_gt, lg_cmp_lt, lg_cmp_eq, ck_p1, nI_clamp (show c < 2 ^ 31 by omega)]; try dsimp only [kx_wp, kx_step, kx_lI, kx_lL, kx_lA, kx_gl, kx_pI, kx_pL, kx_pR, kx_pA, kx_pV, kx_s1, kx_s2, kx_sl, kx_pre, kx_c2, kx_pl, kx_cmp, kx_oF, kx_eqN, kx_nil, kx_c1, kx_ft, kx_aI, kx_aL, kx_aR, kx_ln, Nat.reduceAdd, Option.toList, List.cons_append, List.nil_append, mW_o, mf_0, mf_76, mf_38, m_115])
              repeat' apply And.intro
              all_goals try (first | with_reducible assumption | (with_reducible refine ck_nzI ?_; simp; done) | (with_reducible refine ck_nzL ?_; simp; done) | (with_reducible refine vp_in_nI ?_ ?_ <;> first | omega | decide) | (with_reducible refine Nat.le_of_ble_eq_true ?_; rfl) | omega)
              have ze := fun x7 x8 => ih (k + 1) x7 x8 (by omega)
              simp only [ck_reg, hb, ck_abL, zc49, ze49, zc82, ze82, zc99, ze99, zc107, ze107, ↓reduceIte] at ze
              exact ze _ _
        · intro zc82
          with_reducible first | have ze82 := Int64.not_le.mp zc82 | have ze82 := zc82
          refine hB bX11_regulated_85 _ _ _ _ _ _ _ kX11_regulated_85 ?_
          dsimp only [bX11_regulated_85, kx_wp, kx_step, kx_lI, kx_lL, kx_lA, kx_gl, kx_pI, kx_pL, kx_pR, kx_pA, kx_pV, kx_s1, kx_s2, kx_sl, kx_pre, kx_c2, kx_pl, kx_cmp, kx_oF, kx_eqN, kx_nil, kx_c1, kx_ft, kx_aI, kx_aL, kx_aR, kx_ln, Nat.reduceAdd, Option.toList, List.cons_append, List.nil_append, mW_o, mf_0, mf_76, mf_38, m_115]
          repeat (simp only [mu_0, mW_so, ms_115, show upd M 0 0 76 = M 76 from rfl, ck_q4_76, ck_q4_77, ck_q4_78, ck_q4_79, ck_q4_0, ck_q4r_76, ck_q4r_77, ck_q4r_78, ck_q4r_79, ck_q4r_71, show upd M 0 0 78 = M 78 from rfl, show upd M 0 0 79 = M 79 from rfl, hq, lg_cmp_ge, lg_cmp_le, lg_cmp_gt, lg_cmp_lt, lg_cmp_eq, ck_p1, nI_clamp (show c < 2 ^ 31 by omega)]; try dsimp only [kx_wp, kx_step, kx_lI, kx_lL, kx_lA, kx_gl, kx_pI, kx_pL, kx_pR, kx_pA, kx_pV, kx_s1, kx_s2, kx_sl, kx_pre, kx_c2, kx_pl, kx_cmp, kx_oF, kx_eqN, kx_nil, kx_c1, kx_ft, kx_aI, kx_aL, kx_aR, kx_ln, Nat.reduceAdd, Option.toList, List.cons_append, List.nil_append, mW_o, mf_0, mf_76, mf_38, m_115])
          repeat' apply And.intro
          all_goals try (first | with_reducible assumption | (with_reducible refine ck_nzI ?_; simp; done) | (with_reducible refine ck_nzL ?_; simp; done) | (with_reducible refine vp_in_nI ?_ ?_ <;> first | omega | decide) | (with_reducible refine Nat.le_of_ble_eq_true ?_; rfl) | omega)
          refine hB bX11_regulated_93 _ _ _ _ _ _ _ kX11_regulated_93 ?_
          dsimp only [bX11_regulated_93, kx_wp, kx_step, kx_lI, kx_lL, kx_lA, kx_gl, kx_pI, kx_pL, kx_pR, kx_pA, kx_pV, kx_s1, kx_s2, kx_sl, kx_pre, kx_c2, kx_pl, kx_cmp, kx_oF, kx_eqN, kx_nil, kx_c1, kx_ft, kx_aI, kx_aL, kx_aR, kx_ln, Nat.reduceAdd, Option.toList, List.cons_append, List.nil_append, mW_o, mf_0, mf_76, mf_38, m_115]
          repeat (simp only [mu_0, mW_so, ms_115, show upd M 0 0 76 = M 76 from rfl, ck_q4_76, ck_q4_77, ck_q4_78, ck_q4_79, ck_q4_0, ck_q4r_76, ck_q4r_77, ck_q4r_78, ck_q4r_79, ck_q4r_71, show upd M 0 0 78 = M 78 from rfl, show upd M 0 0 79 = M 79 from rfl, hq, lg_cmp_ge, lg_cmp_le, lg_cmp_gt, lg_cmp_lt, lg_cmp_eq, ck_p1, nI_clamp (show c < 2 ^ 31 by omega)]; try dsimp only [kx_wp, kx_step, kx_lI, kx_lL, kx_lA, kx_gl, kx_pI, kx_pL, kx_pR, kx_pA, kx_pV, kx_s1, kx_s2, kx_sl, kx_pre, kx_c2, kx_pl, kx_cmp, kx_oF, kx_eqN, kx_nil, kx_c1, kx_ft, kx_aI, kx_aL, kx_aR, kx_ln, Nat.reduceAdd, Option.toList, List.cons_append, List.nil_append, mW_o, mf_0, mf_76, mf_38, m_115])
          repeat' apply And.intro
          all_goals try (first | with_reducible assumption | (with_reducible refine ck_nzI ?_; simp; done) | (with_reducible refine ck_nzL ?_; simp; done) | (with_reducible refine vp_in_nI ?_ ?_ <;> first | omega | decide) | (with_reducible refine Nat.le_of_ble_eq_true ?_; rfl) | omega)
          · intro zc99
            with_reducible first | have ze99 := Int64.not_le.mpr zc99 | have ze99 := zc99
            refine hB bX11_regulated_113 _ _ _ _ _ _ _ kX11_regulated_113 ?_
            dsimp only [bX11_regulated_113, kx_wp, kx_step, kx_lI, kx_lL, kx_lA, kx_gl, kx_pI, kx_pL, kx_pR, kx_pA, kx_pV, kx_s1, kx_s2, kx_sl, kx_pre, kx_c2, kx_pl, kx_cmp, kx_oF, kx_eqN, kx_nil, kx_c1, kx_ft, kx_aI, kx_aL, kx_aR, kx_ln, Nat.reduceAdd, Option.toList, List.cons_append, List.nil_append, mW_o, mf_0, mf_76, mf_38, m_115]
            repeat (simp only [mu_0, mW_so, ms_115, show upd M 0 0 76 = M 76 from rfl, ck_q4_76, ck_q4_77, ck_q4_78, ck_q4_79, ck_q4_0, ck_q4r_76, ck_q4r_77, ck_q4r_78, ck_q4r_79, ck_q4r_71, show upd M 0 0 78 = M 78 from rfl, show upd M 0 0 79 = M 79 from rfl, hq, lg_cmp_ge, lg_cmp_le, lg_cmp_gt, lg_cmp_lt, lg_cmp_eq, ck_p1, nI_clamp (show c < 2 ^ 31 by omega)]; try dsimp only [kx_wp, kx_step, kx_lI, kx_lL, kx_lA, kx_gl, kx_pI, kx_pL, kx_pR, kx_pA, kx_pV, kx_s1, kx_s2, kx_sl, kx_pre, kx_c2, kx_pl, kx_cmp, kx_oF, kx_eqN, kx_nil, kx_c1, kx_ft, kx_aI, kx_aL, kx_aR, kx_ln, Nat.reduceAdd, Option.toList, List.cons_append, List.nil_append, mW_o, mf_0, mf_76, mf_38, m_115])
            repeat' apply And.intro
            all_goals try (first | with_reducible assumption | (with_reducible refine ck_nzI ?_; simp; done) | (with_reducible refine ck_nzL ?_; simp; done) | (with_reducible refine vp_in_nI ?_ ?_ <;> first | omega | decide) | (with_reducible refine Nat.le_of_ble_eq_true ?_; rfl) | omega)
            refine hB bX11_regulated_120 _ _ _ _ _ _ _ kX11_regulated_120 ?_
            dsimp only [bX11_regulated_120, kx_wp, kx_step, kx_lI, kx_lL, kx_lA, kx_gl, kx_pI, kx_pL, kx_pR, kx_pA, kx_pV, kx_s1, kx_s2, kx_sl, kx_pre, kx_c2, kx_pl, kx_cmp, kx_oF, kx_eqN, kx_nil, kx_c1, kx_ft, kx_aI, kx_aL, kx_aR, kx_ln, Nat.reduceAdd, Option.toList, List.cons_append, List.nil_append, mW_o, mf_0, mf_76, mf_38, m_115]
            repeat (simp only [mu_0, mW_so, ms_115, show upd M 0 0 76 = M 76 from rfl, ck_q4_76, ck_q4_77, ck_q4_78, ck_q4_79, ck_q4_0, ck_q4r_76, ck_q4r_77, ck_q4r_78, ck_q4r_79, ck_q4r_71, show upd M 0 0 78 = M 78 from rfl, show upd M 0 0 79 = M 79 from rfl, hq, lg_cmp_ge, lg_cmp_le, lg_cmp_gt, lg_cmp_lt, lg_cmp_eq, ck_p1, nI_clamp (show c < 2 ^ 31 by omega)]; try dsimp only [kx_wp, kx_step, kx_lI, kx_lL, kx_lA, kx_gl, kx_pI, kx_pL, kx_pR, kx_pA, kx_pV, kx_s1, kx_s2, kx_sl, kx_pre, kx_c2, kx_pl, kx_cmp, kx_oF, kx_eqN, kx_nil, kx_c1, kx_ft, kx_aI, kx_aL, kx_aR, kx_ln, Nat.reduceAdd, Option.toList, List.cons_append, List.nil_append, mW_o, mf_0, mf_76, mf_38, m_115])
            repeat' apply And.intro
            all_goals try (first | with_reducible assumption | (with_reducible refine ck_nzI ?_; simp; done) | (with_reducible refine ck_nzL ?_; simp; done) | (with_reducible refine vp_in_nI ?_ ?_ <;> first | omega | decide) | (with_reducible refine Nat.le_of_ble_eq_true ?_; rfl) | omega)
            have ze := fun x7 x8 => ih (k + 1) x7 x8 (by omega)
            simp only [ck_reg, hb, ck_abL, zc49, ze49, zc82, ze82, zc99, ze99, ↓reduceIte] at ze
            exact ze _ _
          · intro zc99
            with_reducible first | have ze99 := Int64.not_lt.mp zc99 | have ze99 := zc99
            refine hB bX11_regulated_102 _ _ _ _ _ _ _ kX11_regulated_102 ?_
            dsimp only [bX11_regulated_102, kx_wp, kx_step, kx_lI, kx_lL, kx_lA, kx_gl, kx_pI, kx_pL, kx_pR, kx_pA, kx_pV, kx_s1, kx_s2, kx_sl, kx_pre, kx_c2, kx_pl, kx_cmp, kx_oF, kx_eqN, kx_nil, kx_c1, kx_ft, kx_aI, kx_aL, kx_aR, kx_ln, Nat.reduceAdd, Option.toList, List.cons_append, List.nil_append, mW_o, mf_0, mf_76, mf_38, m_115]
            repeat (simp only [mu_0, mW_so, ms_115, show upd M 0 0 76 = M 76 from rfl, ck_q4_76, ck_q4_77, ck_q4_78, ck_q4_79, ck_q4_0, ck_q4r_76, ck_q4r_77, ck_q4r_78, ck_q4r_79, ck_q4r_71, show upd M 0 0 78 = M 78 from rfl, show upd M 0 0 79 = M 79 from rfl, hq, lg_cmp_ge, lg_cmp_le, lg_cmp_gt, lg_cmp_lt, lg_cmp_eq, ck_p1, nI_clamp (show c < 2 ^ 31 by omega)]; try dsimp only [kx_wp, kx_step, kx_lI, kx_lL, kx_lA, kx_gl, kx_pI, kx_pL, kx_pR, kx_pA, kx_pV, kx_s1, kx_s2, kx_sl, kx_pre, kx_c2, kx_pl, kx_cmp, kx_oF, kx_eqN, kx_nil, kx_c1, kx_ft, kx_aI, kx_aL, kx_aR, kx_ln, Nat.reduceAdd, Option.toList, List.cons_append, List.nil_append, mW_o, mf_0, mf_76, mf_38, m_115])
            repeat' apply And.intro
            all_goals try (first | with_reducible assumption | (with_reducible refine ck_nzI ?_; simp; done) | (with_reducible refine ck_nzL ?_; simp; done) | (with_reducible refine vp_in_nI ?_ ?_ <;> first | omega | decide) | (with_reducible refine Nat.le_of_ble_eq_true ?_; rfl) | omega)
            · intro zc107
              with_reducible first | have ze107 := Int64.not_le.mpr zc107 | have ze107 := zc107
              refine hB bX11_regulated_113 _ _ _ _ _ _ _ kX11_regulated_113 ?_
              dsimp only [bX11_regulated_113, kx_wp, kx_step, kx_lI, kx_lL, kx_lA, kx_gl, kx_pI, kx_pL, kx_pR, kx_pA, kx_pV, kx_s1, kx_s2, kx_sl, kx_pre, kx_c2, kx_pl, kx_cmp, kx_oF, kx_eqN, kx_nil, kx_c1, kx_ft, kx_aI, kx_aL, kx_aR, kx_ln, Nat.reduceAdd, Option.toList, List.cons_append, List.nil_append, mW_o, mf_0, mf_76, mf_38, m_115]
              repeat (simp only [mu_0, mW_so, ms_115, show upd M 0 0 76 = M 76 from rfl, ck_q4_76, ck_q4_77, ck_q4_78, ck_q4_79, ck_q4_0, ck_q4r_76, ck_q4r_77, ck_q4r_78, ck_q4r_79, ck_q4r_71, show upd M 0 0 78 = M 78 from rfl, show upd M 0 0 79 = M 79 from rfl, hq, lg_cmp_ge, lg_cmp_le, lg_cmp_gt, lg_cmp_lt, lg_cmp_eq, ck_p1, nI_clamp (show c < 2 ^ 31 by omega)]; try dsimp only [kx_wp, kx_step, kx_lI, kx_lL, kx_lA, kx_gl, kx_pI, kx_pL, kx_pR, kx_pA, kx_pV, kx_s1, kx_s2, kx_sl, kx_pre, kx_c2, kx_pl, kx_cmp, kx_oF, kx_eqN, kx_nil, kx_c1, kx_ft, kx_aI, kx_aL, kx_aR, kx_ln, Nat.reduceAdd, Option.toList, List.cons_append, List.nil_append, mW_o, mf_0, mf_76, mf_38, m_115])
              repeat' apply And.intro
              all_goals try (first | with_reducible assumption | (with_reducible refine ck_nzI ?_; simp; done) | (with_reducible refine ck_nzL ?_; simp; done) | (with_reducible refine vp_in_nI ?_ ?_ <;> first | omega | decide) | (with_reducible refine Nat.le_of_ble_eq_true ?_; rfl) | omega)
              refine hB bX11_regulated_120 _ _ _ _ _ _ _ kX11_regulated_120 ?_
              dsimp only [bX11_regulated_120, kx_wp, kx_step, kx_lI, kx_lL, kx_lA, kx_gl, kx_pI, kx_pL, kx_pR, kx_pA, kx_pV, kx_s1, kx_s2, kx_sl, kx_pre, kx_c2, kx_pl, kx_cmp, kx_oF, kx_eqN, kx_nil, kx_c1, kx_ft, kx_aI, kx_aL, kx_aR, kx_ln, Nat.reduceAdd, Option.toList, List.cons_append, List.nil_append, mW_o, mf_0, mf_76, mf_38, m_115]
              repeat (simp only [mu_0, mW_so, ms_115, show upd M 0 0 76 = M 76 from rfl, ck_q4_76, ck_q4_77, ck_q4_78, ck_q4_79, ck_q4_0, ck_q4r_76, ck_q4r_77, ck_q4r_78, ck_q4r_79, ck_q4r_71, show upd M 0 0 78 = M 78 from rfl, show upd M 0 0 79 = M 79 from rfl, hq, lg_cmp_ge, lg_cmp_le, lg_cmp_gt, lg_cmp_lt, lg_cmp_eq, ck_p1, nI_clamp (show c < 2 ^ 31 by omega)]; try dsimp only [kx_wp, kx_step, kx_lI, kx_lL, kx_lA, kx_gl, kx_pI, kx_pL, kx_pR, kx_pA, kx_pV, kx_s1, kx_s2, kx_sl, kx_pre, kx_c2, kx_pl, kx_cmp, kx_oF, kx_eqN, kx_nil, kx_c1, kx_ft, kx_aI, kx_aL, kx_aR, kx_ln, Nat.reduceAdd, Option.toList, List.cons_append, List.nil_append, mW_o, mf_0, mf_76, mf_38, m_115])
              repeat' apply And.intro
              all_goals try (first | with_reducible assumption | (with_reducible refine ck_nzI ?_; simp; done) | (with_reducible refine ck_nzL ?_; simp; done) | (with_reducible refine vp_in_nI ?_ ?_ <;> first | omega | decide) | (with_reducible refine Nat.le_of_ble_eq_true ?_; rfl) | omega)
              have ze := fun x7 x8 => ih (k + 1) x7 x8 (by omega)
              simp only [ck_reg, hb, ck_abL, zc49, ze49, zc82, ze82, zc99, ze99, zc107, ze107, ↓reduceIte] at ze
              exact ze _ _
            · intro zc107
              with_reducible first | have ze107 := Int64.not_lt.mp zc107 | have ze107 := zc107
              refine hB bX11_regulated_110 _ _ _ _ _ _ _ kX11_regulated_110 ?_
              dsimp only [bX11_regulated_110, kx_wp, kx_step, kx_lI, kx_lL, kx_lA, kx_gl, kx_pI, kx_pL, kx_pR, kx_pA, kx_pV, kx_s1, kx_s2, kx_sl, kx_pre, kx_c2, kx_pl, kx_cmp, kx_oF, kx_eqN, kx_nil, kx_c1, kx_ft, kx_aI, kx_aL, kx_aR, kx_ln, Nat.reduceAdd, Option.toList, List.cons_append, List.nil_append, mW_o, mf_0, mf_76, mf_38, m_115]
              repeat (simp only [mu_0, mW_so, ms_115, show upd M 0 0 76 = M 76 from rfl, ck_q4_76, ck_q4_77, ck_q4_78, ck_q4_79, ck_q4_0, ck_q4r_76, ck_q4r_77, ck_q4r_78, ck_q4r_79, ck_q4r_71, show upd M 0 0 78 = M 78 from rfl, show upd M 0 0 79 = M 79 from rfl, hq, lg_cmp_ge, lg_cmp_le, lg_cmp_gt, lg_cmp_lt, lg_cmp_eq, ck_p1, nI_clamp (show c < 2 ^ 31 by omega)]; try dsimp only [kx_wp, kx_step, kx_lI, kx_lL, kx_lA, kx_gl, kx_pI, kx_pL, kx_pR, kx_pA, kx_pV, kx_s1, kx_s2, kx_sl, kx_pre, kx_c2, kx_pl, kx_cmp, kx_oF, kx_eqN, kx_nil, kx_c1, kx_ft, kx_aI, kx_aL, kx_aR, kx_ln, Nat.reduceAdd, Option.toList, List.cons_append, List.nil_append, mW_o, mf_0, mf_76, mf_38, m_115])
              repeat' apply And.intro
              all_goals try (first | with_reducible assumption | (with_reducible refine ck_nzI ?_; simp; done) | (with_reducible refine ck_nzL ?_; simp; done) | (with_reducible refine vp_in_nI ?_ ?_ <;> first | omega | decide) | (with_reducible refine Nat.le_of_ble_eq_true ?_; rfl) | omega)
              refine hB bX11_regulated_120 _ _ _ _ _ _ _ kX11_regulated_120 ?_
              dsimp only [bX11_regulated_120, kx_wp, kx_step, kx_lI, kx_lL, kx_lA, kx_gl, kx_pI, kx_pL, kx_pR, kx_pA, kx_pV, kx_s1, kx_s2, kx_sl, kx_pre, kx_c2, kx_pl, kx_cmp, kx_oF, kx_eqN, kx_nil, kx_c1, kx_ft, kx_aI, kx_aL, kx_aR, kx_ln, Nat.reduceAdd, Option.toList, List.cons_append, List.nil_append, mW_o, mf_0, mf_76, mf_38, m_115]
              repeat (simp only [mu_0, mW_so, ms_115, show upd M 0 0 76 = M 76 from rfl, ck_q4_76, ck_q4_77, ck_q4_78, ck_q4_79, ck_q4_0, ck_q4r_76, ck_q4r_77, ck_q4r_78, ck_q4r_79, ck_q4r_71, show upd M 0 0 78 = M 78 from rfl, show upd M 0 0 79 = M 79 from rfl, hq, lg_cmp_ge, lg_cmp_le, lg_cmp_gt, lg_cmp_lt, lg_cmp_eq, ck_p1, nI_clamp (show c < 2 ^ 31 by omega)]; try dsimp only [kx_wp, kx_step, kx_lI, kx_lL, kx_lA, kx_gl, kx_pI, kx_pL, kx_pR, kx_pA, kx_pV, kx_s1, kx_s2, kx_sl, kx_pre, kx_c2, kx_pl, kx_cmp, kx_oF, kx_eqN, kx_nil, kx_c1, kx_ft, kx_aI, kx_aL, kx_aR, kx_ln, Nat.reduceAdd, Option.toList, List.cons_append, List.nil_append, mW_o, mf_0, mf_76, mf_38, m_115])
              repeat' apply And.intro
              all_goals try (first | with_reducible assumption | (with_reducible refine ck_nzI ?_; simp; done) | (with_reducible refine ck_nzL ?_; simp; done) | (with_reducible refine vp_in_nI ?_ ?_ <;> first | omega | decide) | (with_reducible refine Nat.le_of_ble_eq_true ?_; rfl) | omega)
              have ze := fun x7 x8 => ih (k + 1) x7 x8 (by omega)
              simp only [ck_reg, hb, ck_abL, zc49, ze49, zc82, ze82, zc99, ze99, zc107, ze107, ↓reduceIte] at ze
              exact ze _ _
  refine hB bX11_regulated_0 _ _ _ _ _ _ _ kX11_regulated_0 ?_
  dsimp only [bX11_regulated_0, kx_wp, kx_step, kx_lI, kx_lL, kx_lA, kx_gl, kx_pI, kx_pL, kx_pR, kx_pA, kx_pV, kx_s1, kx_s2, kx_sl, kx_pre, kx_c2, kx_pl, kx_cmp, kx_oF, kx_eqN, kx_nil, kx_c1, kx_ft, kx_aI, kx_aL, kx_aR, kx_ln, Nat.reduceAdd, Option.toList, List.cons_append, List.nil_append, mW_o, mf_0, mf_76, mf_38, m_115]
  repeat (simp only [mu_0, mW_so, ms_115, show upd M 0 0 76 = M 76 from rfl, ck_q4_76, ck_q4_77, ck_q4_78, ck_q4_79, ck_q4_0, ck_q4r_76, ck_q4r_77, ck_q4r_78, ck_q4r_79, ck_q4r_71, show upd M 0 0 78 = M 78 from rfl, show upd M 0 0 79 = M 79 from rfl, hq, lg_cmp_ge, lg_cmp_le, lg_cmp_gt, lg_cmp_lt, lg_cmp_eq, ck_p1, nI_clamp (show c < 2 ^ 31 by omega)]; try dsimp only [kx_wp, kx_step, kx_lI, kx_lL, kx_lA, kx_gl, kx_pI, kx_pL, kx_pR, kx_pA, kx_pV, kx_s1, kx_s2, kx_sl, kx_pre, kx_c2, kx_pl, kx_cmp, kx_oF, kx_eqN, kx_nil, kx_c1, kx_ft, kx_aI, kx_aL, kx_aR, kx_ln, Nat.reduceAdd, Option.toList, List.cons_append, List.nil_append, mW_o, mf_0, mf_76, mf_38, m_115])
  repeat' apply And.intro
  all_goals try (first | with_reducible assumption | (with_reducible refine ck_nzI ?_; simp; done) | (with_reducible refine ck_nzL ?_; simp; done) | (with_reducible refine vp_in_nI ?_ ?_ <;> first | omega | decide) | (with_reducible refine Nat.le_of_ble_eq_true ?_; rfl) | omega)
  refine hC.1 358 _ _ _ _ _ _ _ 11 _ _ _ _ _ _ _ _ _ _ _ _ lX11_358 (ct_X11_isClock_t l G (M := upd M 0 0) h21 hcl hc rfl) ⟨by decide, rfl⟩ (mW_o) rfl rfl (Nat.le_of_ble_eq_true rfl) (by decide) (by decide) (by omega) (by omega) dX11_regulated_7 ?_
  refine hB bX11_regulated_10 _ _ _ _ _ _ _ kX11_regulated_10 ?_
  dsimp only [bX11_regulated_10, kx_wp, kx_step, kx_lI, kx_lL, kx_lA, kx_gl, kx_pI, kx_pL, kx_pR, kx_pA, kx_pV, kx_s1, kx_s2, kx_sl, kx_pre, kx_c2, kx_pl, kx_cmp, kx_oF, kx_eqN, kx_nil, kx_c1, kx_ft, kx_aI, kx_aL, kx_aR, kx_ln, Nat.reduceAdd, Option.toList, List.cons_append, List.nil_append, mW_o, mf_0, mf_76, mf_38, m_115]
  repeat (simp only [mu_0, mW_so, ms_115, show upd M 0 0 76 = M 76 from rfl, ck_q4_76, ck_q4_77, ck_q4_78, ck_q4_79, ck_q4_0, ck_q4r_76, ck_q4r_77, ck_q4r_78, ck_q4r_79, ck_q4r_71, show upd M 0 0 78 = M 78 from rfl, show upd M 0 0 79 = M 79 from rfl, hq, lg_cmp_ge, lg_cmp_le, lg_cmp_gt, lg_cmp_lt, lg_cmp_eq, ck_p1, nI_clamp (show c < 2 ^ 31 by omega)]; try dsimp only [kx_wp, kx_step, kx_lI, kx_lL, kx_lA, kx_gl, kx_pI, kx_pL, kx_pR, kx_pA, kx_pV, kx_s1, kx_s2, kx_sl, kx_pre, kx_c2, kx_pl, kx_cmp, kx_oF, kx_eqN, kx_nil, kx_c1, kx_ft, kx_aI, kx_aL, kx_aR, kx_ln, Nat.reduceAdd, Option.toList, List.cons_append, List.nil_append, mW_o, mf_0, mf_76, mf_38, m_115])
  repeat' apply And.intro
  all_goals try (first | with_reducible assumption | (with_reducible refine ck_nzI ?_; simp; done) | (with_reducible refine ck_nzL ?_; simp; done) | (with_reducible refine vp_in_nI ?_ ?_ <;> first | omega | decide) | (with_reducible refine Nat.le_of_ble_eq_true ?_; rfl) | omega)
  · intro zc10
    have ze10 := zc10
    refine hB bX11_regulated_15 _ _ _ _ _ _ _ kX11_regulated_15 ?_
    dsimp only [bX11_regulated_15, kx_wp, kx_step, kx_lI, kx_lL, kx_lA, kx_gl, kx_pI, kx_pL, kx_pR, kx_pA, kx_pV, kx_s1, kx_s2, kx_sl, kx_pre, kx_c2, kx_pl, kx_cmp, kx_oF, kx_eqN, kx_nil, kx_c1, kx_ft, kx_aI, kx_aL, kx_aR, kx_ln, Nat.reduceAdd, Option.toList, List.cons_append, List.nil_append, mW_o, mf_0, mf_76, mf_38, m_115]
    repeat (simp only [mu_0, mW_so, ms_115, show upd M 0 0 76 = M 76 from rfl, ck_q4_76, ck_q4_77, ck_q4_78, ck_q4_79, ck_q4_0, ck_q4r_76, ck_q4r_77, ck_q4r_78, ck_q4r_79, ck_q4r_71, show upd M 0 0 78 = M 78 from rfl, show upd M 0 0 79 = M 79 from rfl, hq, lg_cmp_ge, lg_cmp_le, lg_cmp_gt, lg_cmp_lt, lg_cmp_eq, ck_p1, nI_clamp (show c < 2 ^ 31 by omega)]; try dsimp only [kx_wp, kx_step, kx_lI, kx_lL, kx_lA, kx_gl, kx_pI, kx_pL, kx_pR, kx_pA, kx_pV, kx_s1, kx_s2, kx_sl, kx_pre, kx_c2, kx_pl, kx_cmp, kx_oF, kx_eqN, kx_nil, kx_c1, kx_ft, kx_aI, kx_aL, kx_aR, kx_ln, Nat.reduceAdd, Option.toList, List.cons_append, List.nil_append, mW_o, mf_0, mf_76, mf_38, m_115])
    repeat' apply And.intro
    all_goals try (first | with_reducible assumption | (with_reducible refine ck_nzI ?_; simp; done) | (with_reducible refine ck_nzL ?_; simp; done) | (with_reducible refine vp_in_nI ?_ ?_ <;> first | omega | decide) | (with_reducible refine Nat.le_of_ble_eq_true ?_; rfl) | omega)
    refine hC.1 551 _ _ _ _ _ _ _ 11 _ _ _ _ _ _ _ _ _ _ _ _ lX11_551 (ct_X11_findTwo l G (M := upd M 0 0) (n := n) h71b hn) ⟨by decide, rfl⟩ (mW_o) rfl rfl (Nat.le_of_ble_eq_true rfl) (by decide) (by decide) (by omega) (by omega) dX11_regulated_18 ?_
    refine hB bX11_regulated_21 _ _ _ _ _ _ _ kX11_regulated_21 ?_
    dsimp only [bX11_regulated_21, kx_wp, kx_step, kx_lI, kx_lL, kx_lA, kx_gl, kx_pI, kx_pL, kx_pR, kx_pA, kx_pV, kx_s1, kx_s2, kx_sl, kx_pre, kx_c2, kx_pl, kx_cmp, kx_oF, kx_eqN, kx_nil, kx_c1, kx_ft, kx_aI, kx_aL, kx_aR, kx_ln, Nat.reduceAdd, Option.toList, List.cons_append, List.nil_append, mW_o, mf_0, mf_76, mf_38, m_115]
    repeat (simp only [mu_0, mW_so, ms_115, show upd M 0 0 76 = M 76 from rfl, ck_q4_76, ck_q4_77, ck_q4_78, ck_q4_79, ck_q4_0, ck_q4r_76, ck_q4r_77, ck_q4r_78, ck_q4r_79, ck_q4r_71, show upd M 0 0 78 = M 78 from rfl, show upd M 0 0 79 = M 79 from rfl, hq, lg_cmp_ge, lg_cmp_le, lg_cmp_gt, lg_cmp_lt, lg_cmp_eq, ck_p1, nI_clamp (show c < 2 ^ 31 by omega)]; try dsimp only [kx_wp, kx_step, kx_lI, kx_lL, kx_lA, kx_gl, kx_pI, kx_pL, kx_pR, kx_pA, kx_pV, kx_s1, kx_s2, kx_sl, kx_pre, kx_c2, kx_pl, kx_cmp, kx_oF, kx_eqN, kx_nil, kx_c1, kx_ft, kx_aI, kx_aL, kx_aR, kx_ln, Nat.reduceAdd, Option.toList, List.cons_append, List.nil_append, mW_o, mf_0, mf_76, mf_38, m_115])
    repeat' apply And.intro
    all_goals try (first | with_reducible assumption | (with_reducible refine ck_nzI ?_; simp; done) | (with_reducible refine ck_nzL ?_; simp; done) | (with_reducible refine vp_in_nI ?_ ?_ <;> first | omega | decide) | (with_reducible refine Nat.le_of_ble_eq_true ?_; rfl) | omega)
    · intro zc26
      have ze26 := zc26
      refine hB bX11_regulated_33 _ _ _ _ _ _ _ kX11_regulated_33 ?_
      dsimp only [bX11_regulated_33, kx_wp, kx_step, kx_lI, kx_lL, kx_lA, kx_gl, kx_pI, kx_pL, kx_pR, kx_pA, kx_pV, kx_s1, kx_s2, kx_sl, kx_pre, kx_c2, kx_pl, kx_cmp, kx_oF, kx_eqN, kx_nil, kx_c1, kx_ft, kx_aI, kx_aL, kx_aR, kx_ln, Nat.reduceAdd, Option.toList, List.cons_append, List.nil_append, mW_o, mf_0, mf_76, mf_38, m_115]
      repeat (simp only [mu_0, mW_so, ms_115, show upd M 0 0 76 = M 76 from rfl, ck_q4_76, ck_q4_77, ck_q4_78, ck_q4_79, ck_q4_0, ck_q4r_76, ck_q4r_77, ck_q4r_78, ck_q4r_79, ck_q4r_71, show upd M 0 0 78 = M 78 from rfl, show upd M 0 0 79 = M 79 from rfl, hq, lg_cmp_ge, lg_cmp_le, lg_cmp_gt, lg_cmp_lt, lg_cmp_eq, ck_p1, nI_clamp (show c < 2 ^ 31 by omega)]; try dsimp only [kx_wp, kx_step, kx_lI, kx_lL, kx_lA, kx_gl, kx_pI, kx_pL, kx_pR, kx_pA, kx_pV, kx_s1, kx_s2, kx_sl, kx_pre, kx_c2, kx_pl, kx_cmp, kx_oF, kx_eqN, kx_nil, kx_c1, kx_ft, kx_aI, kx_aL, kx_aR, kx_ln, Nat.reduceAdd, Option.toList, List.cons_append, List.nil_append, mW_o, mf_0, mf_76, mf_38, m_115])
      repeat' apply And.intro
      all_goals try (first | with_reducible assumption | (with_reducible refine ck_nzI ?_; simp; done) | (with_reducible refine ck_nzL ?_; simp; done) | (with_reducible refine vp_in_nI ?_ ?_ <;> first | omega | decide) | (with_reducible refine Nat.le_of_ble_eq_true ?_; rfl) | omega)
      exact loop45 41 0 _ _ rfl
    · intro zc26
      first | exact absurd rfl zc26 | exact absurd zc26 (by decide) | exact absurd (by decide) zc26 | (exfalso; first | exact zc26 ha | exact absurd zc49 (by simp only [ck_lt, Int32.reduceToInt, ck_p20 (show k < 2 ^ 30 by omega)]; omega)) | (exfalso; simp_all; done)
  · intro zc10
    first | exact absurd rfl zc10 | exact absurd zc10 (by decide) | exact absurd (by decide) zc10 | (exfalso; first | exact zc26 ha | exact absurd zc49 (by simp only [ck_lt, Int32.reduceToInt, ck_p20 (show k < 2 ^ 30 by omega)]; omega)) | (exfalso; simp_all; done)


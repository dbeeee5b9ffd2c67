def ck_silent (a b h : Int32) : Int32 := if a < b then (if a ≤ h ∧ h < b then 1 else 0) else if b < a ∧ (a ≤ h ∨ h < b) then 1 else 0
def bX11_isSilent_0 : List kx_O := [(.aload_n 0, 0, 0, 0, .null), (.iload_n 1, 1, 0, 0, .null), (.bipush 10, 0, 0, 0, .int 10)]
theorem kX11_isSilent_0 : kx_oks kxL_X11 false cX11_isSilent 0 bX11_isSilent_0 = true := by decide +kernel
def bX11_isSilent_7 : List kx_O := [(.istore_n 3, 3, 0, 0, .null), (.aload_n 0, 0, 0, 0, .null), (.iload_n 1, 1, 0, 0, .null), (.bipush 11, 0, 0, 0, .int 11)]
theorem kX11_isSilent_7 : kx_oks kxL_X11 false cX11_isSilent 7 bX11_isSilent_7 = true := by decide +kernel
def bX11_isSilent_15 : List kx_O := [(.istore 4, 4, 0, 0, .null), (.iload_n 3, 3, 0, 0, .null), (.iload 4, 4, 0, 0, .null), (.if_icmp .ge 22, 42, 0, 0, .null)]
theorem kX11_isSilent_15 : kx_oks kxL_X11 false cX11_isSilent 15 bX11_isSilent_15 = true := by decide +kernel
def bX11_isSilent_23 : List kx_O := [(.iload_n 2, 2, 0, 0, .null), (.iload_n 3, 3, 0, 0, .null), (.if_icmp .lt 13, 38, 0, 0, .null)]
theorem kX11_isSilent_23 : kx_oks kxL_X11 false cX11_isSilent 23 bX11_isSilent_23 = true := by decide +kernel
def bX11_isSilent_28 : List kx_O := [(.iload_n 2, 2, 0, 0, .null), (.iload 4, 4, 0, 0, .null), (.if_icmp .ge 7, 38, 0, 0, .null)]
theorem kX11_isSilent_28 : kx_oks kxL_X11 false cX11_isSilent 28 bX11_isSilent_28 = true := by decide +kernel
def bX11_isSilent_34 : List kx_O := [(.iconst 1, 0, 0, 0, .int 1), (.goto 29, 64, 0, 0, .null)]
theorem kX11_isSilent_34 : kx_oks kxL_X11 false cX11_isSilent 34 bX11_isSilent_34 = true := by decide +kernel
def bX11_isSilent_38 : List kx_O := [(.iconst 0, 0, 0, 0, .int 0), (.goto 25, 64, 0, 0, .null)]
theorem kX11_isSilent_38 : kx_oks kxL_X11 false cX11_isSilent 38 bX11_isSilent_38 = true := by decide +kernel
def bX11_isSilent_42 : List kx_O := [(.iload_n 3, 3, 0, 0, .null), (.iload 4, 4, 0, 0, .null), (.if_icmp .le 18, 63, 0, 0, .null)]
theorem kX11_isSilent_42 : kx_oks kxL_X11 false cX11_isSilent 42 bX11_isSilent_42 = true := by decide +kernel
def bX11_isSilent_48 : List kx_O := [(.iload_n 2, 2, 0, 0, .null), (.iload_n 3, 3, 0, 0, .null), (.if_icmp .ge 9, 59, 0, 0, .null)]
theorem kX11_isSilent_48 : kx_oks kxL_X11 false cX11_isSilent 48 bX11_isSilent_48 = true := by decide +kernel
def bX11_isSilent_53 : List kx_O := [(.iload_n 2, 2, 0, 0, .null), (.iload 4, 4, 0, 0, .null), (.if_icmp .ge 7, 63, 0, 0, .null)]
theorem kX11_isSilent_53 : kx_oks kxL_X11 false cX11_isSilent 53 bX11_isSilent_53 = true := by decide +kernel
def bX11_isSilent_59 : List kx_O := [(.iconst 1, 0, 0, 0, .int 1), (.goto 4, 64, 0, 0, .null)]
theorem kX11_isSilent_59 : kx_oks kxL_X11 false cX11_isSilent 59 bX11_isSilent_59 = true := by decide +kernel
def bX11_isSilent_63 : List kx_O := [(.iconst 0, 0, 0, 0, .int 0)]
theorem kX11_isSilent_63 : kx_oks kxL_X11 false cX11_isSilent 63 bX11_isSilent_63 = true := by decide +kernel
def bX11_isSilent_64 : List kx_O := [(.ireturn, 0, 0, 0, .null)]
theorem kX11_isSilent_64 : kx_oks kxL_X11 false cX11_isSilent 64 bX11_isSilent_64 = true := by decide +kernel
theorem dX11_isSilent_4 : decode cX11_isSilent 4 = .ok (.invokevirtual 365, 3) := by decide +kernel
theorem dX11_isSilent_12 : decode cX11_isSilent 12 = .ok (.invokevirtual 365, 3) := by decide +kernel
set_option maxRecDepth 100000 in
set_option maxHeartbeats 4000000 in
theorem ct_X11_isSilent (l : Launch) (G : kx_G) {M : Nat → Int32} {A : Nat → Nat → Int32} {L : Nat → Nat → Int64} {R : kx_P} {sz : Nat} {c : Nat} (hc : c < 8) {h : Int32}  : kx_M l G sX11_isSilent 2 0 0 [.ref 93, .int (nI c), .int (h)] (mW M A L R) sz (some (.int (ck_silent (A 102 (16 * c + 10)) (A 102 (16 * c + 11)) h))) (mW M A L R) sz := by
  refine kx_mk kx_tab kxLok_X11 (ini := false) [some (.ref 93), some (.int (nI c)), some (.int (h)), none, none] ⟨by decide, rfl, by decide, by decide⟩ (by first | exact Or.inl rfl | exact Or.inr rfl | (unfold ck_silent; split <;> (try split) <;> first | exact Or.inl rfl | exact Or.inr rfl)) rfl rfl (fun g hB hC => ?_)
  refine hB bX11_isSilent_0 _ _ _ _ _ _ _ kX11_isSilent_0 ?_
  dsimp only [bX11_isSilent_0, kx_wp, kx_step, kx_lI, kx_lL, kx_lA, kx_gl, kx_pI, kx_pL, kx_pR, kx_pA, kx_pV, kx_s1, kx_s2, kx_sl, kx_pre, kx_c2, kx_pl, kx_cmp, kx_oF, kx_eqN, kx_nil, kx_c1, kx_ft, kx_aI, kx_aL, kx_aR, kx_ln, Nat.reduceAdd, Option.toList, List.cons_append, List.nil_append, mW_o]
  repeat' apply And.intro
  all_goals try (first | with_reducible assumption | (with_reducible refine ck_nzI ?_; simp; done) | (with_reducible refine ck_nzL ?_; simp; done) | omega)
  refine hC.1 365 _ _ _ _ _ _ _ 11 _ _ _ _ _ _ _ _ _ _ _ _ lX11_365 (ct_X11_its l G (c := c) (w := 10) hc (by decide)) ⟨by decide, rfl⟩ (mW_o) rfl rfl (Nat.le_of_ble_eq_true rfl) (by decide) (by decide) (by omega) (by omega) dX11_isSilent_4 ?_
  refine hB bX11_isSilent_7 _ _ _ _ _ _ _ kX11_isSilent_7 ?_
  dsimp only [bX11_isSilent_7, kx_wp, kx_step, kx_lI, kx_lL, kx_lA, kx_gl, kx_pI, kx_pL, kx_pR, kx_pA, kx_pV, kx_s1, kx_s2, kx_sl, kx_pre, kx_c2, kx_pl, kx_cmp, kx_oF, kx_eqN, kx_nil, kx_c1, kx_ft, kx_aI, kx_aL, kx_aR, kx_ln, Nat.reduceAdd, Option.toList, List.cons_append, List.nil_append, mW_o]
  repeat' apply And.intro
  all_goals try (first | with_reducible assumption | (with_reducible refine ck_nzI ?_; simp; done) | (with_reducible refine ck_nzL ?_; simp; done) | omega)
  refine hC.1 365 _ _ _ _ _ _ _ 11 _ _ _ _ _ _ _ _ _ _ _ _ lX11_365 (ct_X11_its l G (c := c) (w := 11) hc (by decide)) ⟨by decide, rfl⟩ (mW_o) rfl rfl (Nat.le_of_ble_eq_true rfl) (by decide) (by decide) (by omega) (by omega) dX11_isSilent_12 ?_
  refine hB bX11_isSilent_15 _ _ _ _ _ _ _ kX11_isSilent_15 ?_
  dsimp only [bX11_isSilent_15, kx_wp, kx_step, kx_lI, kx_lL, kx_lA, kx_gl, kx_pI, kx_pL, kx_pR, kx_pA, kx_pV, kx_s1, kx_s2, kx_sl, kx_pre, kx_c2, kx_pl, kx_cmp, kx_oF, kx_eqN, kx_nil, kx_c1, kx_ft, kx_aI, kx_aL, kx_aR, kx_ln, Nat.reduceAdd, Option.toList, List.cons_append, List.nil_append, mW_o]
  repeat' apply And.intro
  all_goals try (first | with_reducible assumption | (with_reducible refine ck_nzI ?_; simp; done) | (with_reducible refine ck_nzL ?_; simp; done) | omega)
  · intro c20
    refine hB bX11_isSilent_42 _ _ _ _ _ _ _ kX11_isSilent_42 ?_
    dsimp only [bX11_isSilent_42, kx_wp, kx_step, kx_lI, kx_lL, kx_lA, kx_gl, kx_pI, kx_pL, kx_pR, kx_pA, kx_pV, kx_s1, kx_s2, kx_sl, kx_pre, kx_c2, kx_pl, kx_cmp, kx_oF, kx_eqN, kx_nil, kx_c1, kx_ft, kx_aI, kx_aL, kx_aR, kx_ln, Nat.reduceAdd, Option.toList, List.cons_append, List.nil_append, mW_o]
    repeat' apply And.intro
    all_goals try (first | with_reducible assumption | (with_reducible refine ck_nzI ?_; simp; done) | (with_reducible refine ck_nzL ?_; simp; done) | omega)
    · intro c45
      refine hB bX11_isSilent_63 _ _ _ _ _ _ _ kX11_isSilent_63 ?_
      dsimp only [bX11_isSilent_63, kx_wp, kx_step, kx_lI, kx_lL, kx_lA, kx_gl, kx_pI, kx_pL, kx_pR, kx_pA, kx_pV, kx_s1, kx_s2, kx_sl, kx_pre, kx_c2, kx_pl, kx_cmp, kx_oF, kx_eqN, kx_nil, kx_c1, kx_ft, kx_aI, kx_aL, kx_aR, kx_ln, Nat.reduceAdd, Option.toList, List.cons_append, List.nil_append, mW_o]
      repeat' apply And.intro
      all_goals try (first | with_reducible assumption | (with_reducible refine ck_nzI ?_; simp; done) | (with_reducible refine ck_nzL ?_; simp; done) | omega)
      refine hB bX11_isSilent_64 _ _ _ _ _ _ _ kX11_isSilent_64 ?_
      dsimp only [bX11_isSilent_64, kx_wp, kx_step, kx_lI, kx_lL, kx_lA, kx_gl, kx_pI, kx_pL, kx_pR, kx_pA, kx_pV, kx_s1, kx_s2, kx_sl, kx_pre, kx_c2, kx_pl, kx_cmp, kx_oF, kx_eqN, kx_nil, kx_c1, kx_ft, kx_aI, kx_aL, kx_aR, kx_ln, Nat.reduceAdd, Option.toList, List.cons_append, List.nil_append, mW_o]
      all_goals (repeat' apply And.intro)
      all_goals ((try clear hB hC); first | exact True.intro | with_reducible rfl | (simp only [ck_silent]; split <;> first | (split <;> first | with_reducible rfl | (exfalso; ((try clear hB hC); simp only [ck_lt, ck_le, ck_eq, not_true_eq_false, not_false_eq_true, Int32.reduceToInt, Int32.reduceAdd, Int32.reduceSub, Int32.reduceMul] at * <;> omega))) | with_reducible rfl | (exfalso; ((try clear hB hC); simp only [ck_lt, ck_le, ck_eq, not_true_eq_false, not_false_eq_true, Int32.reduceToInt, Int32.reduceAdd, Int32.reduceSub, Int32.reduceMul] at * <;> omega))))
    · intro c45
      refine hB bX11_isSilent_48 _ _ _ _ _ _ _ kX11_isSilent_48 ?_
      dsimp only [bX11_isSilent_48, kx_wp, kx_step, kx_lI, kx_lL, kx_lA, kx_gl, kx_pI, kx_pL, kx_pR, kx_pA, kx_pV, kx_s1, kx_s2, kx_sl, kx_pre, kx_c2, kx_pl, kx_cmp, kx_oF, kx_eqN, kx_nil, kx_c1, kx_ft, kx_aI, kx_aL, kx_aR, kx_ln, Nat.reduceAdd, Option.toList, List.cons_append, List.nil_append, mW_o]
      repeat' apply And.intro
      all_goals try (first | with_reducible assumption | (with_reducible refine ck_nzI ?_; simp; done) | (with_reducible refine ck_nzL ?_; simp; done) | omega)
      · intro c50
        refine hB bX11_isSilent_59 _ _ _ _ _ _ _ kX11_isSilent_59 ?_
        dsimp only [bX11_isSilent_59, kx_wp, kx_step, kx_lI, kx_lL, kx_lA, kx_gl, kx_pI, kx_pL, kx_pR, kx_pA, kx_pV, kx_s1, kx_s2, kx_sl, kx_pre, kx_c2, kx_pl, kx_cmp, kx_oF, kx_eqN, kx_nil, kx_c1, kx_ft, kx_aI, kx_aL, kx_aR, kx_ln, Nat.reduceAdd, Option.toList, List.cons_append, List.nil_append, mW_o]
        repeat' apply And.intro
        all_goals try (first | with_reducible assumption | (with_reducible refine ck_nzI ?_; simp; done) | (with_reducible refine ck_nzL ?_; simp; done) | omega)
        refine hB bX11_isSilent_64 _ _ _ _ _ _ _ kX11_isSilent_64 ?_
        dsimp only [bX11_isSilent_64, kx_wp, kx_step, kx_lI, kx_lL, kx_lA, kx_gl, kx_pI, kx_pL, kx_pR, kx_pA, kx_pV, kx_s1, kx_s2, kx_sl, kx_pre, kx_c2, kx_pl, kx_cmp, kx_oF, kx_eqN, kx_nil, kx_c1, kx_ft, kx_aI, kx_aL, kx_aR, kx_ln, Nat.reduceAdd, Option.toList, List.cons_append, List.nil_append, mW_o]
        all_goals (repeat' apply And.intro)
        all_goals ((try clear hB hC); first | exact True.intro | with_reducible rfl | (simp only [ck_silent]; split <;> first | (split <;> first | with_reducible rfl | (exfalso; ((try clear hB hC); simp only [ck_lt, ck_le, ck_eq, not_true_eq_false, not_false_eq_true, Int32.reduceToInt, Int32.reduceAdd, Int32.reduceSub, Int32.reduceMul] at * <;> omega))) | with_reducible rfl | (exfalso; ((try clear hB hC); simp only [ck_lt, ck_le, ck_eq, not_true_eq_false, not_false_eq_true, Int32.reduceToInt, Int32.reduceAdd, Int32.reduceSub, Int32.reduceMul] at * <;> omega))))
      · intro c50
        refine hB bX11_isSilent_53 _ _ _ _ _ _ _ kX11_isSilent_53 ?_
        dsimp only [bX11_isSilent_53, kx_wp, kx_step, kx_lI, kx_lL, kx_lA, kx_gl, kx_pI, kx_pL, kx_pR, kx_pA, kx_pV, kx_s1, kx_s2, kx_sl, kx_pre, kx_c2, kx_pl, kx_cmp, kx_oF, kx_eqN, kx_nil, kx_c1, kx_ft, kx_aI, kx_aL, kx_aR, kx_ln, Nat.reduceAdd, Option.toList, List.cons_append, List.nil_append, mW_o]
        repeat' apply And.intro
        all_goals try (first | with_reducible assumption | (with_reducible refine ck_nzI ?_; simp; done) | (with_reducible refine ck_nzL ?_; simp; done) | omega)
        · intro c56
          refine hB bX11_isSilent_63 _ _ _ _ _ _ _ kX11_isSilent_63 ?_
          dsimp only [bX11_isSilent_63, kx_wp, kx_step, kx_lI, kx_lL, kx_lA, kx_gl, kx_pI, kx_pL, kx_pR, kx_pA, kx_pV, kx_s1, kx_s2, kx_sl, kx_pre, kx_c2, kx_pl, kx_cmp, kx_oF, kx_eqN, kx_nil, kx_c1, kx_ft, kx_aI, kx_aL, kx_aR, kx_ln, Nat.reduceAdd, Option.toList, List.cons_append, List.nil_append, mW_o]
          repeat' apply And.intro
          all_goals try (first | with_reducible assumption | (with_reducible refine ck_nzI ?_; simp; done) | (with_reducible refine ck_nzL ?_; simp; done) | omega)
          refine hB bX11_isSilent_64 _ _ _ _ _ _ _ kX11_isSilent_64 ?_
          dsimp only [bX11_isSilent_64, kx_wp, kx_step, kx_lI, kx_lL, kx_lA, kx_gl, kx_pI, kx_pL, kx_pR, kx_pA, kx_pV, kx_s1, kx_s2, kx_sl, kx_pre, kx_c2, kx_pl, kx_cmp, kx_oF, kx_eqN, kx_nil, kx_c1, kx_ft, kx_aI, kx_aL, kx_aR, kx_ln, Nat.reduceAdd, Option.toList, List.cons_append, List.nil_append, mW_o]
          all_goals (repeat' apply And.intro)
          all_goals ((try clear hB hC); first | exact True.intro | with_reducible rfl | (simp only [ck_silent]; split <;> first | (split <;> first | with_reducible rfl | (exfalso; ((try clear hB hC); simp only [ck_lt, ck_le, ck_eq, not_true_eq_false, not_false_eq_true, Int32.reduceToInt, Int32.reduceAdd, Int32.reduceSub, Int32.reduceMul] at * <;> omega))) | with_reducible rfl | (exfalso; ((try clear hB hC); simp only [ck_lt, ck_le, ck_eq, not_true_eq_false, not_false_eq_true, Int32.reduceToInt, Int32.reduceAdd, Int32.reduceSub, Int32.reduceMul] at * <;> omega))))
        · intro c56
          refine hB bX11_isSilent_59 _ _ _ _ _ _ _ kX11_isSilent_59 ?_
          dsimp only [bX11_isSilent_59, kx_wp, kx_step, kx_lI, kx_lL, kx_lA, kx_gl, kx_pI, kx_pL, kx_pR, kx_pA, kx_pV, kx_s1, kx_s2, kx_sl, kx_pre, kx_c2, kx_pl, kx_cmp, kx_oF, kx_eqN, kx_nil, kx_c1, kx_ft, kx_aI, kx_aL, kx_aR, kx_ln, Nat.reduceAdd, Option.toList, List.cons_append, List.nil_append, mW_o]
          repeat' apply And.intro
          all_goals try (first | with_reducible assumption | (with_reducible refine ck_nzI ?_; simp; done) | (with_reducible refine ck_nzL ?_; simp; done) | omega)
          refine hB bX11_isSilent_64 _ _ _ _ _ _ _ kX11_isSilent_64 ?_
          dsimp only [bX11_isSilent_64, kx_wp, kx_step, kx_lI, kx_lL, kx_lA, kx_gl, kx_pI, kx_pL, kx_pR, kx_pA, kx_pV, kx_s1, kx_s2, kx_sl, kx_pre, kx_c2, kx_pl, kx_cmp, kx_oF, kx_eqN, kx_nil, kx_c1, kx_ft, kx_aI, kx_aL, kx_aR, kx_ln, Nat.reduceAdd, Option.toList, List.cons_append, List.nil_append, mW_o]
          all_goals (repeat' apply And.intro)
          all_goals ((try clear hB hC); first | exact True.intro | with_reducible rfl | (simp only [ck_silent]; split <;> first | (split <;> first | with_reducible rfl | (exfalso; ((try clear hB hC); simp only [ck_lt, ck_le, ck_eq, not_true_eq_false, not_false_eq_true, Int32.reduceToInt, Int32.reduceAdd, Int32.reduceSub, Int32.reduceMul] at * <;> omega))) | with_reducible rfl | (exfalso; ((try clear hB hC); simp only [ck_lt, ck_le, ck_eq, not_true_eq_false, not_false_eq_true, Int32.reduceToInt, Int32.reduceAdd, Int32.reduceSub, Int32.reduceMul] at * <;> omega))))
  · intro c20
    refine hB bX11_isSilent_23 _ _ _ _ _ _ _ kX11_isSilent_23 ?_
    dsimp only [bX11_isSilent_23, kx_wp, kx_step, kx_lI, kx_lL, kx_lA, kx_gl, kx_pI, kx_pL, kx_pR, kx_pA, kx_pV, kx_s1, kx_s2, kx_sl, kx_pre, kx_c2, kx_pl, kx_cmp, kx_oF, kx_eqN, kx_nil, kx_c1, kx_ft, kx_aI, kx_aL, kx_aR, kx_ln, Nat.reduceAdd, Option.toList, List.cons_append, List.nil_append, mW_o]
    repeat' apply And.intro
    all_goals try (first | with_reducible assumption | (with_reducible refine ck_nzI ?_; simp; done) | (with_reducible refine ck_nzL ?_; simp; done) | omega)
    · intro c25
      refine hB bX11_isSilent_38 _ _ _ _ _ _ _ kX11_isSilent_38 ?_
      dsimp only [bX11_isSilent_38, kx_wp, kx_step, kx_lI, kx_lL, kx_lA, kx_gl, kx_pI, kx_pL, kx_pR, kx_pA, kx_pV, kx_s1, kx_s2, kx_sl, kx_pre, kx_c2, kx_pl, kx_cmp, kx_oF, kx_eqN, kx_nil, kx_c1, kx_ft, kx_aI, kx_aL, kx_aR, kx_ln, Nat.reduceAdd, Option.toList, List.cons_append, List.nil_append, mW_o]
      repeat' apply And.intro
      all_goals try (first | with_reducible assumption | (with_reducible refine ck_nzI ?_; simp; done) | (with_reducible refine ck_nzL ?_; simp; done) | omega)
      refine hB bX11_isSilent_64 _ _ _ _ _ _ _ kX11_isSilent_64 ?_
      dsimp only [bX11_isSilent_64, kx_wp, kx_step, kx_lI, kx_lL, kx_lA, kx_gl, kx_pI, kx_pL, kx_pR, kx_pA, kx_pV, kx_s1, kx_s2, kx_sl, kx_pre, kx_c2, kx_pl, kx_cmp, kx_oF, kx_eqN, kx_nil, kx_c1, kx_ft, kx_aI, kx_aL, kx_aR, kx_ln, Nat.reduceAdd, Option.toList, List.cons_append, List.nil_append, mW_o]
      all_goals (repeat' apply And.intro)
      all_goals ((try clear hB hC); first | exact True.intro | with_reducible rfl | (simp only [ck_silent]; split <;> first | (split <;> first | with_reducible rfl | (exfalso; ((try clear hB hC); simp only [ck_lt, ck_le, ck_eq, not_true_eq_false, not_false_eq_true, Int32.reduceToInt, Int32.reduceAdd, Int32.reduceSub, Int32.reduceMul] at * <;> omega))) | with_reducible rfl | (exfalso; ((try clear hB hC); simp only [ck_lt, ck_le, ck_eq, not_true_eq_false, not_false_eq_true, Int32.reduceToInt, Int32.reduceAdd, Int32.reduceSub, Int32.reduceMul] at * <;> omega))))
    · intro c25
      refine hB bX11_isSilent_28 _ _ _ _ _ _ _ kX11_isSilent_28 ?_
      dsimp only [bX11_isSilent_28, kx_wp, kx_step, kx_lI, kx_lL, kx_lA, kx_gl, kx_pI, kx_pL, kx_pR, kx_pA, kx_pV, kx_s1, kx_s2, kx_sl, kx_pre, kx_c2, kx_pl, kx_cmp, kx_oF, kx_eqN, kx_nil, kx_c1, kx_ft, kx_aI, kx_aL, kx_aR, kx_ln, Nat.reduceAdd, Option.toList, List.cons_append, List.nil_append, mW_o]
      repeat' apply And.intro
      all_goals try (first | with_reducible assumption | (with_reducible refine ck_nzI ?_; simp; done) | (with_reducible refine ck_nzL ?_; simp; done) | omega)
      · intro c31
        refine hB bX11_isSilent_38 _ _ _ _ _ _ _ kX11_isSilent_38 ?_
        dsimp only [bX11_isSilent_38, kx_wp, kx_step, kx_lI, kx_lL, kx_lA, kx_gl, kx_pI, kx_pL, kx_pR, kx_pA, kx_pV, kx_s1, kx_s2, kx_sl, kx_pre, kx_c2, kx_pl, kx_cmp, kx_oF, kx_eqN, kx_nil, kx_c1, kx_ft, kx_aI, kx_aL, kx_aR, kx_ln, Nat.reduceAdd, Option.toList, List.cons_append, List.nil_append, mW_o]
        repeat' apply And.intro
        all_goals try (first | with_reducible assumption | (with_reducible refine ck_nzI ?_; simp; done) | (with_reducible refine ck_nzL ?_; simp; done) | omega)
        refine hB bX11_isSilent_64 _ _ _ _ _ _ _ kX11_isSilent_64 ?_
        dsimp only [bX11_isSilent_64, kx_wp, kx_step, kx_lI, kx_lL, kx_lA, kx_gl, kx_pI, kx_pL, kx_pR, kx_pA, kx_pV, kx_s1, kx_s2, kx_sl, kx_pre, kx_c2, kx_pl, kx_cmp, kx_oF, kx_eqN, kx_nil, kx_c1, kx_ft, kx_aI, kx_aL, kx_aR, kx_ln, Nat.reduceAdd, Option.toList, List.cons_append, List.nil_append, mW_o]
        all_goals (repeat' apply And.intro)
        all_goals ((try clear hB hC); first | exact True.intro | with_reducible rfl | (simp only [ck_silent]; split <;> first | (split <;> first | with_reducible rfl | (exfalso; ((try clear hB hC); simp only [ck_lt, ck_le, ck_eq, not_true_eq_false, not_false_eq_true, Int32.reduceToInt, Int32.reduceAdd, Int32.reduceSub, Int32.reduceMul] at * <;> omega))) | with_reducible rfl | (exfalso; ((try clear hB hC); simp only [ck_lt, ck_le, ck_eq, not_true_eq_false, not_false_eq_true, Int32.reduceToInt, Int32.reduceAdd, Int32.reduceSub, Int32.reduceMul] at * <;> omega))))
      · intro c31
        refine hB bX11_isSilent_34 _ _ _ _ _ _ _ kX11_isSilent_34 ?_
        dsimp only [bX11_isSilent_34, kx_wp, kx_step, kx_lI, kx_lL, kx_lA, kx_gl, kx_pI, kx_pL, kx_pR, kx_pA, kx_pV, kx_s1, kx_s2, kx_sl, kx_pre, kx_c2, kx_pl, kx_cmp, kx_oF, kx_eqN, kx_nil, kx_c1, kx_ft, kx_aI, kx_aL, kx_aR, kx_ln, Nat.reduceAdd, Option.toList, List.cons_append, List.nil_append, mW_o]
        repeat' apply And.intro
        all_goals try (first | with_reducible assumption | (with_reducible refine ck_nzI ?_; simp; done) | (with_reducible refine ck_nzL ?_; simp; done) | omega)
        refine hB bX11_isSilent_64 _ _ _ _ _ _ _ kX11_isSilent_64 ?_
        dsimp only [bX11_isSilent_64, kx_wp, kx_step, kx_lI, kx_lL, kx_lA, kx_gl, kx_pI, kx_pL, kx_pR, kx_pA, kx_pV, kx_s1, kx_s2, kx_sl, kx_pre, kx_c2, kx_pl, kx_cmp, kx_oF, kx_eqN, kx_nil, kx_c1, kx_ft, kx_aI, kx_aL, kx_aR, kx_ln, Nat.reduceAdd, Option.toList, List.cons_append, List.nil_append, mW_o]
        all_goals (repeat' apply And.intro)
        all_goals ((try clear hB hC); first | exact True.intro | with_reducible rfl | (simp only [ck_silent]; split <;> first | (split <;> first | with_reducible rfl | (exfalso; ((try clear hB hC); simp only [ck_lt, ck_le, ck_eq, not_true_eq_false, not_false_eq_true, Int32.reduceToInt, Int32.reduceAdd, Int32.reduceSub, Int32.reduceMul] at * <;> omega))) | with_reducible rfl | (exfalso; ((try clear hB hC); simp only [ck_lt, ck_le, ck_eq, not_true_eq_false, not_false_eq_true, Int32.reduceToInt, Int32.reduceAdd, Int32.reduceSub, Int32.reduceMul] at * <;> omega))))

def ck_cal (cal mo lp : Int32) : Int32 := if cal = 0 then 31 else ck_last mo (if cal = 2 then (if lp = 0 then 0 else 1) else 0)
def ck_nextA (A : Nat → Nat → Int32) (c : Nat) (last : Int32) : Nat → Nat → Int32 := if A 111 c < last then va_up A 111 (upd (A 111) c (A 111 c + 1)) else va_up (va_up A 111 (upd (A 111) c 1)) 112 (upd (A 112) c (A 112 c - A 112 c / 12 * 12 + 1))
def bX11_nextDate_0 : List kx_O := [(.aload_n 0, 0, 0, 0, .null), (.iload_n 1, 1, 0, 0, .null), (.bipush 13, 0, 0, 0, .int 13)]
theorem kX11_nextDate_0 : kx_oks kxL_X11 false cX11_nextDate 0 bX11_nextDate_0 = true := by decide +kernel
def bX11_nextDate_7 : List kx_O := [(.ifCond .ne 8, 15, 0, 0, .null)]
theorem kX11_nextDate_7 : kx_oks kxL_X11 false cX11_nextDate 7 bX11_nextDate_7 = true := by decide +kernel
def bX11_nextDate_10 : List kx_O := [(.bipush 31, 0, 0, 0, .int 31), (.goto 36, 48, 0, 0, .null)]
theorem kX11_nextDate_10 : kx_oks kxL_X11 false cX11_nextDate 10 bX11_nextDate_10 = true := by decide +kernel
def bX11_nextDate_15 : List kx_O := [(.aload_n 0, 0, 0, 0, .null), (.aload_n 0, 0, 0, 0, .null), (.getfield 71, 11, 35, 0, .null), (.iload_n 1, 1, 0, 0, .null), (.iaload, 0, 0, 0, .null), (.aload_n 0, 0, 0, 0, .null), (.iload_n 1, 1, 0, 0, .null), (.bipush 13, 0, 0, 0, .int 13)]
theorem kX11_nextDate_15 : kx_oks kxL_X11 false cX11_nextDate 15 bX11_nextDate_15 = true := by decide +kernel
def bX11_nextDate_29 : List kx_O := [(.iconst 2, 0, 0, 0, .int 2), (.if_icmp .ne 14, 44, 0, 0, .null)]
theorem kX11_nextDate_29 : kx_oks kxL_X11 false cX11_nextDate 29 bX11_nextDate_29 = true := by decide +kernel
def bX11_nextDate_33 : List kx_O := [(.aload_n 0, 0, 0, 0, .null), (.getfield 178, 11, 3, 0, .null), (.ifCond .eq 7, 44, 0, 0, .null)]
theorem kX11_nextDate_33 : kx_oks kxL_X11 false cX11_nextDate 33 bX11_nextDate_33 = true := by decide +kernel
def bX11_nextDate_40 : List kx_O := [(.iconst 1, 0, 0, 0, .int 1), (.goto 4, 45, 0, 0, .null)]
theorem kX11_nextDate_40 : kx_oks kxL_X11 false cX11_nextDate 40 bX11_nextDate_40 = true := by decide +kernel
def bX11_nextDate_44 : List kx_O := [(.iconst 0, 0, 0, 0, .int 0)]
theorem kX11_nextDate_44 : kx_oks kxL_X11 false cX11_nextDate 44 bX11_nextDate_44 = true := by decide +kernel
def bX11_nextDate_48 : List kx_O := [(.istore_n 2, 2, 0, 0, .null), (.aload_n 0, 0, 0, 0, .null), (.getfield 68, 11, 34, 0, .null), (.iload_n 1, 1, 0, 0, .null), (.iaload, 0, 0, 0, .null), (.iload_n 2, 2, 0, 0, .null), (.if_icmp .ge 16, 72, 0, 0, .null)]
theorem kX11_nextDate_48 : kx_oks kxL_X11 false cX11_nextDate 48 bX11_nextDate_48 = true := by decide +kernel
def bX11_nextDate_59 : List kx_O := [(.aload_n 0, 0, 0, 0, .null), (.getfield 68, 11, 34, 0, .null), (.iload_n 1, 1, 0, 0, .null), (.dup2, 0, 0, 0, .null), (.iaload, 0, 0, 0, .null), (.iconst 1, 0, 0, 0, .int 1), (.iadd, 0, 0, 0, .null), (.iastore, 0, 0, 0, .null), (.goto 27, 96, 0, 0, .null)]
theorem kX11_nextDate_59 : kx_oks kxL_X11 false cX11_nextDate 59 bX11_nextDate_59 = true := by decide +kernel
def bX11_nextDate_72 : List kx_O := [(.aload_n 0, 0, 0, 0, .null), (.getfield 68, 11, 34, 0, .null), (.iload_n 1, 1, 0, 0, .null), (.iconst 1, 0, 0, 0, .int 1), (.iastore, 0, 0, 0, .null), (.aload_n 0, 0, 0, 0, .null), (.getfield 71, 11, 35, 0, .null), (.iload_n 1, 1, 0, 0, .null), (.aload_n 0, 0, 0, 0, .null), (.getfield 71, 11, 35, 0, .null), (.iload_n 1, 1, 0, 0, .null), (.iaload, 0, 0, 0, .null), (.bipush 12, 0, 0, 0, .int 12), (.irem, 0, 0, 0, .null), (.iconst 1, 0, 0, 0, .int 1), (.iadd, 0, 0, 0, .null), (.iastore, 0, 0, 0, .null)]
theorem kX11_nextDate_72 : kx_oks kxL_X11 false cX11_nextDate 72 bX11_nextDate_72 = true := by decide +kernel
def bX11_nextDate_96 : List kx_O := [(.return_, 0, 0, 0, .null)]
theorem kX11_nextDate_96 : kx_oks kxL_X11 false cX11_nextDate 96 bX11_nextDate_96 = true := by decide +kernel
theorem dX11_nextDate_4 : decode cX11_nextDate 4 = .ok (.invokevirtual 365, 3) := by decide +kernel
theorem dX11_nextDate_26 : decode cX11_nextDate 26 = .ok (.invokevirtual 365, 3) := by decide +kernel
theorem dX11_nextDate_45 : decode cX11_nextDate 45 = .ok (.invokevirtual 185, 3) := by decide +kernel
set_option maxRecDepth 100000 in
set_option maxHeartbeats 4000000 in
theorem ct_X11_nextDate (l : Launch) (G : kx_G) {M : Nat → Int32} {A : Nat → Nat → Int32} {L : Nat → Nat → Int64} {R : kx_P} {sz : Nat} {c : Nat} (hc : c < 8)  : kx_M l G sX11_nextDate 2 0 0 [.ref 93, .int (nI c)] (mW M A L R) sz none (mW M (ck_nextA A c (ck_cal (A 102 (16 * c + 13)) (A 112 c) (M 3))) L R) sz := by
  refine kx_mk kx_tab kxLok_X11 (ini := false) [some (.ref 93), some (.int (nI c)), none] ⟨by decide, rfl, by decide, by decide⟩ (rfl) rfl rfl (fun g hB hC => ?_)
  refine hB bX11_nextDate_0 _ _ _ _ _ _ _ kX11_nextDate_0 ?_
  dsimp only [bX11_nextDate_0, kx_wp, kx_step, kx_lI, kx_lL, kx_lA, kx_gl, kx_pI, kx_pL, kx_pR, kx_pA, kx_pV, kx_s1, kx_s2, kx_sl, kx_pre, kx_c2, kx_pl, kx_cmp, kx_oF, kx_eqN, kx_nil, kx_c1, kx_ft, kx_aI, kx_aL, kx_aR, kx_ln, Nat.reduceAdd, Option.toList, List.cons_append, List.nil_append, mW_o, mf_35, m_112, mf_3, mf_34, m_111]
  repeat (simp only [ms_112, ms_111, nI_clamp (show c < 2 ^ 31 by omega), va_up]; try dsimp only [kx_wp, kx_step, kx_lI, kx_lL, kx_lA, kx_gl, kx_pI, kx_pL, kx_pR, kx_pA, kx_pV, kx_s1, kx_s2, kx_sl, kx_pre, kx_c2, kx_pl, kx_cmp, kx_oF, kx_eqN, kx_nil, kx_c1, kx_ft, kx_aI, kx_aL, kx_aR, kx_ln, Nat.reduceAdd, Option.toList, List.cons_append, List.nil_append, mW_o, mf_35, m_112, mf_3, mf_34, m_111])
  repeat' apply And.intro
  all_goals try (first | with_reducible assumption | (with_reducible refine ck_nzI ?_; simp; done) | (with_reducible refine ck_nzL ?_; simp; done) | (with_reducible refine vp_in_nI ?_ ?_ <;> first | omega | decide) | (with_reducible refine Nat.le_of_ble_eq_true ?_; rfl) | omega)
  refine hC.1 365 _ _ _ _ _ _ _ 11 _ _ _ _ _ _ _ _ _ _ _ _ lX11_365 (ct_X11_its l G (c := c) (w := 13) hc (by decide)) ⟨by decide, rfl⟩ (mW_o) rfl rfl (Nat.le_of_ble_eq_true rfl) (by decide) (by decide) (by omega) (by omega) dX11_nextDate_4 ?_
  refine hB bX11_nextDate_7 _ _ _ _ _ _ _ kX11_nextDate_7 ?_
  dsimp only [bX11_nextDate_7, kx_wp, kx_step, kx_lI, kx_lL, kx_lA, kx_gl, kx_pI, kx_pL, kx_pR, kx_pA, kx_pV, kx_s1, kx_s2, kx_sl, kx_pre, kx_c2, kx_pl, kx_cmp, kx_oF, kx_eqN, kx_nil, kx_c1, kx_ft, kx_aI, kx_aL, kx_aR, kx_ln, Nat.reduceAdd, Option.toList, List.cons_append, List.nil_append, mW_o, mf_35, m_112, mf_3, mf_34, m_111]
  repeat (simp only [ms_112, ms_111, nI_clamp (show c < 2 ^ 31 by omega), va_up]; try dsimp only [kx_wp, kx_step, kx_lI, kx_lL, kx_lA, kx_gl, kx_pI, kx_pL, kx_pR, kx_pA, kx_pV, kx_s1, kx_s2, kx_sl, kx_pre, kx_c2, kx_pl, kx_cmp, kx_oF, kx_eqN, kx_nil, kx_c1, kx_ft, kx_aI, kx_aL, kx_aR, kx_ln, Nat.reduceAdd, Option.toList, List.cons_append, List.nil_append, mW_o, mf_35, m_112, mf_3, mf_34, m_111])
  repeat' apply And.intro
  all_goals try (first | with_reducible assumption | (with_reducible refine ck_nzI ?_; simp; done) | (with_reducible refine ck_nzL ?_; simp; done) | (with_reducible refine vp_in_nI ?_ ?_ <;> first | omega | decide) | (with_reducible refine Nat.le_of_ble_eq_true ?_; rfl) | omega)
  · intro c7
    refine hB bX11_nextDate_15 _ _ _ _ _ _ _ kX11_nextDate_15 ?_
    dsimp only [bX11_nextDate_15, kx_wp, kx_step, kx_lI, kx_lL, kx_lA, kx_gl, kx_pI, kx_pL, kx_pR, kx_pA, kx_pV, kx_s1, kx_s2, kx_sl, kx_pre, kx_c2, kx_pl, kx_cmp, kx_oF, kx_eqN, kx_nil, kx_c1, kx_ft, kx_aI, kx_aL, kx_aR, kx_ln, Nat.reduceAdd, Option.toList, List.cons_append, List.nil_append, mW_o, mf_35, m_112, mf_3, mf_34, m_111]
    repeat (simp only [ms_112, ms_111, nI_clamp (show c < 2 ^ 31 by omega), va_up]; try dsimp only [kx_wp, kx_step, kx_lI, kx_lL, kx_lA, kx_gl, kx_pI, kx_pL, kx_pR, kx_pA, kx_pV, kx_s1, kx_s2, kx_sl, kx_pre, kx_c2, kx_pl, kx_cmp, kx_oF, kx_eqN, kx_nil, kx_c1, kx_ft, kx_aI, kx_aL, kx_aR, kx_ln, Nat.reduceAdd, Option.toList, List.cons_append, List.nil_append, mW_o, mf_35, m_112, mf_3, mf_34, m_111])
    repeat' apply And.intro
    all_goals try (first | with_reducible assumption | (with_reducible refine ck_nzI ?_; simp; done) | (with_reducible refine ck_nzL ?_; simp; done) | (with_reducible refine vp_in_nI ?_ ?_ <;> first | omega | decide) | (with_reducible refine Nat.le_of_ble_eq_true ?_; rfl) | omega)
    refine hC.1 365 _ _ _ _ _ _ _ 11 _ _ _ _ _ _ _ _ _ _ _ _ lX11_365 (ct_X11_its l G (c := c) (w := 13) hc (by decide)) ⟨by decide, rfl⟩ (mW_o) rfl rfl (Nat.le_of_ble_eq_true rfl) (by decide) (by decide) (by omega) (by omega) dX11_nextDate_26 ?_
    refine hB bX11_nextDate_29 _ _ _ _ _ _ _ kX11_nextDate_29 ?_
    dsimp only [bX11_nextDate_29, kx_wp, kx_step, kx_lI, kx_lL, kx_lA, kx_gl, kx_pI, kx_pL, kx_pR, kx_pA, kx_pV, kx_s1, kx_s2, kx_sl, kx_pre, kx_c2, kx_pl, kx_cmp, kx_oF, kx_eqN, kx_nil, kx_c1, kx_ft, kx_aI, kx_aL, kx_aR, kx_ln, Nat.reduceAdd, Option.toList, List.cons_append, List.nil_append, mW_o, mf_35, m_112, mf_3, mf_34, m_111]
    repeat (simp only [ms_112, ms_111, nI_clamp (show c < 2 ^ 31 by omega), va_up]; try dsimp only [kx_wp, kx_step, kx_lI, kx_lL, kx_lA, kx_gl, kx_pI, kx_pL, kx_pR, kx_pA, kx_pV, kx_s1, kx_s2, kx_sl, kx_pre, kx_c2, kx_pl, kx_cmp, kx_oF, kx_eqN, kx_nil, kx_c1, kx_ft, kx_aI, kx_aL, kx_aR, kx_ln, Nat.reduceAdd, Option.toList, List.cons_append, List.nil_append, mW_o, mf_35, m_112, mf_3, mf_34, m_111])
    repeat' apply And.intro
    all_goals try (first | with_reducible assumption | (with_reducible refine ck_nzI ?_; simp; done) | (with_reducible refine ck_nzL ?_; simp; done) | (with_reducible refine vp_in_nI ?_ ?_ <;> first | omega | decide) | (with_reducible refine Nat.le_of_ble_eq_true ?_; rfl) | omega)
    · intro c30
      refine hB bX11_nextDate_44 _ _ _ _ _ _ _ kX11_nextDate_44 ?_
      dsimp only [bX11_nextDate_44, kx_wp, kx_step, kx_lI, kx_lL, kx_lA, kx_gl, kx_pI, kx_pL, kx_pR, kx_pA, kx_pV, kx_s1, kx_s2, kx_sl, kx_pre, kx_c2, kx_pl, kx_cmp, kx_oF, kx_eqN, kx_nil, kx_c1, kx_ft, kx_aI, kx_aL, kx_aR, kx_ln, Nat.reduceAdd, Option.toList, List.cons_append, List.nil_append, mW_o, mf_35, m_112, mf_3, mf_34, m_111]
      repeat (simp only [ms_112, ms_111, nI_clamp (show c < 2 ^ 31 by omega), va_up]; try dsimp only [kx_wp, kx_step, kx_lI, kx_lL, kx_lA, kx_gl, kx_pI, kx_pL, kx_pR, kx_pA, kx_pV, kx_s1, kx_s2, kx_sl, kx_pre, kx_c2, kx_pl, kx_cmp, kx_oF, kx_eqN, kx_nil, kx_c1, kx_ft, kx_aI, kx_aL, kx_aR, kx_ln, Nat.reduceAdd, Option.toList, List.cons_append, List.nil_append, mW_o, mf_35, m_112, mf_3, mf_34, m_111])
      repeat' apply And.intro
      all_goals try (first | with_reducible assumption | (with_reducible refine ck_nzI ?_; simp; done) | (with_reducible refine ck_nzL ?_; simp; done) | (with_reducible refine vp_in_nI ?_ ?_ <;> first | omega | decide) | (with_reducible refine Nat.le_of_ble_eq_true ?_; rfl) | omega)
      refine hC.1 185 _ _ _ _ _ _ _ 11 _ _ _ _ _ _ _ _ _ _ _ _ lX11_185 (ct_X11_lastDate l G) ⟨by decide, rfl⟩ (mW_o) rfl rfl (Nat.le_of_ble_eq_true rfl) (by decide) (by decide) (by omega) (by omega) dX11_nextDate_45 ?_
      refine hB bX11_nextDate_48 _ _ _ _ _ _ _ kX11_nextDate_48 ?_
      dsimp only [bX11_nextDate_48, kx_wp, kx_step, kx_lI, kx_lL, kx_lA, kx_gl, kx_pI, kx_pL, kx_pR, kx_pA, kx_pV, kx_s1, kx_s2, kx_sl, kx_pre, kx_c2, kx_pl, kx_cmp, kx_oF, kx_eqN, kx_nil, kx_c1, kx_ft, kx_aI, kx_aL, kx_aR, kx_ln, Nat.reduceAdd, Option.toList, List.cons_append, List.nil_append, mW_o, mf_35, m_112, mf_3, mf_34, m_111]
      repeat (simp only [ms_112, ms_111, nI_clamp (show c < 2 ^ 31 by omega), va_up]; try dsimp only [kx_wp, kx_step, kx_lI, kx_lL, kx_lA, kx_gl, kx_pI, kx_pL, kx_pR, kx_pA, kx_pV, kx_s1, kx_s2, kx_sl, kx_pre, kx_c2, kx_pl, kx_cmp, kx_oF, kx_eqN, kx_nil, kx_c1, kx_ft, kx_aI, kx_aL, kx_aR, kx_ln, Nat.reduceAdd, Option.toList, List.cons_append, List.nil_append, mW_o, mf_35, m_112, mf_3, mf_34, m_111])
      repeat' apply And.intro
      all_goals try (first | with_reducible assumption | (with_reducible refine ck_nzI ?_; simp; done) | (with_reducible refine ck_nzL ?_; simp; done) | (with_reducible refine vp_in_nI ?_ ?_ <;> first | omega | decide) | (with_reducible refine Nat.le_of_ble_eq_true ?_; rfl) | omega)
      · intro c56
        refine hB bX11_nextDate_72 _ _ _ _ _ _ _ kX11_nextDate_72 ?_
        dsimp only [bX11_nextDate_72, kx_wp, kx_step, kx_lI, kx_lL, kx_lA, kx_gl, kx_pI, kx_pL, kx_pR, kx_pA, kx_pV, kx_s1, kx_s2, kx_sl, kx_pre, kx_c2, kx_pl, kx_cmp, kx_oF, kx_eqN, kx_nil, kx_c1, kx_ft, kx_aI, kx_aL, kx_aR, kx_ln, Nat.reduceAdd, Option.toList, List.cons_append, List.nil_append, mW_o, mf_35, m_112, mf_3, mf_34, m_111]
        repeat (simp only [ms_112, ms_111, nI_clamp (show c < 2 ^ 31 by omega), va_up]; try dsimp only [kx_wp, kx_step, kx_lI, kx_lL, kx_lA, kx_gl, kx_pI, kx_pL, kx_pR, kx_pA, kx_pV, kx_s1, kx_s2, kx_sl, kx_pre, kx_c2, kx_pl, kx_cmp, kx_oF, kx_eqN, kx_nil, kx_c1, kx_ft, kx_aI, kx_aL, kx_aR, kx_ln, Nat.reduceAdd, Option.toList, List.cons_append, List.nil_append, mW_o, mf_35, m_112, mf_3, mf_34, m_111])
        repeat' apply And.intro
        all_goals try (first | with_reducible assumption | (with_reducible refine ck_nzI ?_; simp; done) | (with_reducible refine ck_nzL ?_; simp; done) | (with_reducible refine vp_in_nI ?_ ?_ <;> first | omega | decide) | (with_reducible refine Nat.le_of_ble_eq_true ?_; rfl) | omega)
        refine hB bX11_nextDate_96 _ _ _ _ _ _ _ kX11_nextDate_96 ?_
        dsimp only [bX11_nextDate_96, kx_wp, kx_step, kx_lI, kx_lL, kx_lA, kx_gl, kx_pI, kx_pL, kx_pR, kx_pA, kx_pV, kx_s1, kx_s2, kx_sl, kx_pre, kx_c2, kx_pl, kx_cmp, kx_oF, kx_eqN, kx_nil, kx_c1, kx_ft, kx_aI, kx_aL, kx_aR, kx_ln, Nat.reduceAdd, Option.toList, List.cons_append, List.nil_append, mW_o, mf_35, m_112, mf_3, mf_34, m_111]
        repeat (simp only [ms_112, ms_111, nI_clamp (show c < 2 ^ 31 by omega), va_up]; try dsimp only [kx_wp, kx_step, kx_lI, kx_lL, kx_lA, kx_gl, kx_pI, kx_pL, kx_pR, kx_pA, kx_pV, kx_s1, kx_s2, kx_sl, kx_pre, kx_c2, kx_pl, kx_cmp, kx_oF, kx_eqN, kx_nil, kx_c1, kx_ft, kx_aI, kx_aL, kx_aR, kx_ln, Nat.reduceAdd, Option.toList, List.cons_append, List.nil_append, mW_o, mf_35, m_112, mf_3, mf_34, m_111])
        all_goals (repeat' apply And.intro)
        all_goals ((try clear hB hC); first | exact True.intro | with_reducible rfl | (with_reducible refine vp_in_nI ?_ ?_ <;> first | omega | decide) | (with_reducible refine ck_nzI ?_; simp; done) | (with_reducible refine ck_nzL ?_; simp; done) | (simp_all [ck_nextA, ck_cal, va_up, ← Int32.not_le]; done))
      · intro c56
        refine hB bX11_nextDate_59 _ _ _ _ _ _ _ kX11_nextDate_59 ?_
        dsimp only [bX11_nextDate_59, kx_wp, kx_step, kx_lI, kx_lL, kx_lA, kx_gl, kx_pI, kx_pL, kx_pR, kx_pA, kx_pV, kx_s1, kx_s2, kx_sl, kx_pre, kx_c2, kx_pl, kx_cmp, kx_oF, kx_eqN, kx_nil, kx_c1, kx_ft, kx_aI, kx_aL, kx_aR, kx_ln, Nat.reduceAdd, Option.toList, List.cons_append, List.nil_append, mW_o, mf_35, m_112, mf_3, mf_34, m_111]
        repeat (simp only [ms_112, ms_111, nI_clamp (show c < 2 ^ 31 by omega), va_up]; try dsimp only [kx_wp, kx_step, kx_lI, kx_lL, kx_lA, kx_gl, kx_pI, kx_pL, kx_pR, kx_pA, kx_pV, kx_s1, kx_s2, kx_sl, kx_pre, kx_c2, kx_pl, kx_cmp, kx_oF, kx_eqN, kx_nil, kx_c1, kx_ft, kx_aI, kx_aL, kx_aR, kx_ln, Nat.reduceAdd, Option.toList, List.cons_append, List.nil_append, mW_o, mf_35, m_112, mf_3, mf_34, m_111])
        repeat' apply And.intro
        all_goals try (first | with_reducible assumption | (with_reducible refine ck_nzI ?_; simp; done) | (with_reducible refine ck_nzL ?_; simp; done) | (with_reducible refine vp_in_nI ?_ ?_ <;> first | omega | decide) | (with_reducible refine Nat.le_of_ble_eq_true ?_; rfl) | omega)
        refine hB bX11_nextDate_96 _ _ _ _ _ _ _ kX11_nextDate_96 ?_
        dsimp only [bX11_nextDate_96, kx_wp, kx_step, kx_lI, kx_lL, kx_lA, kx_gl, kx_pI, kx_pL, kx_pR, kx_pA, kx_pV, kx_s1, kx_s2, kx_sl, kx_pre, kx_c2, kx_pl, kx_cmp, kx_oF, kx_eqN, kx_nil, kx_c1, kx_ft, kx_aI, kx_aL, kx_aR, kx_ln, Nat.reduceAdd, Option.toList, List.cons_append, List.nil_append, mW_o, mf_35, m_112, mf_3, mf_34, m_111]
        repeat (simp only [ms_112, ms_111, nI_clamp (show c < 2 ^ 31 by omega), va_up]; try dsimp only [kx_wp, kx_step, kx_lI, kx_lL, kx_lA, kx_gl, kx_pI, kx_pL, kx_pR, kx_pA, kx_pV, kx_s1, kx_s2, kx_sl, kx_pre, kx_c2, kx_pl, kx_cmp, kx_oF, kx_eqN, kx_nil, kx_c1, kx_ft, kx_aI, kx_aL, kx_aR, kx_ln, Nat.reduceAdd, Option.toList, List.cons_append, List.nil_append, mW_o, mf_35, m_112, mf_3, mf_34, m_111])
        all_goals (repeat' apply And.intro)
        all_goals ((try clear hB hC); first | exact True.intro | with_reducible rfl | (with_reducible refine vp_in_nI ?_ ?_ <;> first | omega | decide) | (with_reducible refine ck_nzI ?_; simp; done) | (with_reducible refine ck_nzL ?_; simp; done) | (simp_all [ck_nextA, ck_cal, va_up, ← Int32.not_le]; done))
    · intro c30
      refine hB bX11_nextDate_33 _ _ _ _ _ _ _ kX11_nextDate_33 ?_
      dsimp only [bX11_nextDate_33, kx_wp, kx_step, kx_lI, kx_lL, kx_lA, kx_gl, kx_pI, kx_pL, kx_pR, kx_pA, kx_pV, kx_s1, kx_s2, kx_sl, kx_pre, kx_c2, kx_pl, kx_cmp, kx_oF, kx_eqN, kx_nil, kx_c1, kx_ft, kx_aI, kx_aL, kx_aR, kx_ln, Nat.reduceAdd, Option.toList, List.cons_append, List.nil_append, mW_o, mf_35, m_112, mf_3, mf_34, m_111]
      repeat (simp only [ms_112, ms_111, nI_clamp (show c < 2 ^ 31 by omega), va_up]; try dsimp only [kx_wp, kx_step, kx_lI, kx_lL, kx_lA, kx_gl, kx_pI, kx_pL, kx_pR, kx_pA, kx_pV, kx_s1, kx_s2, kx_sl, kx_pre, kx_c2, kx_pl, kx_cmp, kx_oF, kx_eqN, kx_nil, kx_c1, kx_ft, kx_aI, kx_aL, kx_aR, kx_ln, Nat.reduceAdd, Option.toList, List.cons_append, List.nil_append, mW_o, mf_35, m_112, mf_3, mf_34, m_111])
      repeat' apply And.intro
      all_goals try (first | with_reducible assumption | (with_reducible refine ck_nzI ?_; simp; done) | (with_reducible refine ck_nzL ?_; simp; done) | (with_reducible refine vp_in_nI ?_ ?_ <;> first | omega | decide) | (with_reducible refine Nat.le_of_ble_eq_true ?_; rfl) | omega)
      · intro c37
        refine hB bX11_nextDate_44 _ _ _ _ _ _ _ kX11_nextDate_44 ?_
        dsimp only [bX11_nextDate_44, kx_wp, kx_step, kx_lI, kx_lL, kx_lA, kx_gl, kx_pI, kx_pL, kx_pR, kx_pA, kx_pV, kx_s1, kx_s2, kx_sl, kx_pre, kx_c2, kx_pl, kx_cmp, kx_oF, kx_eqN, kx_nil, kx_c1, kx_ft, kx_aI, kx_aL, kx_aR, kx_ln, Nat.reduceAdd, Option.toList, List.cons_append, List.nil_append, mW_o, mf_35, m_112, mf_3, mf_34, m_111]
        repeat (simp only [ms_112, ms_111, nI_clamp (show c < 2 ^ 31 by omega), va_up]; try dsimp only [kx_wp, kx_step, kx_lI, kx_lL, kx_lA, kx_gl, kx_pI, kx_pL, kx_pR, kx_pA, kx_pV, kx_s1, kx_s2, kx_sl, kx_pre, kx_c2, kx_pl, kx_cmp, kx_oF, kx_eqN, kx_nil, kx_c1, kx_ft, kx_aI, kx_aL, kx_aR, kx_ln, Nat.reduceAdd, Option.toList, List.cons_append, List.nil_append, mW_o, mf_35, m_112, mf_3, mf_34, m_111])
        repeat' apply And.intro
        all_goals try (first | with_reducible assumption | (with_reducible refine ck_nzI ?_; simp; done) | (with_reducible refine ck_nzL ?_; simp; done) | (with_reducible refine vp_in_nI ?_ ?_ <;> first | omega | decide) | (with_reducible refine Nat.le_of_ble_eq_true ?_; rfl) | omega)
        refine hC.1 185 _ _ _ _ _ _ _ 11 _ _ _ _ _ _ _ _ _ _ _ _ lX11_185 (ct_X11_lastDate l G) ⟨by decide, rfl⟩ (mW_o) rfl rfl (Nat.le_of_ble_eq_true rfl) (by decide) (by decide) (by omega) (by omega) dX11_nextDate_45 ?_
        refine hB bX11_nextDate_48 _ _ _ _ _ _ _ kX11_nextDate_48 ?_
        dsimp only [bX11_nextDate_48, kx_wp, kx_step, kx_lI, kx_lL, kx_lA, kx_gl, kx_pI, kx_pL, kx_pR, kx_pA, kx_pV, kx_s1, kx_s2, kx_sl, kx_pre, kx_c2, kx_pl, kx_cmp, kx_oF, kx_eqN, kx_nil, kx_c1, kx_ft, kx_aI, kx_aL, kx_aR, kx_ln, Nat.reduceAdd, Option.toList, List.cons_append, List.nil_append, mW_o, mf_35, m_112, mf_3, mf_34, m_111]
        repeat (simp only [ms_112, ms_111, nI_clamp (show c < 2 ^ 31 by omega), va_up]; try dsimp only [kx_wp, kx_step, kx_lI, kx_lL, kx_lA, kx_gl, kx_pI, kx_pL, kx_pR, kx_pA, kx_pV, kx_s1, kx_s2, kx_sl, kx_pre, kx_c2, kx_pl, kx_cmp, kx_oF, kx_eqN, kx_nil, kx_c1, kx_ft, kx_aI, kx_aL, kx_aR, kx_ln, Nat.reduceAdd, Option.toList, List.cons_append, List.nil_append, mW_o, mf_35, m_112, mf_3, mf_34, m_111])
        repeat' apply And.intro
        all_goals try (first | with_reducible assumption | (with_reducible refine ck_nzI ?_; simp; done) | (with_reducible refine ck_nzL ?_; simp; done) | (with_reducible refine vp_in_nI ?_ ?_ <;> first | omega | decide) | (with_reducible refine Nat.le_of_ble_eq_true ?_; rfl) | omega)
        · intro c56
          refine hB bX11_nextDate_72 _ _ _ _ _ _ _ kX11_nextDate_72 ?_
          dsimp only [bX11_nextDate_72, kx_wp, kx_step, kx_lI, kx_lL, kx_lA, kx_gl, kx_pI, kx_pL, kx_pR, kx_pA, kx_pV, kx_s1, kx_s2, kx_sl, kx_pre, kx_c2, kx_pl, kx_cmp, kx_oF, kx_eqN, kx_nil, kx_c1, kx_ft, kx_aI, kx_aL, kx_aR, kx_ln, Nat.reduceAdd, Option.toList, List.cons_append, List.nil_append, mW_o, mf_35, m_112, mf_3, mf_34, m_111]
          repeat (simp only [ms_112, ms_111, nI_clamp (show c < 2 ^ 31 by omega), va_up]; try dsimp only [kx_wp, kx_step, kx_lI, kx_lL, kx_lA, kx_gl, kx_pI, kx_pL, kx_pR, kx_pA, kx_pV, kx_s1, kx_s2, kx_sl, kx_pre, kx_c2, kx_pl, kx_cmp, kx_oF, kx_eqN, kx_nil, kx_c1, kx_ft, kx_aI, kx_aL, kx_aR, kx_ln, Nat.reduceAdd, Option.toList, List.cons_append, List.nil_append, mW_o, mf_35, m_112, mf_3, mf_34, m_111])
          repeat' apply And.intro
          all_goals try (first | with_reducible assumption | (with_reducible refine ck_nzI ?_; simp; done) | (with_reducible refine ck_nzL ?_; simp; done) | (with_reducible refine vp_in_nI ?_ ?_ <;> first | omega | decide) | (with_reducible refine Nat.le_of_ble_eq_true ?_; rfl) | omega)
          refine hB bX11_nextDate_96 _ _ _ _ _ _ _ kX11_nextDate_96 ?_
          dsimp only [bX11_nextDate_96, kx_wp, kx_step, kx_lI, kx_lL, kx_lA, kx_gl, kx_pI, kx_pL, kx_pR, kx_pA, kx_pV, kx_s1, kx_s2, kx_sl, kx_pre, kx_c2, kx_pl, kx_cmp, kx_oF, kx_eqN, kx_nil, kx_c1, kx_ft, kx_aI, kx_aL, kx_aR, kx_ln, Nat.reduceAdd, Option.toList, List.cons_append, List.nil_append, mW_o, mf_35, m_112, mf_3, mf_34, m_111]
          repeat (simp only [ms_112, ms_111, nI_clamp (show c < 2 ^ 31 by omega), va_up]; try dsimp only [kx_wp, kx_step, kx_lI, kx_lL, kx_lA, kx_gl, kx_pI, kx_pL, kx_pR, kx_pA, kx_pV, kx_s1, kx_s2, kx_sl, kx_pre, kx_c2, kx_pl, kx_cmp, kx_oF, kx_eqN, kx_nil, kx_c1, kx_ft, kx_aI, kx_aL, kx_aR, kx_ln, Nat.reduceAdd, Option.toList, List.cons_append, List.nil_append, mW_o, mf_35, m_112, mf_3, mf_34, m_111])
          all_goals (repeat' apply And.intro)
          all_goals ((try clear hB hC); first | exact True.intro | with_reducible rfl | (with_reducible refine vp_in_nI ?_ ?_ <;> first | omega | decide) | (with_reducible refine ck_nzI ?_; simp; done) | (with_reducible refine ck_nzL ?_; simp; done) | (simp_all [ck_nextA, ck_cal, va_up, ← Int32.not_le]; done))
        · intro c56
          refine hB bX11_nextDate_59 _ _ _ _ _ _ _ kX11_nextDate_59 ?_
          dsimp only [bX11_nextDate_59, kx_wp, kx_step, kx_lI, kx_lL, kx_lA, kx_gl, kx_pI, kx_pL, kx_pR, kx_pA, kx_pV, kx_s1, kx_s2, kx_sl, kx_pre, kx_c2, kx_pl, kx_cmp, kx_oF, kx_eqN, kx_nil, kx_c1, kx_ft, kx_aI, kx_aL, kx_aR, kx_ln, Nat.reduceAdd, Option.toList, List.cons_append, List.nil_append, mW_o, mf_35, m_112, mf_3, mf_34, m_111]
          repeat (simp only [ms_112, ms_111, nI_clamp (show c < 2 ^ 31 by omega), va_up]; try dsimp only [kx_wp, kx_step, kx_lI, kx_lL, kx_lA, kx_gl, kx_pI, kx_pL, kx_pR, kx_pA, kx_pV, kx_s1, kx_s2, kx_sl, kx_pre, kx_c2, kx_pl, kx_cmp, kx_oF, kx_eqN, kx_nil, kx_c1, kx_ft, kx_aI, kx_aL, kx_aR, kx_ln, Nat.reduceAdd, Option.toList, List.cons_append, List.nil_append, mW_o, mf_35, m_112, mf_3, mf_34, m_111])
          repeat' apply And.intro
          all_goals try (first | with_reducible assumption | (with_reducible refine ck_nzI ?_; simp; done) | (with_reducible refine ck_nzL ?_; simp; done) | (with_reducible refine vp_in_nI ?_ ?_ <;> first | omega | decide) | (with_reducible refine Nat.le_of_ble_eq_true ?_; rfl) | omega)
          refine hB bX11_nextDate_96 _ _ _ _ _ _ _ kX11_nextDate_96 ?_
          dsimp only [bX11_nextDate_96, kx_wp, kx_step, kx_lI, kx_lL, kx_lA, kx_gl, kx_pI, kx_pL, kx_pR, kx_pA, kx_pV, kx_s1, kx_s2, kx_sl, kx_pre, kx_c2, kx_pl, kx_cmp, kx_oF, kx_eqN, kx_nil, kx_c1, kx_ft, kx_aI, kx_aL, kx_aR, kx_ln, Nat.reduceAdd, Option.toList, List.cons_append, List.nil_append, mW_o, mf_35, m_112, mf_3, mf_34, m_111]
          repeat (simp only [ms_112, ms_111, nI_clamp (show c < 2 ^ 31 by omega), va_up]; try dsimp only [kx_wp, kx_step, kx_lI, kx_lL, kx_lA, kx_gl, kx_pI, kx_pL, kx_pR, kx_pA, kx_pV, kx_s1, kx_s2, kx_sl, kx_pre, kx_c2, kx_pl, kx_cmp, kx_oF, kx_eqN, kx_nil, kx_c1, kx_ft, kx_aI, kx_aL, kx_aR, kx_ln, Nat.reduceAdd, Option.toList, List.cons_append, List.nil_append, mW_o, mf_35, m_112, mf_3, mf_34, m_111])
          all_goals (repeat' apply And.intro)
          all_goals ((try clear hB hC); first | exact True.intro | with_reducible rfl | (with_reducible refine vp_in_nI ?_ ?_ <;> first | omega | decide) | (with_reducible refine ck_nzI ?_; simp; done) | (with_reducible refine ck_nzL ?_; simp; done) | (simp_all [ck_nextA, ck_cal, va_up, ← Int32.not_le]; done))
      · intro c37
        refine hB bX11_nextDate_40 _ _ _ _ _ _ _ kX11_nextDate_40 ?_
        dsimp only [bX11_nextDate_40, kx_wp, kx_step, kx_lI, kx_lL, kx_lA, kx_gl, kx_pI, kx_pL, kx_pR, kx_pA, kx_pV, kx_s1, kx_s2, kx_sl, kx_pre, kx_c2, kx_pl, kx_cmp, kx_oF, kx_eqN, kx_nil, kx_c1, kx_ft, kx_aI, kx_aL, kx_aR, kx_ln, Nat.reduceAdd, Option.toList, List.cons_append, List.nil_append, mW_o, mf_35, m_112, mf_3, mf_34, m_111]
        repeat (simp only [ms_112, ms_111, nI_clamp (show c < 2 ^ 31 by omega), va_up]; try dsimp only [kx_wp, kx_step, kx_lI, kx_lL, kx_lA, kx_gl, kx_pI, kx_pL, kx_pR, kx_pA, kx_pV, kx_s1, kx_s2, kx_sl, kx_pre, kx_c2, kx_pl, kx_cmp, kx_oF, kx_eqN, kx_nil, kx_c1, kx_ft, kx_aI, kx_aL, kx_aR, kx_ln, Nat.reduceAdd, Option.toList, List.cons_append, List.nil_append, mW_o, mf_35, m_112, mf_3, mf_34, m_111])
        repeat' apply And.intro
        all_goals try (first | with_reducible assumption | (with_reducible refine ck_nzI ?_; simp; done) | (with_reducible refine ck_nzL ?_; simp; done) | (with_reducible refine vp_in_nI ?_ ?_ <;> first | omega | decide) | (with_reducible refine Nat.le_of_ble_eq_true ?_; rfl) | omega)
        refine hC.1 185 _ _ _ _ _ _ _ 11 _ _ _ _ _ _ _ _ _ _ _ _ lX11_185 (ct_X11_lastDate l G) ⟨by decide, rfl⟩ (mW_o) rfl rfl (Nat.le_of_ble_eq_true rfl) (by decide) (by decide) (by omega) (by omega) dX11_nextDate_45 ?_
        refine hB bX11_nextDate_48 _ _ _ _ _ _ _ kX11_nextDate_48 ?_
        dsimp only [bX11_nextDate_48, kx_wp, kx_step, kx_lI, kx_lL, kx_lA, kx_gl, kx_pI, kx_pL, kx_pR, kx_pA, kx_pV, kx_s1, kx_s2, kx_sl, kx_pre, kx_c2, kx_pl, kx_cmp, kx_oF, kx_eqN, kx_nil, kx_c1, kx_ft, kx_aI, kx_aL, kx_aR, kx_ln, Nat.reduceAdd, Option.toList, List.cons_append, List.nil_append, mW_o, mf_35, m_112, mf_3, mf_34, m_111]
        repeat (simp only [ms_112, ms_111, nI_clamp (show c < 2 ^ 31 by omega), va_up]; try dsimp only [kx_wp, kx_step, kx_lI, kx_lL, kx_lA, kx_gl, kx_pI, kx_pL, kx_pR, kx_pA, kx_pV, kx_s1, kx_s2, kx_sl, kx_pre, kx_c2, kx_pl, kx_cmp, kx_oF, kx_eqN, kx_nil, kx_c1, kx_ft, kx_aI, kx_aL, kx_aR, kx_ln, Nat.reduceAdd, Option.toList, List.cons_append, List.nil_append, mW_o, mf_35, m_112, mf_3, mf_34, m_111])
        repeat' apply And.intro
        all_goals try (first | with_reducible assumption | (with_reducible refine ck_nzI ?_; simp; done) | (with_reducible refine ck_nzL ?_; simp; done) | (with_reducible refine vp_in_nI ?_ ?_ <;> first | omega | decide) | (with_reducible refine Nat.le_of_ble_eq_true ?_; rfl) | omega)
        · intro c56
          refine hB bX11_nextDate_72 _ _ _ _ _ _ _ kX11_nextDate_72 ?_
          dsimp only [bX11_nextDate_72, kx_wp, kx_step, kx_lI, kx_lL, kx_lA, kx_gl, kx_pI, kx_pL, kx_pR, kx_pA, kx_pV, kx_s1, kx_s2, kx_sl, kx_pre, kx_c2, kx_pl, kx_cmp, kx_oF, kx_eqN, kx_nil, kx_c1, kx_ft, kx_aI, kx_aL, kx_aR, kx_ln, Nat.reduceAdd, Option.toList, List.cons_append, List.nil_append, mW_o, mf_35, m_112, mf_3, mf_34, m_111]
          repeat (simp only [ms_112, ms_111, nI_clamp (show c < 2 ^ 31 by omega), va_up]; try dsimp only [kx_wp, kx_step, kx_lI, kx_lL, kx_lA, kx_gl, kx_pI, kx_pL, kx_pR, kx_pA, kx_pV, kx_s1, kx_s2, kx_sl, kx_pre, kx_c2, kx_pl, kx_cmp, kx_oF, kx_eqN, kx_nil, kx_c1, kx_ft, kx_aI, kx_aL, kx_aR, kx_ln, Nat.reduceAdd, Option.toList, List.cons_append, List.nil_append, mW_o, mf_35, m_112, mf_3, mf_34, m_111])
          repeat' apply And.intro
          all_goals try (first | with_reducible assumption | (with_reducible refine ck_nzI ?_; simp; done) | (with_reducible refine ck_nzL ?_; simp; done) | (with_reducible refine vp_in_nI ?_ ?_ <;> first | omega | decide) | (with_reducible refine Nat.le_of_ble_eq_true ?_; rfl) | omega)
          refine hB bX11_nextDate_96 _ _ _ _ _ _ _ kX11_nextDate_96 ?_
          dsimp only [bX11_nextDate_96, kx_wp, kx_step, kx_lI, kx_lL, kx_lA, kx_gl, kx_pI, kx_pL, kx_pR, kx_pA, kx_pV, kx_s1, kx_s2, kx_sl, kx_pre, kx_c2, kx_pl, kx_cmp, kx_oF, kx_eqN, kx_nil, kx_c1, kx_ft, kx_aI, kx_aL, kx_aR, kx_ln, Nat.reduceAdd, Option.toList, List.cons_append, List.nil_append, mW_o, mf_35, m_112, mf_3, mf_34, m_111]
          repeat (simp only [ms_112, ms_111, nI_clamp (show c < 2 ^ 31 by omega), va_up]; try dsimp only [kx_wp, kx_step, kx_lI, kx_lL, kx_lA, kx_gl, kx_pI, kx_pL, kx_pR, kx_pA, kx_pV, kx_s1, kx_s2, kx_sl, kx_pre, kx_c2, kx_pl, kx_cmp, kx_oF, kx_eqN, kx_nil, kx_c1, kx_ft, kx_aI, kx_aL, kx_aR, kx_ln, Nat.reduceAdd, Option.toList, List.cons_append, List.nil_append, mW_o, mf_35, m_112, mf_3, mf_34, m_111])
          all_goals (repeat' apply And.intro)
          all_goals ((try clear hB hC); first | exact True.intro | with_reducible rfl | (with_reducible refine vp_in_nI ?_ ?_ <;> first | omega | decide) | (with_reducible refine ck_nzI ?_; simp; done) | (with_reducible refine ck_nzL ?_; simp; done) | (simp_all [ck_nextA, ck_cal, va_up, ← Int32.not_le]; done))
        · intro c56
          refine hB bX11_nextDate_59 _ _ _ _ _ _ _ kX11_nextDate_59 ?_
          dsimp only [bX11_nextDate_59, kx_wp, kx_step, kx_lI, kx_lL, kx_lA, kx_gl, kx_pI, kx_pL, kx_pR, kx_pA, kx_pV, kx_s1, kx_s2, kx_sl, kx_pre, kx_c2, kx_pl, kx_cmp, kx_oF, kx_eqN, kx_nil, kx_c1, kx_ft, kx_aI, kx_aL, kx_aR, kx_ln, Nat.reduceAdd, Option.toList, List.cons_append, List.nil_append, mW_o, mf_35, m_112, mf_3, mf_34, m_111]
          repeat (simp only [ms_112, ms_111, nI_clamp (show c < 2 ^ 31 by omega), va_up]; try dsimp only [kx_wp, kx_step, kx_lI, kx_lL, kx_lA, kx_gl, kx_pI, kx_pL, kx_pR, kx_pA, kx_pV, kx_s1, kx_s2, kx_sl, kx_pre, kx_c2, kx_pl, kx_cmp, kx_oF, kx_eqN, kx_nil, kx_c1, kx_ft, kx_aI, kx_aL, kx_aR, kx_ln, Nat.reduceAdd, Option.toList, List.cons_append, List.nil_append, mW_o, mf_35, m_112, mf_3, mf_34, m_111])
          repeat' apply And.intro
          all_goals try (first | with_reducible assumption | (with_reducible refine ck_nzI ?_; simp; done) | (with_reducible refine ck_nzL ?_; simp; done) | (with_reducible refine vp_in_nI ?_ ?_ <;> first | omega | decide) | (with_reducible refine Nat.le_of_ble_eq_true ?_; rfl) | omega)
          refine hB bX11_nextDate_96 _ _ _ _ _ _ _ kX11_nextDate_96 ?_
          dsimp only [bX11_nextDate_96, kx_wp, kx_step, kx_lI, kx_lL, kx_lA, kx_gl, kx_pI, kx_pL, kx_pR, kx_pA, kx_pV, kx_s1, kx_s2, kx_sl, kx_pre, kx_c2, kx_pl, kx_cmp, kx_oF, kx_eqN, kx_nil, kx_c1, kx_ft, kx_aI, kx_aL, kx_aR, kx_ln, Nat.reduceAdd, Option.toList, List.cons_append, List.nil_append, mW_o, mf_35, m_112, mf_3, mf_34, m_111]
          repeat (simp only [ms_112, ms_111, nI_clamp (show c < 2 ^ 31 by omega), va_up]; try dsimp only [kx_wp, kx_step, kx_lI, kx_lL, kx_lA, kx_gl, kx_pI, kx_pL, kx_pR, kx_pA, kx_pV, kx_s1, kx_s2, kx_sl, kx_pre, kx_c2, kx_pl, kx_cmp, kx_oF, kx_eqN, kx_nil, kx_c1, kx_ft, kx_aI, kx_aL, kx_aR, kx_ln, Nat.reduceAdd, Option.toList, List.cons_append, List.nil_append, mW_o, mf_35, m_112, mf_3, mf_34, m_111])
          all_goals (repeat' apply And.intro)
          all_goals ((try clear hB hC); first | exact True.intro | with_reducible rfl | (with_reducible refine vp_in_nI ?_ ?_ <;> first | omega | decide) | (with_reducible refine ck_nzI ?_; simp; done) | (with_reducible refine ck_nzL ?_; simp; done) | (simp_all [ck_nextA, ck_cal, va_up, ← Int32.not_le]; done))
  · intro c7
    refine hB bX11_nextDate_10 _ _ _ _ _ _ _ kX11_nextDate_10 ?_
    dsimp only [bX11_nextDate_10, kx_wp, kx_step, kx_lI, kx_lL, kx_lA, kx_gl, kx_pI, kx_pL, kx_pR, kx_pA, kx_pV, kx_s1, kx_s2, kx_sl, kx_pre, kx_c2, kx_pl, kx_cmp, kx_oF, kx_eqN, kx_nil, kx_c1, kx_ft, kx_aI, kx_aL, kx_aR, kx_ln, Nat.reduceAdd, Option.toList, List.cons_append, List.nil_append, mW_o, mf_35, m_112, mf_3, mf_34, m_111]
    repeat (simp only [ms_112, ms_111, nI_clamp (show c < 2 ^ 31 by omega), va_up]; try dsimp only [kx_wp, kx_step, kx_lI, kx_lL, kx_lA, kx_gl, kx_pI, kx_pL, kx_pR, kx_pA, kx_pV, kx_s1, kx_s2, kx_sl, kx_pre, kx_c2, kx_pl, kx_cmp, kx_oF, kx_eqN, kx_nil, kx_c1, kx_ft, kx_aI, kx_aL, kx_aR, kx_ln, Nat.reduceAdd, Option.toList, List.cons_append, List.nil_append, mW_o, mf_35, m_112, mf_3, mf_34, m_111])
    repeat' apply And.intro
    all_goals try (first | with_reducible assumption | (with_reducible refine ck_nzI ?_; simp; done) | (with_reducible refine ck_nzL ?_; simp; done) | (with_reducible refine vp_in_nI ?_ ?_ <;> first | omega | decide) | (with_reducible refine Nat.le_of_ble_eq_true ?_; rfl) | omega)
    refine hB bX11_nextDate_48 _ _ _ _ _ _ _ kX11_nextDate_48 ?_
    dsimp only [bX11_nextDate_48, kx_wp, kx_step, kx_lI, kx_lL, kx_lA, kx_gl, kx_pI, kx_pL, kx_pR, kx_pA, kx_pV, kx_s1, kx_s2, kx_sl, kx_pre, kx_c2, kx_pl, kx_cmp, kx_oF, kx_eqN, kx_nil, kx_c1, kx_ft, kx_aI, kx_aL, kx_aR, kx_ln, Nat.reduceAdd, Option.toList, List.cons_append, List.nil_append, mW_o, mf_35, m_112, mf_3, mf_34, m_111]
    repeat (simp only [ms_112, ms_111, nI_clamp (show c < 2 ^ 31 by omega), va_up]; try dsimp only [kx_wp, kx_step, kx_lI, kx_lL, kx_lA, kx_gl, kx_pI, kx_pL, kx_pR, kx_pA, kx_pV, kx_s1, kx_s2, kx_sl, kx_pre, kx_c2, kx_pl, kx_cmp, kx_oF, kx_eqN, kx_nil, kx_c1, kx_ft, kx_aI, kx_aL, kx_aR, kx_ln, Nat.reduceAdd, Option.toList, List.cons_append, List.nil_append, mW_o, mf_35, m_112, mf_3, mf_34, m_111])
    repeat' apply And.intro
    all_goals try (first | with_reducible assumption | (with_reducible refine ck_nzI ?_; simp; done) | (with_reducible refine ck_nzL ?_; simp; done) | (with_reducible refine vp_in_nI ?_ ?_ <;> first | omega | decide) | (with_reducible refine Nat.le_of_ble_eq_true ?_; rfl) | omega)
    · intro c56
      refine hB bX11_nextDate_72 _ _ _ _ _ _ _ kX11_nextDate_72 ?_
      dsimp only [bX11_nextDate_72, kx_wp, kx_step, kx_lI, kx_lL, kx_lA, kx_gl, kx_pI, kx_pL, kx_pR, kx_pA, kx_pV, kx_s1, kx_s2, kx_sl, kx_pre, kx_c2, kx_pl, kx_cmp, kx_oF, kx_eqN, kx_nil, kx_c1, kx_ft, kx_aI, kx_aL, kx_aR, kx_ln, Nat.reduceAdd, Option.toList, List.cons_append, List.nil_append, mW_o, mf_35, m_112, mf_3, mf_34, m_111]
      repeat (simp only [ms_112, ms_111, nI_clamp (show c < 2 ^ 31 by omega), va_up]; try dsimp only [kx_wp, kx_step, kx_lI, kx_lL, kx_lA, kx_gl, kx_pI, kx_pL, kx_pR, kx_pA, kx_pV, kx_s1, kx_s2, kx_sl, kx_pre, kx_c2, kx_pl, kx_cmp, kx_oF, kx_eqN, kx_nil, kx_c1, kx_ft, kx_aI, kx_aL, kx_aR, kx_ln, Nat.reduceAdd, Option.toList, List.cons_append, List.nil_append, mW_o, mf_35, m_112, mf_3, mf_34, m_111])
      repeat' apply And.intro
      all_goals try (first | with_reducible assumption | (with_reducible refine ck_nzI ?_; simp; done) | (with_reducible refine ck_nzL ?_; simp; done) | (with_reducible refine vp_in_nI ?_ ?_ <;> first | omega | decide) | (with_reducible refine Nat.le_of_ble_eq_true ?_; rfl) | omega)
      refine hB bX11_nextDate_96 _ _ _ _ _ _ _ kX11_nextDate_96 ?_
      dsimp only [bX11_nextDate_96, kx_wp, kx_step, kx_lI, kx_lL, kx_lA, kx_gl, kx_pI, kx_pL, kx_pR, kx_pA, kx_pV, kx_s1, kx_s2, kx_sl, kx_pre, kx_c2, kx_pl, kx_cmp, kx_oF, kx_eqN, kx_nil, kx_c1, kx_ft, kx_aI, kx_aL, kx_aR, kx_ln, Nat.reduceAdd, Option.toList, List.cons_append, List.nil_append, mW_o, mf_35, m_112, mf_3, mf_34, m_111]
      repeat (simp only [ms_112, ms_111, nI_clamp (show c < 2 ^ 31 by omega), va_up]; try dsimp only [kx_wp, kx_step, kx_lI, kx_lL, kx_lA, kx_gl, kx_pI, kx_pL, kx_pR, kx_pA, kx_pV, kx_s1, kx_s2, kx_sl, kx_pre, kx_c2, kx_pl, kx_cmp, kx_oF, kx_eqN, kx_nil, kx_c1, kx_ft, kx_aI, kx_aL, kx_aR, kx_ln, Nat.reduceAdd, Option.toList, List.cons_append, List.nil_append, mW_o, mf_35, m_112, mf_3, mf_34, m_111])
      all_goals (repeat' apply And.intro)
      all_goals ((try clear hB hC); first | exact True.intro | with_reducible rfl | (with_reducible refine vp_in_nI ?_ ?_ <;> first | omega | decide) | (with_reducible refine ck_nzI ?_; simp; done) | (with_reducible refine ck_nzL ?_; simp; done) | (simp_all [ck_nextA, ck_cal, va_up, ← Int32.not_le]; done))
    · intro c56
      refine hB bX11_nextDate_59 _ _ _ _ _ _ _ kX11_nextDate_59 ?_
      dsimp only [bX11_nextDate_59, kx_wp, kx_step, kx_lI, kx_lL, kx_lA, kx_gl, kx_pI, kx_pL, kx_pR, kx_pA, kx_pV, kx_s1, kx_s2, kx_sl, kx_pre, kx_c2, kx_pl, kx_cmp, kx_oF, kx_eqN, kx_nil, kx_c1, kx_ft, kx_aI, kx_aL, kx_aR, kx_ln, Nat.reduceAdd, Option.toList, List.cons_append, List.nil_append, mW_o, mf_35, m_112, mf_3, mf_34, m_111]
      repeat (simp only [ms_112, ms_111, nI_clamp (show c < 2 ^ 31 by omega), va_up]; try dsimp only [kx_wp, kx_step, kx_lI, kx_lL, kx_lA, kx_gl, kx_pI, kx_pL, kx_pR, kx_pA, kx_pV, kx_s1, kx_s2, kx_sl, kx_pre, kx_c2, kx_pl, kx_cmp, kx_oF, kx_eqN, kx_nil, kx_c1, kx_ft, kx_aI, kx_aL, kx_aR, kx_ln, Nat.reduceAdd, Option.toList, List.cons_append, List.nil_append, mW_o, mf_35, m_112, mf_3, mf_34, m_111])
      repeat' apply And.intro
      all_goals try (first | with_reducible assumption | (with_reducible refine ck_nzI ?_; simp; done) | (with_reducible refine ck_nzL ?_; simp; done) | (with_reducible refine vp_in_nI ?_ ?_ <;> first | omega | decide) | (with_reducible refine Nat.le_of_ble_eq_true ?_; rfl) | omega)
      refine hB bX11_nextDate_96 _ _ _ _ _ _ _ kX11_nextDate_96 ?_
      dsimp only [bX11_nextDate_96, kx_wp, kx_step, kx_lI, kx_lL, kx_lA, kx_gl, kx_pI, kx_pL, kx_pR, kx_pA, kx_pV, kx_s1, kx_s2, kx_sl, kx_pre, kx_c2, kx_pl, kx_cmp, kx_oF, kx_eqN, kx_nil, kx_c1, kx_ft, kx_aI, kx_aL, kx_aR, kx_ln, Nat.reduceAdd, Option.toList, List.cons_append, List.nil_append, mW_o, mf_35, m_112, mf_3, mf_34, m_111]
      repeat (simp only [ms_112, ms_111, nI_clamp (show c < 2 ^ 31 by omega), va_up]; try dsimp only [kx_wp, kx_step, kx_lI, kx_lL, kx_lA, kx_gl, kx_pI, kx_pL, kx_pR, kx_pA, kx_pV, kx_s1, kx_s2, kx_sl, kx_pre, kx_c2, kx_pl, kx_cmp, kx_oF, kx_eqN, kx_nil, kx_c1, kx_ft, kx_aI, kx_aL, kx_aR, kx_ln, Nat.reduceAdd, Option.toList, List.cons_append, List.nil_append, mW_o, mf_35, m_112, mf_3, mf_34, m_111])
      all_goals (repeat' apply And.intro)
      all_goals ((try clear hB hC); first | exact True.intro | with_reducible rfl | (with_reducible refine vp_in_nI ?_ ?_ <;> first | omega | decide) | (with_reducible refine ck_nzI ?_; simp; done) | (with_reducible refine ck_nzL ?_; simp; done) | (simp_all [ck_nextA, ck_cal, va_up, ← Int32.not_le]; done))

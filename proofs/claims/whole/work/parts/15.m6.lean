def ck_bitsN (s : Int32) : Nat → Int32 | 0 => 0 | k + 1 => ck_bitsN s k + ((s >>> (nI k &&& 31)) &&& 1)
def bX11_bits_0 : List kx_O := [(.iconst 0, 0, 0, 0, .int 0), (.istore_n 1, 1, 0, 0, .null), (.iconst 0, 0, 0, 0, .int 0), (.istore_n 2, 2, 0, 0, .null)]
theorem kX11_bits_0 : kx_oks kxL_X11 false cX11_bits 0 bX11_bits_0 = true := by decide +kernel
def bX11_bits_4 : List kx_O := [(.iload_n 2, 2, 0, 0, .null), (.bipush 8, 0, 0, 0, .int 8), (.if_icmp .ge 17, 24, 0, 0, .null)]
theorem kX11_bits_4 : kx_oks kxL_X11 false cX11_bits 4 bX11_bits_4 = true := by decide +kernel
def bX11_bits_10 : List kx_O := [(.iload_n 1, 1, 0, 0, .null), (.iload_n 0, 0, 0, 0, .null), (.iload_n 2, 2, 0, 0, .null), (.ishr, 0, 0, 0, .null), (.iconst 1, 0, 0, 0, .int 1), (.iand, 0, 0, 0, .null), (.iadd, 0, 0, 0, .null), (.istore_n 1, 1, 0, 0, .null), (.iinc 2 1, 2, 0, 0, .int 1), (.goto (-17), 4, 0, 0, .null)]
theorem kX11_bits_10 : kx_oks kxL_X11 false cX11_bits 10 bX11_bits_10 = true := by decide +kernel
def bX11_bits_24 : List kx_O := [(.iload_n 1, 1, 0, 0, .null), (.ireturn, 0, 0, 0, .null)]
theorem kX11_bits_24 : kx_oks kxL_X11 false cX11_bits 24 bX11_bits_24 = true := by decide +kernel
set_option maxRecDepth 100000 in
set_option maxHeartbeats 4000000 in
theorem ct_X11_bits (l : Launch) (G : kx_G) {M : Nat → Int32} {A : Nat → Nat → Int32} {L : Nat → Nat → Int64} {R : kx_P} {sz : Nat} {s : Int32}  : kx_M l G sX11_bits 1 0 0 [.int (s)] (mW M A L R) sz (some (.int (ck_bitsN s 8))) (mW M A L R) sz := by
  refine kx_mk kx_tab kxLok_X11 (ini := false) [some (.int (s)), none, none] ⟨by decide, rfl, by decide, by decide⟩ (⟨_, rfl⟩) rfl rfl (fun g hB hC => ?_)
  have loop4 : ∀ (n : Nat) (i : Nat), i + n = 8 → g 4 [some (.int s), some (.int (ck_bitsN s i)), some (.int (nI i))] [] (mW M A L R) sz 0 0 := by
    intro n
    induction n with
    | zero =>
      intro i hi
      have e9 := nI_toInt (show i < 2 ^ 31 by omega)
      obtain rfl : i = 8 := by omega
      refine hB bX11_bits_4 _ _ _ _ _ _ _ kX11_bits_4 ?_
      dsimp only [bX11_bits_4, kx_wp, kx_step, kx_lI, kx_lL, kx_lA, kx_gl, kx_pI, kx_pL, kx_pR, kx_pA, kx_pV, kx_s1, kx_s2, kx_sl, kx_pre, kx_c2, kx_pl, kx_cmp, kx_oF, kx_eqN, kx_nil, kx_c1, kx_ft, kx_aI, kx_aL, kx_aR, kx_ln, Nat.reduceAdd, Option.toList, List.cons_append, List.nil_append, mW_o]
      repeat (simp only [nI_1]; try dsimp only [kx_wp, kx_step, kx_lI, kx_lL, kx_lA, kx_gl, kx_pI, kx_pL, kx_pR, kx_pA, kx_pV, kx_s1, kx_s2, kx_sl, kx_pre, kx_c2, kx_pl, kx_cmp, kx_oF, kx_eqN, kx_nil, kx_c1, kx_ft, kx_aI, kx_aL, kx_aR, kx_ln, Nat.reduceAdd, Option.toList, List.cons_append, List.nil_append, mW_o])
      repeat' apply And.intro
      all_goals try (first | with_reducible assumption | (with_reducible refine ck_nzI ?_; simp; done) | (with_reducible refine ck_nzL ?_; simp; done) | (with_reducible refine vp_in_nI ?_ ?_ <;> first | omega | decide) | (with_reducible refine Nat.le_of_ble_eq_true ?_; rfl) | omega)
      · intro c7
        refine hB bX11_bits_24 _ _ _ _ _ _ _ kX11_bits_24 ?_
        dsimp only [bX11_bits_24, kx_wp, kx_step, kx_lI, kx_lL, kx_lA, kx_gl, kx_pI, kx_pL, kx_pR, kx_pA, kx_pV, kx_s1, kx_s2, kx_sl, kx_pre, kx_c2, kx_pl, kx_cmp, kx_oF, kx_eqN, kx_nil, kx_c1, kx_ft, kx_aI, kx_aL, kx_aR, kx_ln, Nat.reduceAdd, Option.toList, List.cons_append, List.nil_append, mW_o]
        repeat (simp only [nI_1]; try dsimp only [kx_wp, kx_step, kx_lI, kx_lL, kx_lA, kx_gl, kx_pI, kx_pL, kx_pR, kx_pA, kx_pV, kx_s1, kx_s2, kx_sl, kx_pre, kx_c2, kx_pl, kx_cmp, kx_oF, kx_eqN, kx_nil, kx_c1, kx_ft, kx_aI, kx_aL, kx_aR, kx_ln, Nat.reduceAdd, Option.toList, List.cons_append, List.nil_append, mW_o])
        all_goals (repeat' apply And.intro)
        all_goals ((try clear hB hC); first | exact True.intro | with_reducible rfl | (subst hi; rfl) | first | exact True.intro | with_reducible assumption | with_reducible rfl | (with_reducible refine vp_in_nI ?_ ?_ <;> first | omega | decide) | (with_reducible refine Nat.le_of_ble_eq_true ?_; rfl) | (with_reducible refine ck_nzI ?_; simp; done) | (with_reducible refine ck_nzL ?_; simp; done) | (simp [upd, va_up, *]; done) | ((try clear hB hC); simp only [ck_lt, ck_le, ck_eq, not_true_eq_false, not_false_eq_true, Int32.reduceToInt, Int32.reduceAdd, Int32.reduceSub, Int32.reduceMul] at * <;> omega) | (split <;> first | with_reducible rfl | (exfalso; ((try clear hB hC); simp only [ck_lt, ck_le, ck_eq, not_true_eq_false, not_false_eq_true, Int32.reduceToInt, Int32.reduceAdd, Int32.reduceSub, Int32.reduceMul] at * <;> omega)) | (simp_all; done)) | (simp_all; done))
      · intro c7
        first | exact absurd rfl c7 | exact absurd c7 (by decide) | exact absurd (by decide) c7 | (exfalso; ((try clear hB hC); simp only [ck_lt, ck_le, ck_eq, not_true_eq_false, not_false_eq_true, Int32.reduceToInt, Int32.reduceAdd, Int32.reduceSub, Int32.reduceMul] at * <;> omega)) | (exfalso; simp_all; done)
    | succ n ih =>
      intro i hi
      have e9 := nI_toInt (show i < 2 ^ 31 by omega)
      refine hB bX11_bits_4 _ _ _ _ _ _ _ kX11_bits_4 ?_
      dsimp only [bX11_bits_4, kx_wp, kx_step, kx_lI, kx_lL, kx_lA, kx_gl, kx_pI, kx_pL, kx_pR, kx_pA, kx_pV, kx_s1, kx_s2, kx_sl, kx_pre, kx_c2, kx_pl, kx_cmp, kx_oF, kx_eqN, kx_nil, kx_c1, kx_ft, kx_aI, kx_aL, kx_aR, kx_ln, Nat.reduceAdd, Option.toList, List.cons_append, List.nil_append, mW_o]
      repeat (simp only [nI_1]; try dsimp only [kx_wp, kx_step, kx_lI, kx_lL, kx_lA, kx_gl, kx_pI, kx_pL, kx_pR, kx_pA, kx_pV, kx_s1, kx_s2, kx_sl, kx_pre, kx_c2, kx_pl, kx_cmp, kx_oF, kx_eqN, kx_nil, kx_c1, kx_ft, kx_aI, kx_aL, kx_aR, kx_ln, Nat.reduceAdd, Option.toList, List.cons_append, List.nil_append, mW_o])
      repeat' apply And.intro
      all_goals try (first | with_reducible assumption | (with_reducible refine ck_nzI ?_; simp; done) | (with_reducible refine ck_nzL ?_; simp; done) | (with_reducible refine vp_in_nI ?_ ?_ <;> first | omega | decide) | (with_reducible refine Nat.le_of_ble_eq_true ?_; rfl) | omega)
      · intro c7
        first | exact absurd rfl c7 | exact absurd c7 (by decide) | exact absurd (by decide) c7 | (exfalso; ((try clear hB hC); simp only [ck_lt, ck_le, ck_eq, not_true_eq_false, not_false_eq_true, Int32.reduceToInt, Int32.reduceAdd, Int32.reduceSub, Int32.reduceMul] at * <;> omega)) | (exfalso; simp_all; done)
      · intro c7
        refine hB bX11_bits_10 _ _ _ _ _ _ _ kX11_bits_10 ?_
        dsimp only [bX11_bits_10, kx_wp, kx_step, kx_lI, kx_lL, kx_lA, kx_gl, kx_pI, kx_pL, kx_pR, kx_pA, kx_pV, kx_s1, kx_s2, kx_sl, kx_pre, kx_c2, kx_pl, kx_cmp, kx_oF, kx_eqN, kx_nil, kx_c1, kx_ft, kx_aI, kx_aL, kx_aR, kx_ln, Nat.reduceAdd, Option.toList, List.cons_append, List.nil_append, mW_o]
        repeat (simp only [nI_1]; try dsimp only [kx_wp, kx_step, kx_lI, kx_lL, kx_lA, kx_gl, kx_pI, kx_pL, kx_pR, kx_pA, kx_pV, kx_s1, kx_s2, kx_sl, kx_pre, kx_c2, kx_pl, kx_cmp, kx_oF, kx_eqN, kx_nil, kx_c1, kx_ft, kx_aI, kx_aL, kx_aR, kx_ln, Nat.reduceAdd, Option.toList, List.cons_append, List.nil_append, mW_o])
        repeat' apply And.intro
        all_goals try (first | with_reducible assumption | (with_reducible refine ck_nzI ?_; simp; done) | (with_reducible refine ck_nzL ?_; simp; done) | (with_reducible refine vp_in_nI ?_ ?_ <;> first | omega | decide) | (with_reducible refine Nat.le_of_ble_eq_true ?_; rfl) | omega)
        exact ih (i + 1) (by omega)
  refine hB bX11_bits_0 _ _ _ _ _ _ _ kX11_bits_0 ?_
  dsimp only [bX11_bits_0, kx_wp, kx_step, kx_lI, kx_lL, kx_lA, kx_gl, kx_pI, kx_pL, kx_pR, kx_pA, kx_pV, kx_s1, kx_s2, kx_sl, kx_pre, kx_c2, kx_pl, kx_cmp, kx_oF, kx_eqN, kx_nil, kx_c1, kx_ft, kx_aI, kx_aL, kx_aR, kx_ln, Nat.reduceAdd, Option.toList, List.cons_append, List.nil_append, mW_o]
  repeat (simp only [nI_1]; try dsimp only [kx_wp, kx_step, kx_lI, kx_lL, kx_lA, kx_gl, kx_pI, kx_pL, kx_pR, kx_pA, kx_pV, kx_s1, kx_s2, kx_sl, kx_pre, kx_c2, kx_pl, kx_cmp, kx_oF, kx_eqN, kx_nil, kx_c1, kx_ft, kx_aI, kx_aL, kx_aR, kx_ln, Nat.reduceAdd, Option.toList, List.cons_append, List.nil_append, mW_o])
  repeat' apply And.intro
  all_goals try (first | with_reducible assumption | (with_reducible refine ck_nzI ?_; simp; done) | (with_reducible refine ck_nzL ?_; simp; done) | (with_reducible refine vp_in_nI ?_ ?_ <;> first | omega | decide) | (with_reducible refine Nat.le_of_ble_eq_true ?_; rfl) | omega)
  exact loop4 8 0 rfl

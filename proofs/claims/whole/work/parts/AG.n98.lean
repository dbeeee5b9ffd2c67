def bX8_takeSigned_0 : List kx_O := [(.aload_n 0, 0, 0, 0, .null), (.bipush 45, 0, 0, 0, .int 45)]
theorem kX8_takeSigned_0 : kx_oks kxL_X8 false cX8_takeSigned 0 bX8_takeSigned_0 = true := by decide +kernel
def bX8_takeSigned_6 : List kx_O := [(.istore_n 1, 1, 0, 0, .null), (.iload_n 1, 1, 0, 0, .null), (.ifCond .eq 8, 16, 0, 0, .null)]
theorem kX8_takeSigned_6 : kx_oks kxL_X8 false cX8_takeSigned 6 bX8_takeSigned_6 = true := by decide +kernel
def bX8_takeSigned_11 : List kx_O := [(.aload_n 0, 0, 0, 0, .null), (.iconst 1, 0, 0, 0, .int 1)]
theorem kX8_takeSigned_11 : kx_oks kxL_X8 false cX8_takeSigned 11 bX8_takeSigned_11 = true := by decide +kernel
def bX8_takeSigned_16 : List kx_O := [(.aload_n 0, 0, 0, 0, .null), (.iconst 0, 0, 0, 0, .int 0), (.sipush 500, 0, 0, 0, .int 500)]
theorem kX8_takeSigned_16 : kx_oks kxL_X8 false cX8_takeSigned 16 bX8_takeSigned_16 = true := by decide +kernel
def bX8_takeSigned_24 : List kx_O := [(.istore_n 2, 2, 0, 0, .null), (.iload_n 1, 1, 0, 0, .null), (.ifCond .eq 8, 34, 0, 0, .null)]
theorem kX8_takeSigned_24 : kx_oks kxL_X8 false cX8_takeSigned 24 bX8_takeSigned_24 = true := by decide +kernel
def bX8_takeSigned_29 : List kx_O := [(.iload_n 2, 2, 0, 0, .null), (.ineg, 0, 0, 0, .null), (.goto 4, 35, 0, 0, .null)]
theorem kX8_takeSigned_29 : kx_oks kxL_X8 false cX8_takeSigned 29 bX8_takeSigned_29 = true := by decide +kernel
def bX8_takeSigned_34 : List kx_O := [(.iload_n 2, 2, 0, 0, .null)]
theorem kX8_takeSigned_34 : kx_oks kxL_X8 false cX8_takeSigned 34 bX8_takeSigned_34 = true := by decide +kernel
def bX8_takeSigned_35 : List kx_O := [(.ireturn, 0, 0, 0, .null)]
theorem kX8_takeSigned_35 : kx_oks kxL_X8 false cX8_takeSigned 35 bX8_takeSigned_35 = true := by decide +kernel
theorem dX8_takeSigned_3 : decode cX8_takeSigned 3 = .ok (.invokevirtual 54, 3) := by decide +kernel
theorem dX8_takeSigned_13 : decode cX8_takeSigned 13 = .ok (.invokevirtual 46, 3) := by decide +kernel
theorem dX8_takeSigned_21 : decode cX8_takeSigned 21 = .ok (.invokevirtual 85, 3) := by decide +kernel
set_option maxRecDepth 100000 in
set_option maxHeartbeats 4000000 in
theorem ct_X8_takeSigned_m (l : Launch) (G : kx_G) {P : kx_P} {sz : Nat} {F F2 T : Nat → Int32} {x : Value} (hT : P 67 = kI 0 400 T) {n a : Nat} (h1 : F 1 = nI n) (hn : n ≤ 400) (h2 : F 2 = nI a) (ha : a ≤ n) {v : Int32} (h : cx_nx T n a = 45) (hM : kx_M l G sX8_takeNumber 2 0 0 [.ref 68, .int 0, .int 500] (cx_8 P x (upd F 2 (nI (ck_sk T n (a + 1))))) sz (some (.int v)) (cx_8 P x F2) sz)  : kx_M l G sX8_takeSigned 3 0 0 [.ref 68] (cx_8 P x F) sz (some (.int (-v))) (cx_8 P x F2) sz := by
  refine kx_mk kx_tab kxLok_X8 (ini := false) [some (.ref 68), none, none] ⟨by decide, rfl, by decide, by decide⟩ (⟨_, rfl⟩) rfl rfl (fun g hB hC => ?_)
  refine hB bX8_takeSigned_0 _ _ _ _ _ _ _ kX8_takeSigned_0 ?_
  dsimp only [bX8_takeSigned_0, kx_wp, kx_step, kx_lI, kx_lL, kx_lA, kx_gl, kx_pI, kx_pL, kx_pR, kx_pA, kx_pV, kx_s1, kx_s2, kx_sl, kx_pre, kx_c2, kx_pl, kx_cmp, kx_oF, kx_eqN, kx_nil, kx_c1, kx_ft, kx_aI, kx_aL, kx_aR, kx_ln, Nat.reduceAdd, Option.toList, List.cons_append, List.nil_append]
  repeat (simp only [pk_us, pk_un, kz_uu, ne_eq, Nat.reduceEqDiff, not_false_eq_true, nI_1, cx_8s, cx_8ss, cx_8o, cx_8n (show ¬ (67:Nat) = 68 by decide), h1, hT, ks_eq, ks_ss]; try dsimp only [kx_wp, kx_step, kx_lI, kx_lL, kx_lA, kx_gl, kx_pI, kx_pL, kx_pR, kx_pA, kx_pV, kx_s1, kx_s2, kx_sl, kx_pre, kx_c2, kx_pl, kx_cmp, kx_oF, kx_eqN, kx_nil, kx_c1, kx_ft, kx_aI, kx_aL, kx_aR, kx_ln, Nat.reduceAdd, Option.toList, List.cons_append, List.nil_append])
  repeat' apply And.intro
  all_goals try (first | with_reducible assumption | (with_reducible refine ck_nzI ?_; simp; done) | (with_reducible refine ck_nzL ?_; simp; done) | (with_reducible refine vp_in_nI ?_ ?_ <;> first | omega | decide) | (with_reducible refine Nat.le_of_ble_eq_true ?_; rfl) | omega | exact Or.inl trivial | exact Or.inr trivial | exact Or.inl rfl | exact Or.inr rfl)
  refine hC.1 54 _ _ _ _ _ _ _ 8 _ _ _ _ _ _ _ _ _ _ _ _ lX8_54 (ct_X8_nextIs_t hT h1 hn h2 ha (by decide) h) ⟨by decide, rfl⟩ (cx_8o) rfl rfl (Nat.le_of_ble_eq_true rfl) (by first | decide | omega) (by decide) (by omega) (by omega) dX8_takeSigned_3 ?_
  refine hB bX8_takeSigned_6 _ _ _ _ _ _ _ kX8_takeSigned_6 ?_
  dsimp only [bX8_takeSigned_6, kx_wp, kx_step, kx_lI, kx_lL, kx_lA, kx_gl, kx_pI, kx_pL, kx_pR, kx_pA, kx_pV, kx_s1, kx_s2, kx_sl, kx_pre, kx_c2, kx_pl, kx_cmp, kx_oF, kx_eqN, kx_nil, kx_c1, kx_ft, kx_aI, kx_aL, kx_aR, kx_ln, Nat.reduceAdd, Option.toList, List.cons_append, List.nil_append]
  repeat (simp only [pk_us, pk_un, kz_uu, ne_eq, Nat.reduceEqDiff, not_false_eq_true, nI_1, cx_8s, cx_8ss, cx_8o, cx_8n (show ¬ (67:Nat) = 68 by decide), h1, hT, ks_eq, ks_ss]; try dsimp only [kx_wp, kx_step, kx_lI, kx_lL, kx_lA, kx_gl, kx_pI, kx_pL, kx_pR, kx_pA, kx_pV, kx_s1, kx_s2, kx_sl, kx_pre, kx_c2, kx_pl, kx_cmp, kx_oF, kx_eqN, kx_nil, kx_c1, kx_ft, kx_aI, kx_aL, kx_aR, kx_ln, Nat.reduceAdd, Option.toList, List.cons_append, List.nil_append])
  repeat' apply And.intro
  all_goals try (first | with_reducible assumption | (with_reducible refine ck_nzI ?_; simp; done) | (with_reducible refine ck_nzL ?_; simp; done) | (with_reducible refine vp_in_nI ?_ ?_ <;> first | omega | decide) | (with_reducible refine Nat.le_of_ble_eq_true ?_; rfl) | omega | exact Or.inl trivial | exact Or.inr trivial | exact Or.inl rfl | exact Or.inr rfl)
  · intro zc8
    first | exact absurd rfl zc8 | exact absurd zc8 (by decide) | exact absurd (by decide) zc8 | (exfalso; ((try clear hB hC); simp only [ck_lt, ck_le, ck_eq, not_true_eq_false, not_false_eq_true, Int32.reduceToInt, Int32.reduceAdd, Int32.reduceSub, Int32.reduceMul] at * <;> omega)) | (exfalso; simp_all; done)
  · intro zc8
    have ze8 := zc8
    refine hB bX8_takeSigned_11 _ _ _ _ _ _ _ kX8_takeSigned_11 ?_
    dsimp only [bX8_takeSigned_11, kx_wp, kx_step, kx_lI, kx_lL, kx_lA, kx_gl, kx_pI, kx_pL, kx_pR, kx_pA, kx_pV, kx_s1, kx_s2, kx_sl, kx_pre, kx_c2, kx_pl, kx_cmp, kx_oF, kx_eqN, kx_nil, kx_c1, kx_ft, kx_aI, kx_aL, kx_aR, kx_ln, Nat.reduceAdd, Option.toList, List.cons_append, List.nil_append]
    repeat (simp only [pk_us, pk_un, kz_uu, ne_eq, Nat.reduceEqDiff, not_false_eq_true, nI_1, cx_8s, cx_8ss, cx_8o, cx_8n (show ¬ (67:Nat) = 68 by decide), h1, hT, ks_eq, ks_ss]; try dsimp only [kx_wp, kx_step, kx_lI, kx_lL, kx_lA, kx_gl, kx_pI, kx_pL, kx_pR, kx_pA, kx_pV, kx_s1, kx_s2, kx_sl, kx_pre, kx_c2, kx_pl, kx_cmp, kx_oF, kx_eqN, kx_nil, kx_c1, kx_ft, kx_aI, kx_aL, kx_aR, kx_ln, Nat.reduceAdd, Option.toList, List.cons_append, List.nil_append])
    repeat' apply And.intro
    all_goals try (first | with_reducible assumption | (with_reducible refine ck_nzI ?_; simp; done) | (with_reducible refine ck_nzL ?_; simp; done) | (with_reducible refine vp_in_nI ?_ ?_ <;> first | omega | decide) | (with_reducible refine Nat.le_of_ble_eq_true ?_; rfl) | omega | exact Or.inl trivial | exact Or.inr trivial | exact Or.inl rfl | exact Or.inr rfl)
    refine hC.1 46 _ _ _ _ _ _ _ 8 _ _ _ _ _ _ _ _ _ _ _ _ lX8_46 (ct_X8_skip1 l G hT h1 hn h2 (cx_nx_lt h (by decide))) ⟨by decide, rfl⟩ (cx_8o) rfl rfl (Nat.le_of_ble_eq_true rfl) (by first | decide | omega) (by decide) (by omega) (by omega) dX8_takeSigned_13 ?_
    refine hB bX8_takeSigned_16 _ _ _ _ _ _ _ kX8_takeSigned_16 ?_
    dsimp only [bX8_takeSigned_16, kx_wp, kx_step, kx_lI, kx_lL, kx_lA, kx_gl, kx_pI, kx_pL, kx_pR, kx_pA, kx_pV, kx_s1, kx_s2, kx_sl, kx_pre, kx_c2, kx_pl, kx_cmp, kx_oF, kx_eqN, kx_nil, kx_c1, kx_ft, kx_aI, kx_aL, kx_aR, kx_ln, Nat.reduceAdd, Option.toList, List.cons_append, List.nil_append]
    repeat (simp only [pk_us, pk_un, kz_uu, ne_eq, Nat.reduceEqDiff, not_false_eq_true, nI_1, cx_8s, cx_8ss, cx_8o, cx_8n (show ¬ (67:Nat) = 68 by decide), h1, hT, ks_eq, ks_ss]; try dsimp only [kx_wp, kx_step, kx_lI, kx_lL, kx_lA, kx_gl, kx_pI, kx_pL, kx_pR, kx_pA, kx_pV, kx_s1, kx_s2, kx_sl, kx_pre, kx_c2, kx_pl, kx_cmp, kx_oF, kx_eqN, kx_nil, kx_c1, kx_ft, kx_aI, kx_aL, kx_aR, kx_ln, Nat.reduceAdd, Option.toList, List.cons_append, List.nil_append])
    repeat' apply And.intro
    all_goals try (first | with_reducible assumption | (with_reducible refine ck_nzI ?_; simp; done) | (with_reducible refine ck_nzL ?_; simp; done) | (with_reducible refine vp_in_nI ?_ ?_ <;> first | omega | decide) | (with_reducible refine Nat.le_of_ble_eq_true ?_; rfl) | omega | exact Or.inl trivial | exact Or.inr trivial | exact Or.inl rfl | exact Or.inr rfl)
    refine hC.1 85 _ _ _ _ _ _ _ 8 _ _ _ _ _ _ _ _ _ _ _ _ lX8_85 (hM) ⟨by decide, rfl⟩ (cx_8o) rfl rfl (Nat.le_of_ble_eq_true rfl) (by first | decide | omega) (by decide) (by omega) (by omega) dX8_takeSigned_21 ?_
    refine hB bX8_takeSigned_24 _ _ _ _ _ _ _ kX8_takeSigned_24 ?_
    dsimp only [bX8_takeSigned_24, kx_wp, kx_step, kx_lI, kx_lL, kx_lA, kx_gl, kx_pI, kx_pL, kx_pR, kx_pA, kx_pV, kx_s1, kx_s2, kx_sl, kx_pre, kx_c2, kx_pl, kx_cmp, kx_oF, kx_eqN, kx_nil, kx_c1, kx_ft, kx_aI, kx_aL, kx_aR, kx_ln, Nat.reduceAdd, Option.toList, List.cons_append, List.nil_append]
    repeat (simp only [pk_us, pk_un, kz_uu, ne_eq, Nat.reduceEqDiff, not_false_eq_true, nI_1, cx_8s, cx_8ss, cx_8o, cx_8n (show ¬ (67:Nat) = 68 by decide), h1, hT, ks_eq, ks_ss]; try dsimp only [kx_wp, kx_step, kx_lI, kx_lL, kx_lA, kx_gl, kx_pI, kx_pL, kx_pR, kx_pA, kx_pV, kx_s1, kx_s2, kx_sl, kx_pre, kx_c2, kx_pl, kx_cmp, kx_oF, kx_eqN, kx_nil, kx_c1, kx_ft, kx_aI, kx_aL, kx_aR, kx_ln, Nat.reduceAdd, Option.toList, List.cons_append, List.nil_append])
    repeat' apply And.intro
    all_goals try (first | with_reducible assumption | (with_reducible refine ck_nzI ?_; simp; done) | (with_reducible refine ck_nzL ?_; simp; done) | (with_reducible refine vp_in_nI ?_ ?_ <;> first | omega | decide) | (with_reducible refine Nat.le_of_ble_eq_true ?_; rfl) | omega | exact Or.inl trivial | exact Or.inr trivial | exact Or.inl rfl | exact Or.inr rfl)
    · intro zc26
      first | exact absurd rfl zc26 | exact absurd zc26 (by decide) | exact absurd (by decide) zc26 | (exfalso; ((try clear hB hC); simp only [ck_lt, ck_le, ck_eq, not_true_eq_false, not_false_eq_true, Int32.reduceToInt, Int32.reduceAdd, Int32.reduceSub, Int32.reduceMul] at * <;> omega)) | (exfalso; simp_all; done)
    · intro zc26
      have ze26 := zc26
      refine hB bX8_takeSigned_29 _ _ _ _ _ _ _ kX8_takeSigned_29 ?_
      dsimp only [bX8_takeSigned_29, kx_wp, kx_step, kx_lI, kx_lL, kx_lA, kx_gl, kx_pI, kx_pL, kx_pR, kx_pA, kx_pV, kx_s1, kx_s2, kx_sl, kx_pre, kx_c2, kx_pl, kx_cmp, kx_oF, kx_eqN, kx_nil, kx_c1, kx_ft, kx_aI, kx_aL, kx_aR, kx_ln, Nat.reduceAdd, Option.toList, List.cons_append, List.nil_append]
      repeat (simp only [pk_us, pk_un, kz_uu, ne_eq, Nat.reduceEqDiff, not_false_eq_true, nI_1, cx_8s, cx_8ss, cx_8o, cx_8n (show ¬ (67:Nat) = 68 by decide), h1, hT, ks_eq, ks_ss]; try dsimp only [kx_wp, kx_step, kx_lI, kx_lL, kx_lA, kx_gl, kx_pI, kx_pL, kx_pR, kx_pA, kx_pV, kx_s1, kx_s2, kx_sl, kx_pre, kx_c2, kx_pl, kx_cmp, kx_oF, kx_eqN, kx_nil, kx_c1, kx_ft, kx_aI, kx_aL, kx_aR, kx_ln, Nat.reduceAdd, Option.toList, List.cons_append, List.nil_append])
      repeat' apply And.intro
      all_goals try (first | with_reducible assumption | (with_reducible refine ck_nzI ?_; simp; done) | (with_reducible refine ck_nzL ?_; simp; done) | (with_reducible refine vp_in_nI ?_ ?_ <;> first | omega | decide) | (with_reducible refine Nat.le_of_ble_eq_true ?_; rfl) | omega | exact Or.inl trivial | exact Or.inr trivial | exact Or.inl rfl | exact Or.inr rfl)
      refine hB bX8_takeSigned_35 _ _ _ _ _ _ _ kX8_takeSigned_35 ?_
      dsimp only [bX8_takeSigned_35, kx_wp, kx_step, kx_lI, kx_lL, kx_lA, kx_gl, kx_pI, kx_pL, kx_pR, kx_pA, kx_pV, kx_s1, kx_s2, kx_sl, kx_pre, kx_c2, kx_pl, kx_cmp, kx_oF, kx_eqN, kx_nil, kx_c1, kx_ft, kx_aI, kx_aL, kx_aR, kx_ln, Nat.reduceAdd, Option.toList, List.cons_append, List.nil_append]
      repeat (simp only [pk_us, pk_un, kz_uu, ne_eq, Nat.reduceEqDiff, not_false_eq_true, nI_1, cx_8s, cx_8ss, cx_8o, cx_8n (show ¬ (67:Nat) = 68 by decide), h1, hT, ks_eq, ks_ss]; try dsimp only [kx_wp, kx_step, kx_lI, kx_lL, kx_lA, kx_gl, kx_pI, kx_pL, kx_pR, kx_pA, kx_pV, kx_s1, kx_s2, kx_sl, kx_pre, kx_c2, kx_pl, kx_cmp, kx_oF, kx_eqN, kx_nil, kx_c1, kx_ft, kx_aI, kx_aL, kx_aR, kx_ln, Nat.reduceAdd, Option.toList, List.cons_append, List.nil_append])
      all_goals (repeat' apply And.intro)
      all_goals ((try clear hB hC); first | exact True.intro | with_reducible rfl | with_reducible assumption | (with_reducible refine vp_in_nI ?_ ?_ <;> first | omega | decide) | exact Nat.le_of_ble_eq_true rfl | (with_reducible refine ck_nzI ?_; simp; done) | (with_reducible refine ck_nzL ?_; simp; done) | (simp only [pk_us, pk_uLs, ze8, ze26, ↓reduceIte, not_true_eq_false, not_false_eq_true]; done) | (simp only [ze8, ze26, ↓reduceIte, not_true_eq_false, not_false_eq_true]; with_reducible rfl) | omega | skip)

set_option maxRecDepth 100000 in
set_option maxHeartbeats 4000000 in
theorem ct_X8_takeSigned_p (l : Launch) (G : kx_G) {P : kx_P} {sz : Nat} {F F2 T : Nat → Int32} {x : Value} (hT : P 67 = kI 0 400 T) {n a : Nat} (h1 : F 1 = nI n) (hn : n ≤ 400) (h2 : F 2 = nI a) (ha : a ≤ n) {v : Int32} (h : ¬ cx_nx T n a = 45) (hM : kx_M l G sX8_takeNumber 2 0 0 [.ref 68, .int 0, .int 500] (cx_8 P x F) sz (some (.int v)) (cx_8 P x F2) sz)  : kx_M l G sX8_takeSigned 3 0 0 [.ref 68] (cx_8 P x F) sz (some (.int (v))) (cx_8 P x F2) sz := by
  refine kx_mk kx_tab kxLok_X8 (ini := false) [some (.ref 68), none, none] ⟨by decide, rfl, by decide, by decide⟩ (⟨_, rfl⟩) rfl rfl (fun g hB hC => ?_)
  refine hB bX8_takeSigned_0 _ _ _ _ _ _ _ kX8_takeSigned_0 ?_
  dsimp only [bX8_takeSigned_0, kx_wp, kx_step, kx_lI, kx_lL, kx_lA, kx_gl, kx_pI, kx_pL, kx_pR, kx_pA, kx_pV, kx_s1, kx_s2, kx_sl, kx_pre, kx_c2, kx_pl, kx_cmp, kx_oF, kx_eqN, kx_nil, kx_c1, kx_ft, kx_aI, kx_aL, kx_aR, kx_ln, Nat.reduceAdd, Option.toList, List.cons_append, List.nil_append]
  repeat (simp only [pk_us, pk_un, kz_uu, ne_eq, Nat.reduceEqDiff, not_false_eq_true, nI_1, cx_8s, cx_8ss, cx_8o, cx_8n (show ¬ (67:Nat) = 68 by decide), h1, hT, ks_eq, ks_ss]; try dsimp only [kx_wp, kx_step, kx_lI, kx_lL, kx_lA, kx_gl, kx_pI, kx_pL, kx_pR, kx_pA, kx_pV, kx_s1, kx_s2, kx_sl, kx_pre, kx_c2, kx_pl, kx_cmp, kx_oF, kx_eqN, kx_nil, kx_c1, kx_ft, kx_aI, kx_aL, kx_aR, kx_ln, Nat.reduceAdd, Option.toList, List.cons_append, List.nil_append])
  repeat' apply And.intro
  all_goals try (first | with_reducible assumption | (with_reducible refine ck_nzI ?_; simp; done) | (with_reducible refine ck_nzL ?_; simp; done) | (with_reducible refine vp_in_nI ?_ ?_ <;> first | omega | decide) | (with_reducible refine Nat.le_of_ble_eq_true ?_; rfl) | omega | exact Or.inl trivial | exact Or.inr trivial | exact Or.inl rfl | exact Or.inr rfl)
  refine hC.1 54 _ _ _ _ _ _ _ 8 _ _ _ _ _ _ _ _ _ _ _ _ lX8_54 (ct_X8_nextIs_f hT h1 hn h2 ha (by decide) h) ⟨by decide, rfl⟩ (cx_8o) rfl rfl (Nat.le_of_ble_eq_true rfl) (by first | decide | omega) (by decide) (by omega) (by omega) dX8_takeSigned_3 ?_
  refine hB bX8_takeSigned_6 _ _ _ _ _ _ _ kX8_takeSigned_6 ?_
  dsimp only [bX8_takeSigned_6, kx_wp, kx_step, kx_lI, kx_lL, kx_lA, kx_gl, kx_pI, kx_pL, kx_pR, kx_pA, kx_pV, kx_s1, kx_s2, kx_sl, kx_pre, kx_c2, kx_pl, kx_cmp, kx_oF, kx_eqN, kx_nil, kx_c1, kx_ft, kx_aI, kx_aL, kx_aR, kx_ln, Nat.reduceAdd, Option.toList, List.cons_append, List.nil_append]
  repeat (simp only [pk_us, pk_un, kz_uu, ne_eq, Nat.reduceEqDiff, not_false_eq_true, nI_1, cx_8s, cx_8ss, cx_8o, cx_8n (show ¬ (67:Nat) = 68 by decide), h1, hT, ks_eq, ks_ss]; try dsimp only [kx_wp, kx_step, kx_lI, kx_lL, kx_lA, kx_gl, kx_pI, kx_pL, kx_pR, kx_pA, kx_pV, kx_s1, kx_s2, kx_sl, kx_pre, kx_c2, kx_pl, kx_cmp, kx_oF, kx_eqN, kx_nil, kx_c1, kx_ft, kx_aI, kx_aL, kx_aR, kx_ln, Nat.reduceAdd, Option.toList, List.cons_append, List.nil_append])
  repeat' apply And.intro
  all_goals try (first | with_reducible assumption | (with_reducible refine ck_nzI ?_; simp; done) | (with_reducible refine ck_nzL ?_; simp; done) | (with_reducible refine vp_in_nI ?_ ?_ <;> first | omega | decide) | (with_reducible refine Nat.le_of_ble_eq_true ?_; rfl) | omega | exact Or.inl trivial | exact Or.inr trivial | exact Or.inl rfl | exact Or.inr rfl)
  · intro zc8
    have ze8 := zc8
    refine hB bX8_takeSigned_16 _ _ _ _ _ _ _ kX8_takeSigned_16 ?_
    dsimp only [bX8_takeSigned_16, kx_wp, kx_step, kx_lI, kx_lL, kx_lA, kx_gl, kx_pI, kx_pL, kx_pR, kx_pA, kx_pV, kx_s1, kx_s2, kx_sl, kx_pre, kx_c2, kx_pl, kx_cmp, kx_oF, kx_eqN, kx_nil, kx_c1, kx_ft, kx_aI, kx_aL, kx_aR, kx_ln, Nat.reduceAdd, Option.toList, List.cons_append, List.nil_append]
    repeat (simp only [pk_us, pk_un, kz_uu, ne_eq, Nat.reduceEqDiff, not_false_eq_true, nI_1, cx_8s, cx_8ss, cx_8o, cx_8n (show ¬ (67:Nat) = 68 by decide), h1, hT, ks_eq, ks_ss]; try dsimp only [kx_wp, kx_step, kx_lI, kx_lL, kx_lA, kx_gl, kx_pI, kx_pL, kx_pR, kx_pA, kx_pV, kx_s1, kx_s2, kx_sl, kx_pre, kx_c2, kx_pl, kx_cmp, kx_oF, kx_eqN, kx_nil, kx_c1, kx_ft, kx_aI, kx_aL, kx_aR, kx_ln, Nat.reduceAdd, Option.toList, List.cons_append, List.nil_append])
    repeat' apply And.intro
    all_goals try (first | with_reducible assumption | (with_reducible refine ck_nzI ?_; simp; done) | (with_reducible refine ck_nzL ?_; simp; done) | (with_reducible refine vp_in_nI ?_ ?_ <;> first | omega | decide) | (with_reducible refine Nat.le_of_ble_eq_true ?_; rfl) | omega | exact Or.inl trivial | exact Or.inr trivial | exact Or.inl rfl | exact Or.inr rfl)
    refine hC.1 85 _ _ _ _ _ _ _ 8 _ _ _ _ _ _ _ _ _ _ _ _ lX8_85 (hM) ⟨by decide, rfl⟩ (cx_8o) rfl rfl (Nat.le_of_ble_eq_true rfl) (by first | decide | omega) (by decide) (by omega) (by omega) dX8_takeSigned_21 ?_
    refine hB bX8_takeSigned_24 _ _ _ _ _ _ _ kX8_takeSigned_24 ?_
    dsimp only [bX8_takeSigned_24, kx_wp, kx_step, kx_lI, kx_lL, kx_lA, kx_gl, kx_pI, kx_pL, kx_pR, kx_pA, kx_pV, kx_s1, kx_s2, kx_sl, kx_pre, kx_c2, kx_pl, kx_cmp, kx_oF, kx_eqN, kx_nil, kx_c1, kx_ft, kx_aI, kx_aL, kx_aR, kx_ln, Nat.reduceAdd, Option.toList, List.cons_append, List.nil_append]
    repeat (simp only [pk_us, pk_un, kz_uu, ne_eq, Nat.reduceEqDiff, not_false_eq_true, nI_1, cx_8s, cx_8ss, cx_8o, cx_8n (show ¬ (67:Nat) = 68 by decide), h1, hT, ks_eq, ks_ss]; try dsimp only [kx_wp, kx_step, kx_lI, kx_lL, kx_lA, kx_gl, kx_pI, kx_pL, kx_pR, kx_pA, kx_pV, kx_s1, kx_s2, kx_sl, kx_pre, kx_c2, kx_pl, kx_cmp, kx_oF, kx_eqN, kx_nil, kx_c1, kx_ft, kx_aI, kx_aL, kx_aR, kx_ln, Nat.reduceAdd, Option.toList, List.cons_append, List.nil_append])
    repeat' apply And.intro
    all_goals try (first | with_reducible assumption | (with_reducible refine ck_nzI ?_; simp; done) | (with_reducible refine ck_nzL ?_; simp; done) | (with_reducible refine vp_in_nI ?_ ?_ <;> first | omega | decide) | (with_reducible refine Nat.le_of_ble_eq_true ?_; rfl) | omega | exact Or.inl trivial | exact Or.inr trivial | exact Or.inl rfl | exact Or.inr rfl)
    · intro zc26
      have ze26 := zc26
      refine hB bX8_takeSigned_34 _ _ _ _ _ _ _ kX8_takeSigned_34 ?_
      dsimp only [bX8_takeSigned_34, kx_wp, kx_step, kx_lI, kx_lL, kx_lA, kx_gl, kx_pI, kx_pL, kx_pR, kx_pA, kx_pV, kx_s1, kx_s2, kx_sl, kx_pre, kx_c2, kx_pl, kx_cmp, kx_oF, kx_eqN, kx_nil, kx_c1, kx_ft, kx_aI, kx_aL, kx_aR, kx_ln, Nat.reduceAdd, Option.toList, List.cons_append, List.nil_append]
      repeat (simp only [pk_us, pk_un, kz_uu, ne_eq, Nat.reduceEqDiff, not_false_eq_true, nI_1, cx_8s, cx_8ss, cx_8o, cx_8n (show ¬ (67:Nat) = 68 by decide), h1, hT, ks_eq, ks_ss]; try dsimp only [kx_wp, kx_step, kx_lI, kx_lL, kx_lA, kx_gl, kx_pI, kx_pL, kx_pR, kx_pA, kx_pV, kx_s1, kx_s2, kx_sl, kx_pre, kx_c2, kx_pl, kx_cmp, kx_oF, kx_eqN, kx_nil, kx_c1, kx_ft, kx_aI, kx_aL, kx_aR, kx_ln, Nat.reduceAdd, Option.toList, List.cons_append, List.nil_append])
      repeat' apply And.intro
      all_goals try (first | with_reducible assumption | (with_reducible refine ck_nzI ?_; simp; done) | (with_reducible refine ck_nzL ?_; simp; done) | (with_reducible refine vp_in_nI ?_ ?_ <;> first | omega | decide) | (with_reducible refine Nat.le_of_ble_eq_true ?_; rfl) | omega | exact Or.inl trivial | exact Or.inr trivial | exact Or.inl rfl | exact Or.inr rfl)
      refine hB bX8_takeSigned_35 _ _ _ _ _ _ _ kX8_takeSigned_35 ?_
      dsimp only [bX8_takeSigned_35, kx_wp, kx_step, kx_lI, kx_lL, kx_lA, kx_gl, kx_pI, kx_pL, kx_pR, kx_pA, kx_pV, kx_s1, kx_s2, kx_sl, kx_pre, kx_c2, kx_pl, kx_cmp, kx_oF, kx_eqN, kx_nil, kx_c1, kx_ft, kx_aI, kx_aL, kx_aR, kx_ln, Nat.reduceAdd, Option.toList, List.cons_append, List.nil_append]
      repeat (simp only [pk_us, pk_un, kz_uu, ne_eq, Nat.reduceEqDiff, not_false_eq_true, nI_1, cx_8s, cx_8ss, cx_8o, cx_8n (show ¬ (67:Nat) = 68 by decide), h1, hT, ks_eq, ks_ss]; try dsimp only [kx_wp, kx_step, kx_lI, kx_lL, kx_lA, kx_gl, kx_pI, kx_pL, kx_pR, kx_pA, kx_pV, kx_s1, kx_s2, kx_sl, kx_pre, kx_c2, kx_pl, kx_cmp, kx_oF, kx_eqN, kx_nil, kx_c1, kx_ft, kx_aI, kx_aL, kx_aR, kx_ln, Nat.reduceAdd, Option.toList, List.cons_append, List.nil_append])
      all_goals (repeat' apply And.intro)
      all_goals ((try clear hB hC); first | exact True.intro | with_reducible rfl | with_reducible assumption | (with_reducible refine vp_in_nI ?_ ?_ <;> first | omega | decide) | exact Nat.le_of_ble_eq_true rfl | (with_reducible refine ck_nzI ?_; simp; done) | (with_reducible refine ck_nzL ?_; simp; done) | (simp only [pk_us, pk_uLs, eq_true ze8, eq_true ze26, ↓reduceIte, not_true_eq_false, not_false_eq_true]; done) | (simp only [eq_true ze8, eq_true ze26, ↓reduceIte, not_true_eq_false, not_false_eq_true]; with_reducible rfl) | omega | skip)
    · intro zc26
      first | exact absurd rfl zc26 | exact absurd zc26 (by decide) | exact absurd (by decide) zc26 | (exfalso; ((try clear hB hC); simp only [ck_lt, ck_le, ck_eq, not_true_eq_false, not_false_eq_true, Int32.reduceToInt, Int32.reduceAdd, Int32.reduceSub, Int32.reduceMul] at * <;> omega)) | (exfalso; simp_all; done)
  · intro zc8
    first | exact absurd rfl zc8 | exact absurd zc8 (by decide) | exact absurd (by decide) zc8 | (exfalso; ((try clear hB hC); simp only [ck_lt, ck_le, ck_eq, not_true_eq_false, not_false_eq_true, Int32.reduceToInt, Int32.reduceAdd, Int32.reduceSub, Int32.reduceMul] at * <;> omega)) | (exfalso; simp_all; done)

theorem cx_sg {l : Launch} {G : kx_G} {P : kx_P} {sz : Nat} {T F : Nat → Int32} {x : Value} (hT : P 67 = kI 0 400 T) {n a : Nat} (h1 : F 1 = nI n) (hn : n ≤ 400) (h2 : F 2 = nI (ck_sk T n a)) (ha : a ≤ n) (h4 : F 4 = 0) (k : Int32) :
    ∃ v F2, kx_M l G sX8_takeSigned 3 0 0 [.ref 68] (cx_8 P x F) sz (some (.int v)) (cx_8 P x F2) sz ∧
      ((ck_sgn T n a (-1) k).2.2.1 = -1 → v = (ck_sgn T n a (-1) k).1 ∧ F2 1 = nI n ∧ F2 2 = nI (ck_sk T n (ck_sgn T n a (-1) k).2.1) ∧ F2 3 = F 3 ∧ F2 4 = 0 ∧ F2 5 = F 5) ∧
      (¬ (ck_sgn T n a (-1) k).2.2.1 = -1 → F2 4 = (ck_sgn T n a (-1) k).2.2.2 ∧ F2 5 = (ck_sgn T n a (-1) k).2.2.1 ∧ ¬ F2 4 = 0) := by
  have hle := ck_sk_le T ha
  unfold ck_sgn
  rw [if_pos rfl]
  by_cases hx : ck_hcx T n a = 45
  · rw [if_pos hx]
    have hlt : ck_sk T n a < n := cx_nx_lt (T := T) (n := n) (a := ck_sk T n a) hx (by decide)
    obtain ⟨v, F2, hM, ht, hf⟩ := cx_nu (l := l) (G := G) (sz := sz) (x := x) hT (F := upd F 2 (nI (ck_sk T n (ck_sk T n a + 1)))) (n := n) (a := ck_sk T n a + 1) h1 hn pk_us hlt h4 (lo := 0) (hi := 500) (by omega) k
    refine ⟨_, F2, ct_X8_takeSigned_m l G (x := x) hT h1 hn h2 hle.2 hx hM, fun q => ?_, hf⟩
    obtain ⟨e0, e1, e2, e3, e4, e5, -⟩ := ht q
    exact ⟨congrArg (fun z => -z) e0, e1, e2, e3, e4, e5⟩
  · rw [if_neg hx]
    obtain ⟨v, F2, hM, ht, hf⟩ := cx_nu (l := l) (G := G) (sz := sz) (x := x) hT (F := F) (n := n) (a := ck_sk T n a) h1 hn (by rw [ck_skk]; exact h2) hle.2 h4 (lo := 0) (hi := 500) (by omega) k
    refine ⟨_, F2, ct_X8_takeSigned_p l G (x := x) hT h1 hn h2 hle.2 hx hM, fun q => ?_, hf⟩
    obtain ⟨e0, e1, e2, e3, e4, e5, -⟩ := ht q
    exact ⟨e0, e1, e2, e3, e4, e5⟩
def bX8_isNumbered_0 : List kx_O := [(.aload_n 0, 0, 0, 0, .null)]
theorem kX8_isNumbered_0 : kx_oks kxL_X8 false cX8_isNumbered 0 bX8_isNumbered_0 = true := by decide +kernel
def bX8_isNumbered_6 : List kx_O := [(.ifCond .ne 66, 72, 0, 0, .null)]
theorem kX8_isNumbered_6 : kx_oks kxL_X8 false cX8_isNumbered 6 bX8_isNumbered_6 = true := by decide +kernel
def bX8_isNumbered_9 : List kx_O := [(.aload_n 0, 0, 0, 0, .null)]
theorem kX8_isNumbered_9 : kx_oks kxL_X8 false cX8_isNumbered 9 bX8_isNumbered_9 = true := by decide +kernel
def bX8_isNumbered_15 : List kx_O := [(.ifCond .ne 57, 72, 0, 0, .null)]
theorem kX8_isNumbered_15 : kx_oks kxL_X8 false cX8_isNumbered 15 bX8_isNumbered_15 = true := by decide +kernel
def bX8_isNumbered_18 : List kx_O := [(.aload_n 0, 0, 0, 0, .null)]
theorem kX8_isNumbered_18 : kx_oks kxL_X8 false cX8_isNumbered 18 bX8_isNumbered_18 = true := by decide +kernel
def bX8_isNumbered_24 : List kx_O := [(.ifCond .ne 48, 72, 0, 0, .null)]
theorem kX8_isNumbered_24 : kx_oks kxL_X8 false cX8_isNumbered 24 bX8_isNumbered_24 = true := by decide +kernel
def bX8_isNumbered_27 : List kx_O := [(.aload_n 0, 0, 0, 0, .null)]
theorem kX8_isNumbered_27 : kx_oks kxL_X8 false cX8_isNumbered 27 bX8_isNumbered_27 = true := by decide +kernel
def bX8_isNumbered_33 : List kx_O := [(.ifCond .ne 39, 72, 0, 0, .null)]
theorem kX8_isNumbered_33 : kx_oks kxL_X8 false cX8_isNumbered 33 bX8_isNumbered_33 = true := by decide +kernel
def bX8_isNumbered_36 : List kx_O := [(.aload_n 0, 0, 0, 0, .null)]
theorem kX8_isNumbered_36 : kx_oks kxL_X8 false cX8_isNumbered 36 bX8_isNumbered_36 = true := by decide +kernel
def bX8_isNumbered_42 : List kx_O := [(.ifCond .ne 30, 72, 0, 0, .null)]
theorem kX8_isNumbered_42 : kx_oks kxL_X8 false cX8_isNumbered 42 bX8_isNumbered_42 = true := by decide +kernel
def bX8_isNumbered_45 : List kx_O := [(.aload_n 0, 0, 0, 0, .null)]
theorem kX8_isNumbered_45 : kx_oks kxL_X8 false cX8_isNumbered 45 bX8_isNumbered_45 = true := by decide +kernel
def bX8_isNumbered_51 : List kx_O := [(.ifCond .ne 21, 72, 0, 0, .null)]
theorem kX8_isNumbered_51 : kx_oks kxL_X8 false cX8_isNumbered 51 bX8_isNumbered_51 = true := by decide +kernel
def bX8_isNumbered_54 : List kx_O := [(.aload_n 0, 0, 0, 0, .null)]
theorem kX8_isNumbered_54 : kx_oks kxL_X8 false cX8_isNumbered 54 bX8_isNumbered_54 = true := by decide +kernel
def bX8_isNumbered_60 : List kx_O := [(.ifCond .ne 12, 72, 0, 0, .null)]
theorem kX8_isNumbered_60 : kx_oks kxL_X8 false cX8_isNumbered 60 bX8_isNumbered_60 = true := by decide +kernel
def bX8_isNumbered_63 : List kx_O := [(.aload_n 0, 0, 0, 0, .null)]
theorem kX8_isNumbered_63 : kx_oks kxL_X8 false cX8_isNumbered 63 bX8_isNumbered_63 = true := by decide +kernel
def bX8_isNumbered_69 : List kx_O := [(.ifCond .eq 7, 76, 0, 0, .null)]
theorem kX8_isNumbered_69 : kx_oks kxL_X8 false cX8_isNumbered 69 bX8_isNumbered_69 = true := by decide +kernel
def bX8_isNumbered_72 : List kx_O := [(.iconst 1, 0, 0, 0, .int 1), (.goto 4, 77, 0, 0, .null)]
theorem kX8_isNumbered_72 : kx_oks kxL_X8 false cX8_isNumbered 72 bX8_isNumbered_72 = true := by decide +kernel
def bX8_isNumbered_76 : List kx_O := [(.iconst 0, 0, 0, 0, .int 0)]
theorem kX8_isNumbered_76 : kx_oks kxL_X8 false cX8_isNumbered 76 bX8_isNumbered_76 = true := by decide +kernel
def bX8_isNumbered_77 : List kx_O := [(.ireturn, 0, 0, 0, .null)]
theorem kX8_isNumbered_77 : kx_oks kxL_X8 false cX8_isNumbered 77 bX8_isNumbered_77 = true := by decide +kernel
theorem dX8_isNumbered_1 : decode cX8_isNumbered 1 = .ok (.ldc 124, 2) := by decide +kernel
theorem dX8_isNumbered_3 : decode cX8_isNumbered 3 = .ok (.invokevirtual 96, 3) := by decide +kernel
theorem dX8_isNumbered_10 : decode cX8_isNumbered 10 = .ok (.ldc 126, 2) := by decide +kernel
theorem dX8_isNumbered_12 : decode cX8_isNumbered 12 = .ok (.invokevirtual 96, 3) := by decide +kernel
theorem dX8_isNumbered_19 : decode cX8_isNumbered 19 = .ok (.ldc 128, 2) := by decide +kernel
theorem dX8_isNumbered_21 : decode cX8_isNumbered 21 = .ok (.invokevirtual 96, 3) := by decide +kernel
theorem dX8_isNumbered_28 : decode cX8_isNumbered 28 = .ok (.ldc 130, 2) := by decide +kernel
theorem dX8_isNumbered_30 : decode cX8_isNumbered 30 = .ok (.invokevirtual 96, 3) := by decide +kernel
theorem dX8_isNumbered_37 : decode cX8_isNumbered 37 = .ok (.ldc 132, 2) := by decide +kernel
theorem dX8_isNumbered_39 : decode cX8_isNumbered 39 = .ok (.invokevirtual 96, 3) := by decide +kernel
theorem dX8_isNumbered_46 : decode cX8_isNumbered 46 = .ok (.ldc 134, 2) := by decide +kernel
theorem dX8_isNumbered_48 : decode cX8_isNumbered 48 = .ok (.invokevirtual 96, 3) := by decide +kernel
theorem dX8_isNumbered_55 : decode cX8_isNumbered 55 = .ok (.ldc 136, 2) := by decide +kernel
theorem dX8_isNumbered_57 : decode cX8_isNumbered 57 = .ok (.invokevirtual 96, 3) := by decide +kernel
theorem dX8_isNumbered_64 : decode cX8_isNumbered 64 = .ok (.ldc 138, 2) := by decide +kernel
theorem dX8_isNumbered_66 : decode cX8_isNumbered 66 = .ok (.invokevirtual 96, 3) := by decide +kernel
set_option maxRecDepth 100000 in
set_option maxHeartbeats 4000000 in
theorem ci_0 (l : Launch) (G : kx_G) {P : kx_P} {sz : Nat} {F T : Nat → Int32} {x : Value} (hT : P 67 = kI 0 400 T) {n b : Nat} (h6 : F 6 = nI b) (h7 : F 7 = nI (ck_ps T n b)) (hb : b ≤ n) (hn : n ≤ 400) (w0 : ck_wo_ T n b = kz_co 0)  : kx_M l G sX8_isNumbered 6 0 0 [.ref 68] (cx_8 P x F) sz (some (.int (1))) (cx_8 P x F) sz := by
  refine kz_m2d kx_tab kxLok_X8 (ini := false) [some (.ref 68)] ⟨by decide +kernel, rfl, by decide, by decide⟩ (Or.inl (by first | exact Or.inl rfl | exact Or.inr rfl)) rfl rfl (fun g hB hC hK => ?_)
  refine hB bX8_isNumbered_0 _ _ _ _ _ _ _ kX8_isNumbered_0 ?_
  dsimp only [bX8_isNumbered_0, kx_wp, kx_step, kx_lI, kx_lL, kx_lA, kx_gl, kx_pI, kx_pL, kx_pR, kx_pA, kx_pV, kx_s1, kx_s2, kx_sl, kx_pre, kx_c2, kx_pl, kx_cmp, kx_oF, kx_eqN, kx_nil, kx_c1, kx_ft, kx_aI, kx_aL, kx_aR, kx_ln, Nat.reduceAdd, Option.toList, List.cons_append, List.nil_append]
  repeat (simp only [cx_8o, ks_eq, ks_ss]; try dsimp only [kx_wp, kx_step, kx_lI, kx_lL, kx_lA, kx_gl, kx_pI, kx_pL, kx_pR, kx_pA, kx_pV, kx_s1, kx_s2, kx_sl, kx_pre, kx_c2, kx_pl, kx_cmp, kx_oF, kx_eqN, kx_nil, kx_c1, kx_ft, kx_aI, kx_aL, kx_aR, kx_ln, Nat.reduceAdd, Option.toList, List.cons_append, List.nil_append])
  repeat' apply And.intro
  all_goals try (first | with_reducible assumption | (with_reducible refine ck_nzI ?_; simp; done) | (with_reducible refine ck_nzL ?_; simp; done) | (with_reducible refine vp_in_nI ?_ ?_ <;> first | omega | decide) | (with_reducible refine Nat.le_of_ble_eq_true ?_; rfl) | omega | exact Or.inl trivial | exact Or.inr trivial | exact Or.inl rfl | exact Or.inr rfl)
  refine kz_lds hK rfl 0 dX8_isNumbered_1 (by decide) rfl ?_
  refine hC.1 96 _ _ _ _ _ _ _ 8 _ _ _ _ _ _ _ _ _ _ _ _ lX8_96 (cx_wi_t hT h6 h7 hb hn 0 (by decide) w0) ⟨by decide, rfl⟩ (cx_8o) rfl rfl (Nat.le_of_ble_eq_true rfl) (by first | decide | omega) (by decide) (by omega) (by omega) dX8_isNumbered_3 ?_
  refine hB bX8_isNumbered_6 _ _ _ _ _ _ _ kX8_isNumbered_6 ?_
  dsimp only [bX8_isNumbered_6, kx_wp, kx_step, kx_lI, kx_lL, kx_lA, kx_gl, kx_pI, kx_pL, kx_pR, kx_pA, kx_pV, kx_s1, kx_s2, kx_sl, kx_pre, kx_c2, kx_pl, kx_cmp, kx_oF, kx_eqN, kx_nil, kx_c1, kx_ft, kx_aI, kx_aL, kx_aR, kx_ln, Nat.reduceAdd, Option.toList, List.cons_append, List.nil_append]
  repeat (simp only [cx_8o, ks_eq, ks_ss]; try dsimp only [kx_wp, kx_step, kx_lI, kx_lL, kx_lA, kx_gl, kx_pI, kx_pL, kx_pR, kx_pA, kx_pV, kx_s1, kx_s2, kx_sl, kx_pre, kx_c2, kx_pl, kx_cmp, kx_oF, kx_eqN, kx_nil, kx_c1, kx_ft, kx_aI, kx_aL, kx_aR, kx_ln, Nat.reduceAdd, Option.toList, List.cons_append, List.nil_append])
  repeat' apply And.intro
  all_goals try (first | with_reducible assumption | (with_reducible refine ck_nzI ?_; simp; done) | (with_reducible refine ck_nzL ?_; simp; done) | (with_reducible refine vp_in_nI ?_ ?_ <;> first | omega | decide) | (with_reducible refine Nat.le_of_ble_eq_true ?_; rfl) | omega | exact Or.inl trivial | exact Or.inr trivial | exact Or.inl rfl | exact Or.inr rfl)
  · intro zc6
    have ze6 := zc6
    refine hB bX8_isNumbered_72 _ _ _ _ _ _ _ kX8_isNumbered_72 ?_
    dsimp only [bX8_isNumbered_72, kx_wp, kx_step, kx_lI, kx_lL, kx_lA, kx_gl, kx_pI, kx_pL, kx_pR, kx_pA, kx_pV, kx_s1, kx_s2, kx_sl, kx_pre, kx_c2, kx_pl, kx_cmp, kx_oF, kx_eqN, kx_nil, kx_c1, kx_ft, kx_aI, kx_aL, kx_aR, kx_ln, Nat.reduceAdd, Option.toList, List.cons_append, List.nil_append]
    repeat (simp only [cx_8o, ks_eq, ks_ss]; try dsimp only [kx_wp, kx_step, kx_lI, kx_lL, kx_lA, kx_gl, kx_pI, kx_pL, kx_pR, kx_pA, kx_pV, kx_s1, kx_s2, kx_sl, kx_pre, kx_c2, kx_pl, kx_cmp, kx_oF, kx_eqN, kx_nil, kx_c1, kx_ft, kx_aI, kx_aL, kx_aR, kx_ln, Nat.reduceAdd, Option.toList, List.cons_append, List.nil_append])
    repeat' apply And.intro
    all_goals try (first | with_reducible assumption | (with_reducible refine ck_nzI ?_; simp; done) | (with_reducible refine ck_nzL ?_; simp; done) | (with_reducible refine vp_in_nI ?_ ?_ <;> first | omega | decide) | (with_reducible refine Nat.le_of_ble_eq_true ?_; rfl) | omega | exact Or.inl trivial | exact Or.inr trivial | exact Or.inl rfl | exact Or.inr rfl)
    refine hB bX8_isNumbered_77 _ _ _ _ _ _ _ kX8_isNumbered_77 ?_
    dsimp only [bX8_isNumbered_77, kx_wp, kx_step, kx_lI, kx_lL, kx_lA, kx_gl, kx_pI, kx_pL, kx_pR, kx_pA, kx_pV, kx_s1, kx_s2, kx_sl, kx_pre, kx_c2, kx_pl, kx_cmp, kx_oF, kx_eqN, kx_nil, kx_c1, kx_ft, kx_aI, kx_aL, kx_aR, kx_ln, Nat.reduceAdd, Option.toList, List.cons_append, List.nil_append]
    repeat (simp only [cx_8o, ks_eq, ks_ss]; try dsimp only [kx_wp, kx_step, kx_lI, kx_lL, kx_lA, kx_gl, kx_pI, kx_pL, kx_pR, kx_pA, kx_pV, kx_s1, kx_s2, kx_sl, kx_pre, kx_c2, kx_pl, kx_cmp, kx_oF, kx_eqN, kx_nil, kx_c1, kx_ft, kx_aI, kx_aL, kx_aR, kx_ln, Nat.reduceAdd, Option.toList, List.cons_append, List.nil_append])
    all_goals (repeat' apply And.intro)
    all_goals ((try clear hB hC); first | exact True.intro | with_reducible rfl | with_reducible assumption | (with_reducible refine vp_in_nI ?_ ?_ <;> first | omega | decide) | exact Nat.le_of_ble_eq_true rfl | (with_reducible refine ck_nzI ?_; simp; done) | (with_reducible refine ck_nzL ?_; simp; done) | (simp only [pk_us, pk_uLs, ze6, ↓reduceIte, not_true_eq_false, not_false_eq_true]; done) | (simp only [ze6, ↓reduceIte, not_true_eq_false, not_false_eq_true]; with_reducible rfl) | omega | skip)
  · intro zc6
    first | exact absurd rfl zc6 | exact absurd zc6 (by decide) | exact absurd (by decide) zc6 | (exfalso; ((try clear hB hC); simp only [ck_lt, ck_le, ck_eq, not_true_eq_false, not_false_eq_true, Int32.reduceToInt, Int32.reduceAdd, Int32.reduceSub, Int32.reduceMul] at * <;> omega)) | (exfalso; simp_all; done)

set_option maxRecDepth 100000 in
set_option maxHeartbeats 4000000 in
theorem ci_1 (l : Launch) (G : kx_G) {P : kx_P} {sz : Nat} {F T : Nat → Int32} {x : Value} (hT : P 67 = kI 0 400 T) {n b : Nat} (h6 : F 6 = nI b) (h7 : F 7 = nI (ck_ps T n b)) (hb : b ≤ n) (hn : n ≤ 400) (w0 : ¬ ck_wo_ T n b = kz_co 0) (w1 : ck_wo_ T n b = kz_co 1)  : kx_M l G sX8_isNumbered 6 0 0 [.ref 68] (cx_8 P x F) sz (some (.int (1))) (cx_8 P x F) sz := by
  refine kz_m2d kx_tab kxLok_X8 (ini := false) [some (.ref 68)] ⟨by decide +kernel, rfl, by decide, by decide⟩ (Or.inl (by first | exact Or.inl rfl | exact Or.inr rfl)) rfl rfl (fun g hB hC hK => ?_)
  refine hB bX8_isNumbered_0 _ _ _ _ _ _ _ kX8_isNumbered_0 ?_
  dsimp only [bX8_isNumbered_0, kx_wp, kx_step, kx_lI, kx_lL, kx_lA, kx_gl, kx_pI, kx_pL, kx_pR, kx_pA, kx_pV, kx_s1, kx_s2, kx_sl, kx_pre, kx_c2, kx_pl, kx_cmp, kx_oF, kx_eqN, kx_nil, kx_c1, kx_ft, kx_aI, kx_aL, kx_aR, kx_ln, Nat.reduceAdd, Option.toList, List.cons_append, List.nil_append]
  repeat (simp only [cx_8o, ks_eq, ks_ss]; try dsimp only [kx_wp, kx_step, kx_lI, kx_lL, kx_lA, kx_gl, kx_pI, kx_pL, kx_pR, kx_pA, kx_pV, kx_s1, kx_s2, kx_sl, kx_pre, kx_c2, kx_pl, kx_cmp, kx_oF, kx_eqN, kx_nil, kx_c1, kx_ft, kx_aI, kx_aL, kx_aR, kx_ln, Nat.reduceAdd, Option.toList, List.cons_append, List.nil_append])
  repeat' apply And.intro
  all_goals try (first | with_reducible assumption | (with_reducible refine ck_nzI ?_; simp; done) | (with_reducible refine ck_nzL ?_; simp; done) | (with_reducible refine vp_in_nI ?_ ?_ <;> first | omega | decide) | (with_reducible refine Nat.le_of_ble_eq_true ?_; rfl) | omega | exact Or.inl trivial | exact Or.inr trivial | exact Or.inl rfl | exact Or.inr rfl)
  refine kz_lds hK rfl 0 dX8_isNumbered_1 (by decide) rfl ?_
  refine hC.1 96 _ _ _ _ _ _ _ 8 _ _ _ _ _ _ _ _ _ _ _ _ lX8_96 (cx_wi_f hT h6 h7 hb hn 0 (by decide) w0) ⟨by decide, rfl⟩ (cx_8o) rfl rfl (Nat.le_of_ble_eq_true rfl) (by first | decide | omega) (by decide) (by omega) (by omega) dX8_isNumbered_3 ?_
  refine hB bX8_isNumbered_6 _ _ _ _ _ _ _ kX8_isNumbered_6 ?_
  dsimp only [bX8_isNumbered_6, kx_wp, kx_step, kx_lI, kx_lL, kx_lA, kx_gl, kx_pI, kx_pL, kx_pR, kx_pA, kx_pV, kx_s1, kx_s2, kx_sl, kx_pre, kx_c2, kx_pl, kx_cmp, kx_oF, kx_eqN, kx_nil, kx_c1, kx_ft, kx_aI, kx_aL, kx_aR, kx_ln, Nat.reduceAdd, Option.toList, List.cons_append, List.nil_append]
  repeat (simp only [cx_8o, ks_eq, ks_ss]; try dsimp only [kx_wp, kx_step, kx_lI, kx_lL, kx_lA, kx_gl, kx_pI, kx_pL, kx_pR, kx_pA, kx_pV, kx_s1, kx_s2, kx_sl, kx_pre, kx_c2, kx_pl, kx_cmp, kx_oF, kx_eqN, kx_nil, kx_c1, kx_ft, kx_aI, kx_aL, kx_aR, kx_ln, Nat.reduceAdd, Option.toList, List.cons_append, List.nil_append])
  repeat' apply And.intro
  all_goals try (first | with_reducible assumption | (with_reducible refine ck_nzI ?_; simp; done) | (with_reducible refine ck_nzL ?_; simp; done) | (with_reducible refine vp_in_nI ?_ ?_ <;> first | omega | decide) | (with_reducible refine Nat.le_of_ble_eq_true ?_; rfl) | omega | exact Or.inl trivial | exact Or.inr trivial | exact Or.inl rfl | exact Or.inr rfl)
  · intro zc6
    first | exact absurd rfl zc6 | exact absurd zc6 (by decide) | exact absurd (by decide) zc6 | (exfalso; ((try clear hB hC); simp only [ck_lt, ck_le, ck_eq, not_true_eq_false, not_false_eq_true, Int32.reduceToInt, Int32.reduceAdd, Int32.reduceSub, Int32.reduceMul] at * <;> omega)) | (exfalso; simp_all; done)
  · intro zc6
    with_reducible first | have ze6 := Decidable.not_not.mp zc6 | have ze6 := zc6
    refine hB bX8_isNumbered_9 _ _ _ _ _ _ _ kX8_isNumbered_9 ?_
    dsimp only [bX8_isNumbered_9, kx_wp, kx_step, kx_lI, kx_lL, kx_lA, kx_gl, kx_pI, kx_pL, kx_pR, kx_pA, kx_pV, kx_s1, kx_s2, kx_sl, kx_pre, kx_c2, kx_pl, kx_cmp, kx_oF, kx_eqN, kx_nil, kx_c1, kx_ft, kx_aI, kx_aL, kx_aR, kx_ln, Nat.reduceAdd, Option.toList, List.cons_append, List.nil_append]
    repeat (simp only [cx_8o, ks_eq, ks_ss]; try dsimp only [kx_wp, kx_step, kx_lI, kx_lL, kx_lA, kx_gl, kx_pI, kx_pL, kx_pR, kx_pA, kx_pV, kx_s1, kx_s2, kx_sl, kx_pre, kx_c2, kx_pl, kx_cmp, kx_oF, kx_eqN, kx_nil, kx_c1, kx_ft, kx_aI, kx_aL, kx_aR, kx_ln, Nat.reduceAdd, Option.toList, List.cons_append, List.nil_append])
    repeat' apply And.intro
    all_goals try (first | with_reducible assumption | (with_reducible refine ck_nzI ?_; simp; done) | (with_reducible refine ck_nzL ?_; simp; done) | (with_reducible refine vp_in_nI ?_ ?_ <;> first | omega | decide) | (with_reducible refine Nat.le_of_ble_eq_true ?_; rfl) | omega | exact Or.inl trivial | exact Or.inr trivial | exact Or.inl rfl | exact Or.inr rfl)
    refine kz_lds hK rfl 1 dX8_isNumbered_10 (by decide) rfl ?_
    refine hC.1 96 _ _ _ _ _ _ _ 8 _ _ _ _ _ _ _ _ _ _ _ _ lX8_96 (cx_wi_t hT h6 h7 hb hn 1 (by decide) w1) ⟨by decide, rfl⟩ (cx_8o) rfl rfl (Nat.le_of_ble_eq_true rfl) (by first | decide | omega) (by decide) (by omega) (by omega) dX8_isNumbered_12 ?_
    refine hB bX8_isNumbered_15 _ _ _ _ _ _ _ kX8_isNumbered_15 ?_
    dsimp only [bX8_isNumbered_15, kx_wp, kx_step, kx_lI, kx_lL, kx_lA, kx_gl, kx_pI, kx_pL, kx_pR, kx_pA, kx_pV, kx_s1, kx_s2, kx_sl, kx_pre, kx_c2, kx_pl, kx_cmp, kx_oF, kx_eqN, kx_nil, kx_c1, kx_ft, kx_aI, kx_aL, kx_aR, kx_ln, Nat.reduceAdd, Option.toList, List.cons_append, List.nil_append]
    repeat (simp only [cx_8o, ks_eq, ks_ss]; try dsimp only [kx_wp, kx_step, kx_lI, kx_lL, kx_lA, kx_gl, kx_pI, kx_pL, kx_pR, kx_pA, kx_pV, kx_s1, kx_s2, kx_sl, kx_pre, kx_c2, kx_pl, kx_cmp, kx_oF, kx_eqN, kx_nil, kx_c1, kx_ft, kx_aI, kx_aL, kx_aR, kx_ln, Nat.reduceAdd, Option.toList, List.cons_append, List.nil_append])
    repeat' apply And.intro
    all_goals try (first | with_reducible assumption | (with_reducible refine ck_nzI ?_; simp; done) | (with_reducible refine ck_nzL ?_; simp; done) | (with_reducible refine vp_in_nI ?_ ?_ <;> first | omega | decide) | (with_reducible refine Nat.le_of_ble_eq_true ?_; rfl) | omega | exact Or.inl trivial | exact Or.inr trivial | exact Or.inl rfl | exact Or.inr rfl)
    · intro zc15
      have ze15 := zc15
      refine hB bX8_isNumbered_72 _ _ _ _ _ _ _ kX8_isNumbered_72 ?_
      dsimp only [bX8_isNumbered_72, kx_wp, kx_step, kx_lI, kx_lL, kx_lA, kx_gl, kx_pI, kx_pL, kx_pR, kx_pA, kx_pV, kx_s1, kx_s2, kx_sl, kx_pre, kx_c2, kx_pl, kx_cmp, kx_oF, kx_eqN, kx_nil, kx_c1, kx_ft, kx_aI, kx_aL, kx_aR, kx_ln, Nat.reduceAdd, Option.toList, List.cons_append, List.nil_append]
      repeat (simp only [cx_8o, ks_eq, ks_ss]; try dsimp only [kx_wp, kx_step, kx_lI, kx_lL, kx_lA, kx_gl, kx_pI, kx_pL, kx_pR, kx_pA, kx_pV, kx_s1, kx_s2, kx_sl, kx_pre, kx_c2, kx_pl, kx_cmp, kx_oF, kx_eqN, kx_nil, kx_c1, kx_ft, kx_aI, kx_aL, kx_aR, kx_ln, Nat.reduceAdd, Option.toList, List.cons_append, List.nil_append])
      repeat' apply And.intro
      all_goals try (first | with_reducible assumption | (with_reducible refine ck_nzI ?_; simp; done) | (with_reducible refine ck_nzL ?_; simp; done) | (with_reducible refine vp_in_nI ?_ ?_ <;> first | omega | decide) | (with_reducible refine Nat.le_of_ble_eq_true ?_; rfl) | omega | exact Or.inl trivial | exact Or.inr trivial | exact Or.inl rfl | exact Or.inr rfl)
      refine hB bX8_isNumbered_77 _ _ _ _ _ _ _ kX8_isNumbered_77 ?_
      dsimp only [bX8_isNumbered_77, kx_wp, kx_step, kx_lI, kx_lL, kx_lA, kx_gl, kx_pI, kx_pL, kx_pR, kx_pA, kx_pV, kx_s1, kx_s2, kx_sl, kx_pre, kx_c2, kx_pl, kx_cmp, kx_oF, kx_eqN, kx_nil, kx_c1, kx_ft, kx_aI, kx_aL, kx_aR, kx_ln, Nat.reduceAdd, Option.toList, List.cons_append, List.nil_append]
      repeat (simp only [cx_8o, ks_eq, ks_ss]; try dsimp only [kx_wp, kx_step, kx_lI, kx_lL, kx_lA, kx_gl, kx_pI, kx_pL, kx_pR, kx_pA, kx_pV, kx_s1, kx_s2, kx_sl, kx_pre, kx_c2, kx_pl, kx_cmp, kx_oF, kx_eqN, kx_nil, kx_c1, kx_ft, kx_aI, kx_aL, kx_aR, kx_ln, Nat.reduceAdd, Option.toList, List.cons_append, List.nil_append])
      all_goals (repeat' apply And.intro)
      all_goals ((try clear hB hC); first | exact True.intro | with_reducible rfl | with_reducible assumption | (with_reducible refine vp_in_nI ?_ ?_ <;> first | omega | decide) | exact Nat.le_of_ble_eq_true rfl | (with_reducible refine ck_nzI ?_; simp; done) | (with_reducible refine ck_nzL ?_; simp; done) | (simp only [pk_us, pk_uLs, eq_true ze6, ze15, ↓reduceIte, not_true_eq_false, not_false_eq_true]; done) | (simp only [eq_true ze6, ze15, ↓reduceIte, not_true_eq_false, not_false_eq_true]; with_reducible rfl) | omega | skip)
    · intro zc15
      first | exact absurd rfl zc15 | exact absurd zc15 (by decide) | exact absurd (by decide) zc15 | (exfalso; ((try clear hB hC); simp only [ck_lt, ck_le, ck_eq, not_true_eq_false, not_false_eq_true, Int32.reduceToInt, Int32.reduceAdd, Int32.reduceSub, Int32.reduceMul] at * <;> omega)) | (exfalso; simp_all; done)

set_option maxRecDepth 100000 in
set_option maxHeartbeats 4000000 in
theorem ci_2 (l : Launch) (G : kx_G) {P : kx_P} {sz : Nat} {F T : Nat → Int32} {x : Value} (hT : P 67 = kI 0 400 T) {n b : Nat} (h6 : F 6 = nI b) (h7 : F 7 = nI (ck_ps T n b)) (hb : b ≤ n) (hn : n ≤ 400) (w0 : ¬ ck_wo_ T n b = kz_co 0) (w1 : ¬ ck_wo_ T n b = kz_co 1) (w2 : ck_wo_ T n b = kz_co 2)  : kx_M l G sX8_isNumbered 6 0 0 [.ref 68] (cx_8 P x F) sz (some (.int (1))) (cx_8 P x F) sz := by
  refine kz_m2d kx_tab kxLok_X8 (ini := false) [some (.ref 68)] ⟨by decide +kernel, rfl, by decide, by decide⟩ (Or.inl (by first | exact Or.inl rfl | exact Or.inr rfl)) rfl rfl (fun g hB hC hK => ?_)
  refine hB bX8_isNumbered_0 _ _ _ _ _ _ _ kX8_isNumbered_0 ?_
  dsimp only [bX8_isNumbered_0, kx_wp, kx_step, kx_lI, kx_lL, kx_lA, kx_gl, kx_pI, kx_pL, kx_pR, kx_pA, kx_pV, kx_s1, kx_s2, kx_sl, kx_pre, kx_c2, kx_pl, kx_cmp, kx_oF, kx_eqN, kx_nil, kx_c1, kx_ft, kx_aI, kx_aL, kx_aR, kx_ln, Nat.reduceAdd, Option.toList, List.cons_append, List.nil_append]
  repeat (simp only [cx_8o, ks_eq, ks_ss]; try dsimp only [kx_wp, kx_step, kx_lI, kx_lL, kx_lA, kx_gl, kx_pI, kx_pL, kx_pR, kx_pA, kx_pV, kx_s1, kx_s2, kx_sl, kx_pre, kx_c2, kx_pl, kx_cmp, kx_oF, kx_eqN, kx_nil, kx_c1, kx_ft, kx_aI, kx_aL, kx_aR, kx_ln, Nat.reduceAdd, Option.toList, List.cons_append, List.nil_append])
  repeat' apply And.intro
  all_goals try (first | with_reducible assumption | (with_reducible refine ck_nzI ?_; simp; done) | (with_reducible refine ck_nzL ?_; simp; done) | (with_reducible refine vp_in_nI ?_ ?_ <;> first | omega | decide) | (with_reducible refine Nat.le_of_ble_eq_true ?_; rfl) | omega | exact Or.inl trivial | exact Or.inr trivial | exact Or.inl rfl | exact Or.inr rfl)
  refine kz_lds hK rfl 0 dX8_isNumbered_1 (by decide) rfl ?_
  refine hC.1 96 _ _ _ _ _ _ _ 8 _ _ _ _ _ _ _ _ _ _ _ _ lX8_96 (cx_wi_f hT h6 h7 hb hn 0 (by decide) w0) ⟨by decide, rfl⟩ (cx_8o) rfl rfl (Nat.le_of_ble_eq_true rfl) (by first | decide | omega) (by decide) (by omega) (by omega) dX8_isNumbered_3 ?_
  refine hB bX8_isNumbered_6 _ _ _ _ _ _ _ kX8_isNumbered_6 ?_
  dsimp only [bX8_isNumbered_6, kx_wp, kx_step, kx_lI, kx_lL, kx_lA, kx_gl, kx_pI, kx_pL, kx_pR, kx_pA, kx_pV, kx_s1, kx_s2, kx_sl, kx_pre, kx_c2, kx_pl, kx_cmp, kx_oF, kx_eqN, kx_nil, kx_c1, kx_ft, kx_aI, kx_aL, kx_aR, kx_ln, Nat.reduceAdd, Option.toList, List.cons_append, List.nil_append]
  repeat (simp only [cx_8o, ks_eq, ks_ss]; try dsimp only [kx_wp, kx_step, kx_lI, kx_lL, kx_lA, kx_gl, kx_pI, kx_pL, kx_pR, kx_pA, kx_pV, kx_s1, kx_s2, kx_sl, kx_pre, kx_c2, kx_pl, kx_cmp, kx_oF, kx_eqN, kx_nil, kx_c1, kx_ft, kx_aI, kx_aL, kx_aR, kx_ln, Nat.reduceAdd, Option.toList, List.cons_append, List.nil_append])
  repeat' apply And.intro
  all_goals try (first | with_reducible assumption | (with_reducible refine ck_nzI ?_; simp; done) | (with_reducible refine ck_nzL ?_; simp; done) | (with_reducible refine vp_in_nI ?_ ?_ <;> first | omega | decide) | (with_reducible refine Nat.le_of_ble_eq_true ?_; rfl) | omega | exact Or.inl trivial | exact Or.inr trivial | exact Or.inl rfl | exact Or.inr rfl)
  · intro zc6
    first | exact absurd rfl zc6 | exact absurd zc6 (by decide) | exact absurd (by decide) zc6 | (exfalso; ((try clear hB hC); simp only [ck_lt, ck_le, ck_eq, not_true_eq_false, not_false_eq_true, Int32.reduceToInt, Int32.reduceAdd, Int32.reduceSub, Int32.reduceMul] at * <;> omega)) | (exfalso; simp_all; done)
  · intro zc6
    with_reducible first | have ze6 := Decidable.not_not.mp zc6 | have ze6 := zc6
    refine hB bX8_isNumbered_9 _ _ _ _ _ _ _ kX8_isNumbered_9 ?_
    dsimp only [bX8_isNumbered_9, kx_wp, kx_step, kx_lI, kx_lL, kx_lA, kx_gl, kx_pI, kx_pL, kx_pR, kx_pA, kx_pV, kx_s1, kx_s2, kx_sl, kx_pre, kx_c2, kx_pl, kx_cmp, kx_oF, kx_eqN, kx_nil, kx_c1, kx_ft, kx_aI, kx_aL, kx_aR, kx_ln, Nat.reduceAdd, Option.toList, List.cons_append, List.nil_append]
    repeat (simp only [cx_8o, ks_eq, ks_ss]; try dsimp only [kx_wp, kx_step, kx_lI, kx_lL, kx_lA, kx_gl, kx_pI, kx_pL, kx_pR, kx_pA, kx_pV, kx_s1, kx_s2, kx_sl, kx_pre, kx_c2, kx_pl, kx_cmp, kx_oF, kx_eqN, kx_nil, kx_c1, kx_ft, kx_aI, kx_aL, kx_aR, kx_ln, Nat.reduceAdd, Option.toList, List.cons_append, List.nil_append])
    repeat' apply And.intro
    all_goals try (first | with_reducible assumption | (with_reducible refine ck_nzI ?_; simp; done) | (with_reducible refine ck_nzL ?_; simp; done) | (with_reducible refine vp_in_nI ?_ ?_ <;> first | omega | decide) | (with_reducible refine Nat.le_of_ble_eq_true ?_; rfl) | omega | exact Or.inl trivial | exact Or.inr trivial | exact Or.inl rfl | exact Or.inr rfl)
    refine kz_lds hK rfl 1 dX8_isNumbered_10 (by decide) rfl ?_
    refine hC.1 96 _ _ _ _ _ _ _ 8 _ _ _ _ _ _ _ _ _ _ _ _ lX8_96 (cx_wi_f hT h6 h7 hb hn 1 (by decide) w1) ⟨by decide, rfl⟩ (cx_8o) rfl rfl (Nat.le_of_ble_eq_true rfl) (by first | decide | omega) (by decide) (by omega) (by omega) dX8_isNumbered_12 ?_
    refine hB bX8_isNumbered_15 _ _ _ _ _ _ _ kX8_isNumbered_15 ?_
    dsimp only [bX8_isNumbered_15, kx_wp, kx_step, kx_lI, kx_lL, kx_lA, kx_gl, kx_pI, kx_pL, kx_pR, kx_pA, kx_pV, kx_s1, kx_s2, kx_sl, kx_pre, kx_c2, kx_pl, kx_cmp, kx_oF, kx_eqN, kx_nil, kx_c1, kx_ft, kx_aI, kx_aL, kx_aR, kx_ln, Nat.reduceAdd, Option.toList, List.cons_append, List.nil_append]
    repeat (simp only [cx_8o, ks_eq, ks_ss]; try dsimp only [kx_wp, kx_step, kx_lI, kx_lL, kx_lA, kx_gl, kx_pI, kx_pL, kx_pR, kx_pA, kx_pV, kx_s1, kx_s2, kx_sl, kx_pre, kx_c2, kx_pl, kx_cmp, kx_oF, kx_eqN, kx_nil, kx_c1, kx_ft, kx_aI, kx_aL, kx_aR, kx_ln, Nat.reduceAdd, Option.toList, List.cons_append, List.nil_append])
    repeat' apply And.intro
    all_goals try (first | with_reducible assumption | (with_reducible refine ck_nzI ?_; simp; done) | (with_reducible refine ck_nzL ?_; simp; done) | (with_reducible refine vp_in_nI ?_ ?_ <;> first | omega | decide) | (with_reducible refine Nat.le_of_ble_eq_true ?_; rfl) | omega | exact Or.inl trivial | exact Or.inr trivial | exact Or.inl rfl | exact Or.inr rfl)
    · intro zc15
      first | exact absurd rfl zc15 | exact absurd zc15 (by decide) | exact absurd (by decide) zc15 | (exfalso; ((try clear hB hC); simp only [ck_lt, ck_le, ck_eq, not_true_eq_false, not_false_eq_true, Int32.reduceToInt, Int32.reduceAdd, Int32.reduceSub, Int32.reduceMul] at * <;> omega)) | (exfalso; simp_all; done)
    · intro zc15
      with_reducible first | have ze15 := Decidable.not_not.mp zc15 | have ze15 := zc15
      refine hB bX8_isNumbered_18 _ _ _ _ _ _ _ kX8_isNumbered_18 ?_
      dsimp only [bX8_isNumbered_18, kx_wp, kx_step, kx_lI, kx_lL, kx_lA, kx_gl, kx_pI, kx_pL, kx_pR, kx_pA, kx_pV, kx_s1, kx_s2, kx_sl, kx_pre, kx_c2, kx_pl, kx_cmp, kx_oF, kx_eqN, kx_nil, kx_c1, kx_ft, kx_aI, kx_aL, kx_aR, kx_ln, Nat.reduceAdd, Option.toList, List.cons_append, List.nil_append]
      repeat (simp only [cx_8o, ks_eq, ks_ss]; try dsimp only [kx_wp, kx_step, kx_lI, kx_lL, kx_lA, kx_gl, kx_pI, kx_pL, kx_pR, kx_pA, kx_pV, kx_s1, kx_s2, kx_sl, kx_pre, kx_c2, kx_pl, kx_cmp, kx_oF, kx_eqN, kx_nil, kx_c1, kx_ft, kx_aI, kx_aL, kx_aR, kx_ln, Nat.reduceAdd, Option.toList, List.cons_append, List.nil_append])
      repeat' apply And.intro
      all_goals try (first | with_reducible assumption | (with_reducible refine ck_nzI ?_; simp; done) | (with_reducible refine ck_nzL ?_; simp; done) | (with_reducible refine vp_in_nI ?_ ?_ <;> first | omega | decide) | (with_reducible refine Nat.le_of_ble_eq_true ?_; rfl) | omega | exact Or.inl trivial | exact Or.inr trivial | exact Or.inl rfl | exact Or.inr rfl)
      refine kz_lds hK rfl 2 dX8_isNumbered_19 (by decide) rfl ?_
      refine hC.1 96 _ _ _ _ _ _ _ 8 _ _ _ _ _ _ _ _ _ _ _ _ lX8_96 (cx_wi_t hT h6 h7 hb hn 2 (by decide) w2) ⟨by decide, rfl⟩ (cx_8o) rfl rfl (Nat.le_of_ble_eq_true rfl) (by first | decide | omega) (by decide) (by omega) (by omega) dX8_isNumbered_21 ?_
      refine hB bX8_isNumbered_24 _ _ _ _ _ _ _ kX8_isNumbered_24 ?_
      dsimp only [bX8_isNumbered_24, kx_wp, kx_step, kx_lI, kx_lL, kx_lA, kx_gl, kx_pI, kx_pL, kx_pR, kx_pA, kx_pV, kx_s1, kx_s2, kx_sl, kx_pre, kx_c2, kx_pl, kx_cmp, kx_oF, kx_eqN, kx_nil, kx_c1, kx_ft, kx_aI, kx_aL, kx_aR, kx_ln, Nat.reduceAdd, Option.toList, List.cons_append, List.nil_append]
      repeat (simp only [cx_8o, ks_eq, ks_ss]; try dsimp only [kx_wp, kx_step, kx_lI, kx_lL, kx_lA, kx_gl, kx_pI, kx_pL, kx_pR, kx_pA, kx_pV, kx_s1, kx_s2, kx_sl, kx_pre, kx_c2, kx_pl, kx_cmp, kx_oF, kx_eqN, kx_nil, kx_c1, kx_ft, kx_aI, kx_aL, kx_aR, kx_ln, Nat.reduceAdd, Option.toList, List.cons_append, List.nil_append])
      repeat' apply And.intro
      all_goals try (first | with_reducible assumption | (with_reducible refine ck_nzI ?_; simp; done) | (with_reducible refine ck_nzL ?_; simp; done) | (with_reducible refine vp_in_nI ?_ ?_ <;> first | omega | decide) | (with_reducible refine Nat.le_of_ble_eq_true ?_; rfl) | omega | exact Or.inl trivial | exact Or.inr trivial | exact Or.inl rfl | exact Or.inr rfl)
      · intro zc24
        have ze24 := zc24
        refine hB bX8_isNumbered_72 _ _ _ _ _ _ _ kX8_isNumbered_72 ?_
        dsimp only [bX8_isNumbered_72, kx_wp, kx_step, kx_lI, kx_lL, kx_lA, kx_gl, kx_pI, kx_pL, kx_pR, kx_pA, kx_pV, kx_s1, kx_s2, kx_sl, kx_pre, kx_c2, kx_pl, kx_cmp, kx_oF, kx_eqN, kx_nil, kx_c1, kx_ft, kx_aI, kx_aL, kx_aR, kx_ln, Nat.reduceAdd, Option.toList, List.cons_append, List.nil_append]
        repeat (simp only [cx_8o, ks_eq, ks_ss]; try dsimp only [kx_wp, kx_step, kx_lI, kx_lL, kx_lA, kx_gl, kx_pI, kx_pL, kx_pR, kx_pA, kx_pV, kx_s1, kx_s2, kx_sl, kx_pre, kx_c2, kx_pl, kx_cmp, kx_oF, kx_eqN, kx_nil, kx_c1, kx_ft, kx_aI, kx_aL, kx_aR, kx_ln, Nat.reduceAdd, Option.toList, List.cons_append, List.nil_append])
        repeat' apply And.intro
        all_goals try (first | with_reducible assumption | (with_reducible refine ck_nzI ?_; simp; done) | (with_reducible refine ck_nzL ?_; simp; done) | (with_reducible refine vp_in_nI ?_ ?_ <;> first | omega | decide) | (with_reducible refine Nat.le_of_ble_eq_true ?_; rfl) | omega | exact Or.inl trivial | exact Or.inr trivial | exact Or.inl rfl | exact Or.inr rfl)
        refine hB bX8_isNumbered_77 _ _ _ _ _ _ _ kX8_isNumbered_77 ?_
        dsimp only [bX8_isNumbered_77, kx_wp, kx_step, kx_lI, kx_lL, kx_lA, kx_gl, kx_pI, kx_pL, kx_pR, kx_pA, kx_pV, kx_s1, kx_s2, kx_sl, kx_pre, kx_c2, kx_pl, kx_cmp, kx_oF, kx_eqN, kx_nil, kx_c1, kx_ft, kx_aI, kx_aL, kx_aR, kx_ln, Nat.reduceAdd, Option.toList, List.cons_append, List.nil_append]
        repeat (simp only [cx_8o, ks_eq, ks_ss]; try dsimp only [kx_wp, kx_step, kx_lI, kx_lL, kx_lA, kx_gl, kx_pI, kx_pL, kx_pR, kx_pA, kx_pV, kx_s1, kx_s2, kx_sl, kx_pre, kx_c2, kx_pl, kx_cmp, kx_oF, kx_eqN, kx_nil, kx_c1, kx_ft, kx_aI, kx_aL, kx_aR, kx_ln, Nat.reduceAdd, Option.toList, List.cons_append, List.nil_append])
        all_goals (repeat' apply And.intro)
        all_goals ((try clear hB hC); first | exact True.intro | with_reducible rfl | with_reducible assumption | (with_reducible refine vp_in_nI ?_ ?_ <;> first | omega | decide) | exact Nat.le_of_ble_eq_true rfl | (with_reducible refine ck_nzI ?_; simp; done) | (with_reducible refine ck_nzL ?_; simp; done) | (simp only [pk_us, pk_uLs, eq_true ze6, eq_true ze15, ze24, ↓reduceIte, not_true_eq_false, not_false_eq_true]; done) | (simp only [eq_true ze6, eq_true ze15, ze24, ↓reduceIte, not_true_eq_false, not_false_eq_true]; with_reducible rfl) | omega | skip)
      · intro zc24
        first | exact absurd rfl zc24 | exact absurd zc24 (by decide) | exact absurd (by decide) zc24 | (exfalso; ((try clear hB hC); simp only [ck_lt, ck_le, ck_eq, not_true_eq_false, not_false_eq_true, Int32.reduceToInt, Int32.reduceAdd, Int32.reduceSub, Int32.reduceMul] at * <;> omega)) | (exfalso; simp_all; done)

set_option maxRecDepth 100000 in
set_option maxHeartbeats 4000000 in
theorem ci_3 (l : Launch) (G : kx_G) {P : kx_P} {sz : Nat} {F T : Nat → Int32} {x : Value} (hT : P 67 = kI 0 400 T) {n b : Nat} (h6 : F 6 = nI b) (h7 : F 7 = nI (ck_ps T n b)) (hb : b ≤ n) (hn : n ≤ 400) (w0 : ¬ ck_wo_ T n b = kz_co 0) (w1 : ¬ ck_wo_ T n b = kz_co 1) (w2 : ¬ ck_wo_ T n b = kz_co 2) (w3 : ck_wo_ T n b = kz_co 3)  : kx_M l G sX8_isNumbered 6 0 0 [.ref 68] (cx_8 P x F) sz (some (.int (1))) (cx_8 P x F) sz := by
  refine kz_m2d kx_tab kxLok_X8 (ini := false) [some (.ref 68)] ⟨by decide +kernel, rfl, by decide, by decide⟩ (Or.inl (by first | exact Or.inl rfl | exact Or.inr rfl)) rfl rfl (fun g hB hC hK => ?_)
  refine hB bX8_isNumbered_0 _ _ _ _ _ _ _ kX8_isNumbered_0 ?_
  dsimp only [bX8_isNumbered_0, kx_wp, kx_step, kx_lI, kx_lL, kx_lA, kx_gl, kx_pI, kx_pL, kx_pR, kx_pA, kx_pV, kx_s1, kx_s2, kx_sl, kx_pre, kx_c2, kx_pl, kx_cmp, kx_oF, kx_eqN, kx_nil, kx_c1, kx_ft, kx_aI, kx_aL, kx_aR, kx_ln, Nat.reduceAdd, Option.toList, List.cons_append, List.nil_append]
  repeat (simp only [cx_8o, ks_eq, ks_ss]; try dsimp only [kx_wp, kx_step, kx_lI, kx_lL, kx_lA, kx_gl, kx_pI, kx_pL, kx_pR, kx_pA, kx_pV, kx_s1, kx_s2, kx_sl, kx_pre, kx_c2, kx_pl, kx_cmp, kx_oF, kx_eqN, kx_nil, kx_c1, kx_ft, kx_aI, kx_aL, kx_aR, kx_ln, Nat.reduceAdd, Option.toList, List.cons_append, List.nil_append])
  repeat' apply And.intro
  all_goals try (first | with_reducible assumption | (with_reducible refine ck_nzI ?_; simp; done) | (with_reducible refine ck_nzL ?_; simp; done) | (with_reducible refine vp_in_nI ?_ ?_ <;> first | omega | decide) | (with_reducible refine Nat.le_of_ble_eq_true ?_; rfl) | omega | exact Or.inl trivial | exact Or.inr trivial | exact Or.inl rfl | exact Or.inr rfl)
  refine kz_lds hK rfl 0 dX8_isNumbered_1 (by decide) rfl ?_
  refine hC.1 96 _ _ _ _ _ _ _ 8 _ _ _ _ _ _ _ _ _ _ _ _ lX8_96 (cx_wi_f hT h6 h7 hb hn 0 (by decide) w0) ⟨by decide, rfl⟩ (cx_8o) rfl rfl (Nat.le_of_ble_eq_true rfl) (by first | decide | omega) (by decide) (by omega) (by omega) dX8_isNumbered_3 ?_
  refine hB bX8_isNumbered_6 _ _ _ _ _ _ _ kX8_isNumbered_6 ?_
  dsimp only [bX8_isNumbered_6, kx_wp, kx_step, kx_lI, kx_lL, kx_lA, kx_gl, kx_pI, kx_pL, kx_pR, kx_pA, kx_pV, kx_s1, kx_s2, kx_sl, kx_pre, kx_c2, kx_pl, kx_cmp, kx_oF, kx_eqN, kx_nil, kx_c1, kx_ft, kx_aI, kx_aL, kx_aR, kx_ln, Nat.reduceAdd, Option.toList, List.cons_append, List.nil_append]
  repeat (simp only [cx_8o, ks_eq, ks_ss]; try dsimp only [kx_wp, kx_step, kx_lI, kx_lL, kx_lA, kx_gl, kx_pI, kx_pL, kx_pR, kx_pA, kx_pV, kx_s1, kx_s2, kx_sl, kx_pre, kx_c2, kx_pl, kx_cmp, kx_oF, kx_eqN, kx_nil, kx_c1, kx_ft, kx_aI, kx_aL, kx_aR, kx_ln, Nat.reduceAdd, Option.toList, List.cons_append, List.nil_append])
  repeat' apply And.intro
  all_goals try (first | with_reducible assumption | (with_reducible refine ck_nzI ?_; simp; done) | (with_reducible refine ck_nzL ?_; simp; done) | (with_reducible refine vp_in_nI ?_ ?_ <;> first | omega | decide) | (with_reducible refine Nat.le_of_ble_eq_true ?_; rfl) | omega | exact Or.inl trivial | exact Or.inr trivial | exact Or.inl rfl | exact Or.inr rfl)
  · intro zc6
    first | exact absurd rfl zc6 | exact absurd zc6 (by decide) | exact absurd (by decide) zc6 | (exfalso; ((try clear hB hC); simp only [ck_lt, ck_le, ck_eq, not_true_eq_false, not_false_eq_true, Int32.reduceToInt, Int32.reduceAdd, Int32.reduceSub, Int32.reduceMul] at * <;> omega)) | (exfalso; simp_all; done)
  · intro zc6
    with_reducible first | have ze6 := Decidable.not_not.mp zc6 | have ze6 := zc6
    refine hB bX8_isNumbered_9 _ _ _ _ _ _ _ kX8_isNumbered_9 ?_
    dsimp only [bX8_isNumbered_9, kx_wp, kx_step, kx_lI, kx_lL, kx_lA, kx_gl, kx_pI, kx_pL, kx_pR, kx_pA, kx_pV, kx_s1, kx_s2, kx_sl, kx_pre, kx_c2, kx_pl, kx_cmp, kx_oF, kx_eqN, kx_nil, kx_c1, kx_ft, kx_aI, kx_aL, kx_aR, kx_ln, Nat.reduceAdd, Option.toList, List.cons_append, List.nil_append]
    repeat (simp only [cx_8o, ks_eq, ks_ss]; try dsimp only [kx_wp, kx_step, kx_lI, kx_lL, kx_lA, kx_gl, kx_pI, kx_pL, kx_pR, kx_pA, kx_pV, kx_s1, kx_s2, kx_sl, kx_pre, kx_c2, kx_pl, kx_cmp, kx_oF, kx_eqN, kx_nil, kx_c1, kx_ft, kx_aI, kx_aL, kx_aR, kx_ln, Nat.reduceAdd, Option.toList, List.cons_append, List.nil_append])
    repeat' apply And.intro
    all_goals try (first | with_reducible assumption | (with_reducible refine ck_nzI ?_; simp; done) | (with_reducible refine ck_nzL ?_; simp; done) | (with_reducible refine vp_in_nI ?_ ?_ <;> first | omega | decide) | (with_reducible refine Nat.le_of_ble_eq_true ?_; rfl) | omega | exact Or.inl trivial | exact Or.inr trivial | exact Or.inl rfl | exact Or.inr rfl)
    refine kz_lds hK rfl 1 dX8_isNumbered_10 (by decide) rfl ?_
    refine hC.1 96 _ _ _ _ _ _ _ 8 _ _ _ _ _ _ _ _ _ _ _ _ lX8_96 (cx_wi_f hT h6 h7 hb hn 1 (by decide) w1) ⟨by decide, rfl⟩ (cx_8o) rfl rfl (Nat.le_of_ble_eq_true rfl) (by first | decide | omega) (by decide) (by omega) (by omega) dX8_isNumbered_12 ?_
    refine hB bX8_isNumbered_15 _ _ _ _ _ _ _ kX8_isNumbered_15 ?_
    dsimp only [bX8_isNumbered_15, kx_wp, kx_step, kx_lI, kx_lL, kx_lA, kx_gl, kx_pI, kx_pL, kx_pR, kx_pA, kx_pV, kx_s1, kx_s2, kx_sl, kx_pre, kx_c2, kx_pl, kx_cmp, kx_oF, kx_eqN, kx_nil, kx_c1, kx_ft, kx_aI, kx_aL, kx_aR, kx_ln, Nat.reduceAdd, Option.toList, List.cons_append, List.nil_append]
    repeat (simp only [cx_8o, ks_eq, ks_ss]; try dsimp only [kx_wp, kx_step, kx_lI, kx_lL, kx_lA, kx_gl, kx_pI, kx_pL, kx_pR, kx_pA, kx_pV, kx_s1, kx_s2, kx_sl, kx_pre, kx_c2, kx_pl, kx_cmp, kx_oF, kx_eqN, kx_nil, kx_c1, kx_ft, kx_aI, kx_aL, kx_aR, kx_ln, Nat.reduceAdd, Option.toList, List.cons_append, List.nil_append])
    repeat' apply And.intro
    all_goals try (first | with_reducible assumption | (with_reducible refine ck_nzI ?_; simp; done) | (with_reducible refine ck_nzL ?_; simp; done) | (with_reducible refine vp_in_nI ?_ ?_ <;> first | omega | decide) | (with_reducible refine Nat.le_of_ble_eq_true ?_; rfl) | omega | exact Or.inl trivial | exact Or.inr trivial | exact Or.inl rfl | exact Or.inr rfl)
    · intro zc15
      first | exact absurd rfl zc15 | exact absurd zc15 (by decide) | exact absurd (by decide) zc15 | (exfalso; ((try clear hB hC); simp only [ck_lt, ck_le, ck_eq, not_true_eq_false, not_false_eq_true, Int32.reduceToInt, Int32.reduceAdd, Int32.reduceSub, Int32.reduceMul] at * <;> omega)) | (exfalso; simp_all; done)
    · intro zc15
      with_reducible first | have ze15 := Decidable.not_not.mp zc15 | have ze15 := zc15
      refine hB bX8_isNumbered_18 _ _ _ _ _ _ _ kX8_isNumbered_18 ?_
      dsimp only [bX8_isNumbered_18, kx_wp, kx_step, kx_lI, kx_lL, kx_lA, kx_gl, kx_pI, kx_pL, kx_pR, kx_pA, kx_pV, kx_s1, kx_s2, kx_sl, kx_pre, kx_c2, kx_pl, kx_cmp, kx_oF, kx_eqN, kx_nil, kx_c1, kx_ft, kx_aI, kx_aL, kx_aR, kx_ln, Nat.reduceAdd, Option.toList, List.cons_append, List.nil_append]
      repeat (simp only [cx_8o, ks_eq, ks_ss]; try dsimp only [kx_wp, kx_step, kx_lI, kx_lL, kx_lA, kx_gl, kx_pI, kx_pL, kx_pR, kx_pA, kx_pV, kx_s1, kx_s2, kx_sl, kx_pre, kx_c2, kx_pl, kx_cmp, kx_oF, kx_eqN, kx_nil, kx_c1, kx_ft, kx_aI, kx_aL, kx_aR, kx_ln, Nat.reduceAdd, Option.toList, List.cons_append, List.nil_append])
      repeat' apply And.intro
      all_goals try (first | with_reducible assumption | (with_reducible refine ck_nzI ?_; simp; done) | (with_reducible refine ck_nzL ?_; simp; done) | (with_reducible refine vp_in_nI ?_ ?_ <;> first | omega | decide) | (with_reducible refine Nat.le_of_ble_eq_true ?_; rfl) | omega | exact Or.inl trivial | exact Or.inr trivial | exact Or.inl rfl | exact Or.inr rfl)
      refine kz_lds hK rfl 2 dX8_isNumbered_19 (by decide) rfl ?_
      refine hC.1 96 _ _ _ _ _ _ _ 8 _ _ _ _ _ _ _ _ _ _ _ _ lX8_96 (cx_wi_f hT h6 h7 hb hn 2 (by decide) w2) ⟨by decide, rfl⟩ (cx_8o) rfl rfl (Nat.le_of_ble_eq_true rfl) (by first | decide | omega) (by decide) (by omega) (by omega) dX8_isNumbered_21 ?_
      refine hB bX8_isNumbered_24 _ _ _ _ _ _ _ kX8_isNumbered_24 ?_
      dsimp only [bX8_isNumbered_24, kx_wp, kx_step, kx_lI, kx_lL, kx_lA, kx_gl, kx_pI, kx_pL, kx_pR, kx_pA, kx_pV, kx_s1, kx_s2, kx_sl, kx_pre, kx_c2, kx_pl, kx_cmp, kx_oF, kx_eqN, kx_nil, kx_c1, kx_ft, kx_aI, kx_aL, kx_aR, kx_ln, Nat.reduceAdd, Option.toList, List.cons_append, List.nil_append]
      repeat (simp only [cx_8o, ks_eq, ks_ss]; try dsimp only [kx_wp, kx_step, kx_lI, kx_lL, kx_lA, kx_gl, kx_pI, kx_pL, kx_pR, kx_pA, kx_pV, kx_s1, kx_s2, kx_sl, kx_pre, kx_c2, kx_pl, kx_cmp, kx_oF, kx_eqN, kx_nil, kx_c1, kx_ft, kx_aI, kx_aL, kx_aR, kx_ln, Nat.reduceAdd, Option.toList, List.cons_append, List.nil_append])
      repeat' apply And.intro
      all_goals try (first | with_reducible assumption | (with_reducible refine ck_nzI ?_; simp; done) | (with_reducible refine ck_nzL ?_; simp; done) | (with_reducible refine vp_in_nI ?_ ?_ <;> first | omega | decide) | (with_reducible refine Nat.le_of_ble_eq_true ?_; rfl) | omega | exact Or.inl trivial | exact Or.inr trivial | exact Or.inl rfl | exact Or.inr rfl)
      · intro zc24
        first | exact absurd rfl zc24 | exact absurd zc24 (by decide) | exact absurd (by decide) zc24 | (exfalso; ((try clear hB hC); simp only [ck_lt, ck_le, ck_eq, not_true_eq_false, not_false_eq_true, Int32.reduceToInt, Int32.reduceAdd, Int32.reduceSub, Int32.reduceMul] at * <;> omega)) | (exfalso; simp_all; done)
      · intro zc24
        with_reducible first | have ze24 := Decidable.not_not.mp zc24 | have ze24 := zc24
        refine hB bX8_isNumbered_27 _ _ _ _ _ _ _ kX8_isNumbered_27 ?_
        dsimp only [bX8_isNumbered_27, kx_wp, kx_step, kx_lI, kx_lL, kx_lA, kx_gl, kx_pI, kx_pL, kx_pR, kx_pA, kx_pV, kx_s1, kx_s2, kx_sl, kx_pre, kx_c2, kx_pl, kx_cmp, kx_oF, kx_eqN, kx_nil, kx_c1, kx_ft, kx_aI, kx_aL, kx_aR, kx_ln, Nat.reduceAdd, Option.toList, List.cons_append, List.nil_append]
        repeat (simp only [cx_8o, ks_eq, ks_ss]; try dsimp only [kx_wp, kx_step, kx_lI, kx_lL, kx_lA, kx_gl, kx_pI, kx_pL, kx_pR, kx_pA, kx_pV, kx_s1, kx_s2, kx_sl, kx_pre, kx_c2, kx_pl, kx_cmp, kx_oF, kx_eqN, kx_nil, kx_c1, kx_ft, kx_aI, kx_aL, kx_aR, kx_ln, Nat.reduceAdd, Option.toList, List.cons_append, List.nil_append])
        repeat' apply And.intro
        all_goals try (first | with_reducible assumption | (with_reducible refine ck_nzI ?_; simp; done) | (with_reducible refine ck_nzL ?_; simp; done) | (with_reducible refine vp_in_nI ?_ ?_ <;> first | omega | decide) | (with_reducible refine Nat.le_of_ble_eq_true ?_; rfl) | omega | exact Or.inl trivial | exact Or.inr trivial | exact Or.inl rfl | exact Or.inr rfl)
        refine kz_lds hK rfl 3 dX8_isNumbered_28 (by decide) rfl ?_
        refine hC.1 96 _ _ _ _ _ _ _ 8 _ _ _ _ _ _ _ _ _ _ _ _ lX8_96 (cx_wi_t hT h6 h7 hb hn 3 (by decide) w3) ⟨by decide, rfl⟩ (cx_8o) rfl rfl (Nat.le_of_ble_eq_true rfl) (by first | decide | omega) (by decide) (by omega) (by omega) dX8_isNumbered_30 ?_
        refine hB bX8_isNumbered_33 _ _ _ _ _ _ _ kX8_isNumbered_33 ?_
        dsimp only [bX8_isNumbered_33, kx_wp, kx_step, kx_lI, kx_lL, kx_lA, kx_gl, kx_pI, kx_pL, kx_pR, kx_pA, kx_pV, kx_s1, kx_s2, kx_sl, kx_pre, kx_c2, kx_pl, kx_cmp, kx_oF, kx_eqN, kx_nil, kx_c1, kx_ft, kx_aI, kx_aL, kx_aR, kx_ln, Nat.reduceAdd, Option.toList, List.cons_append, List.nil_append]
        repeat (simp only [cx_8o, ks_eq, ks_ss]; try dsimp only [kx_wp, kx_step, kx_lI, kx_lL, kx_lA, kx_gl, kx_pI, kx_pL, kx_pR, kx_pA, kx_pV, kx_s1, kx_s2, kx_sl, kx_pre, kx_c2, kx_pl, kx_cmp, kx_oF, kx_eqN, kx_nil, kx_c1, kx_ft, kx_aI, kx_aL, kx_aR, kx_ln, Nat.reduceAdd, Option.toList, List.cons_append, List.nil_append])
        repeat' apply And.intro
        all_goals try (first | with_reducible assumption | (with_reducible refine ck_nzI ?_; simp; done) | (with_reducible refine ck_nzL ?_; simp; done) | (with_reducible refine vp_in_nI ?_ ?_ <;> first | omega | decide) | (with_reducible refine Nat.le_of_ble_eq_true ?_; rfl) | omega | exact Or.inl trivial | exact Or.inr trivial | exact Or.inl rfl | exact Or.inr rfl)
        · intro zc33
          have ze33 := zc33
          refine hB bX8_isNumbered_72 _ _ _ _ _ _ _ kX8_isNumbered_72 ?_
          dsimp only [bX8_isNumbered_72, kx_wp, kx_step, kx_lI, kx_lL, kx_lA, kx_gl, kx_pI, kx_pL, kx_pR, kx_pA, kx_pV, kx_s1, kx_s2, kx_sl, kx_pre, kx_c2, kx_pl, kx_cmp, kx_oF, kx_eqN, kx_nil, kx_c1, kx_ft, kx_aI, kx_aL, kx_aR, kx_ln, Nat.reduceAdd, Option.toList, List.cons_append, List.nil_append]
          repeat (simp only [cx_8o, ks_eq, ks_ss]; try dsimp only [kx_wp, kx_step, kx_lI, kx_lL, kx_lA, kx_gl, kx_pI, kx_pL, kx_pR, kx_pA, kx_pV, kx_s1, kx_s2, kx_sl, kx_pre, kx_c2, kx_pl, kx_cmp, kx_oF, kx_eqN, kx_nil, kx_c1, kx_ft, kx_aI, kx_aL, kx_aR, kx_ln, Nat.reduceAdd, Option.toList, List.cons_append, List.nil_append])
          repeat' apply And.intro
          all_goals try (first | with_reducible assumption | (with_reducible refine ck_nzI ?_; simp; done) | (with_reducible refine ck_nzL ?_; simp; done) | (with_reducible refine vp_in_nI ?_ ?_ <;> first | omega | decide) | (with_reducible refine Nat.le_of_ble_eq_true ?_; rfl) | omega | exact Or.inl trivial | exact Or.inr trivial | exact Or.inl rfl | exact Or.inr rfl)
          refine hB bX8_isNumbered_77 _ _ _ _ _ _ _ kX8_isNumbered_77 ?_
          dsimp only [bX8_isNumbered_77, kx_wp, kx_step, kx_lI, kx_lL, kx_lA, kx_gl, kx_pI, kx_pL, kx_pR, kx_pA, kx_pV, kx_s1, kx_s2, kx_sl, kx_pre, kx_c2, kx_pl, kx_cmp, kx_oF, kx_eqN, kx_nil, kx_c1, kx_ft, kx_aI, kx_aL, kx_aR, kx_ln, Nat.reduceAdd, Option.toList, List.cons_append, List.nil_append]
          repeat (simp only [cx_8o, ks_eq, ks_ss]; try dsimp only [kx_wp, kx_step, kx_lI, kx_lL, kx_lA, kx_gl, kx_pI, kx_pL, kx_pR, kx_pA, kx_pV, kx_s1, kx_s2, kx_sl, kx_pre, kx_c2, kx_pl, kx_cmp, kx_oF, kx_eqN, kx_nil, kx_c1, kx_ft, kx_aI, kx_aL, kx_aR, kx_ln, Nat.reduceAdd, Option.toList, List.cons_append, List.nil_append])
          all_goals (repeat' apply And.intro)
          all_goals ((try clear hB hC); first | exact True.intro | with_reducible rfl | with_reducible assumption | (with_reducible refine vp_in_nI ?_ ?_ <;> first | omega | decide) | exact Nat.le_of_ble_eq_true rfl | (with_reducible refine ck_nzI ?_; simp; done) | (with_reducible refine ck_nzL ?_; simp; done) | (simp only [pk_us, pk_uLs, eq_true ze6, eq_true ze15, eq_true ze24, ze33, ↓reduceIte, not_true_eq_false, not_false_eq_true]; done) | (simp only [eq_true ze6, eq_true ze15, eq_true ze24, ze33, ↓reduceIte, not_true_eq_false, not_false_eq_true]; with_reducible rfl) | omega | skip)
        · intro zc33
          first | exact absurd rfl zc33 | exact absurd zc33 (by decide) | exact absurd (by decide) zc33 | (exfalso; ((try clear hB hC); simp only [ck_lt, ck_le, ck_eq, not_true_eq_false, not_false_eq_true, Int32.reduceToInt, Int32.reduceAdd, Int32.reduceSub, Int32.reduceMul] at * <;> omega)) | (exfalso; simp_all; done)

set_option maxRecDepth 100000 in
set_option maxHeartbeats 4000000 in
theorem ci_4 (l : Launch) (G : kx_G) {P : kx_P} {sz : Nat} {F T : Nat → Int32} {x : Value} (hT : P 67 = kI 0 400 T) {n b : Nat} (h6 : F 6 = nI b) (h7 : F 7 = nI (ck_ps T n b)) (hb : b ≤ n) (hn : n ≤ 400) (w0 : ¬ ck_wo_ T n b = kz_co 0) (w1 : ¬ ck_wo_ T n b = kz_co 1) (w2 : ¬ ck_wo_ T n b = kz_co 2) (w3 : ¬ ck_wo_ T n b = kz_co 3) (w4 : ck_wo_ T n b = kz_co 4)  : kx_M l G sX8_isNumbered 6 0 0 [.ref 68] (cx_8 P x F) sz (some (.int (1))) (cx_8 P x F) sz := by
  refine kz_m2d kx_tab kxLok_X8 (ini := false) [some (.ref 68)] ⟨by decide +kernel, rfl, by decide, by decide⟩ (Or.inl (by first | exact Or.inl rfl | exact Or.inr rfl)) rfl rfl (fun g hB hC hK => ?_)
  refine hB bX8_isNumbered_0 _ _ _ _ _ _ _ kX8_isNumbered_0 ?_
  dsimp only [bX8_isNumbered_0, kx_wp, kx_step, kx_lI, kx_lL, kx_lA, kx_gl, kx_pI, kx_pL, kx_pR, kx_pA, kx_pV, kx_s1, kx_s2, kx_sl, kx_pre, kx_c2, kx_pl, kx_cmp, kx_oF, kx_eqN, kx_nil, kx_c1, kx_ft, kx_aI, kx_aL, kx_aR, kx_ln, Nat.reduceAdd, Option.toList, List.cons_append, List.nil_append]
  repeat (simp only [cx_8o, ks_eq, ks_ss]; try dsimp only [kx_wp, kx_step, kx_lI, kx_lL, kx_lA, kx_gl, kx_pI, kx_pL, kx_pR, kx_pA, kx_pV, kx_s1, kx_s2, kx_sl, kx_pre, kx_c2, kx_pl, kx_cmp, kx_oF, kx_eqN, kx_nil, kx_c1, kx_ft, kx_aI, kx_aL, kx_aR, kx_ln, Nat.reduceAdd, Option.toList, List.cons_append, List.nil_append])
  repeat' apply And.intro
  all_goals try (first | with_reducible assumption | (with_reducible refine ck_nzI ?_; simp; done) | (with_reducible refine ck_nzL ?_; simp; done) | (with_reducible refine vp_in_nI ?_ ?_ <;> first | omega | decide) | (with_reducible refine Nat.le_of_ble_eq_true ?_; rfl) | omega | exact Or.inl trivial | exact Or.inr trivial | exact Or.inl rfl | exact Or.inr rfl)
  refine kz_lds hK rfl 0 dX8_isNumbered_1 (by decide) rfl ?_
  refine hC.1 96 _ _ _ _ _ _ _ 8 _ _ _ _ _ _ _ _ _ _ _ _ lX8_96 (cx_wi_f hT h6 h7 hb hn 0 (by decide) w0) ⟨by decide, rfl⟩ (cx_8o) rfl rfl (Nat.le_of_ble_eq_true rfl) (by first | decide | omega) (by decide) (by omega) (by omega) dX8_isNumbered_3 ?_
  refine hB bX8_isNumbered_6 _ _ _ _ _ _ _ kX8_isNumbered_6 ?_
  dsimp only [bX8_isNumbered_6, kx_wp, kx_step, kx_lI, kx_lL, kx_lA, kx_gl, kx_pI, kx_pL, kx_pR, kx_pA, kx_pV, kx_s1, kx_s2, kx_sl, kx_pre, kx_c2, kx_pl, kx_cmp, kx_oF, kx_eqN, kx_nil, kx_c1, kx_ft, kx_aI, kx_aL, kx_aR, kx_ln, Nat.reduceAdd, Option.toList, List.cons_append, List.nil_append]
  repeat (simp only [cx_8o, ks_eq, ks_ss]; try dsimp only [kx_wp, kx_step, kx_lI, kx_lL, kx_lA, kx_gl, kx_pI, kx_pL, kx_pR, kx_pA, kx_pV, kx_s1, kx_s2, kx_sl, kx_pre, kx_c2, kx_pl, kx_cmp, kx_oF, kx_eqN, kx_nil, kx_c1, kx_ft, kx_aI, kx_aL, kx_aR, kx_ln, Nat.reduceAdd, Option.toList, List.cons_append, List.nil_append])
  repeat' apply And.intro
  all_goals try (first | with_reducible assumption | (with_reducible refine ck_nzI ?_; simp; done) | (with_reducible refine ck_nzL ?_; simp; done) | (with_reducible refine vp_in_nI ?_ ?_ <;> first | omega | decide) | (with_reducible refine Nat.le_of_ble_eq_true ?_; rfl) | omega | exact Or.inl trivial | exact Or.inr trivial | exact Or.inl rfl | exact Or.inr rfl)
  · intro zc6
    first | exact absurd rfl zc6 | exact absurd zc6 (by decide) | exact absurd (by decide) zc6 | (exfalso; ((try clear hB hC); simp only [ck_lt, ck_le, ck_eq, not_true_eq_false, not_false_eq_true, Int32.reduceToInt, Int32.reduceAdd, Int32.reduceSub, Int32.reduceMul] at * <;> omega)) | (exfalso; simp_all; done)
  · intro zc6
    with_reducible first | have ze6 := Decidable.not_not.mp zc6 | have ze6 := zc6
    refine hB bX8_isNumbered_9 _ _ _ _ _ _ _ kX8_isNumbered_9 ?_
    dsimp only [bX8_isNumbered_9, kx_wp, kx_step, kx_lI, kx_lL, kx_lA, kx_gl, kx_pI, kx_pL, kx_pR, kx_pA, kx_pV, kx_s1, kx_s2, kx_sl, kx_pre, kx_c2, kx_pl, kx_cmp, kx_oF, kx_eqN, kx_nil, kx_c1, kx_ft, kx_aI, kx_aL, kx_aR, kx_ln, Nat.reduceAdd, Option.toList, List.cons_append, List.nil_append]
    repeat (simp only [cx_8o, ks_eq, ks_ss]; try dsimp only [kx_wp, kx_step, kx_lI, kx_lL, kx_lA, kx_gl, kx_pI, kx_pL, kx_pR, kx_pA, kx_pV, kx_s1, kx_s2, kx_sl, kx_pre, kx_c2, kx_pl, kx_cmp, kx_oF, kx_eqN, kx_nil, kx_c1, kx_ft, kx_aI, kx_aL, kx_aR, kx_ln, Nat.reduceAdd, Option.toList, List.cons_append, List.nil_append])
    repeat' apply And.intro
    all_goals try (first | with_reducible assumption | (with_reducible refine ck_nzI ?_; simp; done) | (with_reducible refine ck_nzL ?_; simp; done) | (with_reducible refine vp_in_nI ?_ ?_ <;> first | omega | decide) | (with_reducible refine Nat.le_of_ble_eq_true ?_; rfl) | omega | exact Or.inl trivial | exact Or.inr trivial | exact Or.inl rfl | exact Or.inr rfl)
    refine kz_lds hK rfl 1 dX8_isNumbered_10 (by decide) rfl ?_
    refine hC.1 96 _ _ _ _ _ _ _ 8 _ _ _ _ _ _ _ _ _ _ _ _ lX8_96 (cx_wi_f hT h6 h7 hb hn 1 (by decide) w1) ⟨by decide, rfl⟩ (cx_8o) rfl rfl (Nat.le_of_ble_eq_true rfl) (by first | decide | omega) (by decide) (by omega) (by omega) dX8_isNumbered_12 ?_
    refine hB bX8_isNumbered_15 _ _ _ _ _ _ _ kX8_isNumbered_15 ?_
    dsimp only [bX8_isNumbered_15, kx_wp, kx_step, kx_lI, kx_lL, kx_lA, kx_gl, kx_pI, kx_pL, kx_pR, kx_pA, kx_pV, kx_s1, kx_s2, kx_sl, kx_pre, kx_c2, kx_pl, kx_cmp, kx_oF, kx_eqN, kx_nil, kx_c1, kx_ft, kx_aI, kx_aL, kx_aR, kx_ln, Nat.reduceAdd, Option.toList, List.cons_append, List.nil_append]
    repeat (simp only [cx_8o, ks_eq, ks_ss]; try dsimp only [kx_wp, kx_step, kx_lI, kx_lL, kx_lA, kx_gl, kx_pI, kx_pL, kx_pR, kx_pA, kx_pV, kx_s1, kx_s2, kx_sl, kx_pre, kx_c2, kx_pl, kx_cmp, kx_oF, kx_eqN, kx_nil, kx_c1, kx_ft, kx_aI, kx_aL, kx_aR, kx_ln, Nat.reduceAdd, Option.toList, List.cons_append, List.nil_append])
    repeat' apply And.intro
    all_goals try (first | with_reducible assumption | (with_reducible refine ck_nzI ?_; simp; done) | (with_reducible refine ck_nzL ?_; simp; done) | (with_reducible refine vp_in_nI ?_ ?_ <;> first | omega | decide) | (with_reducible refine Nat.le_of_ble_eq_true ?_; rfl) | omega | exact Or.inl trivial | exact Or.inr trivial | exact Or.inl rfl | exact Or.inr rfl)
    · intro zc15
      first | exact absurd rfl zc15 | exact absurd zc15 (by decide) | exact absurd (by decide) zc15 | (exfalso; ((try clear hB hC); simp only [ck_lt, ck_le, ck_eq, not_true_eq_false, not_false_eq_true, Int32.reduceToInt, Int32.reduceAdd, Int32.reduceSub, Int32.reduceMul] at * <;> omega)) | (exfalso; simp_all; done)
    · intro zc15
      with_reducible first | have ze15 := Decidable.not_not.mp zc15 | have ze15 := zc15
      refine hB bX8_isNumbered_18 _ _ _ _ _ _ _ kX8_isNumbered_18 ?_
      dsimp only [bX8_isNumbered_18, kx_wp, kx_step, kx_lI, kx_lL, kx_lA, kx_gl, kx_pI, kx_pL, kx_pR, kx_pA, kx_pV, kx_s1, kx_s2, kx_sl, kx_pre, kx_c2, kx_pl, kx_cmp, kx_oF, kx_eqN, kx_nil, kx_c1, kx_ft, kx_aI, kx_aL, kx_aR, kx_ln, Nat.reduceAdd, Option.toList, List.cons_append, List.nil_append]
      repeat (simp only [cx_8o, ks_eq, ks_ss]; try dsimp only [kx_wp, kx_step, kx_lI, kx_lL, kx_lA, kx_gl, kx_pI, kx_pL, kx_pR, kx_pA, kx_pV, kx_s1, kx_s2, kx_sl, kx_pre, kx_c2, kx_pl, kx_cmp, kx_oF, kx_eqN, kx_nil, kx_c1, kx_ft, kx_aI, kx_aL, kx_aR, kx_ln, Nat.reduceAdd, Option.toList, List.cons_append, List.nil_append])
      repeat' apply And.intro
      all_goals try (first | with_reducible assumption | (with_reducible refine ck_nzI ?_; simp; done) | (with_reducible refine ck_nzL ?_; simp; done) | (with_reducible refine vp_in_nI ?_ ?_ <;> first | omega | decide) | (with_reducible refine Nat.le_of_ble_eq_true ?_; rfl) | omega | exact Or.inl trivial | exact Or.inr trivial | exact Or.inl rfl | exact Or.inr rfl)
      refine kz_lds hK rfl 2 dX8_isNumbered_19 (by decide) rfl ?_
      refine hC.1 96 _ _ _ _ _ _ _ 8 _ _ _ _ _ _ _ _ _ _ _ _ lX8_96 (cx_wi_f hT h6 h7 hb hn 2 (by decide) w2) ⟨by decide, rfl⟩ (cx_8o) rfl rfl (Nat.le_of_ble_eq_true rfl) (by first | decide | omega) (by decide) (by omega) (by omega) dX8_isNumbered_21 ?_
      refine hB bX8_isNumbered_24 _ _ _ _ _ _ _ kX8_isNumbered_24 ?_
      dsimp only [bX8_isNumbered_24, kx_wp, kx_step, kx_lI, kx_lL, kx_lA, kx_gl, kx_pI, kx_pL, kx_pR, kx_pA, kx_pV, kx_s1, kx_s2, kx_sl, kx_pre, kx_c2, kx_pl, kx_cmp, kx_oF, kx_eqN, kx_nil, kx_c1, kx_ft, kx_aI, kx_aL, kx_aR, kx_ln, Nat.reduceAdd, Option.toList, List.cons_append, List.nil_append]
      repeat (simp only [cx_8o, ks_eq, ks_ss]; try dsimp only [kx_wp, kx_step, kx_lI, kx_lL, kx_lA, kx_gl, kx_pI, kx_pL, kx_pR, kx_pA, kx_pV, kx_s1, kx_s2, kx_sl, kx_pre, kx_c2, kx_pl, kx_cmp, kx_oF, kx_eqN, kx_nil, kx_c1, kx_ft, kx_aI, kx_aL, kx_aR, kx_ln, Nat.reduceAdd, Option.toList, List.cons_append, List.nil_append])
      repeat' apply And.intro
      all_goals try (first | with_reducible assumption | (with_reducible refine ck_nzI ?_; simp; done) | (with_reducible refine ck_nzL ?_; simp; done) | (with_reducible refine vp_in_nI ?_ ?_ <;> first | omega | decide) | (with_reducible refine Nat.le_of_ble_eq_true ?_; rfl) | omega | exact Or.inl trivial | exact Or.inr trivial | exact Or.inl rfl | exact Or.inr rfl)
      · intro zc24
        first | exact absurd rfl zc24 | exact absurd zc24 (by decide) | exact absurd (by decide) zc24 | (exfalso; ((try clear hB hC); simp only [ck_lt, ck_le, ck_eq, not_true_eq_false, not_false_eq_true, Int32.reduceToInt, Int32.reduceAdd, Int32.reduceSub, Int32.reduceMul] at * <;> omega)) | (exfalso; simp_all; done)
      · intro zc24
        with_reducible first | have ze24 := Decidable.not_not.mp zc24 | have ze24 := zc24
        refine hB bX8_isNumbered_27 _ _ _ _ _ _ _ kX8_isNumbered_27 ?_
        dsimp only [bX8_isNumbered_27, kx_wp, kx_step, kx_lI, kx_lL, kx_lA, kx_gl, kx_pI, kx_pL, kx_pR, kx_pA, kx_pV, kx_s1, kx_s2, kx_sl, kx_pre, kx_c2, kx_pl, kx_cmp, kx_oF, kx_eqN, kx_nil, kx_c1, kx_ft, kx_aI, kx_aL, kx_aR, kx_ln, Nat.reduceAdd, Option.toList, List.cons_append, List.nil_append]
        repeat (simp only [cx_8o, ks_eq, ks_ss]; try dsimp only [kx_wp, kx_step, kx_lI, kx_lL, kx_lA, kx_gl, kx_pI, kx_pL, kx_pR, kx_pA, kx_pV, kx_s1, kx_s2, kx_sl, kx_pre, kx_c2, kx_pl, kx_cmp, kx_oF, kx_eqN, kx_nil, kx_c1, kx_ft, kx_aI, kx_aL, kx_aR, kx_ln, Nat.reduceAdd, Option.toList, List.cons_append, List.nil_append])
        repeat' apply And.intro
        all_goals try (first | with_reducible assumption | (with_reducible refine ck_nzI ?_; simp; done) | (with_reducible refine ck_nzL ?_; simp; done) | (with_reducible refine vp_in_nI ?_ ?_ <;> first | omega | decide) | (with_reducible refine Nat.le_of_ble_eq_true ?_; rfl) | omega | exact Or.inl trivial | exact Or.inr trivial | exact Or.inl rfl | exact Or.inr rfl)
        refine kz_lds hK rfl 3 dX8_isNumbered_28 (by decide) rfl ?_
        refine hC.1 96 _ _ _ _ _ _ _ 8 _ _ _ _ _ _ _ _ _ _ _ _ lX8_96 (cx_wi_f hT h6 h7 hb hn 3 (by decide) w3) ⟨by decide, rfl⟩ (cx_8o) rfl rfl (Nat.le_of_ble_eq_true rfl) (by first | decide | omega) (by decide) (by omega) (by omega) dX8_isNumbered_30 ?_
        refine hB bX8_isNumbered_33 _ _ _ _ _ _ _ kX8_isNumbered_33 ?_
        dsimp only [bX8_isNumbered_33, kx_wp, kx_step, kx_lI, kx_lL, kx_lA, kx_gl, kx_pI, kx_pL, kx_pR, kx_pA, kx_pV, kx_s1, kx_s2, kx_sl, kx_pre, kx_c2, kx_pl, kx_cmp, kx_oF, kx_eqN, kx_nil, kx_c1, kx_ft, kx_aI, kx_aL, kx_aR, kx_ln, Nat.reduceAdd, Option.toList, List.cons_append, List.nil_append]
        repeat (simp only [cx_8o, ks_eq, ks_ss]; try dsimp only [kx_wp, kx_step, kx_lI, kx_lL, kx_lA, kx_gl, kx_pI, kx_pL, kx_pR, kx_pA, kx_pV, kx_s1, kx_s2, kx_sl, kx_pre, kx_c2, kx_pl, kx_cmp, kx_oF, kx_eqN, kx_nil, kx_c1, kx_ft, kx_aI, kx_aL, kx_aR, kx_ln, Nat.reduceAdd, Option.toList, List.cons_append, List.nil_append])
        repeat' apply And.intro
        all_goals try (first | with_reducible assumption | (with_reducible refine ck_nzI ?_; simp; done) | (with_reducible refine ck_nzL ?_; simp; done) | (with_reducible refine vp_in_nI ?_ ?_ <;> first | omega | decide) | (with_reducible refine Nat.le_of_ble_eq_true ?_; rfl) | omega | exact Or.inl trivial | exact Or.inr trivial | exact Or.inl rfl | exact Or.inr rfl)
        · intro zc33
          first | exact absurd rfl zc33 | exact absurd zc33 (by decide) | exact absurd (by decide) zc33 | (exfalso; ((try clear hB hC); simp only [ck_lt, ck_le, ck_eq, not_true_eq_false, not_false_eq_true, Int32.reduceToInt, Int32.reduceAdd, Int32.reduceSub, Int32.reduceMul] at * <;> omega)) | (exfalso; simp_all; done)
        · intro zc33
          with_reducible first | have ze33 := Decidable.not_not.mp zc33 | have ze33 := zc33
          refine hB bX8_isNumbered_36 _ _ _ _ _ _ _ kX8_isNumbered_36 ?_
          dsimp only [bX8_isNumbered_36, kx_wp, kx_step, kx_lI, kx_lL, kx_lA, kx_gl, kx_pI, kx_pL, kx_pR, kx_pA, kx_pV, kx_s1, kx_s2, kx_sl, kx_pre, kx_c2, kx_pl, kx_cmp, kx_oF, kx_eqN, kx_nil, kx_c1, kx_ft, kx_aI, kx_aL, kx_aR, kx_ln, Nat.reduceAdd, Option.toList, List.cons_append, List.nil_append]
          repeat (simp only [cx_8o, ks_eq, ks_ss]; try dsimp only [kx_wp, kx_step, kx_lI, kx_lL, kx_lA, kx_gl, kx_pI, kx_pL, kx_pR, kx_pA, kx_pV, kx_s1, kx_s2, kx_sl, kx_pre, kx_c2, kx_pl, kx_cmp, kx_oF, kx_eqN, kx_nil, kx_c1, kx_ft, kx_aI, kx_aL, kx_aR, kx_ln, Nat.reduceAdd, Option.toList, List.cons_append, List.nil_append])
          repeat' apply And.intro
          all_goals try (first | with_reducible assumption | (with_reducible refine ck_nzI ?_; simp; done) | (with_reducible refine ck_nzL ?_; simp; done) | (with_reducible refine vp_in_nI ?_ ?_ <;> first | omega | decide) | (with_reducible refine Nat.le_of_ble_eq_true ?_; rfl) | omega | exact Or.inl trivial | exact Or.inr trivial | exact Or.inl rfl | exact Or.inr rfl)
          refine kz_lds hK rfl 4 dX8_isNumbered_37 (by decide) rfl ?_
          refine hC.1 96 _ _ _ _ _ _ _ 8 _ _ _ _ _ _ _ _ _ _ _ _ lX8_96 (cx_wi_t hT h6 h7 hb hn 4 (by decide) w4) ⟨by decide, rfl⟩ (cx_8o) rfl rfl (Nat.le_of_ble_eq_true rfl) (by first | decide | omega) (by decide) (by omega) (by omega) dX8_isNumbered_39 ?_
          refine hB bX8_isNumbered_42 _ _ _ _ _ _ _ kX8_isNumbered_42 ?_
          dsimp only [bX8_isNumbered_42, kx_wp, kx_step, kx_lI, kx_lL, kx_lA, kx_gl, kx_pI, kx_pL, kx_pR, kx_pA, kx_pV, kx_s1, kx_s2, kx_sl, kx_pre, kx_c2, kx_pl, kx_cmp, kx_oF, kx_eqN, kx_nil, kx_c1, kx_ft, kx_aI, kx_aL, kx_aR, kx_ln, Nat.reduceAdd, Option.toList, List.cons_append, List.nil_append]
          repeat (simp only [cx_8o, ks_eq, ks_ss]; try dsimp only [kx_wp, kx_step, kx_lI, kx_lL, kx_lA, kx_gl, kx_pI, kx_pL, kx_pR, kx_pA, kx_pV, kx_s1, kx_s2, kx_sl, kx_pre, kx_c2, kx_pl, kx_cmp, kx_oF, kx_eqN, kx_nil, kx_c1, kx_ft, kx_aI, kx_aL, kx_aR, kx_ln, Nat.reduceAdd, Option.toList, List.cons_append, List.nil_append])
          repeat' apply And.intro
          all_goals try (first | with_reducible assumption | (with_reducible refine ck_nzI ?_; simp; done) | (with_reducible refine ck_nzL ?_; simp; done) | (with_reducible refine vp_in_nI ?_ ?_ <;> first | omega | decide) | (with_reducible refine Nat.le_of_ble_eq_true ?_; rfl) | omega | exact Or.inl trivial | exact Or.inr trivial | exact Or.inl rfl | exact Or.inr rfl)
          · intro zc42
            have ze42 := zc42
            refine hB bX8_isNumbered_72 _ _ _ _ _ _ _ kX8_isNumbered_72 ?_
            dsimp only [bX8_isNumbered_72, kx_wp, kx_step, kx_lI, kx_lL, kx_lA, kx_gl, kx_pI, kx_pL, kx_pR, kx_pA, kx_pV, kx_s1, kx_s2, kx_sl, kx_pre, kx_c2, kx_pl, kx_cmp, kx_oF, kx_eqN, kx_nil, kx_c1, kx_ft, kx_aI, kx_aL, kx_aR, kx_ln, Nat.reduceAdd, Option.toList, List.cons_append, List.nil_append]
            repeat (simp only [cx_8o, ks_eq, ks_ss]; try dsimp only [kx_wp, kx_step, kx_lI, kx_lL, kx_lA, kx_gl, kx_pI, kx_pL, kx_pR, kx_pA, kx_pV, kx_s1, kx_s2, kx_sl, kx_pre, kx_c2, kx_pl, kx_cmp, kx_oF, kx_eqN, kx_nil, kx_c1, kx_ft, kx_aI, kx_aL, kx_aR, kx_ln, Nat.reduceAdd, Option.toList, List.cons_append, List.nil_append])
            repeat' apply And.intro
            all_goals try (first | with_reducible assumption | (with_reducible refine ck_nzI ?_; simp; done) | (with_reducible refine ck_nzL ?_; simp; done) | (with_reducible refine vp_in_nI ?_ ?_ <;> first | omega | decide) | (with_reducible refine Nat.le_of_ble_eq_true ?_; rfl) | omega | exact Or.inl trivial | exact Or.inr trivial | exact Or.inl rfl | exact Or.inr rfl)
            refine hB bX8_isNumbered_77 _ _ _ _ _ _ _ kX8_isNumbered_77 ?_
            dsimp only [bX8_isNumbered_77, kx_wp, kx_step, kx_lI, kx_lL, kx_lA, kx_gl, kx_pI, kx_pL, kx_pR, kx_pA, kx_pV, kx_s1, kx_s2, kx_sl, kx_pre, kx_c2, kx_pl, kx_cmp, kx_oF, kx_eqN, kx_nil, kx_c1, kx_ft, kx_aI, kx_aL, kx_aR, kx_ln, Nat.reduceAdd, Option.toList, List.cons_append, List.nil_append]
            repeat (simp only [cx_8o, ks_eq, ks_ss]; try dsimp only [kx_wp, kx_step, kx_lI, kx_lL, kx_lA, kx_gl, kx_pI, kx_pL, kx_pR, kx_pA, kx_pV, kx_s1, kx_s2, kx_sl, kx_pre, kx_c2, kx_pl, kx_cmp, kx_oF, kx_eqN, kx_nil, kx_c1, kx_ft, kx_aI, kx_aL, kx_aR, kx_ln, Nat.reduceAdd, Option.toList, List.cons_append, List.nil_append])
            all_goals (repeat' apply And.intro)
            all_goals ((try clear hB hC); first | exact True.intro | with_reducible rfl | with_reducible assumption | (with_reducible refine vp_in_nI ?_ ?_ <;> first | omega | decide) | exact Nat.le_of_ble_eq_true rfl | (with_reducible refine ck_nzI ?_; simp; done) | (with_reducible refine ck_nzL ?_; simp; done) | (simp only [pk_us, pk_uLs, eq_true ze6, eq_true ze15, eq_true ze24, eq_true ze33, ze42, ↓reduceIte, not_true_eq_false, not_false_eq_true]; done) | (simp only [eq_true ze6, eq_true ze15, eq_true ze24, eq_true ze33, ze42, ↓reduceIte, not_true_eq_false, not_false_eq_true]; with_reducible rfl) | omega | skip)
          · intro zc42
            first | exact absurd rfl zc42 | exact absurd zc42 (by decide) | exact absurd (by decide) zc42 | (exfalso; ((try clear hB hC); simp only [ck_lt, ck_le, ck_eq, not_true_eq_false, not_false_eq_true, Int32.reduceToInt, Int32.reduceAdd, Int32.reduceSub, Int32.reduceMul] at * <;> omega)) | (exfalso; simp_all; done)

set_option maxRecDepth 100000 in
set_option maxHeartbeats 4000000 in
theorem ci_5 (l : Launch) (G : kx_G) {P : kx_P} {sz : Nat} {F T : Nat → Int32} {x : Value} (hT : P 67 = kI 0 400 T) {n b : Nat} (h6 : F 6 = nI b) (h7 : F 7 = nI (ck_ps T n b)) (hb : b ≤ n) (hn : n ≤ 400) (w0 : ¬ ck_wo_ T n b = kz_co 0) (w1 : ¬ ck_wo_ T n b = kz_co 1) (w2 : ¬ ck_wo_ T n b = kz_co 2) (w3 : ¬ ck_wo_ T n b = kz_co 3) (w4 : ¬ ck_wo_ T n b = kz_co 4) (w5 : ck_wo_ T n b = kz_co 5)  : kx_M l G sX8_isNumbered 6 0 0 [.ref 68] (cx_8 P x F) sz (some (.int (1))) (cx_8 P x F) sz := by
  refine kz_m2d kx_tab kxLok_X8 (ini := false) [some (.ref 68)] ⟨by decide +kernel, rfl, by decide, by decide⟩ (Or.inl (by first | exact Or.inl rfl | exact Or.inr rfl)) rfl rfl (fun g hB hC hK => ?_)
  refine hB bX8_isNumbered_0 _ _ _ _ _ _ _ kX8_isNumbered_0 ?_
  dsimp only [bX8_isNumbered_0, kx_wp, kx_step, kx_lI, kx_lL, kx_lA, kx_gl, kx_pI, kx_pL, kx_pR, kx_pA, kx_pV, kx_s1, kx_s2, kx_sl, kx_pre, kx_c2, kx_pl, kx_cmp, kx_oF, kx_eqN, kx_nil, kx_c1, kx_ft, kx_aI, kx_aL, kx_aR, kx_ln, Nat.reduceAdd, Option.toList, List.cons_append, List.nil_append]
  repeat (simp only [cx_8o, ks_eq, ks_ss]; try dsimp only [kx_wp, kx_step, kx_lI, kx_lL, kx_lA, kx_gl, kx_pI, kx_pL, kx_pR, kx_pA, kx_pV, kx_s1, kx_s2, kx_sl, kx_pre, kx_c2, kx_pl, kx_cmp, kx_oF, kx_eqN, kx_nil, kx_c1, kx_ft, kx_aI, kx_aL, kx_aR, kx_ln, Nat.reduceAdd, Option.toList, List.cons_append, List.nil_append])
  repeat' apply And.intro
  all_goals try (first | with_reducible assumption | (with_reducible refine ck_nzI ?_; simp; done) | (with_reducible refine ck_nzL ?_; simp; done) | (with_reducible refine vp_in_nI ?_ ?_ <;> first | omega | decide) | (with_reducible refine Nat.le_of_ble_eq_true ?_; rfl) | omega | exact Or.inl trivial | exact Or.inr trivial | exact Or.inl rfl | exact Or.inr rfl)
  refine kz_lds hK rfl 0 dX8_isNumbered_1 (by decide) rfl ?_
  refine hC.1 96 _ _ _ _ _ _ _ 8 _ _ _ _ _ _ _ _ _ _ _ _ lX8_96 (cx_wi_f hT h6 h7 hb hn 0 (by decide) w0) ⟨by decide, rfl⟩ (cx_8o) rfl rfl (Nat.le_of_ble_eq_true rfl) (by first | decide | omega) (by decide) (by omega) (by omega) dX8_isNumbered_3 ?_
  refine hB bX8_isNumbered_6 _ _ _ _ _ _ _ kX8_isNumbered_6 ?_
  dsimp only [bX8_isNumbered_6, kx_wp, kx_step, kx_lI, kx_lL, kx_lA, kx_gl, kx_pI, kx_pL, kx_pR, kx_pA, kx_pV, kx_s1, kx_s2, kx_sl, kx_pre, kx_c2, kx_pl, kx_cmp, kx_oF, kx_eqN, kx_nil, kx_c1, kx_ft, kx_aI, kx_aL, kx_aR, kx_ln, Nat.reduceAdd, Option.toList, List.cons_append, List.nil_append]
  repeat (simp only [cx_8o, ks_eq, ks_ss]; try dsimp only [kx_wp, kx_step, kx_lI, kx_lL, kx_lA, kx_gl, kx_pI, kx_pL, kx_pR, kx_pA, kx_pV, kx_s1, kx_s2, kx_sl, kx_pre, kx_c2, kx_pl, kx_cmp, kx_oF, kx_eqN, kx_nil, kx_c1, kx_ft, kx_aI, kx_aL, kx_aR, kx_ln, Nat.reduceAdd, Option.toList, List.cons_append, List.nil_append])
  repeat' apply And.intro
  all_goals try (first | with_reducible assumption | (with_reducible refine ck_nzI ?_; simp; done) | (with_reducible refine ck_nzL ?_; simp; done) | (with_reducible refine vp_in_nI ?_ ?_ <;> first | omega | decide) | (with_reducible refine Nat.le_of_ble_eq_true ?_; rfl) | omega | exact Or.inl trivial | exact Or.inr trivial | exact Or.inl rfl | exact Or.inr rfl)
  · intro zc6
    first | exact absurd rfl zc6 | exact absurd zc6 (by decide) | exact absurd (by decide) zc6 | (exfalso; ((try clear hB hC); simp only [ck_lt, ck_le, ck_eq, not_true_eq_false, not_false_eq_true, Int32.reduceToInt, Int32.reduceAdd, Int32.reduceSub, Int32.reduceMul] at * <;> omega)) | (exfalso; simp_all; done)
  · intro zc6
    with_reducible first | have ze6 := Decidable.not_not.mp zc6 | have ze6 := zc6
    refine hB bX8_isNumbered_9 _ _ _ _ _ _ _ kX8_isNumbered_9 ?_
    dsimp only [bX8_isNumbered_9, kx_wp, kx_step, kx_lI, kx_lL, kx_lA, kx_gl, kx_pI, kx_pL, kx_pR, kx_pA, kx_pV, kx_s1, kx_s2, kx_sl, kx_pre, kx_c2, kx_pl, kx_cmp, kx_oF, kx_eqN, kx_nil, kx_c1, kx_ft, kx_aI, kx_aL, kx_aR, kx_ln, Nat.reduceAdd, Option.toList, List.cons_append, List.nil_append]
    repeat (simp only [cx_8o, ks_eq, ks_ss]; try dsimp only [kx_wp, kx_step, kx_lI, kx_lL, kx_lA, kx_gl, kx_pI, kx_pL, kx_pR, kx_pA, kx_pV, kx_s1, kx_s2, kx_sl, kx_pre, kx_c2, kx_pl, kx_cmp, kx_oF, kx_eqN, kx_nil, kx_c1, kx_ft, kx_aI, kx_aL, kx_aR, kx_ln, Nat.reduceAdd, Option.toList, List.cons_append, List.nil_append])
    repeat' apply And.intro
    all_goals try (first | with_reducible assumption | (with_reducible refine ck_nzI ?_; simp; done) | (with_reducible refine ck_nzL ?_; simp; done) | (with_reducible refine vp_in_nI ?_ ?_ <;> first | omega | decide) | (with_reducible refine Nat.le_of_ble_eq_true ?_; rfl) | omega | exact Or.inl trivial | exact Or.inr trivial | exact Or.inl rfl | exact Or.inr rfl)
    refine kz_lds hK rfl 1 dX8_isNumbered_10 (by decide) rfl ?_
    refine hC.1 96 _ _ _ _ _ _ _ 8 _ _ _ _ _ _ _ _ _ _ _ _ lX8_96 (cx_wi_f hT h6 h7 hb hn 1 (by decide) w1) ⟨by decide, rfl⟩ (cx_8o) rfl rfl (Nat.le_of_ble_eq_true rfl) (by first | decide | omega) (by decide) (by omega) (by omega) dX8_isNumbered_12 ?_
    refine hB bX8_isNumbered_15 _ _ _ _ _ _ _ kX8_isNumbered_15 ?_
    dsimp only [bX8_isNumbered_15, kx_wp, kx_step, kx_lI, kx_lL, kx_lA, kx_gl, kx_pI, kx_pL, kx_pR, kx_pA, kx_pV, kx_s1, kx_s2, kx_sl, kx_pre, kx_c2, kx_pl, kx_cmp, kx_oF, kx_eqN, kx_nil, kx_c1, kx_ft, kx_aI, kx_aL, kx_aR, kx_ln, Nat.reduceAdd, Option.toList, List.cons_append, List.nil_append]
    repeat (simp only [cx_8o, ks_eq, ks_ss]; try dsimp only [kx_wp, kx_step, kx_lI, kx_lL, kx_lA, kx_gl, kx_pI, kx_pL, kx_pR, kx_pA, kx_pV, kx_s1, kx_s2, kx_sl, kx_pre, kx_c2, kx_pl, kx_cmp, kx_oF, kx_eqN, kx_nil, kx_c1, kx_ft, kx_aI, kx_aL, kx_aR, kx_ln, Nat.reduceAdd, Option.toList, List.cons_append, List.nil_append])
    repeat' apply And.intro
    all_goals try (first | with_reducible assumption | (with_reducible refine ck_nzI ?_; simp; done) | (with_reducible refine ck_nzL ?_; simp; done) | (with_reducible refine vp_in_nI ?_ ?_ <;> first | omega | decide) | (with_reducible refine Nat.le_of_ble_eq_true ?_; rfl) | omega | exact Or.inl trivial | exact Or.inr trivial | exact Or.inl rfl | exact Or.inr rfl)
    · intro zc15
      first | exact absurd rfl zc15 | exact absurd zc15 (by decide) | exact absurd (by decide) zc15 | (exfalso; ((try clear hB hC); simp only [ck_lt, ck_le, ck_eq, not_true_eq_false, not_false_eq_true, Int32.reduceToInt, Int32.reduceAdd, Int32.reduceSub, Int32.reduceMul] at * <;> omega)) | (exfalso; simp_all; done)
    · intro zc15
      with_reducible first | have ze15 := Decidable.not_not.mp zc15 | have ze15 := zc15
      refine hB bX8_isNumbered_18 _ _ _ _ _ _ _ kX8_isNumbered_18 ?_
      dsimp only [bX8_isNumbered_18, kx_wp, kx_step, kx_lI, kx_lL, kx_lA, kx_gl, kx_pI, kx_pL, kx_pR, kx_pA, kx_pV, kx_s1, kx_s2, kx_sl, kx_pre, kx_c2, kx_pl, kx_cmp, kx_oF, kx_eqN, kx_nil, kx_c1, kx_ft, kx_aI, kx_aL, kx_aR, kx_ln, Nat.reduceAdd, Option.toList, List.cons_append, List.nil_append]
      repeat (simp only [cx_8o, ks_eq, ks_ss]; try dsimp only [kx_wp, kx_step, kx_lI, kx_lL, kx_lA, kx_gl, kx_pI, kx_pL, kx_pR, kx_pA, kx_pV, kx_s1, kx_s2, kx_sl, kx_pre, kx_c2, kx_pl, kx_cmp, kx_oF, kx_eqN, kx_nil, kx_c1, kx_ft, kx_aI, kx_aL, kx_aR, kx_ln, Nat.reduceAdd, Option.toList, List.cons_append, List.nil_append])
      repeat' apply And.intro
      all_goals try (first | with_reducible assumption | (with_reducible refine ck_nzI ?_; simp; done) | (with_reducible refine ck_nzL ?_; simp; done) | (with_reducible refine vp_in_nI ?_ ?_ <;> first | omega | decide) | (with_reducible refine Nat.le_of_ble_eq_true ?_; rfl) | omega | exact Or.inl trivial | exact Or.inr trivial | exact Or.inl rfl | exact Or.inr rfl)
      refine kz_lds hK rfl 2 dX8_isNumbered_19 (by decide) rfl ?_
      refine hC.1 96 _ _ _ _ _ _ _ 8 _ _ _ _ _ _ _ _ _ _ _ _ lX8_96 (cx_wi_f hT h6 h7 hb hn 2 (by decide) w2) ⟨by decide, rfl⟩ (cx_8o) rfl rfl (Nat.le_of_ble_eq_true rfl) (by first | decide | omega) (by decide) (by omega) (by omega) dX8_isNumbered_21 ?_
      refine hB bX8_isNumbered_24 _ _ _ _ _ _ _ kX8_isNumbered_24 ?_
      dsimp only [bX8_isNumbered_24, kx_wp, kx_step, kx_lI, kx_lL, kx_lA, kx_gl, kx_pI, kx_pL, kx_pR, kx_pA, kx_pV, kx_s1, kx_s2, kx_sl, kx_pre, kx_c2, kx_pl, kx_cmp, kx_oF, kx_eqN, kx_nil, kx_c1, kx_ft, kx_aI, kx_aL, kx_aR, kx_ln, Nat.reduceAdd, Option.toList, List.cons_append, List.nil_append]
      repeat (simp only [cx_8o, ks_eq, ks_ss]; try dsimp only [kx_wp, kx_step, kx_lI, kx_lL, kx_lA, kx_gl, kx_pI, kx_pL, kx_pR, kx_pA, kx_pV, kx_s1, kx_s2, kx_sl, kx_pre, kx_c2, kx_pl, kx_cmp, kx_oF, kx_eqN, kx_nil, kx_c1, kx_ft, kx_aI, kx_aL, kx_aR, kx_ln, Nat.reduceAdd, Option.toList, List.cons_append, List.nil_append])
      repeat' apply And.intro
      all_goals try (first | with_reducible assumption | (with_reducible refine ck_nzI ?_; simp; done) | (with_reducible refine ck_nzL ?_; simp; done) | (with_reducible refine vp_in_nI ?_ ?_ <;> first | omega | decide) | (with_reducible refine Nat.le_of_ble_eq_true ?_; rfl) | omega | exact Or.inl trivial | exact Or.inr trivial | exact Or.inl rfl | exact Or.inr rfl)
      · intro zc24
        first | exact absurd rfl zc24 | exact absurd zc24 (by decide) | exact absurd (by decide) zc24 | (exfalso; ((try clear hB hC); simp only [ck_lt, ck_le, ck_eq, not_true_eq_false, not_false_eq_true, Int32.reduceToInt, Int32.reduceAdd, Int32.reduceSub, Int32.reduceMul] at * <;> omega)) | (exfalso; simp_all; done)
      · intro zc24
        with_reducible first | have ze24 := Decidable.not_not.mp zc24 | have ze24 := zc24
        refine hB bX8_isNumbered_27 _ _ _ _ _ _ _ kX8_isNumbered_27 ?_
        dsimp only [bX8_isNumbered_27, kx_wp, kx_step, kx_lI, kx_lL, kx_lA, kx_gl, kx_pI, kx_pL, kx_pR, kx_pA, kx_pV, kx_s1, kx_s2, kx_sl, kx_pre, kx_c2, kx_pl, kx_cmp, kx_oF, kx_eqN, kx_nil, kx_c1, kx_ft, kx_aI, kx_aL, kx_aR, kx_ln, Nat.reduceAdd, Option.toList, List.cons_append, List.nil_append]
        repeat (simp only [cx_8o, ks_eq, ks_ss]; try dsimp only [kx_wp, kx_step, kx_lI, kx_lL, kx_lA, kx_gl, kx_pI, kx_pL, kx_pR, kx_pA, kx_pV, kx_s1, kx_s2, kx_sl, kx_pre, kx_c2, kx_pl, kx_cmp, kx_oF, kx_eqN, kx_nil, kx_c1, kx_ft, kx_aI, kx_aL, kx_aR, kx_ln, Nat.reduceAdd, Option.toList, List.cons_append, List.nil_append])
        repeat' apply And.intro
        all_goals try (first | with_reducible assumption | (with_reducible refine ck_nzI ?_; simp; done) | (with_reducible refine ck_nzL ?_; simp; done) | (with_reducible refine vp_in_nI ?_ ?_ <;> first | omega | decide) | (with_reducible refine Nat.le_of_ble_eq_true ?_; rfl) | omega | exact Or.inl trivial | exact Or.inr trivial | exact Or.inl rfl | exact Or.inr rfl)
        refine kz_lds hK rfl 3 dX8_isNumbered_28 (by decide) rfl ?_
        refine hC.1 96 _ _ _ _ _ _ _ 8 _ _ _ _ _ _ _ _ _ _ _ _ lX8_96 (cx_wi_f hT h6 h7 hb hn 3 (by decide) w3) ⟨by decide, rfl⟩ (cx_8o) rfl rfl (Nat.le_of_ble_eq_true rfl) (by first | decide | omega) (by decide) (by omega) (by omega) dX8_isNumbered_30 ?_
        refine hB bX8_isNumbered_33 _ _ _ _ _ _ _ kX8_isNumbered_33 ?_
        dsimp only [bX8_isNumbered_33, kx_wp, kx_step, kx_lI, kx_lL, kx_lA, kx_gl, kx_pI, kx_pL, kx_pR, kx_pA, kx_pV, kx_s1, kx_s2, kx_sl, kx_pre, kx_c2, kx_pl, kx_cmp, kx_oF, kx_eqN, kx_nil, kx_c1, kx_ft, kx_aI, kx_aL, kx_aR, kx_ln, Nat.reduceAdd, Option.toList, List.cons_append, List.nil_append]
        repeat (simp only [cx_8o, ks_eq, ks_ss]; try dsimp only [kx_wp, kx_step, kx_lI, kx_lL, kx_lA, kx_gl, kx_pI, kx_pL, kx_pR, kx_pA, kx_pV, kx_s1, kx_s2, kx_sl, kx_pre, kx_c2, kx_pl, kx_cmp, kx_oF, kx_eqN, kx_nil, kx_c1, kx_ft, kx_aI, kx_aL, kx_aR, kx_ln, Nat.reduceAdd, Option.toList, List.cons_append, List.nil_append])
        repeat' apply And.intro
        all_goals try (first | with_reducible assumption | (with_reducible refine ck_nzI ?_; simp; done) | (with_reducible refine ck_nzL ?_; simp; done) | (with_reducible refine vp_in_nI ?_ ?_ <;> first | omega | decide) | (with_reducible refine Nat.le_of_ble_eq_true ?_; rfl) | omega | exact Or.inl trivial | exact Or.inr trivial | exact Or.inl rfl | exact Or.inr rfl)
        · intro zc33
          first | exact absurd rfl zc33 | exact absurd zc33 (by decide) | exact absurd (by decide) zc33 | (exfalso; ((try clear hB hC); simp only [ck_lt, ck_le, ck_eq, not_true_eq_false, not_false_eq_true, Int32.reduceToInt, Int32.reduceAdd, Int32.reduceSub, Int32.reduceMul] at * <;> omega)) | (exfalso; simp_all; done)
        · intro zc33
          with_reducible first | have ze33 := Decidable.not_not.mp zc33 | have ze33 := zc33
          refine hB bX8_isNumbered_36 _ _ _ _ _ _ _ kX8_isNumbered_36 ?_
          dsimp only [bX8_isNumbered_36, kx_wp, kx_step, kx_lI, kx_lL, kx_lA, kx_gl, kx_pI, kx_pL, kx_pR, kx_pA, kx_pV, kx_s1, kx_s2, kx_sl, kx_pre, kx_c2, kx_pl, kx_cmp, kx_oF, kx_eqN, kx_nil, kx_c1, kx_ft, kx_aI, kx_aL, kx_aR, kx_ln, Nat.reduceAdd, Option.toList, List.cons_append, List.nil_append]
          repeat (simp only [cx_8o, ks_eq, ks_ss]; try dsimp only [kx_wp, kx_step, kx_lI, kx_lL, kx_lA, kx_gl, kx_pI, kx_pL, kx_pR, kx_pA, kx_pV, kx_s1, kx_s2, kx_sl, kx_pre, kx_c2, kx_pl, kx_cmp, kx_oF, kx_eqN, kx_nil, kx_c1, kx_ft, kx_aI, kx_aL, kx_aR, kx_ln, Nat.reduceAdd, Option.toList, List.cons_append, List.nil_append])
          repeat' apply And.intro
          all_goals try (first | with_reducible assumption | (with_reducible refine ck_nzI ?_; simp; done) | (with_reducible refine ck_nzL ?_; simp; done) | (with_reducible refine vp_in_nI ?_ ?_ <;> first | omega | decide) | (with_reducible refine Nat.le_of_ble_eq_true ?_; rfl) | omega | exact Or.inl trivial | exact Or.inr trivial | exact Or.inl rfl | exact Or.inr rfl)
          refine kz_lds hK rfl 4 dX8_isNumbered_37 (by decide) rfl ?_
          refine hC.1 96 _ _ _ _ _ _ _ 8 _ _ _ _ _ _ _ _ _ _ _ _ lX8_96 (cx_wi_f hT h6 h7 hb hn 4 (by decide) w4) ⟨by decide, rfl⟩ (cx_8o) rfl rfl (Nat.le_of_ble_eq_true rfl) (by first | decide | omega) (by decide) (by omega) (by omega) dX8_isNumbered_39 ?_
          refine hB bX8_isNumbered_42 _ _ _ _ _ _ _ kX8_isNumbered_42 ?_
          dsimp only [bX8_isNumbered_42, kx_wp, kx_step, kx_lI, kx_lL, kx_lA, kx_gl, kx_pI, kx_pL, kx_pR, kx_pA, kx_pV, kx_s1, kx_s2, kx_sl, kx_pre, kx_c2, kx_pl, kx_cmp, kx_oF, kx_eqN, kx_nil, kx_c1, kx_ft, kx_aI, kx_aL, kx_aR, kx_ln, Nat.reduceAdd, Option.toList, List.cons_append, List.nil_append]
          repeat (simp only [cx_8o, ks_eq, ks_ss]; try dsimp only [kx_wp, kx_step, kx_lI, kx_lL, kx_lA, kx_gl, kx_pI, kx_pL, kx_pR, kx_pA, kx_pV, kx_s1, kx_s2, kx_sl, kx_pre, kx_c2, kx_pl, kx_cmp, kx_oF, kx_eqN, kx_nil, kx_c1, kx_ft, kx_aI, kx_aL, kx_aR, kx_ln, Nat.reduceAdd, Option.toList, List.cons_append, List.nil_append])
          repeat' apply And.intro
          all_goals try (first | with_reducible assumption | (with_reducible refine ck_nzI ?_; simp; done) | (with_reducible refine ck_nzL ?_; simp; done) | (with_reducible refine vp_in_nI ?_ ?_ <;> first | omega | decide) | (with_reducible refine Nat.le_of_ble_eq_true ?_; rfl) | omega | exact Or.inl trivial | exact Or.inr trivial | exact Or.inl rfl | exact Or.inr rfl)
          · intro zc42
            first | exact absurd rfl zc42 | exact absurd zc42 (by decide) | exact absurd (by decide) zc42 | (exfalso; ((try clear hB hC); simp only [ck_lt, ck_le, ck_eq, not_true_eq_false, not_false_eq_true, Int32.reduceToInt, Int32.reduceAdd, Int32.reduceSub, Int32.reduceMul] at * <;> omega)) | (exfalso; simp_all; done)
          · intro zc42
            with_reducible first | have ze42 := Decidable.not_not.mp zc42 | have ze42 := zc42
            refine hB bX8_isNumbered_45 _ _ _ _ _ _ _ kX8_isNumbered_45 ?_
            dsimp only [bX8_isNumbered_45, kx_wp, kx_step, kx_lI, kx_lL, kx_lA, kx_gl, kx_pI, kx_pL, kx_pR, kx_pA, kx_pV, kx_s1, kx_s2, kx_sl, kx_pre, kx_c2, kx_pl, kx_cmp, kx_oF, kx_eqN, kx_nil, kx_c1, kx_ft, kx_aI, kx_aL, kx_aR, kx_ln, Nat.reduceAdd, Option.toList, List.cons_append, List.nil_append]
            repeat (simp only [cx_8o, ks_eq, ks_ss]; try dsimp only [kx_wp, kx_step, kx_lI, kx_lL, kx_lA, kx_gl, kx_pI, kx_pL, kx_pR, kx_pA, kx_pV, kx_s1, kx_s2, kx_sl, kx_pre, kx_c2, kx_pl, kx_cmp, kx_oF, kx_eqN, kx_nil, kx_c1, kx_ft, kx_aI, kx_aL, kx_aR, kx_ln, Nat.reduceAdd, Option.toList, List.cons_append, List.nil_append])
            repeat' apply And.intro
            all_goals try (first | with_reducible assumption | (with_reducible refine ck_nzI ?_; simp; done) | (with_reducible refine ck_nzL ?_; simp; done) | (with_reducible refine vp_in_nI ?_ ?_ <;> first | omega | decide) | (with_reducible refine Nat.le_of_ble_eq_true ?_; rfl) | omega | exact Or.inl trivial | exact Or.inr trivial | exact Or.inl rfl | exact Or.inr rfl)
            refine kz_lds hK rfl 5 dX8_isNumbered_46 (by decide) rfl ?_
            refine hC.1 96 _ _ _ _ _ _ _ 8 _ _ _ _ _ _ _ _ _ _ _ _ lX8_96 (cx_wi_t hT h6 h7 hb hn 5 (by decide) w5) ⟨by decide, rfl⟩ (cx_8o) rfl rfl (Nat.le_of_ble_eq_true rfl) (by first | decide | omega) (by decide) (by omega) (by omega) dX8_isNumbered_48 ?_
            refine hB bX8_isNumbered_51 _ _ _ _ _ _ _ kX8_isNumbered_51 ?_
            dsimp only [bX8_isNumbered_51, kx_wp, kx_step, kx_lI, kx_lL, kx_lA, kx_gl, kx_pI, kx_pL, kx_pR, kx_pA, kx_pV, kx_s1, kx_s2, kx_sl, kx_pre, kx_c2, kx_pl, kx_cmp, kx_oF, kx_eqN, kx_nil, kx_c1, kx_ft, kx_aI, kx_aL, kx_aR, kx_ln, Nat.reduceAdd, Option.toList, List.cons_append, List.nil_append]
            repeat (simp only [cx_8o, ks_eq, ks_ss]; try dsimp only [kx_wp, kx_step, kx_lI, kx_lL, kx_lA, kx_gl, kx_pI, kx_pL, kx_pR, kx_pA, kx_pV, kx_s1, kx_s2, kx_sl, kx_pre, kx_c2, kx_pl, kx_cmp, kx_oF, kx_eqN, kx_nil, kx_c1, kx_ft, kx_aI, kx_aL, kx_aR, kx_ln, Nat.reduceAdd, Option.toList, List.cons_append, List.nil_append])
            repeat' apply And.intro
            all_goals try (first | with_reducible assumption | (with_reducible refine ck_nzI ?_; simp; done) | (with_reducible refine ck_nzL ?_; simp; done) | (with_reducible refine vp_in_nI ?_ ?_ <;> first | omega | decide) | (with_reducible refine Nat.le_of_ble_eq_true ?_; rfl) | omega | exact Or.inl trivial | exact Or.inr trivial | exact Or.inl rfl | exact Or.inr rfl)
            · intro zc51
              have ze51 := zc51
              refine hB bX8_isNumbered_72 _ _ _ _ _ _ _ kX8_isNumbered_72 ?_
              dsimp only [bX8_isNumbered_72, kx_wp, kx_step, kx_lI, kx_lL, kx_lA, kx_gl, kx_pI, kx_pL, kx_pR, kx_pA, kx_pV, kx_s1, kx_s2, kx_sl, kx_pre, kx_c2, kx_pl, kx_cmp, kx_oF, kx_eqN, kx_nil, kx_c1, kx_ft, kx_aI, kx_aL, kx_aR, kx_ln, Nat.reduceAdd, Option.toList, List.cons_append, List.nil_append]
              repeat (simp only [cx_8o, ks_eq, ks_ss]; try dsimp only [kx_wp, kx_step, kx_lI, kx_lL, kx_lA, kx_gl, kx_pI, kx_pL, kx_pR, kx_pA, kx_pV, kx_s1, kx_s2, kx_sl, kx_pre, kx_c2, kx_pl, kx_cmp, kx_oF, kx_eqN, kx_nil, kx_c1, kx_ft, kx_aI, kx_aL, kx_aR, kx_ln, Nat.reduceAdd, Option.toList, List.cons_append, List.nil_append])
              repeat' apply And.intro
              all_goals try (first | with_reducible assumption | (with_reducible refine ck_nzI ?_; simp; done) | (with_reducible refine ck_nzL ?_; simp; done) | (with_reducible refine vp_in_nI ?_ ?_ <;> first | omega | decide) | (with_reducible refine Nat.le_of_ble_eq_true ?_; rfl) | omega | exact Or.inl trivial | exact Or.inr trivial | exact Or.inl rfl | exact Or.inr rfl)
              refine hB bX8_isNumbered_77 _ _ _ _ _ _ _ kX8_isNumbered_77 ?_
              dsimp only [bX8_isNumbered_77, kx_wp, kx_step, kx_lI, kx_lL, kx_lA, kx_gl, kx_pI, kx_pL, kx_pR, kx_pA, kx_pV, kx_s1, kx_s2, kx_sl, kx_pre, kx_c2, kx_pl, kx_cmp, kx_oF, kx_eqN, kx_nil, kx_c1, kx_ft, kx_aI, kx_aL, kx_aR, kx_ln, Nat.reduceAdd, Option.toList, List.cons_append, List.nil_append]
              repeat (simp only [cx_8o, ks_eq, ks_ss]; try dsimp only [kx_wp, kx_step, kx_lI, kx_lL, kx_lA, kx_gl, kx_pI, kx_pL, kx_pR, kx_pA, kx_pV, kx_s1, kx_s2, kx_sl, kx_pre, kx_c2, kx_pl, kx_cmp, kx_oF, kx_eqN, kx_nil, kx_c1, kx_ft, kx_aI, kx_aL, kx_aR, kx_ln, Nat.reduceAdd, Option.toList, List.cons_append, List.nil_append])
              all_goals (repeat' apply And.intro)
              all_goals ((try clear hB hC); first | exact True.intro | with_reducible rfl | with_reducible assumption | (with_reducible refine vp_in_nI ?_ ?_ <;> first | omega | decide) | exact Nat.le_of_ble_eq_true rfl | (with_reducible refine ck_nzI ?_; simp; done) | (with_reducible refine ck_nzL ?_; simp; done) | (simp only [pk_us, pk_uLs, eq_true ze6, eq_true ze15, eq_true ze24, eq_true ze33, eq_true ze42, ze51, ↓reduceIte, not_true_eq_false, not_false_eq_true]; done) | (simp only [eq_true ze6, eq_true ze15, eq_true ze24, eq_true ze33, eq_true ze42, ze51, ↓reduceIte, not_true_eq_false, not_false_eq_true]; with_reducible rfl) | omega | skip)
            · intro zc51
              first | exact absurd rfl zc51 | exact absurd zc51 (by decide) | exact absurd (by decide) zc51 | (exfalso; ((try clear hB hC); simp only [ck_lt, ck_le, ck_eq, not_true_eq_false, not_false_eq_true, Int32.reduceToInt, Int32.reduceAdd, Int32.reduceSub, Int32.reduceMul] at * <;> omega)) | (exfalso; simp_all; done)

set_option maxRecDepth 100000 in
set_option maxHeartbeats 4000000 in
theorem ci_6 (l : Launch) (G : kx_G) {P : kx_P} {sz : Nat} {F T : Nat → Int32} {x : Value} (hT : P 67 = kI 0 400 T) {n b : Nat} (h6 : F 6 = nI b) (h7 : F 7 = nI (ck_ps T n b)) (hb : b ≤ n) (hn : n ≤ 400) (w0 : ¬ ck_wo_ T n b = kz_co 0) (w1 : ¬ ck_wo_ T n b = kz_co 1) (w2 : ¬ ck_wo_ T n b = kz_co 2) (w3 : ¬ ck_wo_ T n b = kz_co 3) (w4 : ¬ ck_wo_ T n b = kz_co 4) (w5 : ¬ ck_wo_ T n b = kz_co 5) (w6 : ck_wo_ T n b = kz_co 6)  : kx_M l G sX8_isNumbered 6 0 0 [.ref 68] (cx_8 P x F) sz (some (.int (1))) (cx_8 P x F) sz := by
  refine kz_m2d kx_tab kxLok_X8 (ini := false) [some (.ref 68)] ⟨by decide +kernel, rfl, by decide, by decide⟩ (Or.inl (by first | exact Or.inl rfl | exact Or.inr rfl)) rfl rfl (fun g hB hC hK => ?_)
  refine hB bX8_isNumbered_0 _ _ _ _ _ _ _ kX8_isNumbered_0 ?_
  dsimp only [bX8_isNumbered_0, kx_wp, kx_step, kx_lI, kx_lL, kx_lA, kx_gl, kx_pI, kx_pL, kx_pR, kx_pA, kx_pV, kx_s1, kx_s2, kx_sl, kx_pre, kx_c2, kx_pl, kx_cmp, kx_oF, kx_eqN, kx_nil, kx_c1, kx_ft, kx_aI, kx_aL, kx_aR, kx_ln, Nat.reduceAdd, Option.toList, List.cons_append, List.nil_append]
  repeat (simp only [cx_8o, ks_eq, ks_ss]; try dsimp only [kx_wp, kx_step, kx_lI, kx_lL, kx_lA, kx_gl, kx_pI, kx_pL, kx_pR, kx_pA, kx_pV, kx_s1, kx_s2, kx_sl, kx_pre, kx_c2, kx_pl, kx_cmp, kx_oF, kx_eqN, kx_nil, kx_c1, kx_ft, kx_aI, kx_aL, kx_aR, kx_ln, Nat.reduceAdd, Option.toList, List.cons_append, List.nil_append])
  repeat' apply And.intro
  all_goals try (first | with_reducible assumption | (with_reducible refine ck_nzI ?_; simp; done) | (with_reducible refine ck_nzL ?_; simp; done) | (with_reducible refine vp_in_nI ?_ ?_ <;> first | omega | decide) | (with_reducible refine Nat.le_of_ble_eq_true ?_; rfl) | omega | exact Or.inl trivial | exact Or.inr trivial | exact Or.inl rfl | exact Or.inr rfl)
  refine kz_lds hK rfl 0 dX8_isNumbered_1 (by decide) rfl ?_
  refine hC.1 96 _ _ _ _ _ _ _ 8 _ _ _ _ _ _ _ _ _ _ _ _ lX8_96 (cx_wi_f hT h6 h7 hb hn 0 (by decide) w0) ⟨by decide, rfl⟩ (cx_8o) rfl rfl (Nat.le_of_ble_eq_true rfl) (by first | decide | omega) (by decide) (by omega) (by omega) dX8_isNumbered_3 ?_
  refine hB bX8_isNumbered_6 _ _ _ _ _ _ _ kX8_isNumbered_6 ?_
  dsimp only [bX8_isNumbered_6, kx_wp, kx_step, kx_lI, kx_lL, kx_lA, kx_gl, kx_pI, kx_pL, kx_pR, kx_pA, kx_pV, kx_s1, kx_s2, kx_sl, kx_pre, kx_c2, kx_pl, kx_cmp, kx_oF, kx_eqN, kx_nil, kx_c1, kx_ft, kx_aI, kx_aL, kx_aR, kx_ln, Nat.reduceAdd, Option.toList, List.cons_append, List.nil_append]
  repeat (simp only [cx_8o, ks_eq, ks_ss]; try dsimp only [kx_wp, kx_step, kx_lI, kx_lL, kx_lA, kx_gl, kx_pI, kx_pL, kx_pR, kx_pA, kx_pV, kx_s1, kx_s2, kx_sl, kx_pre, kx_c2, kx_pl, kx_cmp, kx_oF, kx_eqN, kx_nil, kx_c1, kx_ft, kx_aI, kx_aL, kx_aR, kx_ln, Nat.reduceAdd, Option.toList, List.cons_append, List.nil_append])
  repeat' apply And.intro
  all_goals try (first | with_reducible assumption | (with_reducible refine ck_nzI ?_; simp; done) | (with_reducible refine ck_nzL ?_; simp; done) | (with_reducible refine vp_in_nI ?_ ?_ <;> first | omega | decide) | (with_reducible refine Nat.le_of_ble_eq_true ?_; rfl) | omega | exact Or.inl trivial | exact Or.inr trivial | exact Or.inl rfl | exact Or.inr rfl)
  · intro zc6
    first | exact absurd rfl zc6 | exact absurd zc6 (by decide) | exact absurd (by decide) zc6 | (exfalso; ((try clear hB hC); simp only [ck_lt, ck_le, ck_eq, not_true_eq_false, not_false_eq_true, Int32.reduceToInt, Int32.reduceAdd, Int32.reduceSub, Int32.reduceMul] at * <;> omega)) | (exfalso; simp_all; done)
  · intro zc6
    with_reducible first | have ze6 := Decidable.not_not.mp zc6 | have ze6 := zc6
    refine hB bX8_isNumbered_9 _ _ _ _ _ _ _ kX8_isNumbered_9 ?_
    dsimp only [bX8_isNumbered_9, kx_wp, kx_step, kx_lI, kx_lL, kx_lA, kx_gl, kx_pI, kx_pL, kx_pR, kx_pA, kx_pV, kx_s1, kx_s2, kx_sl, kx_pre, kx_c2, kx_pl, kx_cmp, kx_oF, kx_eqN, kx_nil, kx_c1, kx_ft, kx_aI, kx_aL, kx_aR, kx_ln, Nat.reduceAdd, Option.toList, List.cons_append, List.nil_append]
    repeat (simp only [cx_8o, ks_eq, ks_ss]; try dsimp only [kx_wp, kx_step, kx_lI, kx_lL, kx_lA, kx_gl, kx_pI, kx_pL, kx_pR, kx_pA, kx_pV, kx_s1, kx_s2, kx_sl, kx_pre, kx_c2, kx_pl, kx_cmp, kx_oF, kx_eqN, kx_nil, kx_c1, kx_ft, kx_aI, kx_aL, kx_aR, kx_ln, Nat.reduceAdd, Option.toList, List.cons_append, List.nil_append])
    repeat' apply And.intro
    all_goals try (first | with_reducible assumption | (with_reducible refine ck_nzI ?_; simp; done) | (with_reducible refine ck_nzL ?_; simp; done) | (with_reducible refine vp_in_nI ?_ ?_ <;> first | omega | decide) | (with_reducible refine Nat.le_of_ble_eq_true ?_; rfl) | omega | exact Or.inl trivial | exact Or.inr trivial | exact Or.inl rfl | exact Or.inr rfl)
    refine kz_lds hK rfl 1 dX8_isNumbered_10 (by decide) rfl ?_
    refine hC.1 96 _ _ _ _ _ _ _ 8 _ _ _ _ _ _ _ _ _ _ _ _ lX8_96 (cx_wi_f hT h6 h7 hb hn 1 (by decide) w1) ⟨by decide, rfl⟩ (cx_8o) rfl rfl (Nat.le_of_ble_eq_true rfl) (by first | decide | omega) (by decide) (by omega) (by omega) dX8_isNumbered_12 ?_
    refine hB bX8_isNumbered_15 _ _ _ _ _ _ _ kX8_isNumbered_15 ?_
    dsimp only [bX8_isNumbered_15, kx_wp, kx_step, kx_lI, kx_lL, kx_lA, kx_gl, kx_pI, kx_pL, kx_pR, kx_pA, kx_pV, kx_s1, kx_s2, kx_sl, kx_pre, kx_c2, kx_pl, kx_cmp, kx_oF, kx_eqN, kx_nil, kx_c1, kx_ft, kx_aI, kx_aL, kx_aR, kx_ln, Nat.reduceAdd, Option.toList, List.cons_append, List.nil_append]
    repeat (simp only [cx_8o, ks_eq, ks_ss]; try dsimp only [kx_wp, kx_step, kx_lI, kx_lL, kx_lA, kx_gl, kx_pI, kx_pL, kx_pR, kx_pA, kx_pV, kx_s1, kx_s2, kx_sl, kx_pre, kx_c2, kx_pl, kx_cmp, kx_oF, kx_eqN, kx_nil, kx_c1, kx_ft, kx_aI, kx_aL, kx_aR, kx_ln, Nat.reduceAdd, Option.toList, List.cons_append, List.nil_append])
    repeat' apply And.intro
    all_goals try (first | with_reducible assumption | (with_reducible refine ck_nzI ?_; simp; done) | (with_reducible refine ck_nzL ?_; simp; done) | (with_reducible refine vp_in_nI ?_ ?_ <;> first | omega | decide) | (with_reducible refine Nat.le_of_ble_eq_true ?_; rfl) | omega | exact Or.inl trivial | exact Or.inr trivial | exact Or.inl rfl | exact Or.inr rfl)
    · intro zc15
      first | exact absurd rfl zc15 | exact absurd zc15 (by decide) | exact absurd (by decide) zc15 | (exfalso; ((try clear hB hC); simp only [ck_lt, ck_le, ck_eq, not_true_eq_false, not_false_eq_true, Int32.reduceToInt, Int32.reduceAdd, Int32.reduceSub, Int32.reduceMul] at * <;> omega)) | (exfalso; simp_all; done)
    · intro zc15
      with_reducible first | have ze15 := Decidable.not_not.mp zc15 | have ze15 := zc15
      refine hB bX8_isNumbered_18 _ _ _ _ _ _ _ kX8_isNumbered_18 ?_
      dsimp only [bX8_isNumbered_18, kx_wp, kx_step, kx_lI, kx_lL, kx_lA, kx_gl, kx_pI, kx_pL, kx_pR, kx_pA, kx_pV, kx_s1, kx_s2, kx_sl, kx_pre, kx_c2, kx_pl, kx_cmp, kx_oF, kx_eqN, kx_nil, kx_c1, kx_ft, kx_aI, kx_aL, kx_aR, kx_ln, Nat.reduceAdd, Option.toList, List.cons_append, List.nil_append]
      repeat (simp only [cx_8o, ks_eq, ks_ss]; try dsimp only [kx_wp, kx_step, kx_lI, kx_lL, kx_lA, kx_gl, kx_pI, kx_pL, kx_pR, kx_pA, kx_pV, kx_s1, kx_s2, kx_sl, kx_pre, kx_c2, kx_pl, kx_cmp, kx_oF, kx_eqN, kx_nil, kx_c1, kx_ft, kx_aI, kx_aL, kx_aR, kx_ln, Nat.reduceAdd, Option.toList, List.cons_append, List.nil_append])
      repeat' apply And.intro
      all_goals try (first | with_reducible assumption | (with_reducible refine ck_nzI ?_; simp; done) | (with_reducible refine ck_nzL ?_; simp; done) | (with_reducible refine vp_in_nI ?_ ?_ <;> first | omega | decide) | (with_reducible refine Nat.le_of_ble_eq_true ?_; rfl) | omega | exact Or.inl trivial | exact Or.inr trivial | exact Or.inl rfl | exact Or.inr rfl)
      refine kz_lds hK rfl 2 dX8_isNumbered_19 (by decide) rfl ?_
      refine hC.1 96 _ _ _ _ _ _ _ 8 _ _ _ _ _ _ _ _ _ _ _ _ lX8_96 (cx_wi_f hT h6 h7 hb hn 2 (by decide) w2) ⟨by decide, rfl⟩ (cx_8o) rfl rfl (Nat.le_of_ble_eq_true rfl) (by first | decide | omega) (by decide) (by omega) (by omega) dX8_isNumbered_21 ?_
      refine hB bX8_isNumbered_24 _ _ _ _ _ _ _ kX8_isNumbered_24 ?_
      dsimp only [bX8_isNumbered_24, kx_wp, kx_step, kx_lI, kx_lL, kx_lA, kx_gl, kx_pI, kx_pL, kx_pR, kx_pA, kx_pV, kx_s1, kx_s2, kx_sl, kx_pre, kx_c2, kx_pl, kx_cmp, kx_oF, kx_eqN, kx_nil, kx_c1, kx_ft, kx_aI, kx_aL, kx_aR, kx_ln, Nat.reduceAdd, Option.toList, List.cons_append, List.nil_append]
      repeat (simp only [cx_8o, ks_eq, ks_ss]; try dsimp only [kx_wp, kx_step, kx_lI, kx_lL, kx_lA, kx_gl, kx_pI, kx_pL, kx_pR, kx_pA, kx_pV, kx_s1, kx_s2, kx_sl, kx_pre, kx_c2, kx_pl, kx_cmp, kx_oF, kx_eqN, kx_nil, kx_c1, kx_ft, kx_aI, kx_aL, kx_aR, kx_ln, Nat.reduceAdd, Option.toList, List.cons_append, List.nil_append])
      repeat' apply And.intro
      all_goals try (first | with_reducible assumption | (with_reducible refine ck_nzI ?_; simp; done) | (with_reducible refine ck_nzL ?_; simp; done) | (with_reducible refine vp_in_nI ?_ ?_ <;> first | omega | decide) | (with_reducible refine Nat.le_of_ble_eq_true ?_; rfl) | omega | exact Or.inl trivial | exact Or.inr trivial | exact Or.inl rfl | exact Or.inr rfl)
      · intro zc24
        first | exact absurd rfl zc24 | exact absurd zc24 (by decide) | exact absurd (by decide) zc24 | (exfalso; ((try clear hB hC); simp only [ck_lt, ck_le, ck_eq, not_true_eq_false, not_false_eq_true, Int32.reduceToInt, Int32.reduceAdd, Int32.reduceSub, Int32.reduceMul] at * <;> omega)) | (exfalso; simp_all; done)
      · intro zc24
        with_reducible first | have ze24 := Decidable.not_not.mp zc24 | have ze24 := zc24
        refine hB bX8_isNumbered_27 _ _ _ _ _ _ _ kX8_isNumbered_27 ?_
        dsimp only [bX8_isNumbered_27, kx_wp, kx_step, kx_lI, kx_lL, kx_lA, kx_gl, kx_pI, kx_pL, kx_pR, kx_pA, kx_pV, kx_s1, kx_s2, kx_sl, kx_pre, kx_c2, kx_pl, kx_cmp, kx_oF, kx_eqN, kx_nil, kx_c1, kx_ft, kx_aI, kx_aL, kx_aR, kx_ln, Nat.reduceAdd, Option.toList, List.cons_append, List.nil_append]
        repeat (simp only [cx_8o, ks_eq, ks_ss]; try dsimp only [kx_wp, kx_step, kx_lI, kx_lL, kx_lA, kx_gl, kx_pI, kx_pL, kx_pR, kx_pA, kx_pV, kx_s1, kx_s2, kx_sl, kx_pre, kx_c2, kx_pl, kx_cmp, kx_oF, kx_eqN, kx_nil, kx_c1, kx_ft, kx_aI, kx_aL, kx_aR, kx_ln, Nat.reduceAdd, Option.toList, List.cons_append, List.nil_append])
        repeat' apply And.intro
        all_goals try (first | with_reducible assumption | (with_reducible refine ck_nzI ?_; simp; done) | (with_reducible refine ck_nzL ?_; simp; done) | (with_reducible refine vp_in_nI ?_ ?_ <;> first | omega | decide) | (with_reducible refine Nat.le_of_ble_eq_true ?_; rfl) | omega | exact Or.inl trivial | exact Or.inr trivial | exact Or.inl rfl | exact Or.inr rfl)
        refine kz_lds hK rfl 3 dX8_isNumbered_28 (by decide) rfl ?_
        refine hC.1 96 _ _ _ _ _ _ _ 8 _ _ _ _ _ _ _ _ _ _ _ _ lX8_96 (cx_wi_f hT h6 h7 hb hn 3 (by decide) w3) ⟨by decide, rfl⟩ (cx_8o) rfl rfl (Nat.le_of_ble_eq_true rfl) (by first | decide | omega) (by decide) (by omega) (by omega) dX8_isNumbered_30 ?_
        refine hB bX8_isNumbered_33 _ _ _ _ _ _ _ kX8_isNumbered_33 ?_
        dsimp only [bX8_isNumbered_33, kx_wp, kx_step, kx_lI, kx_lL, kx_lA, kx_gl, kx_pI, kx_pL, kx_pR, kx_pA, kx_pV, kx_s1, kx_s2, kx_sl, kx_pre, kx_c2, kx_pl, kx_cmp, kx_oF, kx_eqN, kx_nil, kx_c1, kx_ft, kx_aI, kx_aL, kx_aR, kx_ln, Nat.reduceAdd, Option.toList, List.cons_append, List.nil_append]
        repeat (simp only [cx_8o, ks_eq, ks_ss]; try dsimp only [kx_wp, kx_step, kx_lI, kx_lL, kx_lA, kx_gl, kx_pI, kx_pL, kx_pR, kx_pA, kx_pV, kx_s1, kx_s2, kx_sl, kx_pre, kx_c2, kx_pl, kx_cmp, kx_oF, kx_eqN, kx_nil, kx_c1, kx_ft, kx_aI, kx_aL, kx_aR, kx_ln, Nat.reduceAdd, Option.toList, List.cons_append, List.nil_append])
        repeat' apply And.intro
        all_goals try (first | with_reducible assumption | (with_reducible refine ck_nzI ?_; simp; done) | (with_reducible refine ck_nzL ?_; simp; done) | (with_reducible refine vp_in_nI ?_ ?_ <;> first | omega | decide) | (with_reducible refine Nat.le_of_ble_eq_true ?_; rfl) | omega | exact Or.inl trivial | exact Or.inr trivial | exact Or.inl rfl | exact Or.inr rfl)
        · intro zc33
          first | exact absurd rfl zc33 | exact absurd zc33 (by decide) | exact absurd (by decide) zc33 | (exfalso; ((try clear hB hC); simp only [ck_lt, ck_le, ck_eq, not_true_eq_false, not_false_eq_true, Int32.reduceToInt, Int32.reduceAdd, Int32.reduceSub, Int32.reduceMul] at * <;> omega)) | (exfalso; simp_all; done)
        · intro zc33
          with_reducible first | have ze33 := Decidable.not_not.mp zc33 | have ze33 := zc33
          refine hB bX8_isNumbered_36 _ _ _ _ _ _ _ kX8_isNumbered_36 ?_
          dsimp only [bX8_isNumbered_36, kx_wp, kx_step, kx_lI, kx_lL, kx_lA, kx_gl, kx_pI, kx_pL, kx_pR, kx_pA, kx_pV, kx_s1, kx_s2, kx_sl, kx_pre, kx_c2, kx_pl, kx_cmp, kx_oF, kx_eqN, kx_nil, kx_c1, kx_ft, kx_aI, kx_aL, kx_aR, kx_ln, Nat.reduceAdd, Option.toList, List.cons_append, List.nil_append]
          repeat (simp only [cx_8o, ks_eq, ks_ss]; try dsimp only [kx_wp, kx_step, kx_lI, kx_lL, kx_lA, kx_gl, kx_pI, kx_pL, kx_pR, kx_pA, kx_pV, kx_s1, kx_s2, kx_sl, kx_pre, kx_c2, kx_pl, kx_cmp, kx_oF, kx_eqN, kx_nil, kx_c1, kx_ft, kx_aI, kx_aL, kx_aR, kx_ln, Nat.reduceAdd, Option.toList, List.cons_append, List.nil_append])
          repeat' apply And.intro
          all_goals try (first | with_reducible assumption | (with_reducible refine ck_nzI ?_; simp; done) | (with_reducible refine ck_nzL ?_; simp; done) | (with_reducible refine vp_in_nI ?_ ?_ <;> first | omega | decide) | (with_reducible refine Nat.le_of_ble_eq_true ?_; rfl) | omega | exact Or.inl trivial | exact Or.inr trivial | exact Or.inl rfl | exact Or.inr rfl)
          refine kz_lds hK rfl 4 dX8_isNumbered_37 (by decide) rfl ?_
          refine hC.1 96 _ _ _ _ _ _ _ 8 _ _ _ _ _ _ _ _ _ _ _ _ lX8_96 (cx_wi_f hT h6 h7 hb hn 4 (by decide) w4) ⟨by decide, rfl⟩ (cx_8o) rfl rfl (Nat.le_of_ble_eq_true rfl) (by first | decide | omega) (by decide) (by omega) (by omega) dX8_isNumbered_39 ?_
          refine hB bX8_isNumbered_42 _ _ _ _ _ _ _ kX8_isNumbered_42 ?_
          dsimp only [bX8_isNumbered_42, kx_wp, kx_step, kx_lI, kx_lL, kx_lA, kx_gl, kx_pI, kx_pL, kx_pR, kx_pA, kx_pV, kx_s1, kx_s2, kx_sl, kx_pre, kx_c2, kx_pl, kx_cmp, kx_oF, kx_eqN, kx_nil, kx_c1, kx_ft, kx_aI, kx_aL, kx_aR, kx_ln, Nat.reduceAdd, Option.toList, List.cons_append, List.nil_append]
          repeat (simp only [cx_8o, ks_eq, ks_ss]; try dsimp only [kx_wp, kx_step, kx_lI, kx_lL, kx_lA, kx_gl, kx_pI, kx_pL, kx_pR, kx_pA, kx_pV, kx_s1, kx_s2, kx_sl, kx_pre, kx_c2, kx_pl, kx_cmp, kx_oF, kx_eqN, kx_nil, kx_c1, kx_ft, kx_aI, kx_aL, kx_aR, kx_ln, Nat.reduceAdd, Option.toList, List.cons_append, List.nil_append])
          repeat' apply And.intro
          all_goals try (first | with_reducible assumption | (with_reducible refine ck_nzI ?_; simp; done) | (with_reducible refine ck_nzL ?_; simp; done) | (with_reducible refine vp_in_nI ?_ ?_ <;> first | omega | decide) | (with_reducible refine Nat.le_of_ble_eq_true ?_; rfl) | omega | exact Or.inl trivial | exact Or.inr trivial | exact Or.inl rfl | exact Or.inr rfl)
          · intro zc42
            first | exact absurd rfl zc42 | exact absurd zc42 (by decide) | exact absurd (by decide) zc42 | (exfalso; ((try clear hB hC); simp only [ck_lt, ck_le, ck_eq, not_true_eq_false, not_false_eq_true, Int32.reduceToInt, Int32.reduceAdd, Int32.reduceSub, Int32.reduceMul] at * <;> omega)) | (exfalso; simp_all; done)
          · intro zc42
            with_reducible first | have ze42 := Decidable.not_not.mp zc42 | have ze42 := zc42
            refine hB bX8_isNumbered_45 _ _ _ _ _ _ _ kX8_isNumbered_45 ?_
            dsimp only [bX8_isNumbered_45, kx_wp, kx_step, kx_lI, kx_lL, kx_lA, kx_gl, kx_pI, kx_pL, kx_pR, kx_pA, kx_pV, kx_s1, kx_s2, kx_sl, kx_pre, kx_c2, kx_pl, kx_cmp, kx_oF, kx_eqN, kx_nil, kx_c1, kx_ft, kx_aI, kx_aL, kx_aR, kx_ln, Nat.reduceAdd, Option.toList, List.cons_append, List.nil_append]
            repeat (simp only [cx_8o, ks_eq, ks_ss]; try dsimp only [kx_wp, kx_step, kx_lI, kx_lL, kx_lA, kx_gl, kx_pI, kx_pL, kx_pR, kx_pA, kx_pV, kx_s1, kx_s2, kx_sl, kx_pre, kx_c2, kx_pl, kx_cmp, kx_oF, kx_eqN, kx_nil, kx_c1, kx_ft, kx_aI, kx_aL, kx_aR, kx_ln, Nat.reduceAdd, Option.toList, List.cons_append, List.nil_append])
            repeat' apply And.intro
            all_goals try (first | with_reducible assumption | (with_reducible refine ck_nzI ?_; simp; done) | (with_reducible refine ck_nzL ?_; simp; done) | (with_reducible refine vp_in_nI ?_ ?_ <;> first | omega | decide) | (with_reducible refine Nat.le_of_ble_eq_true ?_; rfl) | omega | exact Or.inl trivial | exact Or.inr trivial | exact Or.inl rfl | exact Or.inr rfl)
            refine kz_lds hK rfl 5 dX8_isNumbered_46 (by decide) rfl ?_
            refine hC.1 96 _ _ _ _ _ _ _ 8 _ _ _ _ _ _ _ _ _ _ _ _ lX8_96 (cx_wi_f hT h6 h7 hb hn 5 (by decide) w5) ⟨by decide, rfl⟩ (cx_8o) rfl rfl (Nat.le_of_ble_eq_true rfl) (by first | decide | omega) (by decide) (by omega) (by omega) dX8_isNumbered_48 ?_
            refine hB bX8_isNumbered_51 _ _ _ _ _ _ _ kX8_isNumbered_51 ?_
            dsimp only [bX8_isNumbered_51, kx_wp, kx_step, kx_lI, kx_lL, kx_lA, kx_gl, kx_pI, kx_pL, kx_pR, kx_pA, kx_pV, kx_s1, kx_s2, kx_sl, kx_pre, kx_c2, kx_pl, kx_cmp, kx_oF, kx_eqN, kx_nil, kx_c1, kx_ft, kx_aI, kx_aL, kx_aR, kx_ln, Nat.reduceAdd, Option.toList, List.cons_append, List.nil_append]
            repeat (simp only [cx_8o, ks_eq, ks_ss]; try dsimp only [kx_wp, kx_step, kx_lI, kx_lL, kx_lA, kx_gl, kx_pI, kx_pL, kx_pR, kx_pA, kx_pV, kx_s1, kx_s2, kx_sl, kx_pre, kx_c2, kx_pl, kx_cmp, kx_oF, kx_eqN, kx_nil, kx_c1, kx_ft, kx_aI, kx_aL, kx_aR, kx_ln, Nat.reduceAdd, Option.toList, List.cons_append, List.nil_append])
            repeat' apply And.intro
            all_goals try (first | with_reducible assumption | (with_reducible refine ck_nzI ?_; simp; done) | (with_reducible refine ck_nzL ?_; simp; done) | (with_reducible refine vp_in_nI ?_ ?_ <;> first | omega | decide) | (with_reducible refine Nat.le_of_ble_eq_true ?_; rfl) | omega | exact Or.inl trivial | exact Or.inr trivial | exact Or.inl rfl | exact Or.inr rfl)
            · intro zc51
              first | exact absurd rfl zc51 | exact absurd zc51 (by decide) | exact absurd (by decide) zc51 | (exfalso; ((try clear hB hC); simp only [ck_lt, ck_le, ck_eq, not_true_eq_false, not_false_eq_true, Int32.reduceToInt, Int32.reduceAdd, Int32.reduceSub, Int32.reduceMul] at * <;> omega)) | (exfalso; simp_all; done)
            · intro zc51
              with_reducible first | have ze51 := Decidable.not_not.mp zc51 | have ze51 := zc51
              refine hB bX8_isNumbered_54 _ _ _ _ _ _ _ kX8_isNumbered_54 ?_
              dsimp only [bX8_isNumbered_54, kx_wp, kx_step, kx_lI, kx_lL, kx_lA, kx_gl, kx_pI, kx_pL, kx_pR, kx_pA, kx_pV, kx_s1, kx_s2, kx_sl, kx_pre, kx_c2, kx_pl, kx_cmp, kx_oF, kx_eqN, kx_nil, kx_c1, kx_ft, kx_aI, kx_aL, kx_aR, kx_ln, Nat.reduceAdd, Option.toList, List.cons_append, List.nil_append]
              repeat (simp only [cx_8o, ks_eq, ks_ss]; try dsimp only [kx_wp, kx_step, kx_lI, kx_lL, kx_lA, kx_gl, kx_pI, kx_pL, kx_pR, kx_pA, kx_pV, kx_s1, kx_s2, kx_sl, kx_pre, kx_c2, kx_pl, kx_cmp, kx_oF, kx_eqN, kx_nil, kx_c1, kx_ft, kx_aI, kx_aL, kx_aR, kx_ln, Nat.reduceAdd, Option.toList, List.cons_append, List.nil_append])
              repeat' apply And.intro
              all_goals try (first | with_reducible assumption | (with_reducible refine ck_nzI ?_; simp; done) | (with_reducible refine ck_nzL ?_; simp; done) | (with_reducible refine vp_in_nI ?_ ?_ <;> first | omega | decide) | (with_reducible refine Nat.le_of_ble_eq_true ?_; rfl) | omega | exact Or.inl trivial | exact Or.inr trivial | exact Or.inl rfl | exact Or.inr rfl)
              refine kz_lds hK rfl 6 dX8_isNumbered_55 (by decide) rfl ?_
              refine hC.1 96 _ _ _ _ _ _ _ 8 _ _ _ _ _ _ _ _ _ _ _ _ lX8_96 (cx_wi_t hT h6 h7 hb hn 6 (by decide) w6) ⟨by decide, rfl⟩ (cx_8o) rfl rfl (Nat.le_of_ble_eq_true rfl) (by first | decide | omega) (by decide) (by omega) (by omega) dX8_isNumbered_57 ?_
              refine hB bX8_isNumbered_60 _ _ _ _ _ _ _ kX8_isNumbered_60 ?_
              dsimp only [bX8_isNumbered_60, kx_wp, kx_step, kx_lI, kx_lL, kx_lA, kx_gl, kx_pI, kx_pL, kx_pR, kx_pA, kx_pV, kx_s1, kx_s2, kx_sl, kx_pre, kx_c2, kx_pl, kx_cmp, kx_oF, kx_eqN, kx_nil, kx_c1, kx_ft, kx_aI, kx_aL, kx_aR, kx_ln, Nat.reduceAdd, Option.toList, List.cons_append, List.nil_append]
              repeat (simp only [cx_8o, ks_eq, ks_ss]; try dsimp only [kx_wp, kx_step, kx_lI, kx_lL, kx_lA, kx_gl, kx_pI, kx_pL, kx_pR, kx_pA, kx_pV, kx_s1, kx_s2, kx_sl, kx_pre, kx_c2, kx_pl, kx_cmp, kx_oF, kx_eqN, kx_nil, kx_c1, kx_ft, kx_aI, kx_aL, kx_aR, kx_ln, Nat.reduceAdd, Option.toList, List.cons_append, List.nil_append])
              repeat' apply And.intro
              all_goals try (first | with_reducible assumption | (with_reducible refine ck_nzI ?_; simp; done) | (with_reducible refine ck_nzL ?_; simp; done) | (with_reducible refine vp_in_nI ?_ ?_ <;> first | omega | decide) | (with_reducible refine Nat.le_of_ble_eq_true ?_; rfl) | omega | exact Or.inl trivial | exact Or.inr trivial | exact Or.inl rfl | exact Or.inr rfl)
              · intro zc60
                have ze60 := zc60
                refine hB bX8_isNumbered_72 _ _ _ _ _ _ _ kX8_isNumbered_72 ?_
                dsimp only [bX8_isNumbered_72, kx_wp, kx_step, kx_lI, kx_lL, kx_lA, kx_gl, kx_pI, kx_pL, kx_pR, kx_pA, kx_pV, kx_s1, kx_s2, kx_sl, kx_pre, kx_c2, kx_pl, kx_cmp, kx_oF, kx_eqN, kx_nil, kx_c1, kx_ft, kx_aI, kx_aL, kx_aR, kx_ln, Nat.reduceAdd, Option.toList, List.cons_append, List.nil_append]
                repeat (simp only [cx_8o, ks_eq, ks_ss]; try dsimp only [kx_wp, kx_step, kx_lI, kx_lL, kx_lA, kx_gl, kx_pI, kx_pL, kx_pR, kx_pA, kx_pV, kx_s1, kx_s2, kx_sl, kx_pre, kx_c2, kx_pl, kx_cmp, kx_oF, kx_eqN, kx_nil, kx_c1, kx_ft, kx_aI, kx_aL, kx_aR, kx_ln, Nat.reduceAdd, Option.toList, List.cons_append, List.nil_append])
                repeat' apply And.intro
                all_goals try (first | with_reducible assumption | (with_reducible refine ck_nzI ?_; simp; done) | (with_reducible refine ck_nzL ?_; simp; done) | (with_reducible refine vp_in_nI ?_ ?_ <;> first | omega | decide) | (with_reducible refine Nat.le_of_ble_eq_true ?_; rfl) | omega | exact Or.inl trivial | exact Or.inr trivial | exact Or.inl rfl | exact Or.inr rfl)
                refine hB bX8_isNumbered_77 _ _ _ _ _ _ _ kX8_isNumbered_77 ?_
                dsimp only [bX8_isNumbered_77, kx_wp, kx_step, kx_lI, kx_lL, kx_lA, kx_gl, kx_pI, kx_pL, kx_pR, kx_pA, kx_pV, kx_s1, kx_s2, kx_sl, kx_pre, kx_c2, kx_pl, kx_cmp, kx_oF, kx_eqN, kx_nil, kx_c1, kx_ft, kx_aI, kx_aL, kx_aR, kx_ln, Nat.reduceAdd, Option.toList, List.cons_append, List.nil_append]
                repeat (simp only [cx_8o, ks_eq, ks_ss]; try dsimp only [kx_wp, kx_step, kx_lI, kx_lL, kx_lA, kx_gl, kx_pI, kx_pL, kx_pR, kx_pA, kx_pV, kx_s1, kx_s2, kx_sl, kx_pre, kx_c2, kx_pl, kx_cmp, kx_oF, kx_eqN, kx_nil, kx_c1, kx_ft, kx_aI, kx_aL, kx_aR, kx_ln, Nat.reduceAdd, Option.toList, List.cons_append, List.nil_append])
                all_goals (repeat' apply And.intro)
                all_goals ((try clear hB hC); first | exact True.intro | with_reducible rfl | with_reducible assumption | (with_reducible refine vp_in_nI ?_ ?_ <;> first | omega | decide) | exact Nat.le_of_ble_eq_true rfl | (with_reducible refine ck_nzI ?_; simp; done) | (with_reducible refine ck_nzL ?_; simp; done) | (simp only [pk_us, pk_uLs, eq_true ze6, eq_true ze15, eq_true ze24, eq_true ze33, eq_true ze42, eq_true ze51, ze60, ↓reduceIte, not_true_eq_false, not_false_eq_true]; done) | (simp only [eq_true ze6, eq_true ze15, eq_true ze24, eq_true ze33, eq_true ze42, eq_true ze51, ze60, ↓reduceIte, not_true_eq_false, not_false_eq_true]; with_reducible rfl) | omega | skip)
              · intro zc60
                first | exact absurd rfl zc60 | exact absurd zc60 (by decide) | exact absurd (by decide) zc60 | (exfalso; ((try clear hB hC); simp only [ck_lt, ck_le, ck_eq, not_true_eq_false, not_false_eq_true, Int32.reduceToInt, Int32.reduceAdd, Int32.reduceSub, Int32.reduceMul] at * <;> omega)) | (exfalso; simp_all; done)

set_option maxRecDepth 100000 in
set_option maxHeartbeats 4000000 in
theorem ci_7 (l : Launch) (G : kx_G) {P : kx_P} {sz : Nat} {F T : Nat → Int32} {x : Value} (hT : P 67 = kI 0 400 T) {n b : Nat} (h6 : F 6 = nI b) (h7 : F 7 = nI (ck_ps T n b)) (hb : b ≤ n) (hn : n ≤ 400) (w0 : ¬ ck_wo_ T n b = kz_co 0) (w1 : ¬ ck_wo_ T n b = kz_co 1) (w2 : ¬ ck_wo_ T n b = kz_co 2) (w3 : ¬ ck_wo_ T n b = kz_co 3) (w4 : ¬ ck_wo_ T n b = kz_co 4) (w5 : ¬ ck_wo_ T n b = kz_co 5) (w6 : ¬ ck_wo_ T n b = kz_co 6) (w7 : ck_wo_ T n b = kz_co 7)  : kx_M l G sX8_isNumbered 6 0 0 [.ref 68] (cx_8 P x F) sz (some (.int (1))) (cx_8 P x F) sz := by
  refine kz_m2d kx_tab kxLok_X8 (ini := false) [some (.ref 68)] ⟨by decide +kernel, rfl, by decide, by decide⟩ (Or.inl (by first | exact Or.inl rfl | exact Or.inr rfl)) rfl rfl (fun g hB hC hK => ?_)
  refine hB bX8_isNumbered_0 _ _ _ _ _ _ _ kX8_isNumbered_0 ?_
  dsimp only [bX8_isNumbered_0, kx_wp, kx_step, kx_lI, kx_lL, kx_lA, kx_gl, kx_pI, kx_pL, kx_pR, kx_pA, kx_pV, kx_s1, kx_s2, kx_sl, kx_pre, kx_c2, kx_pl, kx_cmp, kx_oF, kx_eqN, kx_nil, kx_c1, kx_ft, kx_aI, kx_aL, kx_aR, kx_ln, Nat.reduceAdd, Option.toList, List.cons_append, List.nil_append]
  repeat (simp only [cx_8o, ks_eq, ks_ss]; try dsimp only [kx_wp, kx_step, kx_lI, kx_lL, kx_lA, kx_gl, kx_pI, kx_pL, kx_pR, kx_pA, kx_pV, kx_s1, kx_s2, kx_sl, kx_pre, kx_c2, kx_pl, kx_cmp, kx_oF, kx_eqN, kx_nil, kx_c1, kx_ft, kx_aI, kx_aL, kx_aR, kx_ln, Nat.reduceAdd, Option.toList, List.cons_append, List.nil_append])
  repeat' apply And.intro
  all_goals try (first | with_reducible assumption | (with_reducible refine ck_nzI ?_; simp; done) | (with_reducible refine ck_nzL ?_; simp; done) | (with_reducible refine vp_in_nI ?_ ?_ <;> first | omega | decide) | (with_reducible refine Nat.le_of_ble_eq_true ?_; rfl) | omega | exact Or.inl trivial | exact Or.inr trivial | exact Or.inl rfl | exact Or.inr rfl)
  refine kz_lds hK rfl 0 dX8_isNumbered_1 (by decide) rfl ?_
  refine hC.1 96 _ _ _ _ _ _ _ 8 _ _ _ _ _ _ _ _ _ _ _ _ lX8_96 (cx_wi_f hT h6 h7 hb hn 0 (by decide) w0) ⟨by decide, rfl⟩ (cx_8o) rfl rfl (Nat.le_of_ble_eq_true rfl) (by first | decide | omega) (by decide) (by omega) (by omega) dX8_isNumbered_3 ?_
  refine hB bX8_isNumbered_6 _ _ _ _ _ _ _ kX8_isNumbered_6 ?_
  dsimp only [bX8_isNumbered_6, kx_wp, kx_step, kx_lI, kx_lL, kx_lA, kx_gl, kx_pI, kx_pL, kx_pR, kx_pA, kx_pV, kx_s1, kx_s2, kx_sl, kx_pre, kx_c2, kx_pl, kx_cmp, kx_oF, kx_eqN, kx_nil, kx_c1, kx_ft, kx_aI, kx_aL, kx_aR, kx_ln, Nat.reduceAdd, Option.toList, List.cons_append, List.nil_append]
  repeat (simp only [cx_8o, ks_eq, ks_ss]; try dsimp only [kx_wp, kx_step, kx_lI, kx_lL, kx_lA, kx_gl, kx_pI, kx_pL, kx_pR, kx_pA, kx_pV, kx_s1, kx_s2, kx_sl, kx_pre, kx_c2, kx_pl, kx_cmp, kx_oF, kx_eqN, kx_nil, kx_c1, kx_ft, kx_aI, kx_aL, kx_aR, kx_ln, Nat.reduceAdd, Option.toList, List.cons_append, List.nil_append])
  repeat' apply And.intro
  all_goals try (first | with_reducible assumption | (with_reducible refine ck_nzI ?_; simp; done) | (with_reducible refine ck_nzL ?_; simp; done) | (with_reducible refine vp_in_nI ?_ ?_ <;> first | omega | decide) | (with_reducible refine Nat.le_of_ble_eq_true ?_; rfl) | omega | exact Or.inl trivial | exact Or.inr trivial | exact Or.inl rfl | exact Or.inr rfl)
  · intro zc6
    first | exact absurd rfl zc6 | exact absurd zc6 (by decide) | exact absurd (by decide) zc6 | (exfalso; ((try clear hB hC); simp only [ck_lt, ck_le, ck_eq, not_true_eq_false, not_false_eq_true, Int32.reduceToInt, Int32.reduceAdd, Int32.reduceSub, Int32.reduceMul] at * <;> omega)) | (exfalso; simp_all; done)
  · intro zc6
    with_reducible first | have ze6 := Decidable.not_not.mp zc6 | have ze6 := zc6
    refine hB bX8_isNumbered_9 _ _ _ _ _ _ _ kX8_isNumbered_9 ?_
    dsimp only [bX8_isNumbered_9, kx_wp, kx_step, kx_lI, kx_lL, kx_lA, kx_gl, kx_pI, kx_pL, kx_pR, kx_pA, kx_pV, kx_s1, kx_s2, kx_sl, kx_pre, kx_c2, kx_pl, kx_cmp, kx_oF, kx_eqN, kx_nil, kx_c1, kx_ft, kx_aI, kx_aL, kx_aR, kx_ln, Nat.reduceAdd, Option.toList, List.cons_append, List.nil_append]
    repeat (simp only [cx_8o, ks_eq, ks_ss]; try dsimp only [kx_wp, kx_step, kx_lI, kx_lL, kx_lA, kx_gl, kx_pI, kx_pL, kx_pR, kx_pA, kx_pV, kx_s1, kx_s2, kx_sl, kx_pre, kx_c2, kx_pl, kx_cmp, kx_oF, kx_eqN, kx_nil, kx_c1, kx_ft, kx_aI, kx_aL, kx_aR, kx_ln, Nat.reduceAdd, Option.toList, List.cons_append, List.nil_append])
    repeat' apply And.intro
    all_goals try (first | with_reducible assumption | (with_reducible refine ck_nzI ?_; simp; done) | (with_reducible refine ck_nzL ?_; simp; done) | (with_reducible refine vp_in_nI ?_ ?_ <;> first | omega | decide) | (with_reducible refine Nat.le_of_ble_eq_true ?_; rfl) | omega | exact Or.inl trivial | exact Or.inr trivial | exact Or.inl rfl | exact Or.inr rfl)
    refine kz_lds hK rfl 1 dX8_isNumbered_10 (by decide) rfl ?_
    refine hC.1 96 _ _ _ _ _ _ _ 8 _ _ _ _ _ _ _ _ _ _ _ _ lX8_96 (cx_wi_f hT h6 h7 hb hn 1 (by decide) w1) ⟨by decide, rfl⟩ (cx_8o) rfl rfl (Nat.le_of_ble_eq_true rfl) (by first | decide | omega) (by decide) (by omega) (by omega) dX8_isNumbered_12 ?_
    refine hB bX8_isNumbered_15 _ _ _ _ _ _ _ kX8_isNumbered_15 ?_
    dsimp only [bX8_isNumbered_15, kx_wp, kx_step, kx_lI, kx_lL, kx_lA, kx_gl, kx_pI, kx_pL, kx_pR, kx_pA, kx_pV, kx_s1, kx_s2, kx_sl, kx_pre, kx_c2, kx_pl, kx_cmp, kx_oF, kx_eqN, kx_nil, kx_c1, kx_ft, kx_aI, kx_aL, kx_aR, kx_ln, Nat.reduceAdd, Option.toList, List.cons_append, List.nil_append]
    repeat (simp only [cx_8o, ks_eq, ks_ss]; try dsimp only [kx_wp, kx_step, kx_lI, kx_lL, kx_lA, kx_gl, kx_pI, kx_pL, kx_pR, kx_pA, kx_pV, kx_s1, kx_s2, kx_sl, kx_pre, kx_c2, kx_pl, kx_cmp, kx_oF, kx_eqN, kx_nil, kx_c1, kx_ft, kx_aI, kx_aL, kx_aR, kx_ln, Nat.reduceAdd, Option.toList, List.cons_append, List.nil_append])
    repeat' apply And.intro
    all_goals try (first | with_reducible assumption | (with_reducible refine ck_nzI ?_; simp; done) | (with_reducible refine ck_nzL ?_; simp; done) | (with_reducible refine vp_in_nI ?_ ?_ <;> first | omega | decide) | (with_reducible refine Nat.le_of_ble_eq_true ?_; rfl) | omega | exact Or.inl trivial | exact Or.inr trivial | exact Or.inl rfl | exact Or.inr rfl)
    · intro zc15
      first | exact absurd rfl zc15 | exact absurd zc15 (by decide) | exact absurd (by decide) zc15 | (exfalso; ((try clear hB hC); simp only [ck_lt, ck_le, ck_eq, not_true_eq_false, not_false_eq_true, Int32.reduceToInt, Int32.reduceAdd, Int32.reduceSub, Int32.reduceMul] at * <;> omega)) | (exfalso; simp_all; done)
    · intro zc15
      with_reducible first | have ze15 := Decidable.not_not.mp zc15 | have ze15 := zc15
      refine hB bX8_isNumbered_18 _ _ _ _ _ _ _ kX8_isNumbered_18 ?_
      dsimp only [bX8_isNumbered_18, kx_wp, kx_step, kx_lI, kx_lL, kx_lA, kx_gl, kx_pI, kx_pL, kx_pR, kx_pA, kx_pV, kx_s1, kx_s2, kx_sl, kx_pre, kx_c2, kx_pl, kx_cmp, kx_oF, kx_eqN, kx_nil, kx_c1, kx_ft, kx_aI, kx_aL, kx_aR, kx_ln, Nat.reduceAdd, Option.toList, List.cons_append, List.nil_append]
      repeat (simp only [cx_8o, ks_eq, ks_ss]; try dsimp only [kx_wp, kx_step, kx_lI, kx_lL, kx_lA, kx_gl, kx_pI, kx_pL, kx_pR, kx_pA, kx_pV, kx_s1, kx_s2, kx_sl, kx_pre, kx_c2, kx_pl, kx_cmp, kx_oF, kx_eqN, kx_nil, kx_c1, kx_ft, kx_aI, kx_aL, kx_aR, kx_ln, Nat.reduceAdd, Option.toList, List.cons_append, List.nil_append])
      repeat' apply And.intro
      all_goals try (first | with_reducible assumption | (with_reducible refine ck_nzI ?_; simp; done) | (with_reducible refine ck_nzL ?_; simp; done) | (with_reducible refine vp_in_nI ?_ ?_ <;> first | omega | decide) | (with_reducible refine Nat.le_of_ble_eq_true ?_; rfl) | omega | exact Or.inl trivial | exact Or.inr trivial | exact Or.inl rfl | exact Or.inr rfl)
      refine kz_lds hK rfl 2 dX8_isNumbered_19 (by decide) rfl ?_
      refine hC.1 96 _ _ _ _ _ _ _ 8 _ _ _ _ _ _ _ _ _ _ _ _ lX8_96 (cx_wi_f hT h6 h7 hb hn 2 (by decide) w2) ⟨by decide, rfl⟩ (cx_8o) rfl rfl (Nat.le_of_ble_eq_true rfl) (by first | decide | omega) (by decide) (by omega) (by omega) dX8_isNumbered_21 ?_
      refine hB bX8_isNumbered_24 _ _ _ _ _ _ _ kX8_isNumbered_24 ?_
      dsimp only [bX8_isNumbered_24, kx_wp, kx_step, kx_lI, kx_lL, kx_lA, kx_gl, kx_pI, kx_pL, kx_pR, kx_pA, kx_pV, kx_s1, kx_s2, kx_sl, kx_pre, kx_c2, kx_pl, kx_cmp, kx_oF, kx_eqN, kx_nil, kx_c1, kx_ft, kx_aI, kx_aL, kx_aR, kx_ln, Nat.reduceAdd, Option.toList, List.cons_append, List.nil_append]
      repeat (simp only [cx_8o, ks_eq, ks_ss]; try dsimp only [kx_wp, kx_step, kx_lI, kx_lL, kx_lA, kx_gl, kx_pI, kx_pL, kx_pR, kx_pA, kx_pV, kx_s1, kx_s2, kx_sl, kx_pre, kx_c2, kx_pl, kx_cmp, kx_oF, kx_eqN, kx_nil, kx_c1, kx_ft, kx_aI, kx_aL, kx_aR, kx_ln, Nat.reduceAdd, Option.toList, List.cons_append, List.nil_append])
      repeat' apply And.intro
      all_goals try (first | with_reducible assumption | (with_reducible refine ck_nzI ?_; simp; done) | (with_reducible refine ck_nzL ?_; simp; done) | (with_reducible refine vp_in_nI ?_ ?_ <;> first | omega | decide) | (with_reducible refine Nat.le_of_ble_eq_true ?_; rfl) | omega | exact Or.inl trivial | exact Or.inr trivial | exact Or.inl rfl | exact Or.inr rfl)
      · intro zc24
        first | exact absurd rfl zc24 | exact absurd zc24 (by decide) | exact absurd (by decide) zc24 | (exfalso; ((try clear hB hC); simp only [ck_lt, ck_le, ck_eq, not_true_eq_false, not_false_eq_true, Int32.reduceToInt, Int32.reduceAdd, Int32.reduceSub, Int32.reduceMul] at * <;> omega)) | (exfalso; simp_all; done)
      · intro zc24
        with_reducible first | have ze24 := Decidable.not_not.mp zc24 | have ze24 := zc24
        refine hB bX8_isNumbered_27 _ _ _ _ _ _ _ kX8_isNumbered_27 ?_
        dsimp only [bX8_isNumbered_27, kx_wp, kx_step, kx_lI, kx_lL, kx_lA, kx_gl, kx_pI, kx_pL, kx_pR, kx_pA, kx_pV, kx_s1, kx_s2, kx_sl, kx_pre, kx_c2, kx_pl, kx_cmp, kx_oF, kx_eqN, kx_nil, kx_c1, kx_ft, kx_aI, kx_aL, kx_aR, kx_ln, Nat.reduceAdd, Option.toList, List.cons_append, List.nil_append]
        repeat (simp only [cx_8o, ks_eq, ks_ss]; try dsimp only [kx_wp, kx_step, kx_lI, kx_lL, kx_lA, kx_gl, kx_pI, kx_pL, kx_pR, kx_pA, kx_pV, kx_s1, kx_s2, kx_sl, kx_pre, kx_c2, kx_pl, kx_cmp, kx_oF, kx_eqN, kx_nil, kx_c1, kx_ft, kx_aI, kx_aL, kx_aR, kx_ln, Nat.reduceAdd, Option.toList, List.cons_append, List.nil_append])
        repeat' apply And.intro
        all_goals try (first | with_reducible assumption | (with_reducible refine ck_nzI ?_; simp; done) | (with_reducible refine ck_nzL ?_; simp; done) | (with_reducible refine vp_in_nI ?_ ?_ <;> first | omega | decide) | (with_reducible refine Nat.le_of_ble_eq_true ?_; rfl) | omega | exact Or.inl trivial | exact Or.inr trivial | exact Or.inl rfl | exact Or.inr rfl)
        refine kz_lds hK rfl 3 dX8_isNumbered_28 (by decide) rfl ?_
        refine hC.1 96 _ _ _ _ _ _ _ 8 _ _ _ _ _ _ _ _ _ _ _ _ lX8_96 (cx_wi_f hT h6 h7 hb hn 3 (by decide) w3) ⟨by decide, rfl⟩ (cx_8o) rfl rfl (Nat.le_of_ble_eq_true rfl) (by first | decide | omega) (by decide) (by omega) (by omega) dX8_isNumbered_30 ?_
        refine hB bX8_isNumbered_33 _ _ _ _ _ _ _ kX8_isNumbered_33 ?_
        dsimp only [bX8_isNumbered_33, kx_wp, kx_step, kx_lI, kx_lL, kx_lA, kx_gl, kx_pI, kx_pL, kx_pR, kx_pA, kx_pV, kx_s1, kx_s2, kx_sl, kx_pre, kx_c2, kx_pl, kx_cmp, kx_oF, kx_eqN, kx_nil, kx_c1, kx_ft, kx_aI, kx_aL, kx_aR, kx_ln, Nat.reduceAdd, Option.toList, List.cons_append, List.nil_append]
        repeat (simp only [cx_8o, ks_eq, ks_ss]; try dsimp only [kx_wp, kx_step, kx_lI, kx_lL, kx_lA, kx_gl, kx_pI, kx_pL, kx_pR, kx_pA, kx_pV, kx_s1, kx_s2, kx_sl, kx_pre, kx_c2, kx_pl, kx_cmp, kx_oF, kx_eqN, kx_nil, kx_c1, kx_ft, kx_aI, kx_aL, kx_aR, kx_ln, Nat.reduceAdd, Option.toList, List.cons_append, List.nil_append])
        repeat' apply And.intro
        all_goals try (first | with_reducible assumption | (with_reducible refine ck_nzI ?_; simp; done) | (with_reducible refine ck_nzL ?_; simp; done) | (with_reducible refine vp_in_nI ?_ ?_ <;> first | omega | decide) | (with_reducible refine Nat.le_of_ble_eq_true ?_; rfl) | omega | exact Or.inl trivial | exact Or.inr trivial | exact Or.inl rfl | exact Or.inr rfl)
        · intro zc33
          first | exact absurd rfl zc33 | exact absurd zc33 (by decide) | exact absurd (by decide) zc33 | (exfalso; ((try clear hB hC); simp only [ck_lt, ck_le, ck_eq, not_true_eq_false, not_false_eq_true, Int32.reduceToInt, Int32.reduceAdd, Int32.reduceSub, Int32.reduceMul] at * <;> omega)) | (exfalso; simp_all; done)
        · intro zc33
          with_reducible first | have ze33 := Decidable.not_not.mp zc33 | have ze33 := zc33
          refine hB bX8_isNumbered_36 _ _ _ _ _ _ _ kX8_isNumbered_36 ?_
          dsimp only [bX8_isNumbered_36, kx_wp, kx_step, kx_lI, kx_lL, kx_lA, kx_gl, kx_pI, kx_pL, kx_pR, kx_pA, kx_pV, kx_s1, kx_s2, kx_sl, kx_pre, kx_c2, kx_pl, kx_cmp, kx_oF, kx_eqN, kx_nil, kx_c1, kx_ft, kx_aI, kx_aL, kx_aR, kx_ln, Nat.reduceAdd, Option.toList, List.cons_append, List.nil_append]
          repeat (simp only [cx_8o, ks_eq, ks_ss]; try dsimp only [kx_wp, kx_step, kx_lI, kx_lL, kx_lA, kx_gl, kx_pI, kx_pL, kx_pR, kx_pA, kx_pV, kx_s1, kx_s2, kx_sl, kx_pre, kx_c2, kx_pl, kx_cmp, kx_oF, kx_eqN, kx_nil, kx_c1, kx_ft, kx_aI, kx_aL, kx_aR, kx_ln, Nat.reduceAdd, Option.toList, List.cons_append, List.nil_append])
          repeat' apply And.intro
          all_goals try (first | with_reducible assumption | (with_reducible refine ck_nzI ?_; simp; done) | (with_reducible refine ck_nzL ?_; simp; done) | (with_reducible refine vp_in_nI ?_ ?_ <;> first | omega | decide) | (with_reducible refine Nat.le_of_ble_eq_true ?_; rfl) | omega | exact Or.inl trivial | exact Or.inr trivial | exact Or.inl rfl | exact Or.inr rfl)
          refine kz_lds hK rfl 4 dX8_isNumbered_37 (by decide) rfl ?_
          refine hC.1 96 _ _ _ _ _ _ _ 8 _ _ _ _ _ _ _ _ _ _ _ _ lX8_96 (cx_wi_f hT h6 h7 hb hn 4 (by decide) w4) ⟨by decide, rfl⟩ (cx_8o) rfl rfl (Nat.le_of_ble_eq_true rfl) (by first | decide | omega) (by decide) (by omega) (by omega) dX8_isNumbered_39 ?_
          refine hB bX8_isNumbered_42 _ _ _ _ _ _ _ kX8_isNumbered_42 ?_
          dsimp only [bX8_isNumbered_42, kx_wp, kx_step, kx_lI, kx_lL, kx_lA, kx_gl, kx_pI, kx_pL, kx_pR, kx_pA, kx_pV, kx_s1, kx_s2, kx_sl, kx_pre, kx_c2, kx_pl, kx_cmp, kx_oF, kx_eqN, kx_nil, kx_c1, kx_ft, kx_aI, kx_aL, kx_aR, kx_ln, Nat.reduceAdd, Option.toList, List.cons_append, List.nil_append]
          repeat (simp only [cx_8o, ks_eq, ks_ss]; try dsimp only [kx_wp, kx_step, kx_lI, kx_lL, kx_lA, kx_gl, kx_pI, kx_pL, kx_pR, kx_pA, kx_pV, kx_s1, kx_s2, kx_sl, kx_pre, kx_c2, kx_pl, kx_cmp, kx_oF, kx_eqN, kx_nil, kx_c1, kx_ft, kx_aI, kx_aL, kx_aR, kx_ln, Nat.reduceAdd, Option.toList, List.cons_append, List.nil_append])
          repeat' apply And.intro
          all_goals try (first | with_reducible assumption | (with_reducible refine ck_nzI ?_; simp; done) | (with_reducible refine ck_nzL ?_; simp; done) | (with_reducible refine vp_in_nI ?_ ?_ <;> first | omega | decide) | (with_reducible refine Nat.le_of_ble_eq_true ?_; rfl) | omega | exact Or.inl trivial | exact Or.inr trivial | exact Or.inl rfl | exact Or.inr rfl)
          · intro zc42
            first | exact absurd rfl zc42 | exact absurd zc42 (by decide) | exact absurd (by decide) zc42 | (exfalso; ((try clear hB hC); simp only [ck_lt, ck_le, ck_eq, not_true_eq_false, not_false_eq_true, Int32.reduceToInt, Int32.reduceAdd, Int32.reduceSub, Int32.reduceMul] at * <;> omega)) | (exfalso; simp_all; done)
          · intro zc42
            with_reducible first | have ze42 := Decidable.not_not.mp zc42 | have ze42 := zc42
            refine hB bX8_isNumbered_45 _ _ _ _ _ _ _ kX8_isNumbered_45 ?_
            dsimp only [bX8_isNumbered_45, kx_wp, kx_step, kx_lI, kx_lL, kx_lA, kx_gl, kx_pI, kx_pL, kx_pR, kx_pA, kx_pV, kx_s1, kx_s2, kx_sl, kx_pre, kx_c2, kx_pl, kx_cmp, kx_oF, kx_eqN, kx_nil, kx_c1, kx_ft, kx_aI, kx_aL, kx_aR, kx_ln, Nat.reduceAdd, Option.toList, List.cons_append, List.nil_append]
            repeat (simp only [cx_8o, ks_eq, ks_ss]; try dsimp only [kx_wp, kx_step, kx_lI, kx_lL, kx_lA, kx_gl, kx_pI, kx_pL, kx_pR, kx_pA, kx_pV, kx_s1, kx_s2, kx_sl, kx_pre, kx_c2, kx_pl, kx_cmp, kx_oF, kx_eqN, kx_nil, kx_c1, kx_ft, kx_aI, kx_aL, kx_aR, kx_ln, Nat.reduceAdd, Option.toList, List.cons_append, List.nil_append])
            repeat' apply And.intro
            all_goals try (first | with_reducible assumption | (with_reducible refine ck_nzI ?_; simp; done) | (with_reducible refine ck_nzL ?_; simp; done) | (with_reducible refine vp_in_nI ?_ ?_ <;> first | omega | decide) | (with_reducible refine Nat.le_of_ble_eq_true ?_; rfl) | omega | exact Or.inl trivial | exact Or.inr trivial | exact Or.inl rfl | exact Or.inr rfl)
            refine kz_lds hK rfl 5 dX8_isNumbered_46 (by decide) rfl ?_
            refine hC.1 96 _ _ _ _ _ _ _ 8 _ _ _ _ _ _ _ _ _ _ _ _ lX8_96 (cx_wi_f hT h6 h7 hb hn 5 (by decide) w5) ⟨by decide, rfl⟩ (cx_8o) rfl rfl (Nat.le_of_ble_eq_true rfl) (by first | decide | omega) (by decide) (by omega) (by omega) dX8_isNumbered_48 ?_
            refine hB bX8_isNumbered_51 _ _ _ _ _ _ _ kX8_isNumbered_51 ?_
            dsimp only [bX8_isNumbered_51, kx_wp, kx_step, kx_lI, kx_lL, kx_lA, kx_gl, kx_pI, kx_pL, kx_pR, kx_pA, kx_pV, kx_s1, kx_s2, kx_sl, kx_pre, kx_c2, kx_pl, kx_cmp, kx_oF, kx_eqN, kx_nil, kx_c1, kx_ft, kx_aI, kx_aL, kx_aR, kx_ln, Nat.reduceAdd, Option.toList, List.cons_append, List.nil_append]
            repeat (simp only [cx_8o, ks_eq, ks_ss]; try dsimp only [kx_wp, kx_step, kx_lI, kx_lL, kx_lA, kx_gl, kx_pI, kx_pL, kx_pR, kx_pA, kx_pV, kx_s1, kx_s2, kx_sl, kx_pre, kx_c2, kx_pl, kx_cmp, kx_oF, kx_eqN, kx_nil, kx_c1, kx_ft, kx_aI, kx_aL, kx_aR, kx_ln, Nat.reduceAdd, Option.toList, List.cons_append, List.nil_append])
            repeat' apply And.intro
            all_goals try (first | with_reducible assumption | (with_reducible refine ck_nzI ?_; simp; done) | (with_reducible refine ck_nzL ?_; simp; done) | (with_reducible refine vp_in_nI ?_ ?_ <;> first | omega | decide) | (with_reducible refine Nat.le_of_ble_eq_true ?_; rfl) | omega | exact Or.inl trivial | exact Or.inr trivial | exact Or.inl rfl | exact Or.inr rfl)
            · intro zc51
              first | exact absurd rfl zc51 | exact absurd zc51 (by decide) | exact absurd (by decide) zc51 | (exfalso; ((try clear hB hC); simp only [ck_lt, ck_le, ck_eq, not_true_eq_false, not_false_eq_true, Int32.reduceToInt, Int32.reduceAdd, Int32.reduceSub, Int32.reduceMul] at * <;> omega)) | (exfalso; simp_all; done)
            · intro zc51
              with_reducible first | have ze51 := Decidable.not_not.mp zc51 | have ze51 := zc51
              refine hB bX8_isNumbered_54 _ _ _ _ _ _ _ kX8_isNumbered_54 ?_
              dsimp only [bX8_isNumbered_54, kx_wp, kx_step, kx_lI, kx_lL, kx_lA, kx_gl, kx_pI, kx_pL, kx_pR, kx_pA, kx_pV, kx_s1, kx_s2, kx_sl, kx_pre, kx_c2, kx_pl, kx_cmp, kx_oF, kx_eqN, kx_nil, kx_c1, kx_ft, kx_aI, kx_aL, kx_aR, kx_ln, Nat.reduceAdd, Option.toList, List.cons_append, List.nil_append]
              repeat (simp only [cx_8o, ks_eq, ks_ss]; try dsimp only [kx_wp, kx_step, kx_lI, kx_lL, kx_lA, kx_gl, kx_pI, kx_pL, kx_pR, kx_pA, kx_pV, kx_s1, kx_s2, kx_sl, kx_pre, kx_c2, kx_pl, kx_cmp, kx_oF, kx_eqN, kx_nil, kx_c1, kx_ft, kx_aI, kx_aL, kx_aR, kx_ln, Nat.reduceAdd, Option.toList, List.cons_append, List.nil_append])
              repeat' apply And.intro
              all_goals try (first | with_reducible assumption | (with_reducible refine ck_nzI ?_; simp; done) | (with_reducible refine ck_nzL ?_; simp; done) | (with_reducible refine vp_in_nI ?_ ?_ <;> first | omega | decide) | (with_reducible refine Nat.le_of_ble_eq_true ?_; rfl) | omega | exact Or.inl trivial | exact Or.inr trivial | exact Or.inl rfl | exact Or.inr rfl)
              refine kz_lds hK rfl 6 dX8_isNumbered_55 (by decide) rfl ?_
              refine hC.1 96 _ _ _ _ _ _ _ 8 _ _ _ _ _ _ _ _ _ _ _ _ lX8_96 (cx_wi_f hT h6 h7 hb hn 6 (by decide) w6) ⟨by decide, rfl⟩ (cx_8o) rfl rfl (Nat.le_of_ble_eq_true rfl) (by first | decide | omega) (by decide) (by omega) (by omega) dX8_isNumbered_57 ?_
              refine hB bX8_isNumbered_60 _ _ _ _ _ _ _ kX8_isNumbered_60 ?_
              dsimp only [bX8_isNumbered_60, kx_wp, kx_step, kx_lI, kx_lL, kx_lA, kx_gl, kx_pI, kx_pL, kx_pR, kx_pA, kx_pV, kx_s1, kx_s2, kx_sl, kx_pre, kx_c2, kx_pl, kx_cmp, kx_oF, kx_eqN, kx_nil, kx_c1, kx_ft, kx_aI, kx_aL, kx_aR, kx_ln, Nat.reduceAdd, Option.toList, List.cons_append, List.nil_append]
              repeat (simp only [cx_8o, ks_eq, ks_ss]; try dsimp only [kx_wp, kx_step, kx_lI, kx_lL, kx_lA, kx_gl, kx_pI, kx_pL, kx_pR, kx_pA, kx_pV, kx_s1, kx_s2, kx_sl, kx_pre, kx_c2, kx_pl, kx_cmp, kx_oF, kx_eqN, kx_nil, kx_c1, kx_ft, kx_aI, kx_aL, kx_aR, kx_ln, Nat.reduceAdd, Option.toList, List.cons_append, List.nil_append])
              repeat' apply And.intro
              all_goals try (first | with_reducible assumption | (with_reducible refine ck_nzI ?_; simp; done) | (with_reducible refine ck_nzL ?_; simp; done) | (with_reducible refine vp_in_nI ?_ ?_ <;> first | omega | decide) | (with_reducible refine Nat.le_of_ble_eq_true ?_; rfl) | omega | exact Or.inl trivial | exact Or.inr trivial | exact Or.inl rfl | exact Or.inr rfl)
              · intro zc60
                first | exact absurd rfl zc60 | exact absurd zc60 (by decide) | exact absurd (by decide) zc60 | (exfalso; ((try clear hB hC); simp only [ck_lt, ck_le, ck_eq, not_true_eq_false, not_false_eq_true, Int32.reduceToInt, Int32.reduceAdd, Int32.reduceSub, Int32.reduceMul] at * <;> omega)) | (exfalso; simp_all; done)
              · intro zc60
                with_reducible first | have ze60 := Decidable.not_not.mp zc60 | have ze60 := zc60
                refine hB bX8_isNumbered_63 _ _ _ _ _ _ _ kX8_isNumbered_63 ?_
                dsimp only [bX8_isNumbered_63, kx_wp, kx_step, kx_lI, kx_lL, kx_lA, kx_gl, kx_pI, kx_pL, kx_pR, kx_pA, kx_pV, kx_s1, kx_s2, kx_sl, kx_pre, kx_c2, kx_pl, kx_cmp, kx_oF, kx_eqN, kx_nil, kx_c1, kx_ft, kx_aI, kx_aL, kx_aR, kx_ln, Nat.reduceAdd, Option.toList, List.cons_append, List.nil_append]
                repeat (simp only [cx_8o, ks_eq, ks_ss]; try dsimp only [kx_wp, kx_step, kx_lI, kx_lL, kx_lA, kx_gl, kx_pI, kx_pL, kx_pR, kx_pA, kx_pV, kx_s1, kx_s2, kx_sl, kx_pre, kx_c2, kx_pl, kx_cmp, kx_oF, kx_eqN, kx_nil, kx_c1, kx_ft, kx_aI, kx_aL, kx_aR, kx_ln, Nat.reduceAdd, Option.toList, List.cons_append, List.nil_append])
                repeat' apply And.intro
                all_goals try (first | with_reducible assumption | (with_reducible refine ck_nzI ?_; simp; done) | (with_reducible refine ck_nzL ?_; simp; done) | (with_reducible refine vp_in_nI ?_ ?_ <;> first | omega | decide) | (with_reducible refine Nat.le_of_ble_eq_true ?_; rfl) | omega | exact Or.inl trivial | exact Or.inr trivial | exact Or.inl rfl | exact Or.inr rfl)
                refine kz_lds hK rfl 7 dX8_isNumbered_64 (by decide) rfl ?_
                refine hC.1 96 _ _ _ _ _ _ _ 8 _ _ _ _ _ _ _ _ _ _ _ _ lX8_96 (cx_wi_t hT h6 h7 hb hn 7 (by decide) w7) ⟨by decide, rfl⟩ (cx_8o) rfl rfl (Nat.le_of_ble_eq_true rfl) (by first | decide | omega) (by decide) (by omega) (by omega) dX8_isNumbered_66 ?_
                refine hB bX8_isNumbered_69 _ _ _ _ _ _ _ kX8_isNumbered_69 ?_
                dsimp only [bX8_isNumbered_69, kx_wp, kx_step, kx_lI, kx_lL, kx_lA, kx_gl, kx_pI, kx_pL, kx_pR, kx_pA, kx_pV, kx_s1, kx_s2, kx_sl, kx_pre, kx_c2, kx_pl, kx_cmp, kx_oF, kx_eqN, kx_nil, kx_c1, kx_ft, kx_aI, kx_aL, kx_aR, kx_ln, Nat.reduceAdd, Option.toList, List.cons_append, List.nil_append]
                repeat (simp only [cx_8o, ks_eq, ks_ss]; try dsimp only [kx_wp, kx_step, kx_lI, kx_lL, kx_lA, kx_gl, kx_pI, kx_pL, kx_pR, kx_pA, kx_pV, kx_s1, kx_s2, kx_sl, kx_pre, kx_c2, kx_pl, kx_cmp, kx_oF, kx_eqN, kx_nil, kx_c1, kx_ft, kx_aI, kx_aL, kx_aR, kx_ln, Nat.reduceAdd, Option.toList, List.cons_append, List.nil_append])
                repeat' apply And.intro
                all_goals try (first | with_reducible assumption | (with_reducible refine ck_nzI ?_; simp; done) | (with_reducible refine ck_nzL ?_; simp; done) | (with_reducible refine vp_in_nI ?_ ?_ <;> first | omega | decide) | (with_reducible refine Nat.le_of_ble_eq_true ?_; rfl) | omega | exact Or.inl trivial | exact Or.inr trivial | exact Or.inl rfl | exact Or.inr rfl)
                · intro zc69
                  first | exact absurd rfl zc69 | exact absurd zc69 (by decide) | exact absurd (by decide) zc69 | (exfalso; ((try clear hB hC); simp only [ck_lt, ck_le, ck_eq, not_true_eq_false, not_false_eq_true, Int32.reduceToInt, Int32.reduceAdd, Int32.reduceSub, Int32.reduceMul] at * <;> omega)) | (exfalso; simp_all; done)
                · intro zc69
                  have ze69 := zc69
                  refine hB bX8_isNumbered_72 _ _ _ _ _ _ _ kX8_isNumbered_72 ?_
                  dsimp only [bX8_isNumbered_72, kx_wp, kx_step, kx_lI, kx_lL, kx_lA, kx_gl, kx_pI, kx_pL, kx_pR, kx_pA, kx_pV, kx_s1, kx_s2, kx_sl, kx_pre, kx_c2, kx_pl, kx_cmp, kx_oF, kx_eqN, kx_nil, kx_c1, kx_ft, kx_aI, kx_aL, kx_aR, kx_ln, Nat.reduceAdd, Option.toList, List.cons_append, List.nil_append]
                  repeat (simp only [cx_8o, ks_eq, ks_ss]; try dsimp only [kx_wp, kx_step, kx_lI, kx_lL, kx_lA, kx_gl, kx_pI, kx_pL, kx_pR, kx_pA, kx_pV, kx_s1, kx_s2, kx_sl, kx_pre, kx_c2, kx_pl, kx_cmp, kx_oF, kx_eqN, kx_nil, kx_c1, kx_ft, kx_aI, kx_aL, kx_aR, kx_ln, Nat.reduceAdd, Option.toList, List.cons_append, List.nil_append])
                  repeat' apply And.intro
                  all_goals try (first | with_reducible assumption | (with_reducible refine ck_nzI ?_; simp; done) | (with_reducible refine ck_nzL ?_; simp; done) | (with_reducible refine vp_in_nI ?_ ?_ <;> first | omega | decide) | (with_reducible refine Nat.le_of_ble_eq_true ?_; rfl) | omega | exact Or.inl trivial | exact Or.inr trivial | exact Or.inl rfl | exact Or.inr rfl)
                  refine hB bX8_isNumbered_77 _ _ _ _ _ _ _ kX8_isNumbered_77 ?_
                  dsimp only [bX8_isNumbered_77, kx_wp, kx_step, kx_lI, kx_lL, kx_lA, kx_gl, kx_pI, kx_pL, kx_pR, kx_pA, kx_pV, kx_s1, kx_s2, kx_sl, kx_pre, kx_c2, kx_pl, kx_cmp, kx_oF, kx_eqN, kx_nil, kx_c1, kx_ft, kx_aI, kx_aL, kx_aR, kx_ln, Nat.reduceAdd, Option.toList, List.cons_append, List.nil_append]
                  repeat (simp only [cx_8o, ks_eq, ks_ss]; try dsimp only [kx_wp, kx_step, kx_lI, kx_lL, kx_lA, kx_gl, kx_pI, kx_pL, kx_pR, kx_pA, kx_pV, kx_s1, kx_s2, kx_sl, kx_pre, kx_c2, kx_pl, kx_cmp, kx_oF, kx_eqN, kx_nil, kx_c1, kx_ft, kx_aI, kx_aL, kx_aR, kx_ln, Nat.reduceAdd, Option.toList, List.cons_append, List.nil_append])
                  all_goals (repeat' apply And.intro)
                  all_goals ((try clear hB hC); first | exact True.intro | with_reducible rfl | with_reducible assumption | (with_reducible refine vp_in_nI ?_ ?_ <;> first | omega | decide) | exact Nat.le_of_ble_eq_true rfl | (with_reducible refine ck_nzI ?_; simp; done) | (with_reducible refine ck_nzL ?_; simp; done) | (simp only [pk_us, pk_uLs, eq_true ze6, eq_true ze15, eq_true ze24, eq_true ze33, eq_true ze42, eq_true ze51, eq_true ze60, ze69, ↓reduceIte, not_true_eq_false, not_false_eq_true]; done) | (simp only [eq_true ze6, eq_true ze15, eq_true ze24, eq_true ze33, eq_true ze42, eq_true ze51, eq_true ze60, ze69, ↓reduceIte, not_true_eq_false, not_false_eq_true]; with_reducible rfl) | omega | skip)

set_option maxRecDepth 100000 in
set_option maxHeartbeats 4000000 in
theorem ci_8 (l : Launch) (G : kx_G) {P : kx_P} {sz : Nat} {F T : Nat → Int32} {x : Value} (hT : P 67 = kI 0 400 T) {n b : Nat} (h6 : F 6 = nI b) (h7 : F 7 = nI (ck_ps T n b)) (hb : b ≤ n) (hn : n ≤ 400) (w0 : ¬ ck_wo_ T n b = kz_co 0) (w1 : ¬ ck_wo_ T n b = kz_co 1) (w2 : ¬ ck_wo_ T n b = kz_co 2) (w3 : ¬ ck_wo_ T n b = kz_co 3) (w4 : ¬ ck_wo_ T n b = kz_co 4) (w5 : ¬ ck_wo_ T n b = kz_co 5) (w6 : ¬ ck_wo_ T n b = kz_co 6) (w7 : ¬ ck_wo_ T n b = kz_co 7)  : kx_M l G sX8_isNumbered 6 0 0 [.ref 68] (cx_8 P x F) sz (some (.int (0))) (cx_8 P x F) sz := by
  refine kz_m2d kx_tab kxLok_X8 (ini := false) [some (.ref 68)] ⟨by decide +kernel, rfl, by decide, by decide⟩ (Or.inl (by first | exact Or.inl rfl | exact Or.inr rfl)) rfl rfl (fun g hB hC hK => ?_)
  refine hB bX8_isNumbered_0 _ _ _ _ _ _ _ kX8_isNumbered_0 ?_
  dsimp only [bX8_isNumbered_0, kx_wp, kx_step, kx_lI, kx_lL, kx_lA, kx_gl, kx_pI, kx_pL, kx_pR, kx_pA, kx_pV, kx_s1, kx_s2, kx_sl, kx_pre, kx_c2, kx_pl, kx_cmp, kx_oF, kx_eqN, kx_nil, kx_c1, kx_ft, kx_aI, kx_aL, kx_aR, kx_ln, Nat.reduceAdd, Option.toList, List.cons_append, List.nil_append]
  repeat (simp only [cx_8o, ks_eq, ks_ss]; try dsimp only [kx_wp, kx_step, kx_lI, kx_lL, kx_lA, kx_gl, kx_pI, kx_pL, kx_pR, kx_pA, kx_pV, kx_s1, kx_s2, kx_sl, kx_pre, kx_c2, kx_pl, kx_cmp, kx_oF, kx_eqN, kx_nil, kx_c1, kx_ft, kx_aI, kx_aL, kx_aR, kx_ln, Nat.reduceAdd, Option.toList, List.cons_append, List.nil_append])
  repeat' apply And.intro
  all_goals try (first | with_reducible assumption | (with_reducible refine ck_nzI ?_; simp; done) | (with_reducible refine ck_nzL ?_; simp; done) | (with_reducible refine vp_in_nI ?_ ?_ <;> first | omega | decide) | (with_reducible refine Nat.le_of_ble_eq_true ?_; rfl) | omega | exact Or.inl trivial | exact Or.inr trivial | exact Or.inl rfl | exact Or.inr rfl)
  refine kz_lds hK rfl 0 dX8_isNumbered_1 (by decide) rfl ?_
  refine hC.1 96 _ _ _ _ _ _ _ 8 _ _ _ _ _ _ _ _ _ _ _ _ lX8_96 (cx_wi_f hT h6 h7 hb hn 0 (by decide) w0) ⟨by decide, rfl⟩ (cx_8o) rfl rfl (Nat.le_of_ble_eq_true rfl) (by first | decide | omega) (by decide) (by omega) (by omega) dX8_isNumbered_3 ?_
  refine hB bX8_isNumbered_6 _ _ _ _ _ _ _ kX8_isNumbered_6 ?_
  dsimp only [bX8_isNumbered_6, kx_wp, kx_step, kx_lI, kx_lL, kx_lA, kx_gl, kx_pI, kx_pL, kx_pR, kx_pA, kx_pV, kx_s1, kx_s2, kx_sl, kx_pre, kx_c2, kx_pl, kx_cmp, kx_oF, kx_eqN, kx_nil, kx_c1, kx_ft, kx_aI, kx_aL, kx_aR, kx_ln, Nat.reduceAdd, Option.toList, List.cons_append, List.nil_append]
  repeat (simp only [cx_8o, ks_eq, ks_ss]; try dsimp only [kx_wp, kx_step, kx_lI, kx_lL, kx_lA, kx_gl, kx_pI, kx_pL, kx_pR, kx_pA, kx_pV, kx_s1, kx_s2, kx_sl, kx_pre, kx_c2, kx_pl, kx_cmp, kx_oF, kx_eqN, kx_nil, kx_c1, kx_ft, kx_aI, kx_aL, kx_aR, kx_ln, Nat.reduceAdd, Option.toList, List.cons_append, List.nil_append])
  repeat' apply And.intro
  all_goals try (first | with_reducible assumption | (with_reducible refine ck_nzI ?_; simp; done) | (with_reducible refine ck_nzL ?_; simp; done) | (with_reducible refine vp_in_nI ?_ ?_ <;> first | omega | decide) | (with_reducible refine Nat.le_of_ble_eq_true ?_; rfl) | omega | exact Or.inl trivial | exact Or.inr trivial | exact Or.inl rfl | exact Or.inr rfl)
  · intro zc6
    first | exact absurd rfl zc6 | exact absurd zc6 (by decide) | exact absurd (by decide) zc6 | (exfalso; ((try clear hB hC); simp only [ck_lt, ck_le, ck_eq, not_true_eq_false, not_false_eq_true, Int32.reduceToInt, Int32.reduceAdd, Int32.reduceSub, Int32.reduceMul] at * <;> omega)) | (exfalso; simp_all; done)
  · intro zc6
    with_reducible first | have ze6 := Decidable.not_not.mp zc6 | have ze6 := zc6
    refine hB bX8_isNumbered_9 _ _ _ _ _ _ _ kX8_isNumbered_9 ?_
    dsimp only [bX8_isNumbered_9, kx_wp, kx_step, kx_lI, kx_lL, kx_lA, kx_gl, kx_pI, kx_pL, kx_pR, kx_pA, kx_pV, kx_s1, kx_s2, kx_sl, kx_pre, kx_c2, kx_pl, kx_cmp, kx_oF, kx_eqN, kx_nil, kx_c1, kx_ft, kx_aI, kx_aL, kx_aR, kx_ln, Nat.reduceAdd, Option.toList, List.cons_append, List.nil_append]
    repeat (simp only [cx_8o, ks_eq, ks_ss]; try dsimp only [kx_wp, kx_step, kx_lI, kx_lL, kx_lA, kx_gl, kx_pI, kx_pL, kx_pR, kx_pA, kx_pV, kx_s1, kx_s2, kx_sl, kx_pre, kx_c2, kx_pl, kx_cmp, kx_oF, kx_eqN, kx_nil, kx_c1, kx_ft, kx_aI, kx_aL, kx_aR, kx_ln, Nat.reduceAdd, Option.toList, List.cons_append, List.nil_append])
    repeat' apply And.intro
    all_goals try (first | with_reducible assumption | (with_reducible refine ck_nzI ?_; simp; done) | (with_reducible refine ck_nzL ?_; simp; done) | (with_reducible refine vp_in_nI ?_ ?_ <;> first | omega | decide) | (with_reducible refine Nat.le_of_ble_eq_true ?_; rfl) | omega | exact Or.inl trivial | exact Or.inr trivial | exact Or.inl rfl | exact Or.inr rfl)
    refine kz_lds hK rfl 1 dX8_isNumbered_10 (by decide) rfl ?_
    refine hC.1 96 _ _ _ _ _ _ _ 8 _ _ _ _ _ _ _ _ _ _ _ _ lX8_96 (cx_wi_f hT h6 h7 hb hn 1 (by decide) w1) ⟨by decide, rfl⟩ (cx_8o) rfl rfl (Nat.le_of_ble_eq_true rfl) (by first | decide | omega) (by decide) (by omega) (by omega) dX8_isNumbered_12 ?_
    refine hB bX8_isNumbered_15 _ _ _ _ _ _ _ kX8_isNumbered_15 ?_
    dsimp only [bX8_isNumbered_15, kx_wp, kx_step, kx_lI, kx_lL, kx_lA, kx_gl, kx_pI, kx_pL, kx_pR, kx_pA, kx_pV, kx_s1, kx_s2, kx_sl, kx_pre, kx_c2, kx_pl, kx_cmp, kx_oF, kx_eqN, kx_nil, kx_c1, kx_ft, kx_aI, kx_aL, kx_aR, kx_ln, Nat.reduceAdd, Option.toList, List.cons_append, List.nil_append]
    repeat (simp only [cx_8o, ks_eq, ks_ss]; try dsimp only [kx_wp, kx_step, kx_lI, kx_lL, kx_lA, kx_gl, kx_pI, kx_pL, kx_pR, kx_pA, kx_pV, kx_s1, kx_s2, kx_sl, kx_pre, kx_c2, kx_pl, kx_cmp, kx_oF, kx_eqN, kx_nil, kx_c1, kx_ft, kx_aI, kx_aL, kx_aR, kx_ln, Nat.reduceAdd, Option.toList, List.cons_append, List.nil_append])
    repeat' apply And.intro
    all_goals try (first | with_reducible assumption | (with_reducible refine ck_nzI ?_; simp; done) | (with_reducible refine ck_nzL ?_; simp; done) | (with_reducible refine vp_in_nI ?_ ?_ <;> first | omega | decide) | (with_reducible refine Nat.le_of_ble_eq_true ?_; rfl) | omega | exact Or.inl trivial | exact Or.inr trivial | exact Or.inl rfl | exact Or.inr rfl)
    · intro zc15
      first | exact absurd rfl zc15 | exact absurd zc15 (by decide) | exact absurd (by decide) zc15 | (exfalso; ((try clear hB hC); simp only [ck_lt, ck_le, ck_eq, not_true_eq_false, not_false_eq_true, Int32.reduceToInt, Int32.reduceAdd, Int32.reduceSub, Int32.reduceMul] at * <;> omega)) | (exfalso; simp_all; done)
    · intro zc15
      with_reducible first | have ze15 := Decidable.not_not.mp zc15 | have ze15 := zc15
      refine hB bX8_isNumbered_18 _ _ _ _ _ _ _ kX8_isNumbered_18 ?_
      dsimp only [bX8_isNumbered_18, kx_wp, kx_step, kx_lI, kx_lL, kx_lA, kx_gl, kx_pI, kx_pL, kx_pR, kx_pA, kx_pV, kx_s1, kx_s2, kx_sl, kx_pre, kx_c2, kx_pl, kx_cmp, kx_oF, kx_eqN, kx_nil, kx_c1, kx_ft, kx_aI, kx_aL, kx_aR, kx_ln, Nat.reduceAdd, Option.toList, List.cons_append, List.nil_append]
      repeat (simp only [cx_8o, ks_eq, ks_ss]; try dsimp only [kx_wp, kx_step, kx_lI, kx_lL, kx_lA, kx_gl, kx_pI, kx_pL, kx_pR, kx_pA, kx_pV, kx_s1, kx_s2, kx_sl, kx_pre, kx_c2, kx_pl, kx_cmp, kx_oF, kx_eqN, kx_nil, kx_c1, kx_ft, kx_aI, kx_aL, kx_aR, kx_ln, Nat.reduceAdd, Option.toList, List.cons_append, List.nil_append])
      repeat' apply And.intro
      all_goals try (first | with_reducible assumption | (with_reducible refine ck_nzI ?_; simp; done) | (with_reducible refine ck_nzL ?_; simp; done) | (with_reducible refine vp_in_nI ?_ ?_ <;> first | omega | decide) | (with_reducible refine Nat.le_of_ble_eq_true ?_; rfl) | omega | exact Or.inl trivial | exact Or.inr trivial | exact Or.inl rfl | exact Or.inr rfl)
      refine kz_lds hK rfl 2 dX8_isNumbered_19 (by decide) rfl ?_
      refine hC.1 96 _ _ _ _ _ _ _ 8 _ _ _ _ _ _ _ _ _ _ _ _ lX8_96 (cx_wi_f hT h6 h7 hb hn 2 (by decide) w2) ⟨by decide, rfl⟩ (cx_8o) rfl rfl (Nat.le_of_ble_eq_true rfl) (by first | decide | omega) (by decide) (by omega) (by omega) dX8_isNumbered_21 ?_
      refine hB bX8_isNumbered_24 _ _ _ _ _ _ _ kX8_isNumbered_24 ?_
      dsimp only [bX8_isNumbered_24, kx_wp, kx_step, kx_lI, kx_lL, kx_lA, kx_gl, kx_pI, kx_pL, kx_pR, kx_pA, kx_pV, kx_s1, kx_s2, kx_sl, kx_pre, kx_c2, kx_pl, kx_cmp, kx_oF, kx_eqN, kx_nil, kx_c1, kx_ft, kx_aI, kx_aL, kx_aR, kx_ln, Nat.reduceAdd, Option.toList, List.cons_append, List.nil_append]
      repeat (simp only [cx_8o, ks_eq, ks_ss]; try dsimp only [kx_wp, kx_step, kx_lI, kx_lL, kx_lA, kx_gl, kx_pI, kx_pL, kx_pR, kx_pA, kx_pV, kx_s1, kx_s2, kx_sl, kx_pre, kx_c2, kx_pl, kx_cmp, kx_oF, kx_eqN, kx_nil, kx_c1, kx_ft, kx_aI, kx_aL, kx_aR, kx_ln, Nat.reduceAdd, Option.toList, List.cons_append, List.nil_append])
      repeat' apply And.intro
      all_goals try (first | with_reducible assumption | (with_reducible refine ck_nzI ?_; simp; done) | (with_reducible refine ck_nzL ?_; simp; done) | (with_reducible refine vp_in_nI ?_ ?_ <;> first | omega | decide) | (with_reducible refine Nat.le_of_ble_eq_true ?_; rfl) | omega | exact Or.inl trivial | exact Or.inr trivial | exact Or.inl rfl | exact Or.inr rfl)
      · intro zc24
        first | exact absurd rfl zc24 | exact absurd zc24 (by decide) | exact absurd (by decide) zc24 | (exfalso; ((try clear hB hC); simp only [ck_lt, ck_le, ck_eq, not_true_eq_false, not_false_eq_true, Int32.reduceToInt, Int32.reduceAdd, Int32.reduceSub, Int32.reduceMul] at * <;> omega)) | (exfalso; simp_all; done)
      · intro zc24
        with_reducible first | have ze24 := Decidable.not_not.mp zc24 | have ze24 := zc24
        refine hB bX8_isNumbered_27 _ _ _ _ _ _ _ kX8_isNumbered_27 ?_
        dsimp only [bX8_isNumbered_27, kx_wp, kx_step, kx_lI, kx_lL, kx_lA, kx_gl, kx_pI, kx_pL, kx_pR, kx_pA, kx_pV, kx_s1, kx_s2, kx_sl, kx_pre, kx_c2, kx_pl, kx_cmp, kx_oF, kx_eqN, kx_nil, kx_c1, kx_ft, kx_aI, kx_aL, kx_aR, kx_ln, Nat.reduceAdd, Option.toList, List.cons_append, List.nil_append]
        repeat (simp only [cx_8o, ks_eq, ks_ss]; try dsimp only [kx_wp, kx_step, kx_lI, kx_lL, kx_lA, kx_gl, kx_pI, kx_pL, kx_pR, kx_pA, kx_pV, kx_s1, kx_s2, kx_sl, kx_pre, kx_c2, kx_pl, kx_cmp, kx_oF, kx_eqN, kx_nil, kx_c1, kx_ft, kx_aI, kx_aL, kx_aR, kx_ln, Nat.reduceAdd, Option.toList, List.cons_append, List.nil_append])
        repeat' apply And.intro
        all_goals try (first | with_reducible assumption | (with_reducible refine ck_nzI ?_; simp; done) | (with_reducible refine ck_nzL ?_; simp; done) | (with_reducible refine vp_in_nI ?_ ?_ <;> first | omega | decide) | (with_reducible refine Nat.le_of_ble_eq_true ?_; rfl) | omega | exact Or.inl trivial | exact Or.inr trivial | exact Or.inl rfl | exact Or.inr rfl)
        refine kz_lds hK rfl 3 dX8_isNumbered_28 (by decide) rfl ?_
        refine hC.1 96 _ _ _ _ _ _ _ 8 _ _ _ _ _ _ _ _ _ _ _ _ lX8_96 (cx_wi_f hT h6 h7 hb hn 3 (by decide) w3) ⟨by decide, rfl⟩ (cx_8o) rfl rfl (Nat.le_of_ble_eq_true rfl) (by first | decide | omega) (by decide) (by omega) (by omega) dX8_isNumbered_30 ?_
        refine hB bX8_isNumbered_33 _ _ _ _ _ _ _ kX8_isNumbered_33 ?_
        dsimp only [bX8_isNumbered_33, kx_wp, kx_step, kx_lI, kx_lL, kx_lA, kx_gl, kx_pI, kx_pL, kx_pR, kx_pA, kx_pV, kx_s1, kx_s2, kx_sl, kx_pre, kx_c2, kx_pl, kx_cmp, kx_oF, kx_eqN, kx_nil, kx_c1, kx_ft, kx_aI, kx_aL, kx_aR, kx_ln, Nat.reduceAdd, Option.toList, List.cons_append, List.nil_append]
        repeat (simp only [cx_8o, ks_eq, ks_ss]; try dsimp only [kx_wp, kx_step, kx_lI, kx_lL, kx_lA, kx_gl, kx_pI, kx_pL, kx_pR, kx_pA, kx_pV, kx_s1, kx_s2, kx_sl, kx_pre, kx_c2, kx_pl, kx_cmp, kx_oF, kx_eqN, kx_nil, kx_c1, kx_ft, kx_aI, kx_aL, kx_aR, kx_ln, Nat.reduceAdd, Option.toList, List.cons_append, List.nil_append])
        repeat' apply And.intro
        all_goals try (first | with_reducible assumption | (with_reducible refine ck_nzI ?_; simp; done) | (with_reducible refine ck_nzL ?_; simp; done) | (with_reducible refine vp_in_nI ?_ ?_ <;> first | omega | decide) | (with_reducible refine Nat.le_of_ble_eq_true ?_; rfl) | omega | exact Or.inl trivial | exact Or.inr trivial | exact Or.inl rfl | exact Or.inr rfl)
        · intro zc33
          first | exact absurd rfl zc33 | exact absurd zc33 (by decide) | exact absurd (by decide) zc33 | (exfalso; ((try clear hB hC); simp only [ck_lt, ck_le, ck_eq, not_true_eq_false, not_false_eq_true, Int32.reduceToInt, Int32.reduceAdd, Int32.reduceSub, Int32.reduceMul] at * <;> omega)) | (exfalso; simp_all; done)
        · intro zc33
          with_reducible first | have ze33 := Decidable.not_not.mp zc33 | have ze33 := zc33
          refine hB bX8_isNumbered_36 _ _ _ _ _ _ _ kX8_isNumbered_36 ?_
          dsimp only [bX8_isNumbered_36, kx_wp, kx_step, kx_lI, kx_lL, kx_lA, kx_gl, kx_pI, kx_pL, kx_pR, kx_pA, kx_pV, kx_s1, kx_s2, kx_sl, kx_pre, kx_c2, kx_pl, kx_cmp, kx_oF, kx_eqN, kx_nil, kx_c1, kx_ft, kx_aI, kx_aL, kx_aR, kx_ln, Nat.reduceAdd, Option.toList, List.cons_append, List.nil_append]
          repeat (simp only [cx_8o, ks_eq, ks_ss]; try dsimp only [kx_wp, kx_step, kx_lI, kx_lL, kx_lA, kx_gl, kx_pI, kx_pL, kx_pR, kx_pA, kx_pV, kx_s1, kx_s2, kx_sl, kx_pre, kx_c2, kx_pl, kx_cmp, kx_oF, kx_eqN, kx_nil, kx_c1, kx_ft, kx_aI, kx_aL, kx_aR, kx_ln, Nat.reduceAdd, Option.toList, List.cons_append, List.nil_append])
          repeat' apply And.intro
          all_goals try (first | with_reducible assumption | (with_reducible refine ck_nzI ?_; simp; done) | (with_reducible refine ck_nzL ?_; simp; done) | (with_reducible refine vp_in_nI ?_ ?_ <;> first | omega | decide) | (with_reducible refine Nat.le_of_ble_eq_true ?_; rfl) | omega | exact Or.inl trivial | exact Or.inr trivial | exact Or.inl rfl | exact Or.inr rfl)
          refine kz_lds hK rfl 4 dX8_isNumbered_37 (by decide) rfl ?_
          refine hC.1 96 _ _ _ _ _ _ _ 8 _ _ _ _ _ _ _ _ _ _ _ _ lX8_96 (cx_wi_f hT h6 h7 hb hn 4 (by decide) w4) ⟨by decide, rfl⟩ (cx_8o) rfl rfl (Nat.le_of_ble_eq_true rfl) (by first | decide | omega) (by decide) (by omega) (by omega) dX8_isNumbered_39 ?_
          refine hB bX8_isNumbered_42 _ _ _ _ _ _ _ kX8_isNumbered_42 ?_
          dsimp only [bX8_isNumbered_42, kx_wp, kx_step, kx_lI, kx_lL, kx_lA, kx_gl, kx_pI, kx_pL, kx_pR, kx_pA, kx_pV, kx_s1, kx_s2, kx_sl, kx_pre, kx_c2, kx_pl, kx_cmp, kx_oF, kx_eqN, kx_nil, kx_c1, kx_ft, kx_aI, kx_aL, kx_aR, kx_ln, Nat.reduceAdd, Option.toList, List.cons_append, List.nil_append]
          repeat (simp only [cx_8o, ks_eq, ks_ss]; try dsimp only [kx_wp, kx_step, kx_lI, kx_lL, kx_lA, kx_gl, kx_pI, kx_pL, kx_pR, kx_pA, kx_pV, kx_s1, kx_s2, kx_sl, kx_pre, kx_c2, kx_pl, kx_cmp, kx_oF, kx_eqN, kx_nil, kx_c1, kx_ft, kx_aI, kx_aL, kx_aR, kx_ln, Nat.reduceAdd, Option.toList, List.cons_append, List.nil_append])
          repeat' apply And.intro
          all_goals try (first | with_reducible assumption | (with_reducible refine ck_nzI ?_; simp; done) | (with_reducible refine ck_nzL ?_; simp; done) | (with_reducible refine vp_in_nI ?_ ?_ <;> first | omega | decide) | (with_reducible refine Nat.le_of_ble_eq_true ?_; rfl) | omega | exact Or.inl trivial | exact Or.inr trivial | exact Or.inl rfl | exact Or.inr rfl)
          · intro zc42
            first | exact absurd rfl zc42 | exact absurd zc42 (by decide) | exact absurd (by decide) zc42 | (exfalso; ((try clear hB hC); simp only [ck_lt, ck_le, ck_eq, not_true_eq_false, not_false_eq_true, Int32.reduceToInt, Int32.reduceAdd, Int32.reduceSub, Int32.reduceMul] at * <;> omega)) | (exfalso; simp_all; done)
          · intro zc42
            with_reducible first | have ze42 := Decidable.not_not.mp zc42 | have ze42 := zc42
            refine hB bX8_isNumbered_45 _ _ _ _ _ _ _ kX8_isNumbered_45 ?_
            dsimp only [bX8_isNumbered_45, kx_wp, kx_step, kx_lI, kx_lL, kx_lA, kx_gl, kx_pI, kx_pL, kx_pR, kx_pA, kx_pV, kx_s1, kx_s2, kx_sl, kx_pre, kx_c2, kx_pl, kx_cmp, kx_oF, kx_eqN, kx_nil, kx_c1, kx_ft, kx_aI, kx_aL, kx_aR, kx_ln, Nat.reduceAdd, Option.toList, List.cons_append, List.nil_append]
            repeat (simp only [cx_8o, ks_eq, ks_ss]; try dsimp only [kx_wp, kx_step, kx_lI, kx_lL, kx_lA, kx_gl, kx_pI, kx_pL, kx_pR, kx_pA, kx_pV, kx_s1, kx_s2, kx_sl, kx_pre, kx_c2, kx_pl, kx_cmp, kx_oF, kx_eqN, kx_nil, kx_c1, kx_ft, kx_aI, kx_aL, kx_aR, kx_ln, Nat.reduceAdd, Option.toList, List.cons_append, List.nil_append])
            repeat' apply And.intro
            all_goals try (first | with_reducible assumption | (with_reducible refine ck_nzI ?_; simp; done) | (with_reducible refine ck_nzL ?_; simp; done) | (with_reducible refine vp_in_nI ?_ ?_ <;> first | omega | decide) | (with_reducible refine Nat.le_of_ble_eq_true ?_; rfl) | omega | exact Or.inl trivial | exact Or.inr trivial | exact Or.inl rfl | exact Or.inr rfl)
            refine kz_lds hK rfl 5 dX8_isNumbered_46 (by decide) rfl ?_
            refine hC.1 96 _ _ _ _ _ _ _ 8 _ _ _ _ _ _ _ _ _ _ _ _ lX8_96 (cx_wi_f hT h6 h7 hb hn 5 (by decide) w5) ⟨by decide, rfl⟩ (cx_8o) rfl rfl (Nat.le_of_ble_eq_true rfl) (by first | decide | omega) (by decide) (by omega) (by omega) dX8_isNumbered_48 ?_
            refine hB bX8_isNumbered_51 _ _ _ _ _ _ _ kX8_isNumbered_51 ?_
            dsimp only [bX8_isNumbered_51, kx_wp, kx_step, kx_lI, kx_lL, kx_lA, kx_gl, kx_pI, kx_pL, kx_pR, kx_pA, kx_pV, kx_s1, kx_s2, kx_sl, kx_pre, kx_c2, kx_pl, kx_cmp, kx_oF, kx_eqN, kx_nil, kx_c1, kx_ft, kx_aI, kx_aL, kx_aR, kx_ln, Nat.reduceAdd, Option.toList, List.cons_append, List.nil_append]
            repeat (simp only [cx_8o, ks_eq, ks_ss]; try dsimp only [kx_wp, kx_step, kx_lI, kx_lL, kx_lA, kx_gl, kx_pI, kx_pL, kx_pR, kx_pA, kx_pV, kx_s1, kx_s2, kx_sl, kx_pre, kx_c2, kx_pl, kx_cmp, kx_oF, kx_eqN, kx_nil, kx_c1, kx_ft, kx_aI, kx_aL, kx_aR, kx_ln, Nat.reduceAdd, Option.toList, List.cons_append, List.nil_append])
            repeat' apply And.intro
            all_goals try (first | with_reducible assumption | (with_reducible refine ck_nzI ?_; simp; done) | (with_reducible refine ck_nzL ?_; simp; done) | (with_reducible refine vp_in_nI ?_ ?_ <;> first | omega | decide) | (with_reducible refine Nat.le_of_ble_eq_true ?_; rfl) | omega | exact Or.inl trivial | exact Or.inr trivial | exact Or.inl rfl | exact Or.inr rfl)
            · intro zc51
              first | exact absurd rfl zc51 | exact absurd zc51 (by decide) | exact absurd (by decide) zc51 | (exfalso; ((try clear hB hC); simp only [ck_lt, ck_le, ck_eq, not_true_eq_false, not_false_eq_true, Int32.reduceToInt, Int32.reduceAdd, Int32.reduceSub, Int32.reduceMul] at * <;> omega)) | (exfalso; simp_all; done)
            · intro zc51
              with_reducible first | have ze51 := Decidable.not_not.mp zc51 | have ze51 := zc51
              refine hB bX8_isNumbered_54 _ _ _ _ _ _ _ kX8_isNumbered_54 ?_
              dsimp only [bX8_isNumbered_54, kx_wp, kx_step, kx_lI, kx_lL, kx_lA, kx_gl, kx_pI, kx_pL, kx_pR, kx_pA, kx_pV, kx_s1, kx_s2, kx_sl, kx_pre, kx_c2, kx_pl, kx_cmp, kx_oF, kx_eqN, kx_nil, kx_c1, kx_ft, kx_aI, kx_aL, kx_aR, kx_ln, Nat.reduceAdd, Option.toList, List.cons_append, List.nil_append]
              repeat (simp only [cx_8o, ks_eq, ks_ss]; try dsimp only [kx_wp, kx_step, kx_lI, kx_lL, kx_lA, kx_gl, kx_pI, kx_pL, kx_pR, kx_pA, kx_pV, kx_s1, kx_s2, kx_sl, kx_pre, kx_c2, kx_pl, kx_cmp, kx_oF, kx_eqN, kx_nil, kx_c1, kx_ft, kx_aI, kx_aL, kx_aR, kx_ln, Nat.reduceAdd, Option.toList, List.cons_append, List.nil_append])
              repeat' apply And.intro
              all_goals try (first | with_reducible assumption | (with_reducible refine ck_nzI ?_; simp; done) | (with_reducible refine ck_nzL ?_; simp; done) | (with_reducible refine vp_in_nI ?_ ?_ <;> first | omega | decide) | (with_reducible refine Nat.le_of_ble_eq_true ?_; rfl) | omega | exact Or.inl trivial | exact Or.inr trivial | exact Or.inl rfl | exact Or.inr rfl)
              refine kz_lds hK rfl 6 dX8_isNumbered_55 (by decide) rfl ?_
              refine hC.1 96 _ _ _ _ _ _ _ 8 _ _ _ _ _ _ _ _ _ _ _ _ lX8_96 (cx_wi_f hT h6 h7 hb hn 6 (by decide) w6) ⟨by decide, rfl⟩ (cx_8o) rfl rfl (Nat.le_of_ble_eq_true rfl) (by first | decide | omega) (by decide) (by omega) (by omega) dX8_isNumbered_57 ?_
              refine hB bX8_isNumbered_60 _ _ _ _ _ _ _ kX8_isNumbered_60 ?_
              dsimp only [bX8_isNumbered_60, kx_wp, kx_step, kx_lI, kx_lL, kx_lA, kx_gl, kx_pI, kx_pL, kx_pR, kx_pA, kx_pV, kx_s1, kx_s2, kx_sl, kx_pre, kx_c2, kx_pl, kx_cmp, kx_oF, kx_eqN, kx_nil, kx_c1, kx_ft, kx_aI, kx_aL, kx_aR, kx_ln, Nat.reduceAdd, Option.toList, List.cons_append, List.nil_append]
              repeat (simp only [cx_8o, ks_eq, ks_ss]; try dsimp only [kx_wp, kx_step, kx_lI, kx_lL, kx_lA, kx_gl, kx_pI, kx_pL, kx_pR, kx_pA, kx_pV, kx_s1, kx_s2, kx_sl, kx_pre, kx_c2, kx_pl, kx_cmp, kx_oF, kx_eqN, kx_nil, kx_c1, kx_ft, kx_aI, kx_aL, kx_aR, kx_ln, Nat.reduceAdd, Option.toList, List.cons_append, List.nil_append])
              repeat' apply And.intro
              all_goals try (first | with_reducible assumption | (with_reducible refine ck_nzI ?_; simp; done) | (with_reducible refine ck_nzL ?_; simp; done) | (with_reducible refine vp_in_nI ?_ ?_ <;> first | omega | decide) | (with_reducible refine Nat.le_of_ble_eq_true ?_; rfl) | omega | exact Or.inl trivial | exact Or.inr trivial | exact Or.inl rfl | exact Or.inr rfl)
              · intro zc60
                first | exact absurd rfl zc60 | exact absurd zc60 (by decide) | exact absurd (by decide) zc60 | (exfalso; ((try clear hB hC); simp only [ck_lt, ck_le, ck_eq, not_true_eq_false, not_false_eq_true, Int32.reduceToInt, Int32.reduceAdd, Int32.reduceSub, Int32.reduceMul] at * <;> omega)) | (exfalso; simp_all; done)
              · intro zc60
                with_reducible first | have ze60 := Decidable.not_not.mp zc60 | have ze60 := zc60
                refine hB bX8_isNumbered_63 _ _ _ _ _ _ _ kX8_isNumbered_63 ?_
                dsimp only [bX8_isNumbered_63, kx_wp, kx_step, kx_lI, kx_lL, kx_lA, kx_gl, kx_pI, kx_pL, kx_pR, kx_pA, kx_pV, kx_s1, kx_s2, kx_sl, kx_pre, kx_c2, kx_pl, kx_cmp, kx_oF, kx_eqN, kx_nil, kx_c1, kx_ft, kx_aI, kx_aL, kx_aR, kx_ln, Nat.reduceAdd, Option.toList, List.cons_append, List.nil_append]
                repeat (simp only [cx_8o, ks_eq, ks_ss]; try dsimp only [kx_wp, kx_step, kx_lI, kx_lL, kx_lA, kx_gl, kx_pI, kx_pL, kx_pR, kx_pA, kx_pV, kx_s1, kx_s2, kx_sl, kx_pre, kx_c2, kx_pl, kx_cmp, kx_oF, kx_eqN, kx_nil, kx_c1, kx_ft, kx_aI, kx_aL, kx_aR, kx_ln, Nat.reduceAdd, Option.toList, List.cons_append, List.nil_append])
                repeat' apply And.intro
                all_goals try (first | with_reducible assumption | (with_reducible refine ck_nzI ?_; simp; done) | (with_reducible refine ck_nzL ?_; simp; done) | (with_reducible refine vp_in_nI ?_ ?_ <;> first | omega | decide) | (with_reducible refine Nat.le_of_ble_eq_true ?_; rfl) | omega | exact Or.inl trivial | exact Or.inr trivial | exact Or.inl rfl | exact Or.inr rfl)
                refine kz_lds hK rfl 7 dX8_isNumbered_64 (by decide) rfl ?_
                refine hC.1 96 _ _ _ _ _ _ _ 8 _ _ _ _ _ _ _ _ _ _ _ _ lX8_96 (cx_wi_f hT h6 h7 hb hn 7 (by decide) w7) ⟨by decide, rfl⟩ (cx_8o) rfl rfl (Nat.le_of_ble_eq_true rfl) (by first | decide | omega) (by decide) (by omega) (by omega) dX8_isNumbered_66 ?_
                refine hB bX8_isNumbered_69 _ _ _ _ _ _ _ kX8_isNumbered_69 ?_
                dsimp only [bX8_isNumbered_69, kx_wp, kx_step, kx_lI, kx_lL, kx_lA, kx_gl, kx_pI, kx_pL, kx_pR, kx_pA, kx_pV, kx_s1, kx_s2, kx_sl, kx_pre, kx_c2, kx_pl, kx_cmp, kx_oF, kx_eqN, kx_nil, kx_c1, kx_ft, kx_aI, kx_aL, kx_aR, kx_ln, Nat.reduceAdd, Option.toList, List.cons_append, List.nil_append]
                repeat (simp only [cx_8o, ks_eq, ks_ss]; try dsimp only [kx_wp, kx_step, kx_lI, kx_lL, kx_lA, kx_gl, kx_pI, kx_pL, kx_pR, kx_pA, kx_pV, kx_s1, kx_s2, kx_sl, kx_pre, kx_c2, kx_pl, kx_cmp, kx_oF, kx_eqN, kx_nil, kx_c1, kx_ft, kx_aI, kx_aL, kx_aR, kx_ln, Nat.reduceAdd, Option.toList, List.cons_append, List.nil_append])
                repeat' apply And.intro
                all_goals try (first | with_reducible assumption | (with_reducible refine ck_nzI ?_; simp; done) | (with_reducible refine ck_nzL ?_; simp; done) | (with_reducible refine vp_in_nI ?_ ?_ <;> first | omega | decide) | (with_reducible refine Nat.le_of_ble_eq_true ?_; rfl) | omega | exact Or.inl trivial | exact Or.inr trivial | exact Or.inl rfl | exact Or.inr rfl)
                · intro zc69
                  have ze69 := zc69
                  refine hB bX8_isNumbered_76 _ _ _ _ _ _ _ kX8_isNumbered_76 ?_
                  dsimp only [bX8_isNumbered_76, kx_wp, kx_step, kx_lI, kx_lL, kx_lA, kx_gl, kx_pI, kx_pL, kx_pR, kx_pA, kx_pV, kx_s1, kx_s2, kx_sl, kx_pre, kx_c2, kx_pl, kx_cmp, kx_oF, kx_eqN, kx_nil, kx_c1, kx_ft, kx_aI, kx_aL, kx_aR, kx_ln, Nat.reduceAdd, Option.toList, List.cons_append, List.nil_append]
                  repeat (simp only [cx_8o, ks_eq, ks_ss]; try dsimp only [kx_wp, kx_step, kx_lI, kx_lL, kx_lA, kx_gl, kx_pI, kx_pL, kx_pR, kx_pA, kx_pV, kx_s1, kx_s2, kx_sl, kx_pre, kx_c2, kx_pl, kx_cmp, kx_oF, kx_eqN, kx_nil, kx_c1, kx_ft, kx_aI, kx_aL, kx_aR, kx_ln, Nat.reduceAdd, Option.toList, List.cons_append, List.nil_append])
                  repeat' apply And.intro
                  all_goals try (first | with_reducible assumption | (with_reducible refine ck_nzI ?_; simp; done) | (with_reducible refine ck_nzL ?_; simp; done) | (with_reducible refine vp_in_nI ?_ ?_ <;> first | omega | decide) | (with_reducible refine Nat.le_of_ble_eq_true ?_; rfl) | omega | exact Or.inl trivial | exact Or.inr trivial | exact Or.inl rfl | exact Or.inr rfl)
                  refine hB bX8_isNumbered_77 _ _ _ _ _ _ _ kX8_isNumbered_77 ?_
                  dsimp only [bX8_isNumbered_77, kx_wp, kx_step, kx_lI, kx_lL, kx_lA, kx_gl, kx_pI, kx_pL, kx_pR, kx_pA, kx_pV, kx_s1, kx_s2, kx_sl, kx_pre, kx_c2, kx_pl, kx_cmp, kx_oF, kx_eqN, kx_nil, kx_c1, kx_ft, kx_aI, kx_aL, kx_aR, kx_ln, Nat.reduceAdd, Option.toList, List.cons_append, List.nil_append]
                  repeat (simp only [cx_8o, ks_eq, ks_ss]; try dsimp only [kx_wp, kx_step, kx_lI, kx_lL, kx_lA, kx_gl, kx_pI, kx_pL, kx_pR, kx_pA, kx_pV, kx_s1, kx_s2, kx_sl, kx_pre, kx_c2, kx_pl, kx_cmp, kx_oF, kx_eqN, kx_nil, kx_c1, kx_ft, kx_aI, kx_aL, kx_aR, kx_ln, Nat.reduceAdd, Option.toList, List.cons_append, List.nil_append])
                  all_goals (repeat' apply And.intro)
                  all_goals ((try clear hB hC); first | exact True.intro | with_reducible rfl | with_reducible assumption | (with_reducible refine vp_in_nI ?_ ?_ <;> first | omega | decide) | exact Nat.le_of_ble_eq_true rfl | (with_reducible refine ck_nzI ?_; simp; done) | (with_reducible refine ck_nzL ?_; simp; done) | (simp only [pk_us, pk_uLs, eq_true ze6, eq_true ze15, eq_true ze24, eq_true ze33, eq_true ze42, eq_true ze51, eq_true ze60, eq_true ze69, ↓reduceIte, not_true_eq_false, not_false_eq_true]; done) | (simp only [eq_true ze6, eq_true ze15, eq_true ze24, eq_true ze33, eq_true ze42, eq_true ze51, eq_true ze60, eq_true ze69, ↓reduceIte, not_true_eq_false, not_false_eq_true]; with_reducible rfl) | omega | skip)
                · intro zc69
                  first | exact absurd rfl zc69 | exact absurd zc69 (by decide) | exact absurd (by decide) zc69 | (exfalso; ((try clear hB hC); simp only [ck_lt, ck_le, ck_eq, not_true_eq_false, not_false_eq_true, Int32.reduceToInt, Int32.reduceAdd, Int32.reduceSub, Int32.reduceMul] at * <;> omega)) | (exfalso; simp_all; done)

def bX8_readNumbered_0 : List kx_O := [(.aload_n 0, 0, 0, 0, .null)]
theorem kX8_readNumbered_0 : kx_oks kxL_X8 false cX8_readNumbered 0 bX8_readNumbered_0 = true := by decide +kernel
def bX8_readNumbered_6 : List kx_O := [(.ifCond .eq 20, 26, 0, 0, .null)]
theorem kX8_readNumbered_6 : kx_oks kxL_X8 false cX8_readNumbered 6 bX8_readNumbered_6 = true := by decide +kernel
def bX8_readNumbered_9 : List kx_O := [(.aload_n 0, 0, 0, 0, .null), (.getfield 37, 8, 9, 0, .null), (.aload_n 0, 0, 0, 0, .null), (.iconst 1, 0, 0, 0, .int 1), (.bipush 31, 0, 0, 0, .int 31)]
theorem kX8_readNumbered_9 : kx_oks kxL_X8 false cX8_readNumbered 9 bX8_readNumbered_9 = true := by decide +kernel
def bX8_readNumbered_20 : List kx_O := [(.putfield 140, 9, 0, 0, .null), (.goto 171, 194, 0, 0, .null)]
theorem kX8_readNumbered_20 : kx_oks kxL_X8 false cX8_readNumbered 20 bX8_readNumbered_20 = true := by decide +kernel
def bX8_readNumbered_26 : List kx_O := [(.aload_n 0, 0, 0, 0, .null)]
theorem kX8_readNumbered_26 : kx_oks kxL_X8 false cX8_readNumbered 26 bX8_readNumbered_26 = true := by decide +kernel
def bX8_readNumbered_32 : List kx_O := [(.ifCond .eq 17, 49, 0, 0, .null)]
theorem kX8_readNumbered_32 : kx_oks kxL_X8 false cX8_readNumbered 32 bX8_readNumbered_32 = true := by decide +kernel
def bX8_readNumbered_35 : List kx_O := [(.aload_n 0, 0, 0, 0, .null), (.getfield 37, 8, 9, 0, .null), (.aload_n 0, 0, 0, 0, .null)]
theorem kX8_readNumbered_35 : kx_oks kxL_X8 false cX8_readNumbered 35 bX8_readNumbered_35 = true := by decide +kernel
def bX8_readNumbered_43 : List kx_O := [(.putfield 145, 9, 1, 0, .null), (.goto 148, 194, 0, 0, .null)]
theorem kX8_readNumbered_43 : kx_oks kxL_X8 false cX8_readNumbered 43 bX8_readNumbered_43 = true := by decide +kernel
def bX8_readNumbered_49 : List kx_O := [(.aload_n 0, 0, 0, 0, .null)]
theorem kX8_readNumbered_49 : kx_oks kxL_X8 false cX8_readNumbered 49 bX8_readNumbered_49 = true := by decide +kernel
def bX8_readNumbered_55 : List kx_O := [(.ifCond .eq 17, 72, 0, 0, .null)]
theorem kX8_readNumbered_55 : kx_oks kxL_X8 false cX8_readNumbered 55 bX8_readNumbered_55 = true := by decide +kernel
def bX8_readNumbered_58 : List kx_O := [(.aload_n 0, 0, 0, 0, .null), (.getfield 37, 8, 9, 0, .null), (.aload_n 0, 0, 0, 0, .null)]
theorem kX8_readNumbered_58 : kx_oks kxL_X8 false cX8_readNumbered 58 bX8_readNumbered_58 = true := by decide +kernel
def bX8_readNumbered_66 : List kx_O := [(.putfield 147, 9, 2, 0, .null), (.goto 125, 194, 0, 0, .null)]
theorem kX8_readNumbered_66 : kx_oks kxL_X8 false cX8_readNumbered 66 bX8_readNumbered_66 = true := by decide +kernel
def bX8_readNumbered_72 : List kx_O := [(.aload_n 0, 0, 0, 0, .null)]
theorem kX8_readNumbered_72 : kx_oks kxL_X8 false cX8_readNumbered 72 bX8_readNumbered_72 = true := by decide +kernel
def bX8_readNumbered_78 : List kx_O := [(.ifCond .eq 21, 99, 0, 0, .null)]
theorem kX8_readNumbered_78 : kx_oks kxL_X8 false cX8_readNumbered 78 bX8_readNumbered_78 = true := by decide +kernel
def bX8_readNumbered_81 : List kx_O := [(.aload_n 0, 0, 0, 0, .null), (.getfield 37, 8, 9, 0, .null), (.aload_n 0, 0, 0, 0, .null), (.iconst 0, 0, 0, 0, .int 0), (.sipush 500, 0, 0, 0, .int 500)]
theorem kX8_readNumbered_81 : kx_oks kxL_X8 false cX8_readNumbered 81 bX8_readNumbered_81 = true := by decide +kernel
def bX8_readNumbered_93 : List kx_O := [(.putfield 149, 9, 3, 0, .null), (.goto 98, 194, 0, 0, .null)]
theorem kX8_readNumbered_93 : kx_oks kxL_X8 false cX8_readNumbered 93 bX8_readNumbered_93 = true := by decide +kernel
def bX8_readNumbered_99 : List kx_O := [(.aload_n 0, 0, 0, 0, .null)]
theorem kX8_readNumbered_99 : kx_oks kxL_X8 false cX8_readNumbered 99 bX8_readNumbered_99 = true := by decide +kernel
def bX8_readNumbered_105 : List kx_O := [(.ifCond .eq 21, 126, 0, 0, .null)]
theorem kX8_readNumbered_105 : kx_oks kxL_X8 false cX8_readNumbered 105 bX8_readNumbered_105 = true := by decide +kernel
def bX8_readNumbered_108 : List kx_O := [(.aload_n 0, 0, 0, 0, .null), (.getfield 37, 8, 9, 0, .null), (.aload_n 0, 0, 0, 0, .null), (.iconst 0, 0, 0, 0, .int 0), (.sipush 500, 0, 0, 0, .int 500)]
theorem kX8_readNumbered_108 : kx_oks kxL_X8 false cX8_readNumbered 108 bX8_readNumbered_108 = true := by decide +kernel
def bX8_readNumbered_120 : List kx_O := [(.putfield 151, 9, 4, 0, .null), (.goto 71, 194, 0, 0, .null)]
theorem kX8_readNumbered_120 : kx_oks kxL_X8 false cX8_readNumbered 120 bX8_readNumbered_120 = true := by decide +kernel
def bX8_readNumbered_126 : List kx_O := [(.aload_n 0, 0, 0, 0, .null)]
theorem kX8_readNumbered_126 : kx_oks kxL_X8 false cX8_readNumbered 126 bX8_readNumbered_126 = true := by decide +kernel
def bX8_readNumbered_132 : List kx_O := [(.ifCond .eq 20, 152, 0, 0, .null)]
theorem kX8_readNumbered_132 : kx_oks kxL_X8 false cX8_readNumbered 132 bX8_readNumbered_132 = true := by decide +kernel
def bX8_readNumbered_135 : List kx_O := [(.aload_n 0, 0, 0, 0, .null), (.getfield 37, 8, 9, 0, .null), (.aload_n 0, 0, 0, 0, .null), (.iconst 0, 0, 0, 0, .int 0), (.bipush 50, 0, 0, 0, .int 50)]
theorem kX8_readNumbered_135 : kx_oks kxL_X8 false cX8_readNumbered 135 bX8_readNumbered_135 = true := by decide +kernel
def bX8_readNumbered_146 : List kx_O := [(.putfield 153, 9, 5, 0, .null), (.goto 45, 194, 0, 0, .null)]
theorem kX8_readNumbered_146 : kx_oks kxL_X8 false cX8_readNumbered 146 bX8_readNumbered_146 = true := by decide +kernel
def bX8_readNumbered_152 : List kx_O := [(.aload_n 0, 0, 0, 0, .null)]
theorem kX8_readNumbered_152 : kx_oks kxL_X8 false cX8_readNumbered 152 bX8_readNumbered_152 = true := by decide +kernel
def bX8_readNumbered_158 : List kx_O := [(.ifCond .eq 21, 179, 0, 0, .null)]
theorem kX8_readNumbered_158 : kx_oks kxL_X8 false cX8_readNumbered 158 bX8_readNumbered_158 = true := by decide +kernel
def bX8_readNumbered_161 : List kx_O := [(.aload_n 0, 0, 0, 0, .null), (.getfield 37, 8, 9, 0, .null), (.aload_n 0, 0, 0, 0, .null), (.iconst 1, 0, 0, 0, .int 1), (.sipush 2000, 0, 0, 0, .int 2000)]
theorem kX8_readNumbered_161 : kx_oks kxL_X8 false cX8_readNumbered 161 bX8_readNumbered_161 = true := by decide +kernel
def bX8_readNumbered_173 : List kx_O := [(.putfield 155, 9, 6, 0, .null), (.goto 18, 194, 0, 0, .null)]
theorem kX8_readNumbered_173 : kx_oks kxL_X8 false cX8_readNumbered 173 bX8_readNumbered_173 = true := by decide +kernel
def bX8_readNumbered_179 : List kx_O := [(.aload_n 0, 0, 0, 0, .null), (.getfield 37, 8, 9, 0, .null), (.aload_n 0, 0, 0, 0, .null), (.iconst 0, 0, 0, 0, .int 0), (.sipush 200, 0, 0, 0, .int 200)]
theorem kX8_readNumbered_179 : kx_oks kxL_X8 false cX8_readNumbered 179 bX8_readNumbered_179 = true := by decide +kernel
def bX8_readNumbered_191 : List kx_O := [(.putfield 157, 9, 7, 0, .null)]
theorem kX8_readNumbered_191 : kx_oks kxL_X8 false cX8_readNumbered 191 bX8_readNumbered_191 = true := by decide +kernel
def bX8_readNumbered_194 : List kx_O := [(.return_, 0, 0, 0, .null)]
theorem kX8_readNumbered_194 : kx_oks kxL_X8 false cX8_readNumbered 194 bX8_readNumbered_194 = true := by decide +kernel
theorem dX8_readNumbered_1 : decode cX8_readNumbered 1 = .ok (.ldc 124, 2) := by decide +kernel
theorem dX8_readNumbered_3 : decode cX8_readNumbered 3 = .ok (.invokevirtual 96, 3) := by decide +kernel
theorem dX8_readNumbered_17 : decode cX8_readNumbered 17 = .ok (.invokevirtual 85, 3) := by decide +kernel
theorem dX8_readNumbered_27 : decode cX8_readNumbered 27 = .ok (.ldc 126, 2) := by decide +kernel
theorem dX8_readNumbered_29 : decode cX8_readNumbered 29 = .ok (.invokevirtual 96, 3) := by decide +kernel
theorem dX8_readNumbered_40 : decode cX8_readNumbered 40 = .ok (.invokevirtual 142, 3) := by decide +kernel
theorem dX8_readNumbered_50 : decode cX8_readNumbered 50 = .ok (.ldc 128, 2) := by decide +kernel
theorem dX8_readNumbered_52 : decode cX8_readNumbered 52 = .ok (.invokevirtual 96, 3) := by decide +kernel
theorem dX8_readNumbered_63 : decode cX8_readNumbered 63 = .ok (.invokevirtual 142, 3) := by decide +kernel
theorem dX8_readNumbered_73 : decode cX8_readNumbered 73 = .ok (.ldc 130, 2) := by decide +kernel
theorem dX8_readNumbered_75 : decode cX8_readNumbered 75 = .ok (.invokevirtual 96, 3) := by decide +kernel
theorem dX8_readNumbered_90 : decode cX8_readNumbered 90 = .ok (.invokevirtual 85, 3) := by decide +kernel
theorem dX8_readNumbered_100 : decode cX8_readNumbered 100 = .ok (.ldc 132, 2) := by decide +kernel
theorem dX8_readNumbered_102 : decode cX8_readNumbered 102 = .ok (.invokevirtual 96, 3) := by decide +kernel
theorem dX8_readNumbered_117 : decode cX8_readNumbered 117 = .ok (.invokevirtual 85, 3) := by decide +kernel
theorem dX8_readNumbered_127 : decode cX8_readNumbered 127 = .ok (.ldc 134, 2) := by decide +kernel
theorem dX8_readNumbered_129 : decode cX8_readNumbered 129 = .ok (.invokevirtual 96, 3) := by decide +kernel
theorem dX8_readNumbered_143 : decode cX8_readNumbered 143 = .ok (.invokevirtual 85, 3) := by decide +kernel
theorem dX8_readNumbered_153 : decode cX8_readNumbered 153 = .ok (.ldc 136, 2) := by decide +kernel
theorem dX8_readNumbered_155 : decode cX8_readNumbered 155 = .ok (.invokevirtual 96, 3) := by decide +kernel
theorem dX8_readNumbered_170 : decode cX8_readNumbered 170 = .ok (.invokevirtual 85, 3) := by decide +kernel
theorem dX8_readNumbered_188 : decode cX8_readNumbered 188 = .ok (.invokevirtual 85, 3) := by decide +kernel
set_option maxRecDepth 100000 in
set_option maxHeartbeats 4000000 in
theorem cn_0 (l : Launch) (G : kx_G) {P : kx_P} {sz : Nat} {Q : kx_P} {w : Nat} (hw : 144 ≤ w) {F F2 V te qu Fo st T : Nat → Int32} (hT : cx_fW (cx_vW Q w V te qu) w Fo st 67 = kI 0 400 T) {n b : Nat} (h6 : F 6 = nI b) (h7 : F 7 = nI (ck_ps T n b)) (hb : b ≤ n) (hn : n ≤ 400) {v : Int32} (w0 : ck_wo_ T n b = kz_co 0) (hM : kx_M l G sX8_takeNumber 2 0 0 [.ref 68, .int 1, .int 31] (cx_8 (cx_fW (cx_vW Q w (V) (te) (qu)) w (Fo) (st)) (.ref w) (F)) sz (some (.int v)) (cx_8 (cx_fW (cx_vW Q w (V) (te) (qu)) w (Fo) (st)) (.ref w) (F2)) sz)  : kx_M l G sX8_readNumbered 6 0 0 [.ref 68] (cx_8 (cx_fW (cx_vW Q w (V) (te) (qu)) w (Fo) (st)) (.ref w) (F)) sz none (cx_8 (cx_fW (cx_vW Q w (upd V 0 v) (te) (qu)) w (Fo) (st)) (.ref w) (F2)) sz := by
  refine kz_m2d kx_tab kxLok_X8 (ini := false) [some (.ref 68)] ⟨by decide +kernel, rfl, by decide, by decide⟩ (Or.inl rfl) rfl rfl (fun g hB hC hK => ?_)
  refine hB bX8_readNumbered_0 _ _ _ _ _ _ _ kX8_readNumbered_0 ?_
  dsimp only [bX8_readNumbered_0, kx_wp, kx_step, kx_lI, kx_lL, kx_lA, kx_gl, kx_pI, kx_pL, kx_pR, kx_pA, kx_pV, kx_s1, kx_s2, kx_sl, kx_pre, kx_c2, kx_pl, kx_cmp, kx_oF, kx_eqN, kx_nil, kx_c1, kx_ft, kx_aI, kx_aL, kx_aR, kx_ln, Nat.reduceAdd, Option.toList, List.cons_append, List.nil_append, cf8_9, cf9_0, cf9_1, cf9_2, cf9_3, cf9_4, cf9_5, cf9_6, cf9_7]
  repeat (simp only [cx_8o, cx_8s, cx_83 hw, cx_84 hw, cx_dq0 hw, cx_dq1 hw, cx_dq2 hw, cx_dp0 hw, cx_dp1 hw, cx_dp2 hw, cx_8f3 hw, cx_8f4 hw, pk_us, pk_un, ne_eq, Nat.reduceEqDiff, not_false_eq_true, cp9_0, cp9_1, cp9_2, cp9_3, cp9_4, cp9_5, cp9_6, cp9_7, ks_eq, ks_ss]; try dsimp only [kx_wp, kx_step, kx_lI, kx_lL, kx_lA, kx_gl, kx_pI, kx_pL, kx_pR, kx_pA, kx_pV, kx_s1, kx_s2, kx_sl, kx_pre, kx_c2, kx_pl, kx_cmp, kx_oF, kx_eqN, kx_nil, kx_c1, kx_ft, kx_aI, kx_aL, kx_aR, kx_ln, Nat.reduceAdd, Option.toList, List.cons_append, List.nil_append, cf8_9, cf9_0, cf9_1, cf9_2, cf9_3, cf9_4, cf9_5, cf9_6, cf9_7])
  repeat' apply And.intro
  all_goals try (first | with_reducible assumption | (with_reducible refine ck_nzI ?_; simp; done) | (with_reducible refine ck_nzL ?_; simp; done) | (with_reducible refine vp_in_nI ?_ ?_ <;> first | omega | decide) | (with_reducible refine Nat.le_of_ble_eq_true ?_; rfl) | omega | exact Or.inl trivial | exact Or.inr trivial | exact Or.inl rfl | exact Or.inr rfl)
  refine kz_lds hK rfl 0 dX8_readNumbered_1 (by decide) rfl ?_
  refine hC.1 96 _ _ _ _ _ _ _ 8 _ _ _ _ _ _ _ _ _ _ _ _ lX8_96 (cx_wi_t hT h6 h7 hb hn 0 (by decide) w0) ⟨by decide, rfl⟩ (cx_8o) rfl rfl (Nat.le_of_ble_eq_true rfl) (by first | decide | omega) (by decide) (by omega) (by omega) dX8_readNumbered_3 ?_
  refine hB bX8_readNumbered_6 _ _ _ _ _ _ _ kX8_readNumbered_6 ?_
  dsimp only [bX8_readNumbered_6, kx_wp, kx_step, kx_lI, kx_lL, kx_lA, kx_gl, kx_pI, kx_pL, kx_pR, kx_pA, kx_pV, kx_s1, kx_s2, kx_sl, kx_pre, kx_c2, kx_pl, kx_cmp, kx_oF, kx_eqN, kx_nil, kx_c1, kx_ft, kx_aI, kx_aL, kx_aR, kx_ln, Nat.reduceAdd, Option.toList, List.cons_append, List.nil_append, cf8_9, cf9_0, cf9_1, cf9_2, cf9_3, cf9_4, cf9_5, cf9_6, cf9_7]
  repeat (simp only [cx_8o, cx_8s, cx_83 hw, cx_84 hw, cx_dq0 hw, cx_dq1 hw, cx_dq2 hw, cx_dp0 hw, cx_dp1 hw, cx_dp2 hw, cx_8f3 hw, cx_8f4 hw, pk_us, pk_un, ne_eq, Nat.reduceEqDiff, not_false_eq_true, cp9_0, cp9_1, cp9_2, cp9_3, cp9_4, cp9_5, cp9_6, cp9_7, ks_eq, ks_ss]; try dsimp only [kx_wp, kx_step, kx_lI, kx_lL, kx_lA, kx_gl, kx_pI, kx_pL, kx_pR, kx_pA, kx_pV, kx_s1, kx_s2, kx_sl, kx_pre, kx_c2, kx_pl, kx_cmp, kx_oF, kx_eqN, kx_nil, kx_c1, kx_ft, kx_aI, kx_aL, kx_aR, kx_ln, Nat.reduceAdd, Option.toList, List.cons_append, List.nil_append, cf8_9, cf9_0, cf9_1, cf9_2, cf9_3, cf9_4, cf9_5, cf9_6, cf9_7])
  repeat' apply And.intro
  all_goals try (first | with_reducible assumption | (with_reducible refine ck_nzI ?_; simp; done) | (with_reducible refine ck_nzL ?_; simp; done) | (with_reducible refine vp_in_nI ?_ ?_ <;> first | omega | decide) | (with_reducible refine Nat.le_of_ble_eq_true ?_; rfl) | omega | exact Or.inl trivial | exact Or.inr trivial | exact Or.inl rfl | exact Or.inr rfl)
  · intro zc6
    first | exact absurd rfl zc6 | exact absurd zc6 (by decide) | exact absurd (by decide) zc6 | (exfalso; ((try clear hB hC); simp only [ck_lt, ck_le, ck_eq, not_true_eq_false, not_false_eq_true, Int32.reduceToInt, Int32.reduceAdd, Int32.reduceSub, Int32.reduceMul] at * <;> omega)) | (exfalso; simp_all; done)
  · intro zc6
    have ze6 := zc6
    refine hB bX8_readNumbered_9 _ _ _ _ _ _ _ kX8_readNumbered_9 ?_
    dsimp only [bX8_readNumbered_9, kx_wp, kx_step, kx_lI, kx_lL, kx_lA, kx_gl, kx_pI, kx_pL, kx_pR, kx_pA, kx_pV, kx_s1, kx_s2, kx_sl, kx_pre, kx_c2, kx_pl, kx_cmp, kx_oF, kx_eqN, kx_nil, kx_c1, kx_ft, kx_aI, kx_aL, kx_aR, kx_ln, Nat.reduceAdd, Option.toList, List.cons_append, List.nil_append, cf8_9, cf9_0, cf9_1, cf9_2, cf9_3, cf9_4, cf9_5, cf9_6, cf9_7]
    repeat (simp only [cx_8o, cx_8s, cx_83 hw, cx_84 hw, cx_dq0 hw, cx_dq1 hw, cx_dq2 hw, cx_dp0 hw, cx_dp1 hw, cx_dp2 hw, cx_8f3 hw, cx_8f4 hw, pk_us, pk_un, ne_eq, Nat.reduceEqDiff, not_false_eq_true, cp9_0, cp9_1, cp9_2, cp9_3, cp9_4, cp9_5, cp9_6, cp9_7, ks_eq, ks_ss]; try dsimp only [kx_wp, kx_step, kx_lI, kx_lL, kx_lA, kx_gl, kx_pI, kx_pL, kx_pR, kx_pA, kx_pV, kx_s1, kx_s2, kx_sl, kx_pre, kx_c2, kx_pl, kx_cmp, kx_oF, kx_eqN, kx_nil, kx_c1, kx_ft, kx_aI, kx_aL, kx_aR, kx_ln, Nat.reduceAdd, Option.toList, List.cons_append, List.nil_append, cf8_9, cf9_0, cf9_1, cf9_2, cf9_3, cf9_4, cf9_5, cf9_6, cf9_7])
    repeat' apply And.intro
    all_goals try (first | with_reducible assumption | (with_reducible refine ck_nzI ?_; simp; done) | (with_reducible refine ck_nzL ?_; simp; done) | (with_reducible refine vp_in_nI ?_ ?_ <;> first | omega | decide) | (with_reducible refine Nat.le_of_ble_eq_true ?_; rfl) | omega | exact Or.inl trivial | exact Or.inr trivial | exact Or.inl rfl | exact Or.inr rfl)
    refine hC.1 85 _ _ _ _ _ _ _ 8 _ _ _ _ _ _ _ _ _ _ _ _ lX8_85 (hM) ⟨by decide, rfl⟩ (cx_8o) rfl rfl (Nat.le_of_ble_eq_true rfl) (by first | decide | omega) (by decide) (by omega) (by omega) dX8_readNumbered_17 ?_
    refine hB bX8_readNumbered_20 _ _ _ _ _ _ _ kX8_readNumbered_20 ?_
    dsimp only [bX8_readNumbered_20, kx_wp, kx_step, kx_lI, kx_lL, kx_lA, kx_gl, kx_pI, kx_pL, kx_pR, kx_pA, kx_pV, kx_s1, kx_s2, kx_sl, kx_pre, kx_c2, kx_pl, kx_cmp, kx_oF, kx_eqN, kx_nil, kx_c1, kx_ft, kx_aI, kx_aL, kx_aR, kx_ln, Nat.reduceAdd, Option.toList, List.cons_append, List.nil_append, cf8_9, cf9_0, cf9_1, cf9_2, cf9_3, cf9_4, cf9_5, cf9_6, cf9_7]
    repeat (simp only [cx_8o, cx_8s, cx_83 hw, cx_84 hw, cx_dq0 hw, cx_dq1 hw, cx_dq2 hw, cx_dp0 hw, cx_dp1 hw, cx_dp2 hw, cx_8f3 hw, cx_8f4 hw, pk_us, pk_un, ne_eq, Nat.reduceEqDiff, not_false_eq_true, cp9_0, cp9_1, cp9_2, cp9_3, cp9_4, cp9_5, cp9_6, cp9_7, ks_eq, ks_ss]; try dsimp only [kx_wp, kx_step, kx_lI, kx_lL, kx_lA, kx_gl, kx_pI, kx_pL, kx_pR, kx_pA, kx_pV, kx_s1, kx_s2, kx_sl, kx_pre, kx_c2, kx_pl, kx_cmp, kx_oF, kx_eqN, kx_nil, kx_c1, kx_ft, kx_aI, kx_aL, kx_aR, kx_ln, Nat.reduceAdd, Option.toList, List.cons_append, List.nil_append, cf8_9, cf9_0, cf9_1, cf9_2, cf9_3, cf9_4, cf9_5, cf9_6, cf9_7])
    repeat' apply And.intro
    all_goals try (first | with_reducible assumption | (with_reducible refine ck_nzI ?_; simp; done) | (with_reducible refine ck_nzL ?_; simp; done) | (with_reducible refine vp_in_nI ?_ ?_ <;> first | omega | decide) | (with_reducible refine Nat.le_of_ble_eq_true ?_; rfl) | omega | exact Or.inl trivial | exact Or.inr trivial | exact Or.inl rfl | exact Or.inr rfl)
    refine hB bX8_readNumbered_194 _ _ _ _ _ _ _ kX8_readNumbered_194 ?_
    dsimp only [bX8_readNumbered_194, kx_wp, kx_step, kx_lI, kx_lL, kx_lA, kx_gl, kx_pI, kx_pL, kx_pR, kx_pA, kx_pV, kx_s1, kx_s2, kx_sl, kx_pre, kx_c2, kx_pl, kx_cmp, kx_oF, kx_eqN, kx_nil, kx_c1, kx_ft, kx_aI, kx_aL, kx_aR, kx_ln, Nat.reduceAdd, Option.toList, List.cons_append, List.nil_append, cf8_9, cf9_0, cf9_1, cf9_2, cf9_3, cf9_4, cf9_5, cf9_6, cf9_7]
    repeat (simp only [cx_8o, cx_8s, cx_83 hw, cx_84 hw, cx_dq0 hw, cx_dq1 hw, cx_dq2 hw, cx_dp0 hw, cx_dp1 hw, cx_dp2 hw, cx_8f3 hw, cx_8f4 hw, pk_us, pk_un, ne_eq, Nat.reduceEqDiff, not_false_eq_true, cp9_0, cp9_1, cp9_2, cp9_3, cp9_4, cp9_5, cp9_6, cp9_7, ks_eq, ks_ss]; try dsimp only [kx_wp, kx_step, kx_lI, kx_lL, kx_lA, kx_gl, kx_pI, kx_pL, kx_pR, kx_pA, kx_pV, kx_s1, kx_s2, kx_sl, kx_pre, kx_c2, kx_pl, kx_cmp, kx_oF, kx_eqN, kx_nil, kx_c1, kx_ft, kx_aI, kx_aL, kx_aR, kx_ln, Nat.reduceAdd, Option.toList, List.cons_append, List.nil_append, cf8_9, cf9_0, cf9_1, cf9_2, cf9_3, cf9_4, cf9_5, cf9_6, cf9_7])
    all_goals (repeat' apply And.intro)
    all_goals ((try clear hB hC); first | exact True.intro | rfl)

set_option maxRecDepth 100000 in
set_option maxHeartbeats 4000000 in
theorem cn_1 (l : Launch) (G : kx_G) {P : kx_P} {sz : Nat} {Q : kx_P} {w : Nat} (hw : 144 ≤ w) {F F2 V te qu Fo st T : Nat → Int32} (hT : cx_fW (cx_vW Q w V te qu) w Fo st 67 = kI 0 400 T) {n b : Nat} (h6 : F 6 = nI b) (h7 : F 7 = nI (ck_ps T n b)) (hb : b ≤ n) (hn : n ≤ 400) {v : Int32} (w0 : ¬ ck_wo_ T n b = kz_co 0) (w1 : ck_wo_ T n b = kz_co 1) (hM : kx_M l G sX8_takeSigned 3 0 0 [.ref 68] (cx_8 (cx_fW (cx_vW Q w (V) (te) (qu)) w (Fo) (st)) (.ref w) (F)) sz (some (.int v)) (cx_8 (cx_fW (cx_vW Q w (V) (te) (qu)) w (Fo) (st)) (.ref w) (F2)) sz)  : kx_M l G sX8_readNumbered 6 0 0 [.ref 68] (cx_8 (cx_fW (cx_vW Q w (V) (te) (qu)) w (Fo) (st)) (.ref w) (F)) sz none (cx_8 (cx_fW (cx_vW Q w (upd V 1 v) (te) (qu)) w (Fo) (st)) (.ref w) (F2)) sz := by
  refine kz_m2d kx_tab kxLok_X8 (ini := false) [some (.ref 68)] ⟨by decide +kernel, rfl, by decide, by decide⟩ (Or.inl rfl) rfl rfl (fun g hB hC hK => ?_)
  refine hB bX8_readNumbered_0 _ _ _ _ _ _ _ kX8_readNumbered_0 ?_
  dsimp only [bX8_readNumbered_0, kx_wp, kx_step, kx_lI, kx_lL, kx_lA, kx_gl, kx_pI, kx_pL, kx_pR, kx_pA, kx_pV, kx_s1, kx_s2, kx_sl, kx_pre, kx_c2, kx_pl, kx_cmp, kx_oF, kx_eqN, kx_nil, kx_c1, kx_ft, kx_aI, kx_aL, kx_aR, kx_ln, Nat.reduceAdd, Option.toList, List.cons_append, List.nil_append, cf8_9, cf9_0, cf9_1, cf9_2, cf9_3, cf9_4, cf9_5, cf9_6, cf9_7]
  repeat (simp only [cx_8o, cx_8s, cx_83 hw, cx_84 hw, cx_dq0 hw, cx_dq1 hw, cx_dq2 hw, cx_dp0 hw, cx_dp1 hw, cx_dp2 hw, cx_8f3 hw, cx_8f4 hw, pk_us, pk_un, ne_eq, Nat.reduceEqDiff, not_false_eq_true, cp9_0, cp9_1, cp9_2, cp9_3, cp9_4, cp9_5, cp9_6, cp9_7, ks_eq, ks_ss]; try dsimp only [kx_wp, kx_step, kx_lI, kx_lL, kx_lA, kx_gl, kx_pI, kx_pL, kx_pR, kx_pA, kx_pV, kx_s1, kx_s2, kx_sl, kx_pre, kx_c2, kx_pl, kx_cmp, kx_oF, kx_eqN, kx_nil, kx_c1, kx_ft, kx_aI, kx_aL, kx_aR, kx_ln, Nat.reduceAdd, Option.toList, List.cons_append, List.nil_append, cf8_9, cf9_0, cf9_1, cf9_2, cf9_3, cf9_4, cf9_5, cf9_6, cf9_7])
  repeat' apply And.intro
  all_goals try (first | with_reducible assumption | (with_reducible refine ck_nzI ?_; simp; done) | (with_reducible refine ck_nzL ?_; simp; done) | (with_reducible refine vp_in_nI ?_ ?_ <;> first | omega | decide) | (with_reducible refine Nat.le_of_ble_eq_true ?_; rfl) | omega | exact Or.inl trivial | exact Or.inr trivial | exact Or.inl rfl | exact Or.inr rfl)
  refine kz_lds hK rfl 0 dX8_readNumbered_1 (by decide) rfl ?_
  refine hC.1 96 _ _ _ _ _ _ _ 8 _ _ _ _ _ _ _ _ _ _ _ _ lX8_96 (cx_wi_f hT h6 h7 hb hn 0 (by decide) w0) ⟨by decide, rfl⟩ (cx_8o) rfl rfl (Nat.le_of_ble_eq_true rfl) (by first | decide | omega) (by decide) (by omega) (by omega) dX8_readNumbered_3 ?_
  refine hB bX8_readNumbered_6 _ _ _ _ _ _ _ kX8_readNumbered_6 ?_
  dsimp only [bX8_readNumbered_6, kx_wp, kx_step, kx_lI, kx_lL, kx_lA, kx_gl, kx_pI, kx_pL, kx_pR, kx_pA, kx_pV, kx_s1, kx_s2, kx_sl, kx_pre, kx_c2, kx_pl, kx_cmp, kx_oF, kx_eqN, kx_nil, kx_c1, kx_ft, kx_aI, kx_aL, kx_aR, kx_ln, Nat.reduceAdd, Option.toList, List.cons_append, List.nil_append, cf8_9, cf9_0, cf9_1, cf9_2, cf9_3, cf9_4, cf9_5, cf9_6, cf9_7]
  repeat (simp only [cx_8o, cx_8s, cx_83 hw, cx_84 hw, cx_dq0 hw, cx_dq1 hw, cx_dq2 hw, cx_dp0 hw, cx_dp1 hw, cx_dp2 hw, cx_8f3 hw, cx_8f4 hw, pk_us, pk_un, ne_eq, Nat.reduceEqDiff, not_false_eq_true, cp9_0, cp9_1, cp9_2, cp9_3, cp9_4, cp9_5, cp9_6, cp9_7, ks_eq, ks_ss]; try dsimp only [kx_wp, kx_step, kx_lI, kx_lL, kx_lA, kx_gl, kx_pI, kx_pL, kx_pR, kx_pA, kx_pV, kx_s1, kx_s2, kx_sl, kx_pre, kx_c2, kx_pl, kx_cmp, kx_oF, kx_eqN, kx_nil, kx_c1, kx_ft, kx_aI, kx_aL, kx_aR, kx_ln, Nat.reduceAdd, Option.toList, List.cons_append, List.nil_append, cf8_9, cf9_0, cf9_1, cf9_2, cf9_3, cf9_4, cf9_5, cf9_6, cf9_7])
  repeat' apply And.intro
  all_goals try (first | with_reducible assumption | (with_reducible refine ck_nzI ?_; simp; done) | (with_reducible refine ck_nzL ?_; simp; done) | (with_reducible refine vp_in_nI ?_ ?_ <;> first | omega | decide) | (with_reducible refine Nat.le_of_ble_eq_true ?_; rfl) | omega | exact Or.inl trivial | exact Or.inr trivial | exact Or.inl rfl | exact Or.inr rfl)
  · intro zc6
    have ze6 := zc6
    refine hB bX8_readNumbered_26 _ _ _ _ _ _ _ kX8_readNumbered_26 ?_
    dsimp only [bX8_readNumbered_26, kx_wp, kx_step, kx_lI, kx_lL, kx_lA, kx_gl, kx_pI, kx_pL, kx_pR, kx_pA, kx_pV, kx_s1, kx_s2, kx_sl, kx_pre, kx_c2, kx_pl, kx_cmp, kx_oF, kx_eqN, kx_nil, kx_c1, kx_ft, kx_aI, kx_aL, kx_aR, kx_ln, Nat.reduceAdd, Option.toList, List.cons_append, List.nil_append, cf8_9, cf9_0, cf9_1, cf9_2, cf9_3, cf9_4, cf9_5, cf9_6, cf9_7]
    repeat (simp only [cx_8o, cx_8s, cx_83 hw, cx_84 hw, cx_dq0 hw, cx_dq1 hw, cx_dq2 hw, cx_dp0 hw, cx_dp1 hw, cx_dp2 hw, cx_8f3 hw, cx_8f4 hw, pk_us, pk_un, ne_eq, Nat.reduceEqDiff, not_false_eq_true, cp9_0, cp9_1, cp9_2, cp9_3, cp9_4, cp9_5, cp9_6, cp9_7, ks_eq, ks_ss]; try dsimp only [kx_wp, kx_step, kx_lI, kx_lL, kx_lA, kx_gl, kx_pI, kx_pL, kx_pR, kx_pA, kx_pV, kx_s1, kx_s2, kx_sl, kx_pre, kx_c2, kx_pl, kx_cmp, kx_oF, kx_eqN, kx_nil, kx_c1, kx_ft, kx_aI, kx_aL, kx_aR, kx_ln, Nat.reduceAdd, Option.toList, List.cons_append, List.nil_append, cf8_9, cf9_0, cf9_1, cf9_2, cf9_3, cf9_4, cf9_5, cf9_6, cf9_7])
    repeat' apply And.intro
    all_goals try (first | with_reducible assumption | (with_reducible refine ck_nzI ?_; simp; done) | (with_reducible refine ck_nzL ?_; simp; done) | (with_reducible refine vp_in_nI ?_ ?_ <;> first | omega | decide) | (with_reducible refine Nat.le_of_ble_eq_true ?_; rfl) | omega | exact Or.inl trivial | exact Or.inr trivial | exact Or.inl rfl | exact Or.inr rfl)
    refine kz_lds hK rfl 1 dX8_readNumbered_27 (by decide) rfl ?_
    refine hC.1 96 _ _ _ _ _ _ _ 8 _ _ _ _ _ _ _ _ _ _ _ _ lX8_96 (cx_wi_t hT h6 h7 hb hn 1 (by decide) w1) ⟨by decide, rfl⟩ (cx_8o) rfl rfl (Nat.le_of_ble_eq_true rfl) (by first | decide | omega) (by decide) (by omega) (by omega) dX8_readNumbered_29 ?_
    refine hB bX8_readNumbered_32 _ _ _ _ _ _ _ kX8_readNumbered_32 ?_
    dsimp only [bX8_readNumbered_32, kx_wp, kx_step, kx_lI, kx_lL, kx_lA, kx_gl, kx_pI, kx_pL, kx_pR, kx_pA, kx_pV, kx_s1, kx_s2, kx_sl, kx_pre, kx_c2, kx_pl, kx_cmp, kx_oF, kx_eqN, kx_nil, kx_c1, kx_ft, kx_aI, kx_aL, kx_aR, kx_ln, Nat.reduceAdd, Option.toList, List.cons_append, List.nil_append, cf8_9, cf9_0, cf9_1, cf9_2, cf9_3, cf9_4, cf9_5, cf9_6, cf9_7]
    repeat (simp only [cx_8o, cx_8s, cx_83 hw, cx_84 hw, cx_dq0 hw, cx_dq1 hw, cx_dq2 hw, cx_dp0 hw, cx_dp1 hw, cx_dp2 hw, cx_8f3 hw, cx_8f4 hw, pk_us, pk_un, ne_eq, Nat.reduceEqDiff, not_false_eq_true, cp9_0, cp9_1, cp9_2, cp9_3, cp9_4, cp9_5, cp9_6, cp9_7, ks_eq, ks_ss]; try dsimp only [kx_wp, kx_step, kx_lI, kx_lL, kx_lA, kx_gl, kx_pI, kx_pL, kx_pR, kx_pA, kx_pV, kx_s1, kx_s2, kx_sl, kx_pre, kx_c2, kx_pl, kx_cmp, kx_oF, kx_eqN, kx_nil, kx_c1, kx_ft, kx_aI, kx_aL, kx_aR, kx_ln, Nat.reduceAdd, Option.toList, List.cons_append, List.nil_append, cf8_9, cf9_0, cf9_1, cf9_2, cf9_3, cf9_4, cf9_5, cf9_6, cf9_7])
    repeat' apply And.intro
    all_goals try (first | with_reducible assumption | (with_reducible refine ck_nzI ?_; simp; done) | (with_reducible refine ck_nzL ?_; simp; done) | (with_reducible refine vp_in_nI ?_ ?_ <;> first | omega | decide) | (with_reducible refine Nat.le_of_ble_eq_true ?_; rfl) | omega | exact Or.inl trivial | exact Or.inr trivial | exact Or.inl rfl | exact Or.inr rfl)
    · intro zc32
      first | exact absurd rfl zc32 | exact absurd zc32 (by decide) | exact absurd (by decide) zc32 | (exfalso; ((try clear hB hC); simp only [ck_lt, ck_le, ck_eq, not_true_eq_false, not_false_eq_true, Int32.reduceToInt, Int32.reduceAdd, Int32.reduceSub, Int32.reduceMul] at * <;> omega)) | (exfalso; simp_all; done)
    · intro zc32
      have ze32 := zc32
      refine hB bX8_readNumbered_35 _ _ _ _ _ _ _ kX8_readNumbered_35 ?_
      dsimp only [bX8_readNumbered_35, kx_wp, kx_step, kx_lI, kx_lL, kx_lA, kx_gl, kx_pI, kx_pL, kx_pR, kx_pA, kx_pV, kx_s1, kx_s2, kx_sl, kx_pre, kx_c2, kx_pl, kx_cmp, kx_oF, kx_eqN, kx_nil, kx_c1, kx_ft, kx_aI, kx_aL, kx_aR, kx_ln, Nat.reduceAdd, Option.toList, List.cons_append, List.nil_append, cf8_9, cf9_0, cf9_1, cf9_2, cf9_3, cf9_4, cf9_5, cf9_6, cf9_7]
      repeat (simp only [cx_8o, cx_8s, cx_83 hw, cx_84 hw, cx_dq0 hw, cx_dq1 hw, cx_dq2 hw, cx_dp0 hw, cx_dp1 hw, cx_dp2 hw, cx_8f3 hw, cx_8f4 hw, pk_us, pk_un, ne_eq, Nat.reduceEqDiff, not_false_eq_true, cp9_0, cp9_1, cp9_2, cp9_3, cp9_4, cp9_5, cp9_6, cp9_7, ks_eq, ks_ss]; try dsimp only [kx_wp, kx_step, kx_lI, kx_lL, kx_lA, kx_gl, kx_pI, kx_pL, kx_pR, kx_pA, kx_pV, kx_s1, kx_s2, kx_sl, kx_pre, kx_c2, kx_pl, kx_cmp, kx_oF, kx_eqN, kx_nil, kx_c1, kx_ft, kx_aI, kx_aL, kx_aR, kx_ln, Nat.reduceAdd, Option.toList, List.cons_append, List.nil_append, cf8_9, cf9_0, cf9_1, cf9_2, cf9_3, cf9_4, cf9_5, cf9_6, cf9_7])
      repeat' apply And.intro
      all_goals try (first | with_reducible assumption | (with_reducible refine ck_nzI ?_; simp; done) | (with_reducible refine ck_nzL ?_; simp; done) | (with_reducible refine vp_in_nI ?_ ?_ <;> first | omega | decide) | (with_reducible refine Nat.le_of_ble_eq_true ?_; rfl) | omega | exact Or.inl trivial | exact Or.inr trivial | exact Or.inl rfl | exact Or.inr rfl)
      refine hC.1 142 _ _ _ _ _ _ _ 8 _ _ _ _ _ _ _ _ _ _ _ _ lX8_142 (hM) ⟨by decide, rfl⟩ (cx_8o) rfl rfl (Nat.le_of_ble_eq_true rfl) (by first | decide | omega) (by decide) (by omega) (by omega) dX8_readNumbered_40 ?_
      refine hB bX8_readNumbered_43 _ _ _ _ _ _ _ kX8_readNumbered_43 ?_
      dsimp only [bX8_readNumbered_43, kx_wp, kx_step, kx_lI, kx_lL, kx_lA, kx_gl, kx_pI, kx_pL, kx_pR, kx_pA, kx_pV, kx_s1, kx_s2, kx_sl, kx_pre, kx_c2, kx_pl, kx_cmp, kx_oF, kx_eqN, kx_nil, kx_c1, kx_ft, kx_aI, kx_aL, kx_aR, kx_ln, Nat.reduceAdd, Option.toList, List.cons_append, List.nil_append, cf8_9, cf9_0, cf9_1, cf9_2, cf9_3, cf9_4, cf9_5, cf9_6, cf9_7]
      repeat (simp only [cx_8o, cx_8s, cx_83 hw, cx_84 hw, cx_dq0 hw, cx_dq1 hw, cx_dq2 hw, cx_dp0 hw, cx_dp1 hw, cx_dp2 hw, cx_8f3 hw, cx_8f4 hw, pk_us, pk_un, ne_eq, Nat.reduceEqDiff, not_false_eq_true, cp9_0, cp9_1, cp9_2, cp9_3, cp9_4, cp9_5, cp9_6, cp9_7, ks_eq, ks_ss]; try dsimp only [kx_wp, kx_step, kx_lI, kx_lL, kx_lA, kx_gl, kx_pI, kx_pL, kx_pR, kx_pA, kx_pV, kx_s1, kx_s2, kx_sl, kx_pre, kx_c2, kx_pl, kx_cmp, kx_oF, kx_eqN, kx_nil, kx_c1, kx_ft, kx_aI, kx_aL, kx_aR, kx_ln, Nat.reduceAdd, Option.toList, List.cons_append, List.nil_append, cf8_9, cf9_0, cf9_1, cf9_2, cf9_3, cf9_4, cf9_5, cf9_6, cf9_7])
      repeat' apply And.intro
      all_goals try (first | with_reducible assumption | (with_reducible refine ck_nzI ?_; simp; done) | (with_reducible refine ck_nzL ?_; simp; done) | (with_reducible refine vp_in_nI ?_ ?_ <;> first | omega | decide) | (with_reducible refine Nat.le_of_ble_eq_true ?_; rfl) | omega | exact Or.inl trivial | exact Or.inr trivial | exact Or.inl rfl | exact Or.inr rfl)
      refine hB bX8_readNumbered_194 _ _ _ _ _ _ _ kX8_readNumbered_194 ?_
      dsimp only [bX8_readNumbered_194, kx_wp, kx_step, kx_lI, kx_lL, kx_lA, kx_gl, kx_pI, kx_pL, kx_pR, kx_pA, kx_pV, kx_s1, kx_s2, kx_sl, kx_pre, kx_c2, kx_pl, kx_cmp, kx_oF, kx_eqN, kx_nil, kx_c1, kx_ft, kx_aI, kx_aL, kx_aR, kx_ln, Nat.reduceAdd, Option.toList, List.cons_append, List.nil_append, cf8_9, cf9_0, cf9_1, cf9_2, cf9_3, cf9_4, cf9_5, cf9_6, cf9_7]
      repeat (simp only [cx_8o, cx_8s, cx_83 hw, cx_84 hw, cx_dq0 hw, cx_dq1 hw, cx_dq2 hw, cx_dp0 hw, cx_dp1 hw, cx_dp2 hw, cx_8f3 hw, cx_8f4 hw, pk_us, pk_un, ne_eq, Nat.reduceEqDiff, not_false_eq_true, cp9_0, cp9_1, cp9_2, cp9_3, cp9_4, cp9_5, cp9_6, cp9_7, ks_eq, ks_ss]; try dsimp only [kx_wp, kx_step, kx_lI, kx_lL, kx_lA, kx_gl, kx_pI, kx_pL, kx_pR, kx_pA, kx_pV, kx_s1, kx_s2, kx_sl, kx_pre, kx_c2, kx_pl, kx_cmp, kx_oF, kx_eqN, kx_nil, kx_c1, kx_ft, kx_aI, kx_aL, kx_aR, kx_ln, Nat.reduceAdd, Option.toList, List.cons_append, List.nil_append, cf8_9, cf9_0, cf9_1, cf9_2, cf9_3, cf9_4, cf9_5, cf9_6, cf9_7])
      all_goals (repeat' apply And.intro)
      all_goals ((try clear hB hC); first | exact True.intro | rfl)
  · intro zc6
    first | exact absurd rfl zc6 | exact absurd zc6 (by decide) | exact absurd (by decide) zc6 | (exfalso; ((try clear hB hC); simp only [ck_lt, ck_le, ck_eq, not_true_eq_false, not_false_eq_true, Int32.reduceToInt, Int32.reduceAdd, Int32.reduceSub, Int32.reduceMul] at * <;> omega)) | (exfalso; simp_all; done)

set_option maxRecDepth 100000 in
set_option maxHeartbeats 4000000 in
theorem cn_2 (l : Launch) (G : kx_G) {P : kx_P} {sz : Nat} {Q : kx_P} {w : Nat} (hw : 144 ≤ w) {F F2 V te qu Fo st T : Nat → Int32} (hT : cx_fW (cx_vW Q w V te qu) w Fo st 67 = kI 0 400 T) {n b : Nat} (h6 : F 6 = nI b) (h7 : F 7 = nI (ck_ps T n b)) (hb : b ≤ n) (hn : n ≤ 400) {v : Int32} (w0 : ¬ ck_wo_ T n b = kz_co 0) (w1 : ¬ ck_wo_ T n b = kz_co 1) (w2 : ck_wo_ T n b = kz_co 2) (hM : kx_M l G sX8_takeSigned 3 0 0 [.ref 68] (cx_8 (cx_fW (cx_vW Q w (V) (te) (qu)) w (Fo) (st)) (.ref w) (F)) sz (some (.int v)) (cx_8 (cx_fW (cx_vW Q w (V) (te) (qu)) w (Fo) (st)) (.ref w) (F2)) sz)  : kx_M l G sX8_readNumbered 6 0 0 [.ref 68] (cx_8 (cx_fW (cx_vW Q w (V) (te) (qu)) w (Fo) (st)) (.ref w) (F)) sz none (cx_8 (cx_fW (cx_vW Q w (upd V 2 v) (te) (qu)) w (Fo) (st)) (.ref w) (F2)) sz := by
  refine kz_m2d kx_tab kxLok_X8 (ini := false) [some (.ref 68)] ⟨by decide +kernel, rfl, by decide, by decide⟩ (Or.inl rfl) rfl rfl (fun g hB hC hK => ?_)
  refine hB bX8_readNumbered_0 _ _ _ _ _ _ _ kX8_readNumbered_0 ?_
  dsimp only [bX8_readNumbered_0, kx_wp, kx_step, kx_lI, kx_lL, kx_lA, kx_gl, kx_pI, kx_pL, kx_pR, kx_pA, kx_pV, kx_s1, kx_s2, kx_sl, kx_pre, kx_c2, kx_pl, kx_cmp, kx_oF, kx_eqN, kx_nil, kx_c1, kx_ft, kx_aI, kx_aL, kx_aR, kx_ln, Nat.reduceAdd, Option.toList, List.cons_append, List.nil_append, cf8_9, cf9_0, cf9_1, cf9_2, cf9_3, cf9_4, cf9_5, cf9_6, cf9_7]
  repeat (simp only [cx_8o, cx_8s, cx_83 hw, cx_84 hw, cx_dq0 hw, cx_dq1 hw, cx_dq2 hw, cx_dp0 hw, cx_dp1 hw, cx_dp2 hw, cx_8f3 hw, cx_8f4 hw, pk_us, pk_un, ne_eq, Nat.reduceEqDiff, not_false_eq_true, cp9_0, cp9_1, cp9_2, cp9_3, cp9_4, cp9_5, cp9_6, cp9_7, ks_eq, ks_ss]; try dsimp only [kx_wp, kx_step, kx_lI, kx_lL, kx_lA, kx_gl, kx_pI, kx_pL, kx_pR, kx_pA, kx_pV, kx_s1, kx_s2, kx_sl, kx_pre, kx_c2, kx_pl, kx_cmp, kx_oF, kx_eqN, kx_nil, kx_c1, kx_ft, kx_aI, kx_aL, kx_aR, kx_ln, Nat.reduceAdd, Option.toList, List.cons_append, List.nil_append, cf8_9, cf9_0, cf9_1, cf9_2, cf9_3, cf9_4, cf9_5, cf9_6, cf9_7])
  repeat' apply And.intro
  all_goals try (first | with_reducible assumption | (with_reducible refine ck_nzI ?_; simp; done) | (with_reducible refine ck_nzL ?_; simp; done) | (with_reducible refine vp_in_nI ?_ ?_ <;> first | omega | decide) | (with_reducible refine Nat.le_of_ble_eq_true ?_; rfl) | omega | exact Or.inl trivial | exact Or.inr trivial | exact Or.inl rfl | exact Or.inr rfl)
  refine kz_lds hK rfl 0 dX8_readNumbered_1 (by decide) rfl ?_
  refine hC.1 96 _ _ _ _ _ _ _ 8 _ _ _ _ _ _ _ _ _ _ _ _ lX8_96 (cx_wi_f hT h6 h7 hb hn 0 (by decide) w0) ⟨by decide, rfl⟩ (cx_8o) rfl rfl (Nat.le_of_ble_eq_true rfl) (by first | decide | omega) (by decide) (by omega) (by omega) dX8_readNumbered_3 ?_
  refine hB bX8_readNumbered_6 _ _ _ _ _ _ _ kX8_readNumbered_6 ?_
  dsimp only [bX8_readNumbered_6, kx_wp, kx_step, kx_lI, kx_lL, kx_lA, kx_gl, kx_pI, kx_pL, kx_pR, kx_pA, kx_pV, kx_s1, kx_s2, kx_sl, kx_pre, kx_c2, kx_pl, kx_cmp, kx_oF, kx_eqN, kx_nil, kx_c1, kx_ft, kx_aI, kx_aL, kx_aR, kx_ln, Nat.reduceAdd, Option.toList, List.cons_append, List.nil_append, cf8_9, cf9_0, cf9_1, cf9_2, cf9_3, cf9_4, cf9_5, cf9_6, cf9_7]
  repeat (simp only [cx_8o, cx_8s, cx_83 hw, cx_84 hw, cx_dq0 hw, cx_dq1 hw, cx_dq2 hw, cx_dp0 hw, cx_dp1 hw, cx_dp2 hw, cx_8f3 hw, cx_8f4 hw, pk_us, pk_un, ne_eq, Nat.reduceEqDiff, not_false_eq_true, cp9_0, cp9_1, cp9_2, cp9_3, cp9_4, cp9_5, cp9_6, cp9_7, ks_eq, ks_ss]; try dsimp only [kx_wp, kx_step, kx_lI, kx_lL, kx_lA, kx_gl, kx_pI, kx_pL, kx_pR, kx_pA, kx_pV, kx_s1, kx_s2, kx_sl, kx_pre, kx_c2, kx_pl, kx_cmp, kx_oF, kx_eqN, kx_nil, kx_c1, kx_ft, kx_aI, kx_aL, kx_aR, kx_ln, Nat.reduceAdd, Option.toList, List.cons_append, List.nil_append, cf8_9, cf9_0, cf9_1, cf9_2, cf9_3, cf9_4, cf9_5, cf9_6, cf9_7])
  repeat' apply And.intro
  all_goals try (first | with_reducible assumption | (with_reducible refine ck_nzI ?_; simp; done) | (with_reducible refine ck_nzL ?_; simp; done) | (with_reducible refine vp_in_nI ?_ ?_ <;> first | omega | decide) | (with_reducible refine Nat.le_of_ble_eq_true ?_; rfl) | omega | exact Or.inl trivial | exact Or.inr trivial | exact Or.inl rfl | exact Or.inr rfl)
  · intro zc6
    have ze6 := zc6
    refine hB bX8_readNumbered_26 _ _ _ _ _ _ _ kX8_readNumbered_26 ?_
    dsimp only [bX8_readNumbered_26, kx_wp, kx_step, kx_lI, kx_lL, kx_lA, kx_gl, kx_pI, kx_pL, kx_pR, kx_pA, kx_pV, kx_s1, kx_s2, kx_sl, kx_pre, kx_c2, kx_pl, kx_cmp, kx_oF, kx_eqN, kx_nil, kx_c1, kx_ft, kx_aI, kx_aL, kx_aR, kx_ln, Nat.reduceAdd, Option.toList, List.cons_append, List.nil_append, cf8_9, cf9_0, cf9_1, cf9_2, cf9_3, cf9_4, cf9_5, cf9_6, cf9_7]
    repeat (simp only [cx_8o, cx_8s, cx_83 hw, cx_84 hw, cx_dq0 hw, cx_dq1 hw, cx_dq2 hw, cx_dp0 hw, cx_dp1 hw, cx_dp2 hw, cx_8f3 hw, cx_8f4 hw, pk_us, pk_un, ne_eq, Nat.reduceEqDiff, not_false_eq_true, cp9_0, cp9_1, cp9_2, cp9_3, cp9_4, cp9_5, cp9_6, cp9_7, ks_eq, ks_ss]; try dsimp only [kx_wp, kx_step, kx_lI, kx_lL, kx_lA, kx_gl, kx_pI, kx_pL, kx_pR, kx_pA, kx_pV, kx_s1, kx_s2, kx_sl, kx_pre, kx_c2, kx_pl, kx_cmp, kx_oF, kx_eqN, kx_nil, kx_c1, kx_ft, kx_aI, kx_aL, kx_aR, kx_ln, Nat.reduceAdd, Option.toList, List.cons_append, List.nil_append, cf8_9, cf9_0, cf9_1, cf9_2, cf9_3, cf9_4, cf9_5, cf9_6, cf9_7])
    repeat' apply And.intro
    all_goals try (first | with_reducible assumption | (with_reducible refine ck_nzI ?_; simp; done) | (with_reducible refine ck_nzL ?_; simp; done) | (with_reducible refine vp_in_nI ?_ ?_ <;> first | omega | decide) | (with_reducible refine Nat.le_of_ble_eq_true ?_; rfl) | omega | exact Or.inl trivial | exact Or.inr trivial | exact Or.inl rfl | exact Or.inr rfl)
    refine kz_lds hK rfl 1 dX8_readNumbered_27 (by decide) rfl ?_
    refine hC.1 96 _ _ _ _ _ _ _ 8 _ _ _ _ _ _ _ _ _ _ _ _ lX8_96 (cx_wi_f hT h6 h7 hb hn 1 (by decide) w1) ⟨by decide, rfl⟩ (cx_8o) rfl rfl (Nat.le_of_ble_eq_true rfl) (by first | decide | omega) (by decide) (by omega) (by omega) dX8_readNumbered_29 ?_
    refine hB bX8_readNumbered_32 _ _ _ _ _ _ _ kX8_readNumbered_32 ?_
    dsimp only [bX8_readNumbered_32, kx_wp, kx_step, kx_lI, kx_lL, kx_lA, kx_gl, kx_pI, kx_pL, kx_pR, kx_pA, kx_pV, kx_s1, kx_s2, kx_sl, kx_pre, kx_c2, kx_pl, kx_cmp, kx_oF, kx_eqN, kx_nil, kx_c1, kx_ft, kx_aI, kx_aL, kx_aR, kx_ln, Nat.reduceAdd, Option.toList, List.cons_append, List.nil_append, cf8_9, cf9_0, cf9_1, cf9_2, cf9_3, cf9_4, cf9_5, cf9_6, cf9_7]
    repeat (simp only [cx_8o, cx_8s, cx_83 hw, cx_84 hw, cx_dq0 hw, cx_dq1 hw, cx_dq2 hw, cx_dp0 hw, cx_dp1 hw, cx_dp2 hw, cx_8f3 hw, cx_8f4 hw, pk_us, pk_un, ne_eq, Nat.reduceEqDiff, not_false_eq_true, cp9_0, cp9_1, cp9_2, cp9_3, cp9_4, cp9_5, cp9_6, cp9_7, ks_eq, ks_ss]; try dsimp only [kx_wp, kx_step, kx_lI, kx_lL, kx_lA, kx_gl, kx_pI, kx_pL, kx_pR, kx_pA, kx_pV, kx_s1, kx_s2, kx_sl, kx_pre, kx_c2, kx_pl, kx_cmp, kx_oF, kx_eqN, kx_nil, kx_c1, kx_ft, kx_aI, kx_aL, kx_aR, kx_ln, Nat.reduceAdd, Option.toList, List.cons_append, List.nil_append, cf8_9, cf9_0, cf9_1, cf9_2, cf9_3, cf9_4, cf9_5, cf9_6, cf9_7])
    repeat' apply And.intro
    all_goals try (first | with_reducible assumption | (with_reducible refine ck_nzI ?_; simp; done) | (with_reducible refine ck_nzL ?_; simp; done) | (with_reducible refine vp_in_nI ?_ ?_ <;> first | omega | decide) | (with_reducible refine Nat.le_of_ble_eq_true ?_; rfl) | omega | exact Or.inl trivial | exact Or.inr trivial | exact Or.inl rfl | exact Or.inr rfl)
    · intro zc32
      have ze32 := zc32
      refine hB bX8_readNumbered_49 _ _ _ _ _ _ _ kX8_readNumbered_49 ?_
      dsimp only [bX8_readNumbered_49, kx_wp, kx_step, kx_lI, kx_lL, kx_lA, kx_gl, kx_pI, kx_pL, kx_pR, kx_pA, kx_pV, kx_s1, kx_s2, kx_sl, kx_pre, kx_c2, kx_pl, kx_cmp, kx_oF, kx_eqN, kx_nil, kx_c1, kx_ft, kx_aI, kx_aL, kx_aR, kx_ln, Nat.reduceAdd, Option.toList, List.cons_append, List.nil_append, cf8_9, cf9_0, cf9_1, cf9_2, cf9_3, cf9_4, cf9_5, cf9_6, cf9_7]
      repeat (simp only [cx_8o, cx_8s, cx_83 hw, cx_84 hw, cx_dq0 hw, cx_dq1 hw, cx_dq2 hw, cx_dp0 hw, cx_dp1 hw, cx_dp2 hw, cx_8f3 hw, cx_8f4 hw, pk_us, pk_un, ne_eq, Nat.reduceEqDiff, not_false_eq_true, cp9_0, cp9_1, cp9_2, cp9_3, cp9_4, cp9_5, cp9_6, cp9_7, ks_eq, ks_ss]; try dsimp only [kx_wp, kx_step, kx_lI, kx_lL, kx_lA, kx_gl, kx_pI, kx_pL, kx_pR, kx_pA, kx_pV, kx_s1, kx_s2, kx_sl, kx_pre, kx_c2, kx_pl, kx_cmp, kx_oF, kx_eqN, kx_nil, kx_c1, kx_ft, kx_aI, kx_aL, kx_aR, kx_ln, Nat.reduceAdd, Option.toList, List.cons_append, List.nil_append, cf8_9, cf9_0, cf9_1, cf9_2, cf9_3, cf9_4, cf9_5, cf9_6, cf9_7])
      repeat' apply And.intro
      all_goals try (first | with_reducible assumption | (with_reducible refine ck_nzI ?_; simp; done) | (with_reducible refine ck_nzL ?_; simp; done) | (with_reducible refine vp_in_nI ?_ ?_ <;> first | omega | decide) | (with_reducible refine Nat.le_of_ble_eq_true ?_; rfl) | omega | exact Or.inl trivial | exact Or.inr trivial | exact Or.inl rfl | exact Or.inr rfl)
      refine kz_lds hK rfl 2 dX8_readNumbered_50 (by decide) rfl ?_
      refine hC.1 96 _ _ _ _ _ _ _ 8 _ _ _ _ _ _ _ _ _ _ _ _ lX8_96 (cx_wi_t hT h6 h7 hb hn 2 (by decide) w2) ⟨by decide, rfl⟩ (cx_8o) rfl rfl (Nat.le_of_ble_eq_true rfl) (by first | decide | omega) (by decide) (by omega) (by omega) dX8_readNumbered_52 ?_
      refine hB bX8_readNumbered_55 _ _ _ _ _ _ _ kX8_readNumbered_55 ?_
      dsimp only [bX8_readNumbered_55, kx_wp, kx_step, kx_lI, kx_lL, kx_lA, kx_gl, kx_pI, kx_pL, kx_pR, kx_pA, kx_pV, kx_s1, kx_s2, kx_sl, kx_pre, kx_c2, kx_pl, kx_cmp, kx_oF, kx_eqN, kx_nil, kx_c1, kx_ft, kx_aI, kx_aL, kx_aR, kx_ln, Nat.reduceAdd, Option.toList, List.cons_append, List.nil_append, cf8_9, cf9_0, cf9_1, cf9_2, cf9_3, cf9_4, cf9_5, cf9_6, cf9_7]
      repeat (simp only [cx_8o, cx_8s, cx_83 hw, cx_84 hw, cx_dq0 hw, cx_dq1 hw, cx_dq2 hw, cx_dp0 hw, cx_dp1 hw, cx_dp2 hw, cx_8f3 hw, cx_8f4 hw, pk_us, pk_un, ne_eq, Nat.reduceEqDiff, not_false_eq_true, cp9_0, cp9_1, cp9_2, cp9_3, cp9_4, cp9_5, cp9_6, cp9_7, ks_eq, ks_ss]; try dsimp only [kx_wp, kx_step, kx_lI, kx_lL, kx_lA, kx_gl, kx_pI, kx_pL, kx_pR, kx_pA, kx_pV, kx_s1, kx_s2, kx_sl, kx_pre, kx_c2, kx_pl, kx_cmp, kx_oF, kx_eqN, kx_nil, kx_c1, kx_ft, kx_aI, kx_aL, kx_aR, kx_ln, Nat.reduceAdd, Option.toList, List.cons_append, List.nil_append, cf8_9, cf9_0, cf9_1, cf9_2, cf9_3, cf9_4, cf9_5, cf9_6, cf9_7])
      repeat' apply And.intro
      all_goals try (first | with_reducible assumption | (with_reducible refine ck_nzI ?_; simp; done) | (with_reducible refine ck_nzL ?_; simp; done) | (with_reducible refine vp_in_nI ?_ ?_ <;> first | omega | decide) | (with_reducible refine Nat.le_of_ble_eq_true ?_; rfl) | omega | exact Or.inl trivial | exact Or.inr trivial | exact Or.inl rfl | exact Or.inr rfl)
      · intro zc55
        first | exact absurd rfl zc55 | exact absurd zc55 (by decide) | exact absurd (by decide) zc55 | (exfalso; ((try clear hB hC); simp only [ck_lt, ck_le, ck_eq, not_true_eq_false, not_false_eq_true, Int32.reduceToInt, Int32.reduceAdd, Int32.reduceSub, Int32.reduceMul] at * <;> omega)) | (exfalso; simp_all; done)
      · intro zc55
        have ze55 := zc55
        refine hB bX8_readNumbered_58 _ _ _ _ _ _ _ kX8_readNumbered_58 ?_
        dsimp only [bX8_readNumbered_58, kx_wp, kx_step, kx_lI, kx_lL, kx_lA, kx_gl, kx_pI, kx_pL, kx_pR, kx_pA, kx_pV, kx_s1, kx_s2, kx_sl, kx_pre, kx_c2, kx_pl, kx_cmp, kx_oF, kx_eqN, kx_nil, kx_c1, kx_ft, kx_aI, kx_aL, kx_aR, kx_ln, Nat.reduceAdd, Option.toList, List.cons_append, List.nil_append, cf8_9, cf9_0, cf9_1, cf9_2, cf9_3, cf9_4, cf9_5, cf9_6, cf9_7]
        repeat (simp only [cx_8o, cx_8s, cx_83 hw, cx_84 hw, cx_dq0 hw, cx_dq1 hw, cx_dq2 hw, cx_dp0 hw, cx_dp1 hw, cx_dp2 hw, cx_8f3 hw, cx_8f4 hw, pk_us, pk_un, ne_eq, Nat.reduceEqDiff, not_false_eq_true, cp9_0, cp9_1, cp9_2, cp9_3, cp9_4, cp9_5, cp9_6, cp9_7, ks_eq, ks_ss]; try dsimp only [kx_wp, kx_step, kx_lI, kx_lL, kx_lA, kx_gl, kx_pI, kx_pL, kx_pR, kx_pA, kx_pV, kx_s1, kx_s2, kx_sl, kx_pre, kx_c2, kx_pl, kx_cmp, kx_oF, kx_eqN, kx_nil, kx_c1, kx_ft, kx_aI, kx_aL, kx_aR, kx_ln, Nat.reduceAdd, Option.toList, List.cons_append, List.nil_append, cf8_9, cf9_0, cf9_1, cf9_2, cf9_3, cf9_4, cf9_5, cf9_6, cf9_7])
        repeat' apply And.intro
        all_goals try (first | with_reducible assumption | (with_reducible refine ck_nzI ?_; simp; done) | (with_reducible refine ck_nzL ?_; simp; done) | (with_reducible refine vp_in_nI ?_ ?_ <;> first | omega | decide) | (with_reducible refine Nat.le_of_ble_eq_true ?_; rfl) | omega | exact Or.inl trivial | exact Or.inr trivial | exact Or.inl rfl | exact Or.inr rfl)
        refine hC.1 142 _ _ _ _ _ _ _ 8 _ _ _ _ _ _ _ _ _ _ _ _ lX8_142 (hM) ⟨by decide, rfl⟩ (cx_8o) rfl rfl (Nat.le_of_ble_eq_true rfl) (by first | decide | omega) (by decide) (by omega) (by omega) dX8_readNumbered_63 ?_
        refine hB bX8_readNumbered_66 _ _ _ _ _ _ _ kX8_readNumbered_66 ?_
        dsimp only [bX8_readNumbered_66, kx_wp, kx_step, kx_lI, kx_lL, kx_lA, kx_gl, kx_pI, kx_pL, kx_pR, kx_pA, kx_pV, kx_s1, kx_s2, kx_sl, kx_pre, kx_c2, kx_pl, kx_cmp, kx_oF, kx_eqN, kx_nil, kx_c1, kx_ft, kx_aI, kx_aL, kx_aR, kx_ln, Nat.reduceAdd, Option.toList, List.cons_append, List.nil_append, cf8_9, cf9_0, cf9_1, cf9_2, cf9_3, cf9_4, cf9_5, cf9_6, cf9_7]
        repeat (simp only [cx_8o, cx_8s, cx_83 hw, cx_84 hw, cx_dq0 hw, cx_dq1 hw, cx_dq2 hw, cx_dp0 hw, cx_dp1 hw, cx_dp2 hw, cx_8f3 hw, cx_8f4 hw, pk_us, pk_un, ne_eq, Nat.reduceEqDiff, not_false_eq_true, cp9_0, cp9_1, cp9_2, cp9_3, cp9_4, cp9_5, cp9_6, cp9_7, ks_eq, ks_ss]; try dsimp only [kx_wp, kx_step, kx_lI, kx_lL, kx_lA, kx_gl, kx_pI, kx_pL, kx_pR, kx_pA, kx_pV, kx_s1, kx_s2, kx_sl, kx_pre, kx_c2, kx_pl, kx_cmp, kx_oF, kx_eqN, kx_nil, kx_c1, kx_ft, kx_aI, kx_aL, kx_aR, kx_ln, Nat.reduceAdd, Option.toList, List.cons_append, List.nil_append, cf8_9, cf9_0, cf9_1, cf9_2, cf9_3, cf9_4, cf9_5, cf9_6, cf9_7])
        repeat' apply And.intro
        all_goals try (first | with_reducible assumption | (with_reducible refine ck_nzI ?_; simp; done) | (with_reducible refine ck_nzL ?_; simp; done) | (with_reducible refine vp_in_nI ?_ ?_ <;> first | omega | decide) | (with_reducible refine Nat.le_of_ble_eq_true ?_; rfl) | omega | exact Or.inl trivial | exact Or.inr trivial | exact Or.inl rfl | exact Or.inr rfl)
        refine hB bX8_readNumbered_194 _ _ _ _ _ _ _ kX8_readNumbered_194 ?_
        dsimp only [bX8_readNumbered_194, kx_wp, kx_step, kx_lI, kx_lL, kx_lA, kx_gl, kx_pI, kx_pL, kx_pR, kx_pA, kx_pV, kx_s1, kx_s2, kx_sl, kx_pre, kx_c2, kx_pl, kx_cmp, kx_oF, kx_eqN, kx_nil, kx_c1, kx_ft, kx_aI, kx_aL, kx_aR, kx_ln, Nat.reduceAdd, Option.toList, List.cons_append, List.nil_append, cf8_9, cf9_0, cf9_1, cf9_2, cf9_3, cf9_4, cf9_5, cf9_6, cf9_7]
        repeat (simp only [cx_8o, cx_8s, cx_83 hw, cx_84 hw, cx_dq0 hw, cx_dq1 hw, cx_dq2 hw, cx_dp0 hw, cx_dp1 hw, cx_dp2 hw, cx_8f3 hw, cx_8f4 hw, pk_us, pk_un, ne_eq, Nat.reduceEqDiff, not_false_eq_true, cp9_0, cp9_1, cp9_2, cp9_3, cp9_4, cp9_5, cp9_6, cp9_7, ks_eq, ks_ss]; try dsimp only [kx_wp, kx_step, kx_lI, kx_lL, kx_lA, kx_gl, kx_pI, kx_pL, kx_pR, kx_pA, kx_pV, kx_s1, kx_s2, kx_sl, kx_pre, kx_c2, kx_pl, kx_cmp, kx_oF, kx_eqN, kx_nil, kx_c1, kx_ft, kx_aI, kx_aL, kx_aR, kx_ln, Nat.reduceAdd, Option.toList, List.cons_append, List.nil_append, cf8_9, cf9_0, cf9_1, cf9_2, cf9_3, cf9_4, cf9_5, cf9_6, cf9_7])
        all_goals (repeat' apply And.intro)
        all_goals ((try clear hB hC); first | exact True.intro | rfl)
    · intro zc32
      first | exact absurd rfl zc32 | exact absurd zc32 (by decide) | exact absurd (by decide) zc32 | (exfalso; ((try clear hB hC); simp only [ck_lt, ck_le, ck_eq, not_true_eq_false, not_false_eq_true, Int32.reduceToInt, Int32.reduceAdd, Int32.reduceSub, Int32.reduceMul] at * <;> omega)) | (exfalso; simp_all; done)
  · intro zc6
    first | exact absurd rfl zc6 | exact absurd zc6 (by decide) | exact absurd (by decide) zc6 | (exfalso; ((try clear hB hC); simp only [ck_lt, ck_le, ck_eq, not_true_eq_false, not_false_eq_true, Int32.reduceToInt, Int32.reduceAdd, Int32.reduceSub, Int32.reduceMul] at * <;> omega)) | (exfalso; simp_all; done)

set_option maxRecDepth 100000 in
set_option maxHeartbeats 4000000 in
theorem cn_3 (l : Launch) (G : kx_G) {P : kx_P} {sz : Nat} {Q : kx_P} {w : Nat} (hw : 144 ≤ w) {F F2 V te qu Fo st T : Nat → Int32} (hT : cx_fW (cx_vW Q w V te qu) w Fo st 67 = kI 0 400 T) {n b : Nat} (h6 : F 6 = nI b) (h7 : F 7 = nI (ck_ps T n b)) (hb : b ≤ n) (hn : n ≤ 400) {v : Int32} (w0 : ¬ ck_wo_ T n b = kz_co 0) (w1 : ¬ ck_wo_ T n b = kz_co 1) (w2 : ¬ ck_wo_ T n b = kz_co 2) (w3 : ck_wo_ T n b = kz_co 3) (hM : kx_M l G sX8_takeNumber 2 0 0 [.ref 68, .int 0, .int 500] (cx_8 (cx_fW (cx_vW Q w (V) (te) (qu)) w (Fo) (st)) (.ref w) (F)) sz (some (.int v)) (cx_8 (cx_fW (cx_vW Q w (V) (te) (qu)) w (Fo) (st)) (.ref w) (F2)) sz)  : kx_M l G sX8_readNumbered 6 0 0 [.ref 68] (cx_8 (cx_fW (cx_vW Q w (V) (te) (qu)) w (Fo) (st)) (.ref w) (F)) sz none (cx_8 (cx_fW (cx_vW Q w (upd V 3 v) (te) (qu)) w (Fo) (st)) (.ref w) (F2)) sz := by
  refine kz_m2d kx_tab kxLok_X8 (ini := false) [some (.ref 68)] ⟨by decide +kernel, rfl, by decide, by decide⟩ (Or.inl rfl) rfl rfl (fun g hB hC hK => ?_)
  refine hB bX8_readNumbered_0 _ _ _ _ _ _ _ kX8_readNumbered_0 ?_
  dsimp only [bX8_readNumbered_0, kx_wp, kx_step, kx_lI, kx_lL, kx_lA, kx_gl, kx_pI, kx_pL, kx_pR, kx_pA, kx_pV, kx_s1, kx_s2, kx_sl, kx_pre, kx_c2, kx_pl, kx_cmp, kx_oF, kx_eqN, kx_nil, kx_c1, kx_ft, kx_aI, kx_aL, kx_aR, kx_ln, Nat.reduceAdd, Option.toList, List.cons_append, List.nil_append, cf8_9, cf9_0, cf9_1, cf9_2, cf9_3, cf9_4, cf9_5, cf9_6, cf9_7]
  repeat (simp only [cx_8o, cx_8s, cx_83 hw, cx_84 hw, cx_dq0 hw, cx_dq1 hw, cx_dq2 hw, cx_dp0 hw, cx_dp1 hw, cx_dp2 hw, cx_8f3 hw, cx_8f4 hw, pk_us, pk_un, ne_eq, Nat.reduceEqDiff, not_false_eq_true, cp9_0, cp9_1, cp9_2, cp9_3, cp9_4, cp9_5, cp9_6, cp9_7, ks_eq, ks_ss]; try dsimp only [kx_wp, kx_step, kx_lI, kx_lL, kx_lA, kx_gl, kx_pI, kx_pL, kx_pR, kx_pA, kx_pV, kx_s1, kx_s2, kx_sl, kx_pre, kx_c2, kx_pl, kx_cmp, kx_oF, kx_eqN, kx_nil, kx_c1, kx_ft, kx_aI, kx_aL, kx_aR, kx_ln, Nat.reduceAdd, Option.toList, List.cons_append, List.nil_append, cf8_9, cf9_0, cf9_1, cf9_2, cf9_3, cf9_4, cf9_5, cf9_6, cf9_7])
  repeat' apply And.intro
  all_goals try (first | with_reducible assumption | (with_reducible refine ck_nzI ?_; simp; done) | (with_reducible refine ck_nzL ?_; simp; done) | (with_reducible refine vp_in_nI ?_ ?_ <;> first | omega | decide) | (with_reducible refine Nat.le_of_ble_eq_true ?_; rfl) | omega | exact Or.inl trivial | exact Or.inr trivial | exact Or.inl rfl | exact Or.inr rfl)
  refine kz_lds hK rfl 0 dX8_readNumbered_1 (by decide) rfl ?_
  refine hC.1 96 _ _ _ _ _ _ _ 8 _ _ _ _ _ _ _ _ _ _ _ _ lX8_96 (cx_wi_f hT h6 h7 hb hn 0 (by decide) w0) ⟨by decide, rfl⟩ (cx_8o) rfl rfl (Nat.le_of_ble_eq_true rfl) (by first | decide | omega) (by decide) (by omega) (by omega) dX8_readNumbered_3 ?_
  refine hB bX8_readNumbered_6 _ _ _ _ _ _ _ kX8_readNumbered_6 ?_
  dsimp only [bX8_readNumbered_6, kx_wp, kx_step, kx_lI, kx_lL, kx_lA, kx_gl, kx_pI, kx_pL, kx_pR, kx_pA, kx_pV, kx_s1, kx_s2, kx_sl, kx_pre, kx_c2, kx_pl, kx_cmp, kx_oF, kx_eqN, kx_nil, kx_c1, kx_ft, kx_aI, kx_aL, kx_aR, kx_ln, Nat.reduceAdd, Option.toList, List.cons_append, List.nil_append, cf8_9, cf9_0, cf9_1, cf9_2, cf9_3, cf9_4, cf9_5, cf9_6, cf9_7]
  repeat (simp only [cx_8o, cx_8s, cx_83 hw, cx_84 hw, cx_dq0 hw, cx_dq1 hw, cx_dq2 hw, cx_dp0 hw, cx_dp1 hw, cx_dp2 hw, cx_8f3 hw, cx_8f4 hw, pk_us, pk_un, ne_eq, Nat.reduceEqDiff, not_false_eq_true, cp9_0, cp9_1, cp9_2, cp9_3, cp9_4, cp9_5, cp9_6, cp9_7, ks_eq, ks_ss]; try dsimp only [kx_wp, kx_step, kx_lI, kx_lL, kx_lA, kx_gl, kx_pI, kx_pL, kx_pR, kx_pA, kx_pV, kx_s1, kx_s2, kx_sl, kx_pre, kx_c2, kx_pl, kx_cmp, kx_oF, kx_eqN, kx_nil, kx_c1, kx_ft, kx_aI, kx_aL, kx_aR, kx_ln, Nat.reduceAdd, Option.toList, List.cons_append, List.nil_append, cf8_9, cf9_0, cf9_1, cf9_2, cf9_3, cf9_4, cf9_5, cf9_6, cf9_7])
  repeat' apply And.intro
  all_goals try (first | with_reducible assumption | (with_reducible refine ck_nzI ?_; simp; done) | (with_reducible refine ck_nzL ?_; simp; done) | (with_reducible refine vp_in_nI ?_ ?_ <;> first | omega | decide) | (with_reducible refine Nat.le_of_ble_eq_true ?_; rfl) | omega | exact Or.inl trivial | exact Or.inr trivial | exact Or.inl rfl | exact Or.inr rfl)
  · intro zc6
    have ze6 := zc6
    refine hB bX8_readNumbered_26 _ _ _ _ _ _ _ kX8_readNumbered_26 ?_
    dsimp only [bX8_readNumbered_26, kx_wp, kx_step, kx_lI, kx_lL, kx_lA, kx_gl, kx_pI, kx_pL, kx_pR, kx_pA, kx_pV, kx_s1, kx_s2, kx_sl, kx_pre, kx_c2, kx_pl, kx_cmp, kx_oF, kx_eqN, kx_nil, kx_c1, kx_ft, kx_aI, kx_aL, kx_aR, kx_ln, Nat.reduceAdd, Option.toList, List.cons_append, List.nil_append, cf8_9, cf9_0, cf9_1, cf9_2, cf9_3, cf9_4, cf9_5, cf9_6, cf9_7]
    repeat (simp only [cx_8o, cx_8s, cx_83 hw, cx_84 hw, cx_dq0 hw, cx_dq1 hw, cx_dq2 hw, cx_dp0 hw, cx_dp1 hw, cx_dp2 hw, cx_8f3 hw, cx_8f4 hw, pk_us, pk_un, ne_eq, Nat.reduceEqDiff, not_false_eq_true, cp9_0, cp9_1, cp9_2, cp9_3, cp9_4, cp9_5, cp9_6, cp9_7, ks_eq, ks_ss]; try dsimp only [kx_wp, kx_step, kx_lI, kx_lL, kx_lA, kx_gl, kx_pI, kx_pL, kx_pR, kx_pA, kx_pV, kx_s1, kx_s2, kx_sl, kx_pre, kx_c2, kx_pl, kx_cmp, kx_oF, kx_eqN, kx_nil, kx_c1, kx_ft, kx_aI, kx_aL, kx_aR, kx_ln, Nat.reduceAdd, Option.toList, List.cons_append, List.nil_append, cf8_9, cf9_0, cf9_1, cf9_2, cf9_3, cf9_4, cf9_5, cf9_6, cf9_7])
    repeat' apply And.intro
    all_goals try (first | with_reducible assumption | (with_reducible refine ck_nzI ?_; simp; done) | (with_reducible refine ck_nzL ?_; simp; done) | (with_reducible refine vp_in_nI ?_ ?_ <;> first | omega | decide) | (with_reducible refine Nat.le_of_ble_eq_true ?_; rfl) | omega | exact Or.inl trivial | exact Or.inr trivial | exact Or.inl rfl | exact Or.inr rfl)
    refine kz_lds hK rfl 1 dX8_readNumbered_27 (by decide) rfl ?_
    refine hC.1 96 _ _ _ _ _ _ _ 8 _ _ _ _ _ _ _ _ _ _ _ _ lX8_96 (cx_wi_f hT h6 h7 hb hn 1 (by decide) w1) ⟨by decide, rfl⟩ (cx_8o) rfl rfl (Nat.le_of_ble_eq_true rfl) (by first | decide | omega) (by decide) (by omega) (by omega) dX8_readNumbered_29 ?_
    refine hB bX8_readNumbered_32 _ _ _ _ _ _ _ kX8_readNumbered_32 ?_
    dsimp only [bX8_readNumbered_32, kx_wp, kx_step, kx_lI, kx_lL, kx_lA, kx_gl, kx_pI, kx_pL, kx_pR, kx_pA, kx_pV, kx_s1, kx_s2, kx_sl, kx_pre, kx_c2, kx_pl, kx_cmp, kx_oF, kx_eqN, kx_nil, kx_c1, kx_ft, kx_aI, kx_aL, kx_aR, kx_ln, Nat.reduceAdd, Option.toList, List.cons_append, List.nil_append, cf8_9, cf9_0, cf9_1, cf9_2, cf9_3, cf9_4, cf9_5, cf9_6, cf9_7]
    repeat (simp only [cx_8o, cx_8s, cx_83 hw, cx_84 hw, cx_dq0 hw, cx_dq1 hw, cx_dq2 hw, cx_dp0 hw, cx_dp1 hw, cx_dp2 hw, cx_8f3 hw, cx_8f4 hw, pk_us, pk_un, ne_eq, Nat.reduceEqDiff, not_false_eq_true, cp9_0, cp9_1, cp9_2, cp9_3, cp9_4, cp9_5, cp9_6, cp9_7, ks_eq, ks_ss]; try dsimp only [kx_wp, kx_step, kx_lI, kx_lL, kx_lA, kx_gl, kx_pI, kx_pL, kx_pR, kx_pA, kx_pV, kx_s1, kx_s2, kx_sl, kx_pre, kx_c2, kx_pl, kx_cmp, kx_oF, kx_eqN, kx_nil, kx_c1, kx_ft, kx_aI, kx_aL, kx_aR, kx_ln, Nat.reduceAdd, Option.toList, List.cons_append, List.nil_append, cf8_9, cf9_0, cf9_1, cf9_2, cf9_3, cf9_4, cf9_5, cf9_6, cf9_7])
    repeat' apply And.intro
    all_goals try (first | with_reducible assumption | (with_reducible refine ck_nzI ?_; simp; done) | (with_reducible refine ck_nzL ?_; simp; done) | (with_reducible refine vp_in_nI ?_ ?_ <;> first | omega | decide) | (with_reducible refine Nat.le_of_ble_eq_true ?_; rfl) | omega | exact Or.inl trivial | exact Or.inr trivial | exact Or.inl rfl | exact Or.inr rfl)
    · intro zc32
      have ze32 := zc32
      refine hB bX8_readNumbered_49 _ _ _ _ _ _ _ kX8_readNumbered_49 ?_
      dsimp only [bX8_readNumbered_49, kx_wp, kx_step, kx_lI, kx_lL, kx_lA, kx_gl, kx_pI, kx_pL, kx_pR, kx_pA, kx_pV, kx_s1, kx_s2, kx_sl, kx_pre, kx_c2, kx_pl, kx_cmp, kx_oF, kx_eqN, kx_nil, kx_c1, kx_ft, kx_aI, kx_aL, kx_aR, kx_ln, Nat.reduceAdd, Option.toList, List.cons_append, List.nil_append, cf8_9, cf9_0, cf9_1, cf9_2, cf9_3, cf9_4, cf9_5, cf9_6, cf9_7]
      repeat (simp only [cx_8o, cx_8s, cx_83 hw, cx_84 hw, cx_dq0 hw, cx_dq1 hw, cx_dq2 hw, cx_dp0 hw, cx_dp1 hw, cx_dp2 hw, cx_8f3 hw, cx_8f4 hw, pk_us, pk_un, ne_eq, Nat.reduceEqDiff, not_false_eq_true, cp9_0, cp9_1, cp9_2, cp9_3, cp9_4, cp9_5, cp9_6, cp9_7, ks_eq, ks_ss]; try dsimp only [kx_wp, kx_step, kx_lI, kx_lL, kx_lA, kx_gl, kx_pI, kx_pL, kx_pR, kx_pA, kx_pV, kx_s1, kx_s2, kx_sl, kx_pre, kx_c2, kx_pl, kx_cmp, kx_oF, kx_eqN, kx_nil, kx_c1, kx_ft, kx_aI, kx_aL, kx_aR, kx_ln, Nat.reduceAdd, Option.toList, List.cons_append, List.nil_append, cf8_9, cf9_0, cf9_1, cf9_2, cf9_3, cf9_4, cf9_5, cf9_6, cf9_7])
      repeat' apply And.intro
      all_goals try (first | with_reducible assumption | (with_reducible refine ck_nzI ?_; simp; done) | (with_reducible refine ck_nzL ?_; simp; done) | (with_reducible refine vp_in_nI ?_ ?_ <;> first | omega | decide) | (with_reducible refine Nat.le_of_ble_eq_true ?_; rfl) | omega | exact Or.inl trivial | exact Or.inr trivial | exact Or.inl rfl | exact Or.inr rfl)
      refine kz_lds hK rfl 2 dX8_readNumbered_50 (by decide) rfl ?_
      refine hC.1 96 _ _ _ _ _ _ _ 8 _ _ _ _ _ _ _ _ _ _ _ _ lX8_96 (cx_wi_f hT h6 h7 hb hn 2 (by decide) w2) ⟨by decide, rfl⟩ (cx_8o) rfl rfl (Nat.le_of_ble_eq_true rfl) (by first | decide | omega) (by decide) (by omega) (by omega) dX8_readNumbered_52 ?_
      refine hB bX8_readNumbered_55 _ _ _ _ _ _ _ kX8_readNumbered_55 ?_
      dsimp only [bX8_readNumbered_55, kx_wp, kx_step, kx_lI, kx_lL, kx_lA, kx_gl, kx_pI, kx_pL, kx_pR, kx_pA, kx_pV, kx_s1, kx_s2, kx_sl, kx_pre, kx_c2, kx_pl, kx_cmp, kx_oF, kx_eqN, kx_nil, kx_c1, kx_ft, kx_aI, kx_aL, kx_aR, kx_ln, Nat.reduceAdd, Option.toList, List.cons_append, List.nil_append, cf8_9, cf9_0, cf9_1, cf9_2, cf9_3, cf9_4, cf9_5, cf9_6, cf9_7]
      repeat (simp only [cx_8o, cx_8s, cx_83 hw, cx_84 hw, cx_dq0 hw, cx_dq1 hw, cx_dq2 hw, cx_dp0 hw, cx_dp1 hw, cx_dp2 hw, cx_8f3 hw, cx_8f4 hw, pk_us, pk_un, ne_eq, Nat.reduceEqDiff, not_false_eq_true, cp9_0, cp9_1, cp9_2, cp9_3, cp9_4, cp9_5, cp9_6, cp9_7, ks_eq, ks_ss]; try dsimp only [kx_wp, kx_step, kx_lI, kx_lL, kx_lA, kx_gl, kx_pI, kx_pL, kx_pR, kx_pA, kx_pV, kx_s1, kx_s2, kx_sl, kx_pre, kx_c2, kx_pl, kx_cmp, kx_oF, kx_eqN, kx_nil, kx_c1, kx_ft, kx_aI, kx_aL, kx_aR, kx_ln, Nat.reduceAdd, Option.toList, List.cons_append, List.nil_append, cf8_9, cf9_0, cf9_1, cf9_2, cf9_3, cf9_4, cf9_5, cf9_6, cf9_7])
      repeat' apply And.intro
      all_goals try (first | with_reducible assumption | (with_reducible refine ck_nzI ?_; simp; done) | (with_reducible refine ck_nzL ?_; simp; done) | (with_reducible refine vp_in_nI ?_ ?_ <;> first | omega | decide) | (with_reducible refine Nat.le_of_ble_eq_true ?_; rfl) | omega | exact Or.inl trivial | exact Or.inr trivial | exact Or.inl rfl | exact Or.inr rfl)
      · intro zc55
        have ze55 := zc55
        refine hB bX8_readNumbered_72 _ _ _ _ _ _ _ kX8_readNumbered_72 ?_
        dsimp only [bX8_readNumbered_72, kx_wp, kx_step, kx_lI, kx_lL, kx_lA, kx_gl, kx_pI, kx_pL, kx_pR, kx_pA, kx_pV, kx_s1, kx_s2, kx_sl, kx_pre, kx_c2, kx_pl, kx_cmp, kx_oF, kx_eqN, kx_nil, kx_c1, kx_ft, kx_aI, kx_aL, kx_aR, kx_ln, Nat.reduceAdd, Option.toList, List.cons_append, List.nil_append, cf8_9, cf9_0, cf9_1, cf9_2, cf9_3, cf9_4, cf9_5, cf9_6, cf9_7]
        repeat (simp only [cx_8o, cx_8s, cx_83 hw, cx_84 hw, cx_dq0 hw, cx_dq1 hw, cx_dq2 hw, cx_dp0 hw, cx_dp1 hw, cx_dp2 hw, cx_8f3 hw, cx_8f4 hw, pk_us, pk_un, ne_eq, Nat.reduceEqDiff, not_false_eq_true, cp9_0, cp9_1, cp9_2, cp9_3, cp9_4, cp9_5, cp9_6, cp9_7, ks_eq, ks_ss]; try dsimp only [kx_wp, kx_step, kx_lI, kx_lL, kx_lA, kx_gl, kx_pI, kx_pL, kx_pR, kx_pA, kx_pV, kx_s1, kx_s2, kx_sl, kx_pre, kx_c2, kx_pl, kx_cmp, kx_oF, kx_eqN, kx_nil, kx_c1, kx_ft, kx_aI, kx_aL, kx_aR, kx_ln, Nat.reduceAdd, Option.toList, List.cons_append, List.nil_append, cf8_9, cf9_0, cf9_1, cf9_2, cf9_3, cf9_4, cf9_5, cf9_6, cf9_7])
        repeat' apply And.intro
        all_goals try (first | with_reducible assumption | (with_reducible refine ck_nzI ?_; simp; done) | (with_reducible refine ck_nzL ?_; simp; done) | (with_reducible refine vp_in_nI ?_ ?_ <;> first | omega | decide) | (with_reducible refine Nat.le_of_ble_eq_true ?_; rfl) | omega | exact Or.inl trivial | exact Or.inr trivial | exact Or.inl rfl | exact Or.inr rfl)
        refine kz_lds hK rfl 3 dX8_readNumbered_73 (by decide) rfl ?_
        refine hC.1 96 _ _ _ _ _ _ _ 8 _ _ _ _ _ _ _ _ _ _ _ _ lX8_96 (cx_wi_t hT h6 h7 hb hn 3 (by decide) w3) ⟨by decide, rfl⟩ (cx_8o) rfl rfl (Nat.le_of_ble_eq_true rfl) (by first | decide | omega) (by decide) (by omega) (by omega) dX8_readNumbered_75 ?_
        refine hB bX8_readNumbered_78 _ _ _ _ _ _ _ kX8_readNumbered_78 ?_
        dsimp only [bX8_readNumbered_78, kx_wp, kx_step, kx_lI, kx_lL, kx_lA, kx_gl, kx_pI, kx_pL, kx_pR, kx_pA, kx_pV, kx_s1, kx_s2, kx_sl, kx_pre, kx_c2, kx_pl, kx_cmp, kx_oF, kx_eqN, kx_nil, kx_c1, kx_ft, kx_aI, kx_aL, kx_aR, kx_ln, Nat.reduceAdd, Option.toList, List.cons_append, List.nil_append, cf8_9, cf9_0, cf9_1, cf9_2, cf9_3, cf9_4, cf9_5, cf9_6, cf9_7]
        repeat (simp only [cx_8o, cx_8s, cx_83 hw, cx_84 hw, cx_dq0 hw, cx_dq1 hw, cx_dq2 hw, cx_dp0 hw, cx_dp1 hw, cx_dp2 hw, cx_8f3 hw, cx_8f4 hw, pk_us, pk_un, ne_eq, Nat.reduceEqDiff, not_false_eq_true, cp9_0, cp9_1, cp9_2, cp9_3, cp9_4, cp9_5, cp9_6, cp9_7, ks_eq, ks_ss]; try dsimp only [kx_wp, kx_step, kx_lI, kx_lL, kx_lA, kx_gl, kx_pI, kx_pL, kx_pR, kx_pA, kx_pV, kx_s1, kx_s2, kx_sl, kx_pre, kx_c2, kx_pl, kx_cmp, kx_oF, kx_eqN, kx_nil, kx_c1, kx_ft, kx_aI, kx_aL, kx_aR, kx_ln, Nat.reduceAdd, Option.toList, List.cons_append, List.nil_append, cf8_9, cf9_0, cf9_1, cf9_2, cf9_3, cf9_4, cf9_5, cf9_6, cf9_7])
        repeat' apply And.intro
        all_goals try (first | with_reducible assumption | (with_reducible refine ck_nzI ?_; simp; done) | (with_reducible refine ck_nzL ?_; simp; done) | (with_reducible refine vp_in_nI ?_ ?_ <;> first | omega | decide) | (with_reducible refine Nat.le_of_ble_eq_true ?_; rfl) | omega | exact Or.inl trivial | exact Or.inr trivial | exact Or.inl rfl | exact Or.inr rfl)
        · intro zc78
          first | exact absurd rfl zc78 | exact absurd zc78 (by decide) | exact absurd (by decide) zc78 | (exfalso; ((try clear hB hC); simp only [ck_lt, ck_le, ck_eq, not_true_eq_false, not_false_eq_true, Int32.reduceToInt, Int32.reduceAdd, Int32.reduceSub, Int32.reduceMul] at * <;> omega)) | (exfalso; simp_all; done)
        · intro zc78
          have ze78 := zc78
          refine hB bX8_readNumbered_81 _ _ _ _ _ _ _ kX8_readNumbered_81 ?_
          dsimp only [bX8_readNumbered_81, kx_wp, kx_step, kx_lI, kx_lL, kx_lA, kx_gl, kx_pI, kx_pL, kx_pR, kx_pA, kx_pV, kx_s1, kx_s2, kx_sl, kx_pre, kx_c2, kx_pl, kx_cmp, kx_oF, kx_eqN, kx_nil, kx_c1, kx_ft, kx_aI, kx_aL, kx_aR, kx_ln, Nat.reduceAdd, Option.toList, List.cons_append, List.nil_append, cf8_9, cf9_0, cf9_1, cf9_2, cf9_3, cf9_4, cf9_5, cf9_6, cf9_7]
          repeat (simp only [cx_8o, cx_8s, cx_83 hw, cx_84 hw, cx_dq0 hw, cx_dq1 hw, cx_dq2 hw, cx_dp0 hw, cx_dp1 hw, cx_dp2 hw, cx_8f3 hw, cx_8f4 hw, pk_us, pk_un, ne_eq, Nat.reduceEqDiff, not_false_eq_true, cp9_0, cp9_1, cp9_2, cp9_3, cp9_4, cp9_5, cp9_6, cp9_7, ks_eq, ks_ss]; try dsimp only [kx_wp, kx_step, kx_lI, kx_lL, kx_lA, kx_gl, kx_pI, kx_pL, kx_pR, kx_pA, kx_pV, kx_s1, kx_s2, kx_sl, kx_pre, kx_c2, kx_pl, kx_cmp, kx_oF, kx_eqN, kx_nil, kx_c1, kx_ft, kx_aI, kx_aL, kx_aR, kx_ln, Nat.reduceAdd, Option.toList, List.cons_append, List.nil_append, cf8_9, cf9_0, cf9_1, cf9_2, cf9_3, cf9_4, cf9_5, cf9_6, cf9_7])
          repeat' apply And.intro
          all_goals try (first | with_reducible assumption | (with_reducible refine ck_nzI ?_; simp; done) | (with_reducible refine ck_nzL ?_; simp; done) | (with_reducible refine vp_in_nI ?_ ?_ <;> first | omega | decide) | (with_reducible refine Nat.le_of_ble_eq_true ?_; rfl) | omega | exact Or.inl trivial | exact Or.inr trivial | exact Or.inl rfl | exact Or.inr rfl)
          refine hC.1 85 _ _ _ _ _ _ _ 8 _ _ _ _ _ _ _ _ _ _ _ _ lX8_85 (hM) ⟨by decide, rfl⟩ (cx_8o) rfl rfl (Nat.le_of_ble_eq_true rfl) (by first | decide | omega) (by decide) (by omega) (by omega) dX8_readNumbered_90 ?_
          refine hB bX8_readNumbered_93 _ _ _ _ _ _ _ kX8_readNumbered_93 ?_
          dsimp only [bX8_readNumbered_93, kx_wp, kx_step, kx_lI, kx_lL, kx_lA, kx_gl, kx_pI, kx_pL, kx_pR, kx_pA, kx_pV, kx_s1, kx_s2, kx_sl, kx_pre, kx_c2, kx_pl, kx_cmp, kx_oF, kx_eqN, kx_nil, kx_c1, kx_ft, kx_aI, kx_aL, kx_aR, kx_ln, Nat.reduceAdd, Option.toList, List.cons_append, List.nil_append, cf8_9, cf9_0, cf9_1, cf9_2, cf9_3, cf9_4, cf9_5, cf9_6, cf9_7]
          repeat (simp only [cx_8o, cx_8s, cx_83 hw, cx_84 hw, cx_dq0 hw, cx_dq1 hw, cx_dq2 hw, cx_dp0 hw, cx_dp1 hw, cx_dp2 hw, cx_8f3 hw, cx_8f4 hw, pk_us, pk_un, ne_eq, Nat.reduceEqDiff, not_false_eq_true, cp9_0, cp9_1, cp9_2, cp9_3, cp9_4, cp9_5, cp9_6, cp9_7, ks_eq, ks_ss]; try dsimp only [kx_wp, kx_step, kx_lI, kx_lL, kx_lA, kx_gl, kx_pI, kx_pL, kx_pR, kx_pA, kx_pV, kx_s1, kx_s2, kx_sl, kx_pre, kx_c2, kx_pl, kx_cmp, kx_oF, kx_eqN, kx_nil, kx_c1, kx_ft, kx_aI, kx_aL, kx_aR, kx_ln, Nat.reduceAdd, Option.toList, List.cons_append, List.nil_append, cf8_9, cf9_0, cf9_1, cf9_2, cf9_3, cf9_4, cf9_5, cf9_6, cf9_7])
          repeat' apply And.intro
          all_goals try (first | with_reducible assumption | (with_reducible refine ck_nzI ?_; simp; done) | (with_reducible refine ck_nzL ?_; simp; done) | (with_reducible refine vp_in_nI ?_ ?_ <;> first | omega | decide) | (with_reducible refine Nat.le_of_ble_eq_true ?_; rfl) | omega | exact Or.inl trivial | exact Or.inr trivial | exact Or.inl rfl | exact Or.inr rfl)
          refine hB bX8_readNumbered_194 _ _ _ _ _ _ _ kX8_readNumbered_194 ?_
          dsimp only [bX8_readNumbered_194, kx_wp, kx_step, kx_lI, kx_lL, kx_lA, kx_gl, kx_pI, kx_pL, kx_pR, kx_pA, kx_pV, kx_s1, kx_s2, kx_sl, kx_pre, kx_c2, kx_pl, kx_cmp, kx_oF, kx_eqN, kx_nil, kx_c1, kx_ft, kx_aI, kx_aL, kx_aR, kx_ln, Nat.reduceAdd, Option.toList, List.cons_append, List.nil_append, cf8_9, cf9_0, cf9_1, cf9_2, cf9_3, cf9_4, cf9_5, cf9_6, cf9_7]
          repeat (simp only [cx_8o, cx_8s, cx_83 hw, cx_84 hw, cx_dq0 hw, cx_dq1 hw, cx_dq2 hw, cx_dp0 hw, cx_dp1 hw, cx_dp2 hw, cx_8f3 hw, cx_8f4 hw, pk_us, pk_un, ne_eq, Nat.reduceEqDiff, not_false_eq_true, cp9_0, cp9_1, cp9_2, cp9_3, cp9_4, cp9_5, cp9_6, cp9_7, ks_eq, ks_ss]; try dsimp only [kx_wp, kx_step, kx_lI, kx_lL, kx_lA, kx_gl, kx_pI, kx_pL, kx_pR, kx_pA, kx_pV, kx_s1, kx_s2, kx_sl, kx_pre, kx_c2, kx_pl, kx_cmp, kx_oF, kx_eqN, kx_nil, kx_c1, kx_ft, kx_aI, kx_aL, kx_aR, kx_ln, Nat.reduceAdd, Option.toList, List.cons_append, List.nil_append, cf8_9, cf9_0, cf9_1, cf9_2, cf9_3, cf9_4, cf9_5, cf9_6, cf9_7])
          all_goals (repeat' apply And.intro)
          all_goals ((try clear hB hC); first | exact True.intro | rfl)
      · intro zc55
        first | exact absurd rfl zc55 | exact absurd zc55 (by decide) | exact absurd (by decide) zc55 | (exfalso; ((try clear hB hC); simp only [ck_lt, ck_le, ck_eq, not_true_eq_false, not_false_eq_true, Int32.reduceToInt, Int32.reduceAdd, Int32.reduceSub, Int32.reduceMul] at * <;> omega)) | (exfalso; simp_all; done)
    · intro zc32
      first | exact absurd rfl zc32 | exact absurd zc32 (by decide) | exact absurd (by decide) zc32 | (exfalso; ((try clear hB hC); simp only [ck_lt, ck_le, ck_eq, not_true_eq_false, not_false_eq_true, Int32.reduceToInt, Int32.reduceAdd, Int32.reduceSub, Int32.reduceMul] at * <;> omega)) | (exfalso; simp_all; done)
  · intro zc6
    first | exact absurd rfl zc6 | exact absurd zc6 (by decide) | exact absurd (by decide) zc6 | (exfalso; ((try clear hB hC); simp only [ck_lt, ck_le, ck_eq, not_true_eq_false, not_false_eq_true, Int32.reduceToInt, Int32.reduceAdd, Int32.reduceSub, Int32.reduceMul] at * <;> omega)) | (exfalso; simp_all; done)

set_option maxRecDepth 100000 in
set_option maxHeartbeats 4000000 in
theorem cn_4 (l : Launch) (G : kx_G) {P : kx_P} {sz : Nat} {Q : kx_P} {w : Nat} (hw : 144 ≤ w) {F F2 V te qu Fo st T : Nat → Int32} (hT : cx_fW (cx_vW Q w V te qu) w Fo st 67 = kI 0 400 T) {n b : Nat} (h6 : F 6 = nI b) (h7 : F 7 = nI (ck_ps T n b)) (hb : b ≤ n) (hn : n ≤ 400) {v : Int32} (w0 : ¬ ck_wo_ T n b = kz_co 0) (w1 : ¬ ck_wo_ T n b = kz_co 1) (w2 : ¬ ck_wo_ T n b = kz_co 2) (w3 : ¬ ck_wo_ T n b = kz_co 3) (w4 : ck_wo_ T n b = kz_co 4) (hM : kx_M l G sX8_takeNumber 2 0 0 [.ref 68, .int 0, .int 500] (cx_8 (cx_fW (cx_vW Q w (V) (te) (qu)) w (Fo) (st)) (.ref w) (F)) sz (some (.int v)) (cx_8 (cx_fW (cx_vW Q w (V) (te) (qu)) w (Fo) (st)) (.ref w) (F2)) sz)  : kx_M l G sX8_readNumbered 6 0 0 [.ref 68] (cx_8 (cx_fW (cx_vW Q w (V) (te) (qu)) w (Fo) (st)) (.ref w) (F)) sz none (cx_8 (cx_fW (cx_vW Q w (upd V 4 v) (te) (qu)) w (Fo) (st)) (.ref w) (F2)) sz := by
  refine kz_m2d kx_tab kxLok_X8 (ini := false) [some (.ref 68)] ⟨by decide +kernel, rfl, by decide, by decide⟩ (Or.inl rfl) rfl rfl (fun g hB hC hK => ?_)
  refine hB bX8_readNumbered_0 _ _ _ _ _ _ _ kX8_readNumbered_0 ?_
  dsimp only [bX8_readNumbered_0, kx_wp, kx_step, kx_lI, kx_lL, kx_lA, kx_gl, kx_pI, kx_pL, kx_pR, kx_pA, kx_pV, kx_s1, kx_s2, kx_sl, kx_pre, kx_c2, kx_pl, kx_cmp, kx_oF, kx_eqN, kx_nil, kx_c1, kx_ft, kx_aI, kx_aL, kx_aR, kx_ln, Nat.reduceAdd, Option.toList, List.cons_append, List.nil_append, cf8_9, cf9_0, cf9_1, cf9_2, cf9_3, cf9_4, cf9_5, cf9_6, cf9_7]
  repeat (simp only [cx_8o, cx_8s, cx_83 hw, cx_84 hw, cx_dq0 hw, cx_dq1 hw, cx_dq2 hw, cx_dp0 hw, cx_dp1 hw, cx_dp2 hw, cx_8f3 hw, cx_8f4 hw, pk_us, pk_un, ne_eq, Nat.reduceEqDiff, not_false_eq_true, cp9_0, cp9_1, cp9_2, cp9_3, cp9_4, cp9_5, cp9_6, cp9_7, ks_eq, ks_ss]; try dsimp only [kx_wp, kx_step, kx_lI, kx_lL, kx_lA, kx_gl, kx_pI, kx_pL, kx_pR, kx_pA, kx_pV, kx_s1, kx_s2, kx_sl, kx_pre, kx_c2, kx_pl, kx_cmp, kx_oF, kx_eqN, kx_nil, kx_c1, kx_ft, kx_aI, kx_aL, kx_aR, kx_ln, Nat.reduceAdd, Option.toList, List.cons_append, List.nil_append, cf8_9, cf9_0, cf9_1, cf9_2, cf9_3, cf9_4, cf9_5, cf9_6, cf9_7])
  repeat' apply And.intro
  all_goals try (first | with_reducible assumption | (with_reducible refine ck_nzI ?_; simp; done) | (with_reducible refine ck_nzL ?_; simp; done) | (with_reducible refine vp_in_nI ?_ ?_ <;> first | omega | decide) | (with_reducible refine Nat.le_of_ble_eq_true ?_; rfl) | omega | exact Or.inl trivial | exact Or.inr trivial | exact Or.inl rfl | exact Or.inr rfl)
  refine kz_lds hK rfl 0 dX8_readNumbered_1 (by decide) rfl ?_
  refine hC.1 96 _ _ _ _ _ _ _ 8 _ _ _ _ _ _ _ _ _ _ _ _ lX8_96 (cx_wi_f hT h6 h7 hb hn 0 (by decide) w0) ⟨by decide, rfl⟩ (cx_8o) rfl rfl (Nat.le_of_ble_eq_true rfl) (by first | decide | omega) (by decide) (by omega) (by omega) dX8_readNumbered_3 ?_
  refine hB bX8_readNumbered_6 _ _ _ _ _ _ _ kX8_readNumbered_6 ?_
  dsimp only [bX8_readNumbered_6, kx_wp, kx_step, kx_lI, kx_lL, kx_lA, kx_gl, kx_pI, kx_pL, kx_pR, kx_pA, kx_pV, kx_s1, kx_s2, kx_sl, kx_pre, kx_c2, kx_pl, kx_cmp, kx_oF, kx_eqN, kx_nil, kx_c1, kx_ft, kx_aI, kx_aL, kx_aR, kx_ln, Nat.reduceAdd, Option.toList, List.cons_append, List.nil_append, cf8_9, cf9_0, cf9_1, cf9_2, cf9_3, cf9_4, cf9_5, cf9_6, cf9_7]
  repeat (simp only [cx_8o, cx_8s, cx_83 hw, cx_84 hw, cx_dq0 hw, cx_dq1 hw, cx_dq2 hw, cx_dp0 hw, cx_dp1 hw, cx_dp2 hw, cx_8f3 hw, cx_8f4 hw, pk_us, pk_un, ne_eq, Nat.reduceEqDiff, not_false_eq_true, cp9_0, cp9_1, cp9_2, cp9_3, cp9_4, cp9_5, cp9_6, cp9_7, ks_eq, ks_ss]; try dsimp only [kx_wp, kx_step, kx_lI, kx_lL, kx_lA, kx_gl, kx_pI, kx_pL, kx_pR, kx_pA, kx_pV, kx_s1, kx_s2, kx_sl, kx_pre, kx_c2, kx_pl, kx_cmp, kx_oF, kx_eqN, kx_nil, kx_c1, kx_ft, kx_aI, kx_aL, kx_aR, kx_ln, Nat.reduceAdd, Option.toList, List.cons_append, List.nil_append, cf8_9, cf9_0, cf9_1, cf9_2, cf9_3, cf9_4, cf9_5, cf9_6, cf9_7])
  repeat' apply And.intro
  all_goals try (first | with_reducible assumption | (with_reducible refine ck_nzI ?_; simp; done) | (with_reducible refine ck_nzL ?_; simp; done) | (with_reducible refine vp_in_nI ?_ ?_ <;> first | omega | decide) | (with_reducible refine Nat.le_of_ble_eq_true ?_; rfl) | omega | exact Or.inl trivial | exact Or.inr trivial | exact Or.inl rfl | exact Or.inr rfl)
  · intro zc6
    have ze6 := zc6
    refine hB bX8_readNumbered_26 _ _ _ _ _ _ _ kX8_readNumbered_26 ?_
    dsimp only [bX8_readNumbered_26, kx_wp, kx_step, kx_lI, kx_lL, kx_lA, kx_gl, kx_pI, kx_pL, kx_pR, kx_pA, kx_pV, kx_s1, kx_s2, kx_sl, kx_pre, kx_c2, kx_pl, kx_cmp, kx_oF, kx_eqN, kx_nil, kx_c1, kx_ft, kx_aI, kx_aL, kx_aR, kx_ln, Nat.reduceAdd, Option.toList, List.cons_append, List.nil_append, cf8_9, cf9_0, cf9_1, cf9_2, cf9_3, cf9_4, cf9_5, cf9_6, cf9_7]
    repeat (simp only [cx_8o, cx_8s, cx_83 hw, cx_84 hw, cx_dq0 hw, cx_dq1 hw, cx_dq2 hw, cx_dp0 hw, cx_dp1 hw, cx_dp2 hw, cx_8f3 hw, cx_8f4 hw, pk_us, pk_un, ne_eq, Nat.reduceEqDiff, not_false_eq_true, cp9_0, cp9_1, cp9_2, cp9_3, cp9_4, cp9_5, cp9_6, cp9_7, ks_eq, ks_ss]; try dsimp only [kx_wp, kx_step, kx_lI, kx_lL, kx_lA, kx_gl, kx_pI, kx_pL, kx_pR, kx_pA, kx_pV, kx_s1, kx_s2, kx_sl, kx_pre, kx_c2, kx_pl, kx_cmp, kx_oF, kx_eqN, kx_nil, kx_c1, kx_ft, kx_aI, kx_aL, kx_aR, kx_ln, Nat.reduceAdd, Option.toList, List.cons_append, List.nil_append, cf8_9, cf9_0, cf9_1, cf9_2, cf9_3, cf9_4, cf9_5, cf9_6, cf9_7])
    repeat' apply And.intro
    all_goals try (first | with_reducible assumption | (with_reducible refine ck_nzI ?_; simp; done) | (with_reducible refine ck_nzL ?_; simp; done) | (with_reducible refine vp_in_nI ?_ ?_ <;> first | omega | decide) | (with_reducible refine Nat.le_of_ble_eq_true ?_; rfl) | omega | exact Or.inl trivial | exact Or.inr trivial | exact Or.inl rfl | exact Or.inr rfl)
    refine kz_lds hK rfl 1 dX8_readNumbered_27 (by decide) rfl ?_
    refine hC.1 96 _ _ _ _ _ _ _ 8 _ _ _ _ _ _ _ _ _ _ _ _ lX8_96 (cx_wi_f hT h6 h7 hb hn 1 (by decide) w1) ⟨by decide, rfl⟩ (cx_8o) rfl rfl (Nat.le_of_ble_eq_true rfl) (by first | decide | omega) (by decide) (by omega) (by omega) dX8_readNumbered_29 ?_
    refine hB bX8_readNumbered_32 _ _ _ _ _ _ _ kX8_readNumbered_32 ?_
    dsimp only [bX8_readNumbered_32, kx_wp, kx_step, kx_lI, kx_lL, kx_lA, kx_gl, kx_pI, kx_pL, kx_pR, kx_pA, kx_pV, kx_s1, kx_s2, kx_sl, kx_pre, kx_c2, kx_pl, kx_cmp, kx_oF, kx_eqN, kx_nil, kx_c1, kx_ft, kx_aI, kx_aL, kx_aR, kx_ln, Nat.reduceAdd, Option.toList, List.cons_append, List.nil_append, cf8_9, cf9_0, cf9_1, cf9_2, cf9_3, cf9_4, cf9_5, cf9_6, cf9_7]
    repeat (simp only [cx_8o, cx_8s, cx_83 hw, cx_84 hw, cx_dq0 hw, cx_dq1 hw, cx_dq2 hw, cx_dp0 hw, cx_dp1 hw, cx_dp2 hw, cx_8f3 hw, cx_8f4 hw, pk_us, pk_un, ne_eq, Nat.reduceEqDiff, not_false_eq_true, cp9_0, cp9_1, cp9_2, cp9_3, cp9_4, cp9_5, cp9_6, cp9_7, ks_eq, ks_ss]; try dsimp only [kx_wp, kx_step, kx_lI, kx_lL, kx_lA, kx_gl, kx_pI, kx_pL, kx_pR, kx_pA, kx_pV, kx_s1, kx_s2, kx_sl, kx_pre, kx_c2, kx_pl, kx_cmp, kx_oF, kx_eqN, kx_nil, kx_c1, kx_ft, kx_aI, kx_aL, kx_aR, kx_ln, Nat.reduceAdd, Option.toList, List.cons_append, List.nil_append, cf8_9, cf9_0, cf9_1, cf9_2, cf9_3, cf9_4, cf9_5, cf9_6, cf9_7])
    repeat' apply And.intro
    all_goals try (first | with_reducible assumption | (with_reducible refine ck_nzI ?_; simp; done) | (with_reducible refine ck_nzL ?_; simp; done) | (with_reducible refine vp_in_nI ?_ ?_ <;> first | omega | decide) | (with_reducible refine Nat.le_of_ble_eq_true ?_; rfl) | omega | exact Or.inl trivial | exact Or.inr trivial | exact Or.inl rfl | exact Or.inr rfl)
    · intro zc32
      have ze32 := zc32
      refine hB bX8_readNumbered_49 _ _ _ _ _ _ _ kX8_readNumbered_49 ?_
      dsimp only [bX8_readNumbered_49, kx_wp, kx_step, kx_lI, kx_lL, kx_lA, kx_gl, kx_pI, kx_pL, kx_pR, kx_pA, kx_pV, kx_s1, kx_s2, kx_sl, kx_pre, kx_c2, kx_pl, kx_cmp, kx_oF, kx_eqN, kx_nil, kx_c1, kx_ft, kx_aI, kx_aL, kx_aR, kx_ln, Nat.reduceAdd, Option.toList, List.cons_append, List.nil_append, cf8_9, cf9_0, cf9_1, cf9_2, cf9_3, cf9_4, cf9_5, cf9_6, cf9_7]
      repeat (simp only [cx_8o, cx_8s, cx_83 hw, cx_84 hw, cx_dq0 hw, cx_dq1 hw, cx_dq2 hw, cx_dp0 hw, cx_dp1 hw, cx_dp2 hw, cx_8f3 hw, cx_8f4 hw, pk_us, pk_un, ne_eq, Nat.reduceEqDiff, not_false_eq_true, cp9_0, cp9_1, cp9_2, cp9_3, cp9_4, cp9_5, cp9_6, cp9_7, ks_eq, ks_ss]; try dsimp only [kx_wp, kx_step, kx_lI, kx_lL, kx_lA, kx_gl, kx_pI, kx_pL, kx_pR, kx_pA, kx_pV, kx_s1, kx_s2, kx_sl, kx_pre, kx_c2, kx_pl, kx_cmp, kx_oF, kx_eqN, kx_nil, kx_c1, kx_ft, kx_aI, kx_aL, kx_aR, kx_ln, Nat.reduceAdd, Option.toList, List.cons_append, List.nil_append, cf8_9, cf9_0, cf9_1, cf9_2, cf9_3, cf9_4, cf9_5, cf9_6, cf9_7])
      repeat' apply And.intro
      all_goals try (first | with_reducible assumption | (with_reducible refine ck_nzI ?_; simp; done) | (with_reducible refine ck_nzL ?_; simp; done) | (with_reducible refine vp_in_nI ?_ ?_ <;> first | omega | decide) | (with_reducible refine Nat.le_of_ble_eq_true ?_; rfl) | omega | exact Or.inl trivial | exact Or.inr trivial | exact Or.inl rfl | exact Or.inr rfl)
      refine kz_lds hK rfl 2 dX8_readNumbered_50 (by decide) rfl ?_
      refine hC.1 96 _ _ _ _ _ _ _ 8 _ _ _ _ _ _ _ _ _ _ _ _ lX8_96 (cx_wi_f hT h6 h7 hb hn 2 (by decide) w2) ⟨by decide, rfl⟩ (cx_8o) rfl rfl (Nat.le_of_ble_eq_true rfl) (by first | decide | omega) (by decide) (by omega) (by omega) dX8_readNumbered_52 ?_
      refine hB bX8_readNumbered_55 _ _ _ _ _ _ _ kX8_readNumbered_55 ?_
      dsimp only [bX8_readNumbered_55, kx_wp, kx_step, kx_lI, kx_lL, kx_lA, kx_gl, kx_pI, kx_pL, kx_pR, kx_pA, kx_pV, kx_s1, kx_s2, kx_sl, kx_pre, kx_c2, kx_pl, kx_cmp, kx_oF, kx_eqN, kx_nil, kx_c1, kx_ft, kx_aI, kx_aL, kx_aR, kx_ln, Nat.reduceAdd, Option.toList, List.cons_append, List.nil_append, cf8_9, cf9_0, cf9_1, cf9_2, cf9_3, cf9_4, cf9_5, cf9_6, cf9_7]
      repeat (simp only [cx_8o, cx_8s, cx_83 hw, cx_84 hw, cx_dq0 hw, cx_dq1 hw, cx_dq2 hw, cx_dp0 hw, cx_dp1 hw, cx_dp2 hw, cx_8f3 hw, cx_8f4 hw, pk_us, pk_un, ne_eq, Nat.reduceEqDiff, not_false_eq_true, cp9_0, cp9_1, cp9_2, cp9_3, cp9_4, cp9_5, cp9_6, cp9_7, ks_eq, ks_ss]; try dsimp only [kx_wp, kx_step, kx_lI, kx_lL, kx_lA, kx_gl, kx_pI, kx_pL, kx_pR, kx_pA, kx_pV, kx_s1, kx_s2, kx_sl, kx_pre, kx_c2, kx_pl, kx_cmp, kx_oF, kx_eqN, kx_nil, kx_c1, kx_ft, kx_aI, kx_aL, kx_aR, kx_ln, Nat.reduceAdd, Option.toList, List.cons_append, List.nil_append, cf8_9, cf9_0, cf9_1, cf9_2, cf9_3, cf9_4, cf9_5, cf9_6, cf9_7])
      repeat' apply And.intro
      all_goals try (first | with_reducible assumption | (with_reducible refine ck_nzI ?_; simp; done) | (with_reducible refine ck_nzL ?_; simp; done) | (with_reducible refine vp_in_nI ?_ ?_ <;> first | omega | decide) | (with_reducible refine Nat.le_of_ble_eq_true ?_; rfl) | omega | exact Or.inl trivial | exact Or.inr trivial | exact Or.inl rfl | exact Or.inr rfl)
      · intro zc55
        have ze55 := zc55
        refine hB bX8_readNumbered_72 _ _ _ _ _ _ _ kX8_readNumbered_72 ?_
        dsimp only [bX8_readNumbered_72, kx_wp, kx_step, kx_lI, kx_lL, kx_lA, kx_gl, kx_pI, kx_pL, kx_pR, kx_pA, kx_pV, kx_s1, kx_s2, kx_sl, kx_pre, kx_c2, kx_pl, kx_cmp, kx_oF, kx_eqN, kx_nil, kx_c1, kx_ft, kx_aI, kx_aL, kx_aR, kx_ln, Nat.reduceAdd, Option.toList, List.cons_append, List.nil_append, cf8_9, cf9_0, cf9_1, cf9_2, cf9_3, cf9_4, cf9_5, cf9_6, cf9_7]
        repeat (simp only [cx_8o, cx_8s, cx_83 hw, cx_84 hw, cx_dq0 hw, cx_dq1 hw, cx_dq2 hw, cx_dp0 hw, cx_dp1 hw, cx_dp2 hw, cx_8f3 hw, cx_8f4 hw, pk_us, pk_un, ne_eq, Nat.reduceEqDiff, not_false_eq_true, cp9_0, cp9_1, cp9_2, cp9_3, cp9_4, cp9_5, cp9_6, cp9_7, ks_eq, ks_ss]; try dsimp only [kx_wp, kx_step, kx_lI, kx_lL, kx_lA, kx_gl, kx_pI, kx_pL, kx_pR, kx_pA, kx_pV, kx_s1, kx_s2, kx_sl, kx_pre, kx_c2, kx_pl, kx_cmp, kx_oF, kx_eqN, kx_nil, kx_c1, kx_ft, kx_aI, kx_aL, kx_aR, kx_ln, Nat.reduceAdd, Option.toList, List.cons_append, List.nil_append, cf8_9, cf9_0, cf9_1, cf9_2, cf9_3, cf9_4, cf9_5, cf9_6, cf9_7])
        repeat' apply And.intro
        all_goals try (first | with_reducible assumption | (with_reducible refine ck_nzI ?_; simp; done) | (with_reducible refine ck_nzL ?_; simp; done) | (with_reducible refine vp_in_nI ?_ ?_ <;> first | omega | decide) | (with_reducible refine Nat.le_of_ble_eq_true ?_; rfl) | omega | exact Or.inl trivial | exact Or.inr trivial | exact Or.inl rfl | exact Or.inr rfl)
        refine kz_lds hK rfl 3 dX8_readNumbered_73 (by decide) rfl ?_
        refine hC.1 96 _ _ _ _ _ _ _ 8 _ _ _ _ _ _ _ _ _ _ _ _ lX8_96 (cx_wi_f hT h6 h7 hb hn 3 (by decide) w3) ⟨by decide, rfl⟩ (cx_8o) rfl rfl (Nat.le_of_ble_eq_true rfl) (by first | decide | omega) (by decide) (by omega) (by omega) dX8_readNumbered_75 ?_
        refine hB bX8_readNumbered_78 _ _ _ _ _ _ _ kX8_readNumbered_78 ?_
        dsimp only [bX8_readNumbered_78, kx_wp, kx_step, kx_lI, kx_lL, kx_lA, kx_gl, kx_pI, kx_pL, kx_pR, kx_pA, kx_pV, kx_s1, kx_s2, kx_sl, kx_pre, kx_c2, kx_pl, kx_cmp, kx_oF, kx_eqN, kx_nil, kx_c1, kx_ft, kx_aI, kx_aL, kx_aR, kx_ln, Nat.reduceAdd, Option.toList, List.cons_append, List.nil_append, cf8_9, cf9_0, cf9_1, cf9_2, cf9_3, cf9_4, cf9_5, cf9_6, cf9_7]
        repeat (simp only [cx_8o, cx_8s, cx_83 hw, cx_84 hw, cx_dq0 hw, cx_dq1 hw, cx_dq2 hw, cx_dp0 hw, cx_dp1 hw, cx_dp2 hw, cx_8f3 hw, cx_8f4 hw, pk_us, pk_un, ne_eq, Nat.reduceEqDiff, not_false_eq_true, cp9_0, cp9_1, cp9_2, cp9_3, cp9_4, cp9_5, cp9_6, cp9_7, ks_eq, ks_ss]; try dsimp only [kx_wp, kx_step, kx_lI, kx_lL, kx_lA, kx_gl, kx_pI, kx_pL, kx_pR, kx_pA, kx_pV, kx_s1, kx_s2, kx_sl, kx_pre, kx_c2, kx_pl, kx_cmp, kx_oF, kx_eqN, kx_nil, kx_c1, kx_ft, kx_aI, kx_aL, kx_aR, kx_ln, Nat.reduceAdd, Option.toList, List.cons_append, List.nil_append, cf8_9, cf9_0, cf9_1, cf9_2, cf9_3, cf9_4, cf9_5, cf9_6, cf9_7])
        repeat' apply And.intro
        all_goals try (first | with_reducible assumption | (with_reducible refine ck_nzI ?_; simp; done) | (with_reducible refine ck_nzL ?_; simp; done) | (with_reducible refine vp_in_nI ?_ ?_ <;> first | omega | decide) | (with_reducible refine Nat.le_of_ble_eq_true ?_; rfl) | omega | exact Or.inl trivial | exact Or.inr trivial | exact Or.inl rfl | exact Or.inr rfl)
        · intro zc78
          have ze78 := zc78
          refine hB bX8_readNumbered_99 _ _ _ _ _ _ _ kX8_readNumbered_99 ?_
          dsimp only [bX8_readNumbered_99, kx_wp, kx_step, kx_lI, kx_lL, kx_lA, kx_gl, kx_pI, kx_pL, kx_pR, kx_pA, kx_pV, kx_s1, kx_s2, kx_sl, kx_pre, kx_c2, kx_pl, kx_cmp, kx_oF, kx_eqN, kx_nil, kx_c1, kx_ft, kx_aI, kx_aL, kx_aR, kx_ln, Nat.reduceAdd, Option.toList, List.cons_append, List.nil_append, cf8_9, cf9_0, cf9_1, cf9_2, cf9_3, cf9_4, cf9_5, cf9_6, cf9_7]
          repeat (simp only [cx_8o, cx_8s, cx_83 hw, cx_84 hw, cx_dq0 hw, cx_dq1 hw, cx_dq2 hw, cx_dp0 hw, cx_dp1 hw, cx_dp2 hw, cx_8f3 hw, cx_8f4 hw, pk_us, pk_un, ne_eq, Nat.reduceEqDiff, not_false_eq_true, cp9_0, cp9_1, cp9_2, cp9_3, cp9_4, cp9_5, cp9_6, cp9_7, ks_eq, ks_ss]; try dsimp only [kx_wp, kx_step, kx_lI, kx_lL, kx_lA, kx_gl, kx_pI, kx_pL, kx_pR, kx_pA, kx_pV, kx_s1, kx_s2, kx_sl, kx_pre, kx_c2, kx_pl, kx_cmp, kx_oF, kx_eqN, kx_nil, kx_c1, kx_ft, kx_aI, kx_aL, kx_aR, kx_ln, Nat.reduceAdd, Option.toList, List.cons_append, List.nil_append, cf8_9, cf9_0, cf9_1, cf9_2, cf9_3, cf9_4, cf9_5, cf9_6, cf9_7])
          repeat' apply And.intro
          all_goals try (first | with_reducible assumption | (with_reducible refine ck_nzI ?_; simp; done) | (with_reducible refine ck_nzL ?_; simp; done) | (with_reducible refine vp_in_nI ?_ ?_ <;> first | omega | decide) | (with_reducible refine Nat.le_of_ble_eq_true ?_; rfl) | omega | exact Or.inl trivial | exact Or.inr trivial | exact Or.inl rfl | exact Or.inr rfl)
          refine kz_lds hK rfl 4 dX8_readNumbered_100 (by decide) rfl ?_
          refine hC.1 96 _ _ _ _ _ _ _ 8 _ _ _ _ _ _ _ _ _ _ _ _ lX8_96 (cx_wi_t hT h6 h7 hb hn 4 (by decide) w4) ⟨by decide, rfl⟩ (cx_8o) rfl rfl (Nat.le_of_ble_eq_true rfl) (by first | decide | omega) (by decide) (by omega) (by omega) dX8_readNumbered_102 ?_
          refine hB bX8_readNumbered_105 _ _ _ _ _ _ _ kX8_readNumbered_105 ?_
          dsimp only [bX8_readNumbered_105, kx_wp, kx_step, kx_lI, kx_lL, kx_lA, kx_gl, kx_pI, kx_pL, kx_pR, kx_pA, kx_pV, kx_s1, kx_s2, kx_sl, kx_pre, kx_c2, kx_pl, kx_cmp, kx_oF, kx_eqN, kx_nil, kx_c1, kx_ft, kx_aI, kx_aL, kx_aR, kx_ln, Nat.reduceAdd, Option.toList, List.cons_append, List.nil_append, cf8_9, cf9_0, cf9_1, cf9_2, cf9_3, cf9_4, cf9_5, cf9_6, cf9_7]
          repeat (simp only [cx_8o, cx_8s, cx_83 hw, cx_84 hw, cx_dq0 hw, cx_dq1 hw, cx_dq2 hw, cx_dp0 hw, cx_dp1 hw, cx_dp2 hw, cx_8f3 hw, cx_8f4 hw, pk_us, pk_un, ne_eq, Nat.reduceEqDiff, not_false_eq_true, cp9_0, cp9_1, cp9_2, cp9_3, cp9_4, cp9_5, cp9_6, cp9_7, ks_eq, ks_ss]; try dsimp only [kx_wp, kx_step, kx_lI, kx_lL, kx_lA, kx_gl, kx_pI, kx_pL, kx_pR, kx_pA, kx_pV, kx_s1, kx_s2, kx_sl, kx_pre, kx_c2, kx_pl, kx_cmp, kx_oF, kx_eqN, kx_nil, kx_c1, kx_ft, kx_aI, kx_aL, kx_aR, kx_ln, Nat.reduceAdd, Option.toList, List.cons_append, List.nil_append, cf8_9, cf9_0, cf9_1, cf9_2, cf9_3, cf9_4, cf9_5, cf9_6, cf9_7])
          repeat' apply And.intro
          all_goals try (first | with_reducible assumption | (with_reducible refine ck_nzI ?_; simp; done) | (with_reducible refine ck_nzL ?_; simp; done) | (with_reducible refine vp_in_nI ?_ ?_ <;> first | omega | decide) | (with_reducible refine Nat.le_of_ble_eq_true ?_; rfl) | omega | exact Or.inl trivial | exact Or.inr trivial | exact Or.inl rfl | exact Or.inr rfl)
          · intro zc105
            first | exact absurd rfl zc105 | exact absurd zc105 (by decide) | exact absurd (by decide) zc105 | (exfalso; ((try clear hB hC); simp only [ck_lt, ck_le, ck_eq, not_true_eq_false, not_false_eq_true, Int32.reduceToInt, Int32.reduceAdd, Int32.reduceSub, Int32.reduceMul] at * <;> omega)) | (exfalso; simp_all; done)
          · intro zc105
            have ze105 := zc105
            refine hB bX8_readNumbered_108 _ _ _ _ _ _ _ kX8_readNumbered_108 ?_
            dsimp only [bX8_readNumbered_108, kx_wp, kx_step, kx_lI, kx_lL, kx_lA, kx_gl, kx_pI, kx_pL, kx_pR, kx_pA, kx_pV, kx_s1, kx_s2, kx_sl, kx_pre, kx_c2, kx_pl, kx_cmp, kx_oF, kx_eqN, kx_nil, kx_c1, kx_ft, kx_aI, kx_aL, kx_aR, kx_ln, Nat.reduceAdd, Option.toList, List.cons_append, List.nil_append, cf8_9, cf9_0, cf9_1, cf9_2, cf9_3, cf9_4, cf9_5, cf9_6, cf9_7]
            repeat (simp only [cx_8o, cx_8s, cx_83 hw, cx_84 hw, cx_dq0 hw, cx_dq1 hw, cx_dq2 hw, cx_dp0 hw, cx_dp1 hw, cx_dp2 hw, cx_8f3 hw, cx_8f4 hw, pk_us, pk_un, ne_eq, Nat.reduceEqDiff, not_false_eq_true, cp9_0, cp9_1, cp9_2, cp9_3, cp9_4, cp9_5, cp9_6, cp9_7, ks_eq, ks_ss]; try dsimp only [kx_wp, kx_step, kx_lI, kx_lL, kx_lA, kx_gl, kx_pI, kx_pL, kx_pR, kx_pA, kx_pV, kx_s1, kx_s2, kx_sl, kx_pre, kx_c2, kx_pl, kx_cmp, kx_oF, kx_eqN, kx_nil, kx_c1, kx_ft, kx_aI, kx_aL, kx_aR, kx_ln, Nat.reduceAdd, Option.toList, List.cons_append, List.nil_append, cf8_9, cf9_0, cf9_1, cf9_2, cf9_3, cf9_4, cf9_5, cf9_6, cf9_7])
            repeat' apply And.intro
            all_goals try (first | with_reducible assumption | (with_reducible refine ck_nzI ?_; simp; done) | (with_reducible refine ck_nzL ?_; simp; done) | (with_reducible refine vp_in_nI ?_ ?_ <;> first | omega | decide) | (with_reducible refine Nat.le_of_ble_eq_true ?_; rfl) | omega | exact Or.inl trivial | exact Or.inr trivial | exact Or.inl rfl | exact Or.inr rfl)
            refine hC.1 85 _ _ _ _ _ _ _ 8 _ _ _ _ _ _ _ _ _ _ _ _ lX8_85 (hM) ⟨by decide, rfl⟩ (cx_8o) rfl rfl (Nat.le_of_ble_eq_true rfl) (by first | decide | omega) (by decide) (by omega) (by omega) dX8_readNumbered_117 ?_
            refine hB bX8_readNumbered_120 _ _ _ _ _ _ _ kX8_readNumbered_120 ?_
            dsimp only [bX8_readNumbered_120, kx_wp, kx_step, kx_lI, kx_lL, kx_lA, kx_gl, kx_pI, kx_pL, kx_pR, kx_pA, kx_pV, kx_s1, kx_s2, kx_sl, kx_pre, kx_c2, kx_pl, kx_cmp, kx_oF, kx_eqN, kx_nil, kx_c1, kx_ft, kx_aI, kx_aL, kx_aR, kx_ln, Nat.reduceAdd, Option.toList, List.cons_append, List.nil_append, cf8_9, cf9_0, cf9_1, cf9_2, cf9_3, cf9_4, cf9_5, cf9_6, cf9_7]
            repeat (simp only [cx_8o, cx_8s, cx_83 hw, cx_84 hw, cx_dq0 hw, cx_dq1 hw, cx_dq2 hw, cx_dp0 hw, cx_dp1 hw, cx_dp2 hw, cx_8f3 hw, cx_8f4 hw, pk_us, pk_un, ne_eq, Nat.reduceEqDiff, not_false_eq_true, cp9_0, cp9_1, cp9_2, cp9_3, cp9_4, cp9_5, cp9_6, cp9_7, ks_eq, ks_ss]; try dsimp only [kx_wp, kx_step, kx_lI, kx_lL, kx_lA, kx_gl, kx_pI, kx_pL, kx_pR, kx_pA, kx_pV, kx_s1, kx_s2, kx_sl, kx_pre, kx_c2, kx_pl, kx_cmp, kx_oF, kx_eqN, kx_nil, kx_c1, kx_ft, kx_aI, kx_aL, kx_aR, kx_ln, Nat.reduceAdd, Option.toList, List.cons_append, List.nil_append, cf8_9, cf9_0, cf9_1, cf9_2, cf9_3, cf9_4, cf9_5, cf9_6, cf9_7])
            repeat' apply And.intro
            all_goals try (first | with_reducible assumption | (with_reducible refine ck_nzI ?_; simp; done) | (with_reducible refine ck_nzL ?_; simp; done) | (with_reducible refine vp_in_nI ?_ ?_ <;> first | omega | decide) | (with_reducible refine Nat.le_of_ble_eq_true ?_; rfl) | omega | exact Or.inl trivial | exact Or.inr trivial | exact Or.inl rfl | exact Or.inr rfl)
            refine hB bX8_readNumbered_194 _ _ _ _ _ _ _ kX8_readNumbered_194 ?_
            dsimp only [bX8_readNumbered_194, kx_wp, kx_step, kx_lI, kx_lL, kx_lA, kx_gl, kx_pI, kx_pL, kx_pR, kx_pA, kx_pV, kx_s1, kx_s2, kx_sl, kx_pre, kx_c2, kx_pl, kx_cmp, kx_oF, kx_eqN, kx_nil, kx_c1, kx_ft, kx_aI, kx_aL, kx_aR, kx_ln, Nat.reduceAdd, Option.toList, List.cons_append, List.nil_append, cf8_9, cf9_0, cf9_1, cf9_2, cf9_3, cf9_4, cf9_5, cf9_6, cf9_7]
            repeat (simp only [cx_8o, cx_8s, cx_83 hw, cx_84 hw, cx_dq0 hw, cx_dq1 hw, cx_dq2 hw, cx_dp0 hw, cx_dp1 hw, cx_dp2 hw, cx_8f3 hw, cx_8f4 hw, pk_us, pk_un, ne_eq, Nat.reduceEqDiff, not_false_eq_true, cp9_0, cp9_1, cp9_2, cp9_3, cp9_4, cp9_5, cp9_6, cp9_7, ks_eq, ks_ss]; try dsimp only [kx_wp, kx_step, kx_lI, kx_lL, kx_lA, kx_gl, kx_pI, kx_pL, kx_pR, kx_pA, kx_pV, kx_s1, kx_s2, kx_sl, kx_pre, kx_c2, kx_pl, kx_cmp, kx_oF, kx_eqN, kx_nil, kx_c1, kx_ft, kx_aI, kx_aL, kx_aR, kx_ln, Nat.reduceAdd, Option.toList, List.cons_append, List.nil_append, cf8_9, cf9_0, cf9_1, cf9_2, cf9_3, cf9_4, cf9_5, cf9_6, cf9_7])
            all_goals (repeat' apply And.intro)
            all_goals ((try clear hB hC); first | exact True.intro | rfl)
        · intro zc78
          first | exact absurd rfl zc78 | exact absurd zc78 (by decide) | exact absurd (by decide) zc78 | (exfalso; ((try clear hB hC); simp only [ck_lt, ck_le, ck_eq, not_true_eq_false, not_false_eq_true, Int32.reduceToInt, Int32.reduceAdd, Int32.reduceSub, Int32.reduceMul] at * <;> omega)) | (exfalso; simp_all; done)
      · intro zc55
        first | exact absurd rfl zc55 | exact absurd zc55 (by decide) | exact absurd (by decide) zc55 | (exfalso; ((try clear hB hC); simp only [ck_lt, ck_le, ck_eq, not_true_eq_false, not_false_eq_true, Int32.reduceToInt, Int32.reduceAdd, Int32.reduceSub, Int32.reduceMul] at * <;> omega)) | (exfalso; simp_all; done)
    · intro zc32
      first | exact absurd rfl zc32 | exact absurd zc32 (by decide) | exact absurd (by decide) zc32 | (exfalso; ((try clear hB hC); simp only [ck_lt, ck_le, ck_eq, not_true_eq_false, not_false_eq_true, Int32.reduceToInt, Int32.reduceAdd, Int32.reduceSub, Int32.reduceMul] at * <;> omega)) | (exfalso; simp_all; done)
  · intro zc6
    first | exact absurd rfl zc6 | exact absurd zc6 (by decide) | exact absurd (by decide) zc6 | (exfalso; ((try clear hB hC); simp only [ck_lt, ck_le, ck_eq, not_true_eq_false, not_false_eq_true, Int32.reduceToInt, Int32.reduceAdd, Int32.reduceSub, Int32.reduceMul] at * <;> omega)) | (exfalso; simp_all; done)

set_option maxRecDepth 100000 in
set_option maxHeartbeats 4000000 in
theorem cn_5 (l : Launch) (G : kx_G) {P : kx_P} {sz : Nat} {Q : kx_P} {w : Nat} (hw : 144 ≤ w) {F F2 V te qu Fo st T : Nat → Int32} (hT : cx_fW (cx_vW Q w V te qu) w Fo st 67 = kI 0 400 T) {n b : Nat} (h6 : F 6 = nI b) (h7 : F 7 = nI (ck_ps T n b)) (hb : b ≤ n) (hn : n ≤ 400) {v : Int32} (w0 : ¬ ck_wo_ T n b = kz_co 0) (w1 : ¬ ck_wo_ T n b = kz_co 1) (w2 : ¬ ck_wo_ T n b = kz_co 2) (w3 : ¬ ck_wo_ T n b = kz_co 3) (w4 : ¬ ck_wo_ T n b = kz_co 4) (w5 : ck_wo_ T n b = kz_co 5) (hM : kx_M l G sX8_takeNumber 2 0 0 [.ref 68, .int 0, .int 50] (cx_8 (cx_fW (cx_vW Q w (V) (te) (qu)) w (Fo) (st)) (.ref w) (F)) sz (some (.int v)) (cx_8 (cx_fW (cx_vW Q w (V) (te) (qu)) w (Fo) (st)) (.ref w) (F2)) sz)  : kx_M l G sX8_readNumbered 6 0 0 [.ref 68] (cx_8 (cx_fW (cx_vW Q w (V) (te) (qu)) w (Fo) (st)) (.ref w) (F)) sz none (cx_8 (cx_fW (cx_vW Q w (upd V 5 v) (te) (qu)) w (Fo) (st)) (.ref w) (F2)) sz := by
  refine kz_m2d kx_tab kxLok_X8 (ini := false) [some (.ref 68)] ⟨by decide +kernel, rfl, by decide, by decide⟩ (Or.inl rfl) rfl rfl (fun g hB hC hK => ?_)
  refine hB bX8_readNumbered_0 _ _ _ _ _ _ _ kX8_readNumbered_0 ?_
  dsimp only [bX8_readNumbered_0, kx_wp, kx_step, kx_lI, kx_lL, kx_lA, kx_gl, kx_pI, kx_pL, kx_pR, kx_pA, kx_pV, kx_s1, kx_s2, kx_sl, kx_pre, kx_c2, kx_pl, kx_cmp, kx_oF, kx_eqN, kx_nil, kx_c1, kx_ft, kx_aI, kx_aL, kx_aR, kx_ln, Nat.reduceAdd, Option.toList, List.cons_append, List.nil_append, cf8_9, cf9_0, cf9_1, cf9_2, cf9_3, cf9_4, cf9_5, cf9_6, cf9_7]
  repeat (simp only [cx_8o, cx_8s, cx_83 hw, cx_84 hw, cx_dq0 hw, cx_dq1 hw, cx_dq2 hw, cx_dp0 hw, cx_dp1 hw, cx_dp2 hw, cx_8f3 hw, cx_8f4 hw, pk_us, pk_un, ne_eq, Nat.reduceEqDiff, not_false_eq_true, cp9_0, cp9_1, cp9_2, cp9_3, cp9_4, cp9_5, cp9_6, cp9_7, ks_eq, ks_ss]; try dsimp only [kx_wp, kx_step, kx_lI, kx_lL, kx_lA, kx_gl, kx_pI, kx_pL, kx_pR, kx_pA, kx_pV, kx_s1, kx_s2, kx_sl, kx_pre, kx_c2, kx_pl, kx_cmp, kx_oF, kx_eqN, kx_nil, kx_c1, kx_ft, kx_aI, kx_aL, kx_aR, kx_ln, Nat.reduceAdd, Option.toList, List.cons_append, List.nil_append, cf8_9, cf9_0, cf9_1, cf9_2, cf9_3, cf9_4, cf9_5, cf9_6, cf9_7])
  repeat' apply And.intro
  all_goals try (first | with_reducible assumption | (with_reducible refine ck_nzI ?_; simp; done) | (with_reducible refine ck_nzL ?_; simp; done) | (with_reducible refine vp_in_nI ?_ ?_ <;> first | omega | decide) | (with_reducible refine Nat.le_of_ble_eq_true ?_; rfl) | omega | exact Or.inl trivial | exact Or.inr trivial | exact Or.inl rfl | exact Or.inr rfl)
  refine kz_lds hK rfl 0 dX8_readNumbered_1 (by decide) rfl ?_
  refine hC.1 96 _ _ _ _ _ _ _ 8 _ _ _ _ _ _ _ _ _ _ _ _ lX8_96 (cx_wi_f hT h6 h7 hb hn 0 (by decide) w0) ⟨by decide, rfl⟩ (cx_8o) rfl rfl (Nat.le_of_ble_eq_true rfl) (by first | decide | omega) (by decide) (by omega) (by omega) dX8_readNumbered_3 ?_
  refine hB bX8_readNumbered_6 _ _ _ _ _ _ _ kX8_readNumbered_6 ?_
  dsimp only [bX8_readNumbered_6, kx_wp, kx_step, kx_lI, kx_lL, kx_lA, kx_gl, kx_pI, kx_pL, kx_pR, kx_pA, kx_pV, kx_s1, kx_s2, kx_sl, kx_pre, kx_c2, kx_pl, kx_cmp, kx_oF, kx_eqN, kx_nil, kx_c1, kx_ft, kx_aI, kx_aL, kx_aR, kx_ln, Nat.reduceAdd, Option.toList, List.cons_append, List.nil_append, cf8_9, cf9_0, cf9_1, cf9_2, cf9_3, cf9_4, cf9_5, cf9_6, cf9_7]
  repeat (simp only [cx_8o, cx_8s, cx_83 hw, cx_84 hw, cx_dq0 hw, cx_dq1 hw, cx_dq2 hw, cx_dp0 hw, cx_dp1 hw, cx_dp2 hw, cx_8f3 hw, cx_8f4 hw, pk_us, pk_un, ne_eq, Nat.reduceEqDiff, not_false_eq_true, cp9_0, cp9_1, cp9_2, cp9_3, cp9_4, cp9_5, cp9_6, cp9_7, ks_eq, ks_ss]; try dsimp only [kx_wp, kx_step, kx_lI, kx_lL, kx_lA, kx_gl, kx_pI, kx_pL, kx_pR, kx_pA, kx_pV, kx_s1, kx_s2, kx_sl, kx_pre, kx_c2, kx_pl, kx_cmp, kx_oF, kx_eqN, kx_nil, kx_c1, kx_ft, kx_aI, kx_aL, kx_aR, kx_ln, Nat.reduceAdd, Option.toList, List.cons_append, List.nil_append, cf8_9, cf9_0, cf9_1, cf9_2, cf9_3, cf9_4, cf9_5, cf9_6, cf9_7])
  repeat' apply And.intro
  all_goals try (first | with_reducible assumption | (with_reducible refine ck_nzI ?_; simp; done) | (with_reducible refine ck_nzL ?_; simp; done) | (with_reducible refine vp_in_nI ?_ ?_ <;> first | omega | decide) | (with_reducible refine Nat.le_of_ble_eq_true ?_; rfl) | omega | exact Or.inl trivial | exact Or.inr trivial | exact Or.inl rfl | exact Or.inr rfl)
  · intro zc6
    have ze6 := zc6
    refine hB bX8_readNumbered_26 _ _ _ _ _ _ _ kX8_readNumbered_26 ?_
    dsimp only [bX8_readNumbered_26, kx_wp, kx_step, kx_lI, kx_lL, kx_lA, kx_gl, kx_pI, kx_pL, kx_pR, kx_pA, kx_pV, kx_s1, kx_s2, kx_sl, kx_pre, kx_c2, kx_pl, kx_cmp, kx_oF, kx_eqN, kx_nil, kx_c1, kx_ft, kx_aI, kx_aL, kx_aR, kx_ln, Nat.reduceAdd, Option.toList, List.cons_append, List.nil_append, cf8_9, cf9_0, cf9_1, cf9_2, cf9_3, cf9_4, cf9_5, cf9_6, cf9_7]
    repeat (simp only [cx_8o, cx_8s, cx_83 hw, cx_84 hw, cx_dq0 hw, cx_dq1 hw, cx_dq2 hw, cx_dp0 hw, cx_dp1 hw, cx_dp2 hw, cx_8f3 hw, cx_8f4 hw, pk_us, pk_un, ne_eq, Nat.reduceEqDiff, not_false_eq_true, cp9_0, cp9_1, cp9_2, cp9_3, cp9_4, cp9_5, cp9_6, cp9_7, ks_eq, ks_ss]; try dsimp only [kx_wp, kx_step, kx_lI, kx_lL, kx_lA, kx_gl, kx_pI, kx_pL, kx_pR, kx_pA, kx_pV, kx_s1, kx_s2, kx_sl, kx_pre, kx_c2, kx_pl, kx_cmp, kx_oF, kx_eqN, kx_nil, kx_c1, kx_ft, kx_aI, kx_aL, kx_aR, kx_ln, Nat.reduceAdd, Option.toList, List.cons_append, List.nil_append, cf8_9, cf9_0, cf9_1, cf9_2, cf9_3, cf9_4, cf9_5, cf9_6, cf9_7])
    repeat' apply And.intro
    all_goals try (first | with_reducible assumption | (with_reducible refine ck_nzI ?_; simp; done) | (with_reducible refine ck_nzL ?_; simp; done) | (with_reducible refine vp_in_nI ?_ ?_ <;> first | omega | decide) | (with_reducible refine Nat.le_of_ble_eq_true ?_; rfl) | omega | exact Or.inl trivial | exact Or.inr trivial | exact Or.inl rfl | exact Or.inr rfl)
    refine kz_lds hK rfl 1 dX8_readNumbered_27 (by decide) rfl ?_
    refine hC.1 96 _ _ _ _ _ _ _ 8 _ _ _ _ _ _ _ _ _ _ _ _ lX8_96 (cx_wi_f hT h6 h7 hb hn 1 (by decide) w1) ⟨by decide, rfl⟩ (cx_8o) rfl rfl (Nat.le_of_ble_eq_true rfl) (by first | decide | omega) (by decide) (by omega) (by omega) dX8_readNumbered_29 ?_
    refine hB bX8_readNumbered_32 _ _ _ _ _ _ _ kX8_readNumbered_32 ?_
    dsimp only [bX8_readNumbered_32, kx_wp, kx_step, kx_lI, kx_lL, kx_lA, kx_gl, kx_pI, kx_pL, kx_pR, kx_pA, kx_pV, kx_s1, kx_s2, kx_sl, kx_pre, kx_c2, kx_pl, kx_cmp, kx_oF, kx_eqN, kx_nil, kx_c1, kx_ft, kx_aI, kx_aL, kx_aR, kx_ln, Nat.reduceAdd, Option.toList, List.cons_append, List.nil_append, cf8_9, cf9_0, cf9_1, cf9_2, cf9_3, cf9_4, cf9_5, cf9_6, cf9_7]
    repeat (simp only [cx_8o, cx_8s, cx_83 hw, cx_84 hw, cx_dq0 hw, cx_dq1 hw, cx_dq2 hw, cx_dp0 hw, cx_dp1 hw, cx_dp2 hw, cx_8f3 hw, cx_8f4 hw, pk_us, pk_un, ne_eq, Nat.reduceEqDiff, not_false_eq_true, cp9_0, cp9_1, cp9_2, cp9_3, cp9_4, cp9_5, cp9_6, cp9_7, ks_eq, ks_ss]; try dsimp only [kx_wp, kx_step, kx_lI, kx_lL, kx_lA, kx_gl, kx_pI, kx_pL, kx_pR, kx_pA, kx_pV, kx_s1, kx_s2, kx_sl, kx_pre, kx_c2, kx_pl, kx_cmp, kx_oF, kx_eqN, kx_nil, kx_c1, kx_ft, kx_aI, kx_aL, kx_aR, kx_ln, Nat.reduceAdd, Option.toList, List.cons_append, List.nil_append, cf8_9, cf9_0, cf9_1, cf9_2, cf9_3, cf9_4, cf9_5, cf9_6, cf9_7])
    repeat' apply And.intro
    all_goals try (first | with_reducible assumption | (with_reducible refine ck_nzI ?_; simp; done) | (with_reducible refine ck_nzL ?_; simp; done) | (with_reducible refine vp_in_nI ?_ ?_ <;> first | omega | decide) | (with_reducible refine Nat.le_of_ble_eq_true ?_; rfl) | omega | exact Or.inl trivial | exact Or.inr trivial | exact Or.inl rfl | exact Or.inr rfl)
    · intro zc32
      have ze32 := zc32
      refine hB bX8_readNumbered_49 _ _ _ _ _ _ _ kX8_readNumbered_49 ?_
      dsimp only [bX8_readNumbered_49, kx_wp, kx_step, kx_lI, kx_lL, kx_lA, kx_gl, kx_pI, kx_pL, kx_pR, kx_pA, kx_pV, kx_s1, kx_s2, kx_sl, kx_pre, kx_c2, kx_pl, kx_cmp, kx_oF, kx_eqN, kx_nil, kx_c1, kx_ft, kx_aI, kx_aL, kx_aR, kx_ln, Nat.reduceAdd, Option.toList, List.cons_append, List.nil_append, cf8_9, cf9_0, cf9_1, cf9_2, cf9_3, cf9_4, cf9_5, cf9_6, cf9_7]
      repeat (simp only [cx_8o, cx_8s, cx_83 hw, cx_84 hw, cx_dq0 hw, cx_dq1 hw, cx_dq2 hw, cx_dp0 hw, cx_dp1 hw, cx_dp2 hw, cx_8f3 hw, cx_8f4 hw, pk_us, pk_un, ne_eq, Nat.reduceEqDiff, not_false_eq_true, cp9_0, cp9_1, cp9_2, cp9_3, cp9_4, cp9_5, cp9_6, cp9_7, ks_eq, ks_ss]; try dsimp only [kx_wp, kx_step, kx_lI, kx_lL, kx_lA, kx_gl, kx_pI, kx_pL, kx_pR, kx_pA, kx_pV, kx_s1, kx_s2, kx_sl, kx_pre, kx_c2, kx_pl, kx_cmp, kx_oF, kx_eqN, kx_nil, kx_c1, kx_ft, kx_aI, kx_aL, kx_aR, kx_ln, Nat.reduceAdd, Option.toList, List.cons_append, List.nil_append, cf8_9, cf9_0, cf9_1, cf9_2, cf9_3, cf9_4, cf9_5, cf9_6, cf9_7])
      repeat' apply And.intro
      all_goals try (first | with_reducible assumption | (with_reducible refine ck_nzI ?_; simp; done) | (with_reducible refine ck_nzL ?_; simp; done) | (with_reducible refine vp_in_nI ?_ ?_ <;> first | omega | decide) | (with_reducible refine Nat.le_of_ble_eq_true ?_; rfl) | omega | exact Or.inl trivial | exact Or.inr trivial | exact Or.inl rfl | exact Or.inr rfl)
      refine kz_lds hK rfl 2 dX8_readNumbered_50 (by decide) rfl ?_
      refine hC.1 96 _ _ _ _ _ _ _ 8 _ _ _ _ _ _ _ _ _ _ _ _ lX8_96 (cx_wi_f hT h6 h7 hb hn 2 (by decide) w2) ⟨by decide, rfl⟩ (cx_8o) rfl rfl (Nat.le_of_ble_eq_true rfl) (by first | decide | omega) (by decide) (by omega) (by omega) dX8_readNumbered_52 ?_
      refine hB bX8_readNumbered_55 _ _ _ _ _ _ _ kX8_readNumbered_55 ?_
      dsimp only [bX8_readNumbered_55, kx_wp, kx_step, kx_lI, kx_lL, kx_lA, kx_gl, kx_pI, kx_pL, kx_pR, kx_pA, kx_pV, kx_s1, kx_s2, kx_sl, kx_pre, kx_c2, kx_pl, kx_cmp, kx_oF, kx_eqN, kx_nil, kx_c1, kx_ft, kx_aI, kx_aL, kx_aR, kx_ln, Nat.reduceAdd, Option.toList, List.cons_append, List.nil_append, cf8_9, cf9_0, cf9_1, cf9_2, cf9_3, cf9_4, cf9_5, cf9_6, cf9_7]
      repeat (simp only [cx_8o, cx_8s, cx_83 hw, cx_84 hw, cx_dq0 hw, cx_dq1 hw, cx_dq2 hw, cx_dp0 hw, cx_dp1 hw, cx_dp2 hw, cx_8f3 hw, cx_8f4 hw, pk_us, pk_un, ne_eq, Nat.reduceEqDiff, not_false_eq_true, cp9_0, cp9_1, cp9_2, cp9_3, cp9_4, cp9_5, cp9_6, cp9_7, ks_eq, ks_ss]; try dsimp only [kx_wp, kx_step, kx_lI, kx_lL, kx_lA, kx_gl, kx_pI, kx_pL, kx_pR, kx_pA, kx_pV, kx_s1, kx_s2, kx_sl, kx_pre, kx_c2, kx_pl, kx_cmp, kx_oF, kx_eqN, kx_nil, kx_c1, kx_ft, kx_aI, kx_aL, kx_aR, kx_ln, Nat.reduceAdd, Option.toList, List.cons_append, List.nil_append, cf8_9, cf9_0, cf9_1, cf9_2, cf9_3, cf9_4, cf9_5, cf9_6, cf9_7])
      repeat' apply And.intro
      all_goals try (first | with_reducible assumption | (with_reducible refine ck_nzI ?_; simp; done) | (with_reducible refine ck_nzL ?_; simp; done) | (with_reducible refine vp_in_nI ?_ ?_ <;> first | omega | decide) | (with_reducible refine Nat.le_of_ble_eq_true ?_; rfl) | omega | exact Or.inl trivial | exact Or.inr trivial | exact Or.inl rfl | exact Or.inr rfl)
      · intro zc55
        have ze55 := zc55
        refine hB bX8_readNumbered_72 _ _ _ _ _ _ _ kX8_readNumbered_72 ?_
        dsimp only [bX8_readNumbered_72, kx_wp, kx_step, kx_lI, kx_lL, kx_lA, kx_gl, kx_pI, kx_pL, kx_pR, kx_pA, kx_pV, kx_s1, kx_s2, kx_sl, kx_pre, kx_c2, kx_pl, kx_cmp, kx_oF, kx_eqN, kx_nil, kx_c1, kx_ft, kx_aI, kx_aL, kx_aR, kx_ln, Nat.reduceAdd, Option.toList, List.cons_append, List.nil_append, cf8_9, cf9_0, cf9_1, cf9_2, cf9_3, cf9_4, cf9_5, cf9_6, cf9_7]
        repeat (simp only [cx_8o, cx_8s, cx_83 hw, cx_84 hw, cx_dq0 hw, cx_dq1 hw, cx_dq2 hw, cx_dp0 hw, cx_dp1 hw, cx_dp2 hw, cx_8f3 hw, cx_8f4 hw, pk_us, pk_un, ne_eq, Nat.reduceEqDiff, not_false_eq_true, cp9_0, cp9_1, cp9_2, cp9_3, cp9_4, cp9_5, cp9_6, cp9_7, ks_eq, ks_ss]; try dsimp only [kx_wp, kx_step, kx_lI, kx_lL, kx_lA, kx_gl, kx_pI, kx_pL, kx_pR, kx_pA, kx_pV, kx_s1, kx_s2, kx_sl, kx_pre, kx_c2, kx_pl, kx_cmp, kx_oF, kx_eqN, kx_nil, kx_c1, kx_ft, kx_aI, kx_aL, kx_aR, kx_ln, Nat.reduceAdd, Option.toList, List.cons_append, List.nil_append, cf8_9, cf9_0, cf9_1, cf9_2, cf9_3, cf9_4, cf9_5, cf9_6, cf9_7])
        repeat' apply And.intro
        all_goals try (first | with_reducible assumption | (with_reducible refine ck_nzI ?_; simp; done) | (with_reducible refine ck_nzL ?_; simp; done) | (with_reducible refine vp_in_nI ?_ ?_ <;> first | omega | decide) | (with_reducible refine Nat.le_of_ble_eq_true ?_; rfl) | omega | exact Or.inl trivial | exact Or.inr trivial | exact Or.inl rfl | exact Or.inr rfl)
        refine kz_lds hK rfl 3 dX8_readNumbered_73 (by decide) rfl ?_
        refine hC.1 96 _ _ _ _ _ _ _ 8 _ _ _ _ _ _ _ _ _ _ _ _ lX8_96 (cx_wi_f hT h6 h7 hb hn 3 (by decide) w3) ⟨by decide, rfl⟩ (cx_8o) rfl rfl (Nat.le_of_ble_eq_true rfl) (by first | decide | omega) (by decide) (by omega) (by omega) dX8_readNumbered_75 ?_
        refine hB bX8_readNumbered_78 _ _ _ _ _ _ _ kX8_readNumbered_78 ?_
        dsimp only [bX8_readNumbered_78, kx_wp, kx_step, kx_lI, kx_lL, kx_lA, kx_gl, kx_pI, kx_pL, kx_pR, kx_pA, kx_pV, kx_s1, kx_s2, kx_sl, kx_pre, kx_c2, kx_pl, kx_cmp, kx_oF, kx_eqN, kx_nil, kx_c1, kx_ft, kx_aI, kx_aL, kx_aR, kx_ln, Nat.reduceAdd, Option.toList, List.cons_append, List.nil_append, cf8_9, cf9_0, cf9_1, cf9_2, cf9_3, cf9_4, cf9_5, cf9_6, cf9_7]
        repeat (simp only [cx_8o, cx_8s, cx_83 hw, cx_84 hw, cx_dq0 hw, cx_dq1 hw, cx_dq2 hw, cx_dp0 hw, cx_dp1 hw, cx_dp2 hw, cx_8f3 hw, cx_8f4 hw, pk_us, pk_un, ne_eq, Nat.reduceEqDiff, not_false_eq_true, cp9_0, cp9_1, cp9_2, cp9_3, cp9_4, cp9_5, cp9_6, cp9_7, ks_eq, ks_ss]; try dsimp only [kx_wp, kx_step, kx_lI, kx_lL, kx_lA, kx_gl, kx_pI, kx_pL, kx_pR, kx_pA, kx_pV, kx_s1, kx_s2, kx_sl, kx_pre, kx_c2, kx_pl, kx_cmp, kx_oF, kx_eqN, kx_nil, kx_c1, kx_ft, kx_aI, kx_aL, kx_aR, kx_ln, Nat.reduceAdd, Option.toList, List.cons_append, List.nil_append, cf8_9, cf9_0, cf9_1, cf9_2, cf9_3, cf9_4, cf9_5, cf9_6, cf9_7])
        repeat' apply And.intro
        all_goals try (first | with_reducible assumption | (with_reducible refine ck_nzI ?_; simp; done) | (with_reducible refine ck_nzL ?_; simp; done) | (with_reducible refine vp_in_nI ?_ ?_ <;> first | omega | decide) | (with_reducible refine Nat.le_of_ble_eq_true ?_; rfl) | omega | exact Or.inl trivial | exact Or.inr trivial | exact Or.inl rfl | exact Or.inr rfl)
        · intro zc78
          have ze78 := zc78
          refine hB bX8_readNumbered_99 _ _ _ _ _ _ _ kX8_readNumbered_99 ?_
          dsimp only [bX8_readNumbered_99, kx_wp, kx_step, kx_lI, kx_lL, kx_lA, kx_gl, kx_pI, kx_pL, kx_pR, kx_pA, kx_pV, kx_s1, kx_s2, kx_sl, kx_pre, kx_c2, kx_pl, kx_cmp, kx_oF, kx_eqN, kx_nil, kx_c1, kx_ft, kx_aI, kx_aL, kx_aR, kx_ln, Nat.reduceAdd, Option.toList, List.cons_append, List.nil_append, cf8_9, cf9_0, cf9_1, cf9_2, cf9_3, cf9_4, cf9_5, cf9_6, cf9_7]
          repeat (simp only [cx_8o, cx_8s, cx_83 hw, cx_84 hw, cx_dq0 hw, cx_dq1 hw, cx_dq2 hw, cx_dp0 hw, cx_dp1 hw, cx_dp2 hw, cx_8f3 hw, cx_8f4 hw, pk_us, pk_un, ne_eq, Nat.reduceEqDiff, not_false_eq_true, cp9_0, cp9_1, cp9_2, cp9_3, cp9_4, cp9_5, cp9_6, cp9_7, ks_eq, ks_ss]; try dsimp only [kx_wp, kx_step, kx_lI, kx_lL, kx_lA, kx_gl, kx_pI, kx_pL, kx_pR, kx_pA, kx_pV, kx_s1, kx_s2, kx_sl, kx_pre, kx_c2, kx_pl, kx_cmp, kx_oF, kx_eqN, kx_nil, kx_c1, kx_ft, kx_aI, kx_aL, kx_aR, kx_ln, Nat.reduceAdd, Option.toList, List.cons_append, List.nil_append, cf8_9, cf9_0, cf9_1, cf9_2, cf9_3, cf9_4, cf9_5, cf9_6, cf9_7])
          repeat' apply And.intro
          all_goals try (first | with_reducible assumption | (with_reducible refine ck_nzI ?_; simp; done) | (with_reducible refine ck_nzL ?_; simp; done) | (with_reducible refine vp_in_nI ?_ ?_ <;> first | omega | decide) | (with_reducible refine Nat.le_of_ble_eq_true ?_; rfl) | omega | exact Or.inl trivial | exact Or.inr trivial | exact Or.inl rfl | exact Or.inr rfl)
          refine kz_lds hK rfl 4 dX8_readNumbered_100 (by decide) rfl ?_
          refine hC.1 96 _ _ _ _ _ _ _ 8 _ _ _ _ _ _ _ _ _ _ _ _ lX8_96 (cx_wi_f hT h6 h7 hb hn 4 (by decide) w4) ⟨by decide, rfl⟩ (cx_8o) rfl rfl (Nat.le_of_ble_eq_true rfl) (by first | decide | omega) (by decide) (by omega) (by omega) dX8_readNumbered_102 ?_
          refine hB bX8_readNumbered_105 _ _ _ _ _ _ _ kX8_readNumbered_105 ?_
          dsimp only [bX8_readNumbered_105, kx_wp, kx_step, kx_lI, kx_lL, kx_lA, kx_gl, kx_pI, kx_pL, kx_pR, kx_pA, kx_pV, kx_s1, kx_s2, kx_sl, kx_pre, kx_c2, kx_pl, kx_cmp, kx_oF, kx_eqN, kx_nil, kx_c1, kx_ft, kx_aI, kx_aL, kx_aR, kx_ln, Nat.reduceAdd, Option.toList, List.cons_append, List.nil_append, cf8_9, cf9_0, cf9_1, cf9_2, cf9_3, cf9_4, cf9_5, cf9_6, cf9_7]
          repeat (simp only [cx_8o, cx_8s, cx_83 hw, cx_84 hw, cx_dq0 hw, cx_dq1 hw, cx_dq2 hw, cx_dp0 hw, cx_dp1 hw, cx_dp2 hw, cx_8f3 hw, cx_8f4 hw, pk_us, pk_un, ne_eq, Nat.reduceEqDiff, not_false_eq_true, cp9_0, cp9_1, cp9_2, cp9_3, cp9_4, cp9_5, cp9_6, cp9_7, ks_eq, ks_ss]; try dsimp only [kx_wp, kx_step, kx_lI, kx_lL, kx_lA, kx_gl, kx_pI, kx_pL, kx_pR, kx_pA, kx_pV, kx_s1, kx_s2, kx_sl, kx_pre, kx_c2, kx_pl, kx_cmp, kx_oF, kx_eqN, kx_nil, kx_c1, kx_ft, kx_aI, kx_aL, kx_aR, kx_ln, Nat.reduceAdd, Option.toList, List.cons_append, List.nil_append, cf8_9, cf9_0, cf9_1, cf9_2, cf9_3, cf9_4, cf9_5, cf9_6, cf9_7])
          repeat' apply And.intro
          all_goals try (first | with_reducible assumption | (with_reducible refine ck_nzI ?_; simp; done) | (with_reducible refine ck_nzL ?_; simp; done) | (with_reducible refine vp_in_nI ?_ ?_ <;> first | omega | decide) | (with_reducible refine Nat.le_of_ble_eq_true ?_; rfl) | omega | exact Or.inl trivial | exact Or.inr trivial | exact Or.inl rfl | exact Or.inr rfl)
          · intro zc105
            have ze105 := zc105
            refine hB bX8_readNumbered_126 _ _ _ _ _ _ _ kX8_readNumbered_126 ?_
            dsimp only [bX8_readNumbered_126, kx_wp, kx_step, kx_lI, kx_lL, kx_lA, kx_gl, kx_pI, kx_pL, kx_pR, kx_pA, kx_pV, kx_s1, kx_s2, kx_sl, kx_pre, kx_c2, kx_pl, kx_cmp, kx_oF, kx_eqN, kx_nil, kx_c1, kx_ft, kx_aI, kx_aL, kx_aR, kx_ln, Nat.reduceAdd, Option.toList, List.cons_append, List.nil_append, cf8_9, cf9_0, cf9_1, cf9_2, cf9_3, cf9_4, cf9_5, cf9_6, cf9_7]
            repeat (simp only [cx_8o, cx_8s, cx_83 hw, cx_84 hw, cx_dq0 hw, cx_dq1 hw, cx_dq2 hw, cx_dp0 hw, cx_dp1 hw, cx_dp2 hw, cx_8f3 hw, cx_8f4 hw, pk_us, pk_un, ne_eq, Nat.reduceEqDiff, not_false_eq_true, cp9_0, cp9_1, cp9_2, cp9_3, cp9_4, cp9_5, cp9_6, cp9_7, ks_eq, ks_ss]; try dsimp only [kx_wp, kx_step, kx_lI, kx_lL, kx_lA, kx_gl, kx_pI, kx_pL, kx_pR, kx_pA, kx_pV, kx_s1, kx_s2, kx_sl, kx_pre, kx_c2, kx_pl, kx_cmp, kx_oF, kx_eqN, kx_nil, kx_c1, kx_ft, kx_aI, kx_aL, kx_aR, kx_ln, Nat.reduceAdd, Option.toList, List.cons_append, List.nil_append, cf8_9, cf9_0, cf9_1, cf9_2, cf9_3, cf9_4, cf9_5, cf9_6, cf9_7])
            repeat' apply And.intro
            all_goals try (first | with_reducible assumption | (with_reducible refine ck_nzI ?_; simp; done) | (with_reducible refine ck_nzL ?_; simp; done) | (with_reducible refine vp_in_nI ?_ ?_ <;> first | omega | decide) | (with_reducible refine Nat.le_of_ble_eq_true ?_; rfl) | omega | exact Or.inl trivial | exact Or.inr trivial | exact Or.inl rfl | exact Or.inr rfl)
            refine kz_lds hK rfl 5 dX8_readNumbered_127 (by decide) rfl ?_
            refine hC.1 96 _ _ _ _ _ _ _ 8 _ _ _ _ _ _ _ _ _ _ _ _ lX8_96 (cx_wi_t hT h6 h7 hb hn 5 (by decide) w5) ⟨by decide, rfl⟩ (cx_8o) rfl rfl (Nat.le_of_ble_eq_true rfl) (by first | decide | omega) (by decide) (by omega) (by omega) dX8_readNumbered_129 ?_
            refine hB bX8_readNumbered_132 _ _ _ _ _ _ _ kX8_readNumbered_132 ?_
            dsimp only [bX8_readNumbered_132, kx_wp, kx_step, kx_lI, kx_lL, kx_lA, kx_gl, kx_pI, kx_pL, kx_pR, kx_pA, kx_pV, kx_s1, kx_s2, kx_sl, kx_pre, kx_c2, kx_pl, kx_cmp, kx_oF, kx_eqN, kx_nil, kx_c1, kx_ft, kx_aI, kx_aL, kx_aR, kx_ln, Nat.reduceAdd, Option.toList, List.cons_append, List.nil_append, cf8_9, cf9_0, cf9_1, cf9_2, cf9_3, cf9_4, cf9_5, cf9_6, cf9_7]
            repeat (simp only [cx_8o, cx_8s, cx_83 hw, cx_84 hw, cx_dq0 hw, cx_dq1 hw, cx_dq2 hw, cx_dp0 hw, cx_dp1 hw, cx_dp2 hw, cx_8f3 hw, cx_8f4 hw, pk_us, pk_un, ne_eq, Nat.reduceEqDiff, not_false_eq_true, cp9_0, cp9_1, cp9_2, cp9_3, cp9_4, cp9_5, cp9_6, cp9_7, ks_eq, ks_ss]; try dsimp only [kx_wp, kx_step, kx_lI, kx_lL, kx_lA, kx_gl, kx_pI, kx_pL, kx_pR, kx_pA, kx_pV, kx_s1, kx_s2, kx_sl, kx_pre, kx_c2, kx_pl, kx_cmp, kx_oF, kx_eqN, kx_nil, kx_c1, kx_ft, kx_aI, kx_aL, kx_aR, kx_ln, Nat.reduceAdd, Option.toList, List.cons_append, List.nil_append, cf8_9, cf9_0, cf9_1, cf9_2, cf9_3, cf9_4, cf9_5, cf9_6, cf9_7])
            repeat' apply And.intro
            all_goals try (first | with_reducible assumption | (with_reducible refine ck_nzI ?_; simp; done) | (with_reducible refine ck_nzL ?_; simp; done) | (with_reducible refine vp_in_nI ?_ ?_ <;> first | omega | decide) | (with_reducible refine Nat.le_of_ble_eq_true ?_; rfl) | omega | exact Or.inl trivial | exact Or.inr trivial | exact Or.inl rfl | exact Or.inr rfl)
            · intro zc132
              first | exact absurd rfl zc132 | exact absurd zc132 (by decide) | exact absurd (by decide) zc132 | (exfalso; ((try clear hB hC); simp only [ck_lt, ck_le, ck_eq, not_true_eq_false, not_false_eq_true, Int32.reduceToInt, Int32.reduceAdd, Int32.reduceSub, Int32.reduceMul] at * <;> omega)) | (exfalso; simp_all; done)
            · intro zc132
              have ze132 := zc132
              refine hB bX8_readNumbered_135 _ _ _ _ _ _ _ kX8_readNumbered_135 ?_
              dsimp only [bX8_readNumbered_135, kx_wp, kx_step, kx_lI, kx_lL, kx_lA, kx_gl, kx_pI, kx_pL, kx_pR, kx_pA, kx_pV, kx_s1, kx_s2, kx_sl, kx_pre, kx_c2, kx_pl, kx_cmp, kx_oF, kx_eqN, kx_nil, kx_c1, kx_ft, kx_aI, kx_aL, kx_aR, kx_ln, Nat.reduceAdd, Option.toList, List.cons_append, List.nil_append, cf8_9, cf9_0, cf9_1, cf9_2, cf9_3, cf9_4, cf9_5, cf9_6, cf9_7]
              repeat (simp only [cx_8o, cx_8s, cx_83 hw, cx_84 hw, cx_dq0 hw, cx_dq1 hw, cx_dq2 hw, cx_dp0 hw, cx_dp1 hw, cx_dp2 hw, cx_8f3 hw, cx_8f4 hw, pk_us, pk_un, ne_eq, Nat.reduceEqDiff, not_false_eq_true, cp9_0, cp9_1, cp9_2, cp9_3, cp9_4, cp9_5, cp9_6, cp9_7, ks_eq, ks_ss]; try dsimp only [kx_wp, kx_step, kx_lI, kx_lL, kx_lA, kx_gl, kx_pI, kx_pL, kx_pR, kx_pA, kx_pV, kx_s1, kx_s2, kx_sl, kx_pre, kx_c2, kx_pl, kx_cmp, kx_oF, kx_eqN, kx_nil, kx_c1, kx_ft, kx_aI, kx_aL, kx_aR, kx_ln, Nat.reduceAdd, Option.toList, List.cons_append, List.nil_append, cf8_9, cf9_0, cf9_1, cf9_2, cf9_3, cf9_4, cf9_5, cf9_6, cf9_7])
              repeat' apply And.intro
              all_goals try (first | with_reducible assumption | (with_reducible refine ck_nzI ?_; simp; done) | (with_reducible refine ck_nzL ?_; simp; done) | (with_reducible refine vp_in_nI ?_ ?_ <;> first | omega | decide) | (with_reducible refine Nat.le_of_ble_eq_true ?_; rfl) | omega | exact Or.inl trivial | exact Or.inr trivial | exact Or.inl rfl | exact Or.inr rfl)
              refine hC.1 85 _ _ _ _ _ _ _ 8 _ _ _ _ _ _ _ _ _ _ _ _ lX8_85 (hM) ⟨by decide, rfl⟩ (cx_8o) rfl rfl (Nat.le_of_ble_eq_true rfl) (by first | decide | omega) (by decide) (by omega) (by omega) dX8_readNumbered_143 ?_
              refine hB bX8_readNumbered_146 _ _ _ _ _ _ _ kX8_readNumbered_146 ?_
              dsimp only [bX8_readNumbered_146, kx_wp, kx_step, kx_lI, kx_lL, kx_lA, kx_gl, kx_pI, kx_pL, kx_pR, kx_pA, kx_pV, kx_s1, kx_s2, kx_sl, kx_pre, kx_c2, kx_pl, kx_cmp, kx_oF, kx_eqN, kx_nil, kx_c1, kx_ft, kx_aI, kx_aL, kx_aR, kx_ln, Nat.reduceAdd, Option.toList, List.cons_append, List.nil_append, cf8_9, cf9_0, cf9_1, cf9_2, cf9_3, cf9_4, cf9_5, cf9_6, cf9_7]
              repeat (simp only [cx_8o, cx_8s, cx_83 hw, cx_84 hw, cx_dq0 hw, cx_dq1 hw, cx_dq2 hw, cx_dp0 hw, cx_dp1 hw, cx_dp2 hw, cx_8f3 hw, cx_8f4 hw, pk_us, pk_un, ne_eq, Nat.reduceEqDiff, not_false_eq_true, cp9_0, cp9_1, cp9_2, cp9_3, cp9_4, cp9_5, cp9_6, cp9_7, ks_eq, ks_ss]; try dsimp only [kx_wp, kx_step, kx_lI, kx_lL, kx_lA, kx_gl, kx_pI, kx_pL, kx_pR, kx_pA, kx_pV, kx_s1, kx_s2, kx_sl, kx_pre, kx_c2, kx_pl, kx_cmp, kx_oF, kx_eqN, kx_nil, kx_c1, kx_ft, kx_aI, kx_aL, kx_aR, kx_ln, Nat.reduceAdd, Option.toList, List.cons_append, List.nil_append, cf8_9, cf9_0, cf9_1, cf9_2, cf9_3, cf9_4, cf9_5, cf9_6, cf9_7])
              repeat' apply And.intro
              all_goals try (first | with_reducible assumption | (with_reducible refine ck_nzI ?_; simp; done) | (with_reducible refine ck_nzL ?_; simp; done) | (with_reducible refine vp_in_nI ?_ ?_ <;> first | omega | decide) | (with_reducible refine Nat.le_of_ble_eq_true ?_; rfl) | omega | exact Or.inl trivial | exact Or.inr trivial | exact Or.inl rfl | exact Or.inr rfl)
              refine hB bX8_readNumbered_194 _ _ _ _ _ _ _ kX8_readNumbered_194 ?_
              dsimp only [bX8_readNumbered_194, kx_wp, kx_step, kx_lI, kx_lL, kx_lA, kx_gl, kx_pI, kx_pL, kx_pR, kx_pA, kx_pV, kx_s1, kx_s2, kx_sl, kx_pre, kx_c2, kx_pl, kx_cmp, kx_oF, kx_eqN, kx_nil, kx_c1, kx_ft, kx_aI, kx_aL, kx_aR, kx_ln, Nat.reduceAdd, Option.toList, List.cons_append, List.nil_append, cf8_9, cf9_0, cf9_1, cf9_2, cf9_3, cf9_4, cf9_5, cf9_6, cf9_7]
              repeat (simp only [cx_8o, cx_8s, cx_83 hw, cx_84 hw, cx_dq0 hw, cx_dq1 hw, cx_dq2 hw, cx_dp0 hw, cx_dp1 hw, cx_dp2 hw, cx_8f3 hw, cx_8f4 hw, pk_us, pk_un, ne_eq, Nat.reduceEqDiff, not_false_eq_true, cp9_0, cp9_1, cp9_2, cp9_3, cp9_4, cp9_5, cp9_6, cp9_7, ks_eq, ks_ss]; try dsimp only [kx_wp, kx_step, kx_lI, kx_lL, kx_lA, kx_gl, kx_pI, kx_pL, kx_pR, kx_pA, kx_pV, kx_s1, kx_s2, kx_sl, kx_pre, kx_c2, kx_pl, kx_cmp, kx_oF, kx_eqN, kx_nil, kx_c1, kx_ft, kx_aI, kx_aL, kx_aR, kx_ln, Nat.reduceAdd, Option.toList, List.cons_append, List.nil_append, cf8_9, cf9_0, cf9_1, cf9_2, cf9_3, cf9_4, cf9_5, cf9_6, cf9_7])
              all_goals (repeat' apply And.intro)
              all_goals ((try clear hB hC); first | exact True.intro | rfl)
          · intro zc105
            first | exact absurd rfl zc105 | exact absurd zc105 (by decide) | exact absurd (by decide) zc105 | (exfalso; ((try clear hB hC); simp only [ck_lt, ck_le, ck_eq, not_true_eq_false, not_false_eq_true, Int32.reduceToInt, Int32.reduceAdd, Int32.reduceSub, Int32.reduceMul] at * <;> omega)) | (exfalso; simp_all; done)
        · intro zc78
          first | exact absurd rfl zc78 | exact absurd zc78 (by decide) | exact absurd (by decide) zc78 | (exfalso; ((try clear hB hC); simp only [ck_lt, ck_le, ck_eq, not_true_eq_false, not_false_eq_true, Int32.reduceToInt, Int32.reduceAdd, Int32.reduceSub, Int32.reduceMul] at * <;> omega)) | (exfalso; simp_all; done)
      · intro zc55
        first | exact absurd rfl zc55 | exact absurd zc55 (by decide) | exact absurd (by decide) zc55 | (exfalso; ((try clear hB hC); simp only [ck_lt, ck_le, ck_eq, not_true_eq_false, not_false_eq_true, Int32.reduceToInt, Int32.reduceAdd, Int32.reduceSub, Int32.reduceMul] at * <;> omega)) | (exfalso; simp_all; done)
    · intro zc32
      first | exact absurd rfl zc32 | exact absurd zc32 (by decide) | exact absurd (by decide) zc32 | (exfalso; ((try clear hB hC); simp only [ck_lt, ck_le, ck_eq, not_true_eq_false, not_false_eq_true, Int32.reduceToInt, Int32.reduceAdd, Int32.reduceSub, Int32.reduceMul] at * <;> omega)) | (exfalso; simp_all; done)
  · intro zc6
    first | exact absurd rfl zc6 | exact absurd zc6 (by decide) | exact absurd (by decide) zc6 | (exfalso; ((try clear hB hC); simp only [ck_lt, ck_le, ck_eq, not_true_eq_false, not_false_eq_true, Int32.reduceToInt, Int32.reduceAdd, Int32.reduceSub, Int32.reduceMul] at * <;> omega)) | (exfalso; simp_all; done)

set_option maxRecDepth 100000 in
set_option maxHeartbeats 4000000 in
theorem cn_6 (l : Launch) (G : kx_G) {P : kx_P} {sz : Nat} {Q : kx_P} {w : Nat} (hw : 144 ≤ w) {F F2 V te qu Fo st T : Nat → Int32} (hT : cx_fW (cx_vW Q w V te qu) w Fo st 67 = kI 0 400 T) {n b : Nat} (h6 : F 6 = nI b) (h7 : F 7 = nI (ck_ps T n b)) (hb : b ≤ n) (hn : n ≤ 400) {v : Int32} (w0 : ¬ ck_wo_ T n b = kz_co 0) (w1 : ¬ ck_wo_ T n b = kz_co 1) (w2 : ¬ ck_wo_ T n b = kz_co 2) (w3 : ¬ ck_wo_ T n b = kz_co 3) (w4 : ¬ ck_wo_ T n b = kz_co 4) (w5 : ¬ ck_wo_ T n b = kz_co 5) (w6 : ck_wo_ T n b = kz_co 6) (hM : kx_M l G sX8_takeNumber 2 0 0 [.ref 68, .int 1, .int 2000] (cx_8 (cx_fW (cx_vW Q w (V) (te) (qu)) w (Fo) (st)) (.ref w) (F)) sz (some (.int v)) (cx_8 (cx_fW (cx_vW Q w (V) (te) (qu)) w (Fo) (st)) (.ref w) (F2)) sz)  : kx_M l G sX8_readNumbered 6 0 0 [.ref 68] (cx_8 (cx_fW (cx_vW Q w (V) (te) (qu)) w (Fo) (st)) (.ref w) (F)) sz none (cx_8 (cx_fW (cx_vW Q w (upd V 6 v) (te) (qu)) w (Fo) (st)) (.ref w) (F2)) sz := by
  refine kz_m2d kx_tab kxLok_X8 (ini := false) [some (.ref 68)] ⟨by decide +kernel, rfl, by decide, by decide⟩ (Or.inl rfl) rfl rfl (fun g hB hC hK => ?_)
  refine hB bX8_readNumbered_0 _ _ _ _ _ _ _ kX8_readNumbered_0 ?_
  dsimp only [bX8_readNumbered_0, kx_wp, kx_step, kx_lI, kx_lL, kx_lA, kx_gl, kx_pI, kx_pL, kx_pR, kx_pA, kx_pV, kx_s1, kx_s2, kx_sl, kx_pre, kx_c2, kx_pl, kx_cmp, kx_oF, kx_eqN, kx_nil, kx_c1, kx_ft, kx_aI, kx_aL, kx_aR, kx_ln, Nat.reduceAdd, Option.toList, List.cons_append, List.nil_append, cf8_9, cf9_0, cf9_1, cf9_2, cf9_3, cf9_4, cf9_5, cf9_6, cf9_7]
  repeat (simp only [cx_8o, cx_8s, cx_83 hw, cx_84 hw, cx_dq0 hw, cx_dq1 hw, cx_dq2 hw, cx_dp0 hw, cx_dp1 hw, cx_dp2 hw, cx_8f3 hw, cx_8f4 hw, pk_us, pk_un, ne_eq, Nat.reduceEqDiff, not_false_eq_true, cp9_0, cp9_1, cp9_2, cp9_3, cp9_4, cp9_5, cp9_6, cp9_7, ks_eq, ks_ss]; try dsimp only [kx_wp, kx_step, kx_lI, kx_lL, kx_lA, kx_gl, kx_pI, kx_pL, kx_pR, kx_pA, kx_pV, kx_s1, kx_s2, kx_sl, kx_pre, kx_c2, kx_pl, kx_cmp, kx_oF, kx_eqN, kx_nil, kx_c1, kx_ft, kx_aI, kx_aL, kx_aR, kx_ln, Nat.reduceAdd, Option.toList, List.cons_append, List.nil_append, cf8_9, cf9_0, cf9_1, cf9_2, cf9_3, cf9_4, cf9_5, cf9_6, cf9_7])
  repeat' apply And.intro
  all_goals try (first | with_reducible assumption | (with_reducible refine ck_nzI ?_; simp; done) | (with_reducible refine ck_nzL ?_; simp; done) | (with_reducible refine vp_in_nI ?_ ?_ <;> first | omega | decide) | (with_reducible refine Nat.le_of_ble_eq_true ?_; rfl) | omega | exact Or.inl trivial | exact Or.inr trivial | exact Or.inl rfl | exact Or.inr rfl)
  refine kz_lds hK rfl 0 dX8_readNumbered_1 (by decide) rfl ?_
  refine hC.1 96 _ _ _ _ _ _ _ 8 _ _ _ _ _ _ _ _ _ _ _ _ lX8_96 (cx_wi_f hT h6 h7 hb hn 0 (by decide) w0) ⟨by decide, rfl⟩ (cx_8o) rfl rfl (Nat.le_of_ble_eq_true rfl) (by first | decide | omega) (by decide) (by omega) (by omega) dX8_readNumbered_3 ?_
  refine hB bX8_readNumbered_6 _ _ _ _ _ _ _ kX8_readNumbered_6 ?_
  dsimp only [bX8_readNumbered_6, kx_wp, kx_step, kx_lI, kx_lL, kx_lA, kx_gl, kx_pI, kx_pL, kx_pR, kx_pA, kx_pV, kx_s1, kx_s2, kx_sl, kx_pre, kx_c2, kx_pl, kx_cmp, kx_oF, kx_eqN, kx_nil, kx_c1, kx_ft, kx_aI, kx_aL, kx_aR, kx_ln, Nat.reduceAdd, Option.toList, List.cons_append, List.nil_append, cf8_9, cf9_0, cf9_1, cf9_2, cf9_3, cf9_4, cf9_5, cf9_6, cf9_7]
  repeat (simp only [cx_8o, cx_8s, cx_83 hw, cx_84 hw, cx_dq0 hw, cx_dq1 hw, cx_dq2 hw, cx_dp0 hw, cx_dp1 hw, cx_dp2 hw, cx_8f3 hw, cx_8f4 hw, pk_us, pk_un, ne_eq, Nat.reduceEqDiff, not_false_eq_true, cp9_0, cp9_1, cp9_2, cp9_3, cp9_4, cp9_5, cp9_6, cp9_7, ks_eq, ks_ss]; try dsimp only [kx_wp, kx_step, kx_lI, kx_lL, kx_lA, kx_gl, kx_pI, kx_pL, kx_pR, kx_pA, kx_pV, kx_s1, kx_s2, kx_sl, kx_pre, kx_c2, kx_pl, kx_cmp, kx_oF, kx_eqN, kx_nil, kx_c1, kx_ft, kx_aI, kx_aL, kx_aR, kx_ln, Nat.reduceAdd, Option.toList, List.cons_append, List.nil_append, cf8_9, cf9_0, cf9_1, cf9_2, cf9_3, cf9_4, cf9_5, cf9_6, cf9_7])
  repeat' apply And.intro
  all_goals try (first | with_reducible assumption | (with_reducible refine ck_nzI ?_; simp; done) | (with_reducible refine ck_nzL ?_; simp; done) | (with_reducible refine vp_in_nI ?_ ?_ <;> first | omega | decide) | (with_reducible refine Nat.le_of_ble_eq_true ?_; rfl) | omega | exact Or.inl trivial | exact Or.inr trivial | exact Or.inl rfl | exact Or.inr rfl)
  · intro zc6
    have ze6 := zc6
    refine hB bX8_readNumbered_26 _ _ _ _ _ _ _ kX8_readNumbered_26 ?_
    dsimp only [bX8_readNumbered_26, kx_wp, kx_step, kx_lI, kx_lL, kx_lA, kx_gl, kx_pI, kx_pL, kx_pR, kx_pA, kx_pV, kx_s1, kx_s2, kx_sl, kx_pre, kx_c2, kx_pl, kx_cmp, kx_oF, kx_eqN, kx_nil, kx_c1, kx_ft, kx_aI, kx_aL, kx_aR, kx_ln, Nat.reduceAdd, Option.toList, List.cons_append, List.nil_append, cf8_9, cf9_0, cf9_1, cf9_2, cf9_3, cf9_4, cf9_5, cf9_6, cf9_7]
    repeat (simp only [cx_8o, cx_8s, cx_83 hw, cx_84 hw, cx_dq0 hw, cx_dq1 hw, cx_dq2 hw, cx_dp0 hw, cx_dp1 hw, cx_dp2 hw, cx_8f3 hw, cx_8f4 hw, pk_us, pk_un, ne_eq, Nat.reduceEqDiff, not_false_eq_true, cp9_0, cp9_1, cp9_2, cp9_3, cp9_4, cp9_5, cp9_6, cp9_7, ks_eq, ks_ss]; try dsimp only [kx_wp, kx_step, kx_lI, kx_lL, kx_lA, kx_gl, kx_pI, kx_pL, kx_pR, kx_pA, kx_pV, kx_s1, kx_s2, kx_sl, kx_pre, kx_c2, kx_pl, kx_cmp, kx_oF, kx_eqN, kx_nil, kx_c1, kx_ft, kx_aI, kx_aL, kx_aR, kx_ln, Nat.reduceAdd, Option.toList, List.cons_append, List.nil_append, cf8_9, cf9_0, cf9_1, cf9_2, cf9_3, cf9_4, cf9_5, cf9_6, cf9_7])
    repeat' apply And.intro
    all_goals try (first | with_reducible assumption | (with_reducible refine ck_nzI ?_; simp; done) | (with_reducible refine ck_nzL ?_; simp; done) | (with_reducible refine vp_in_nI ?_ ?_ <;> first | omega | decide) | (with_reducible refine Nat.le_of_ble_eq_true ?_; rfl) | omega | exact Or.inl trivial | exact Or.inr trivial | exact Or.inl rfl | exact Or.inr rfl)
    refine kz_lds hK rfl 1 dX8_readNumbered_27 (by decide) rfl ?_
    refine hC.1 96 _ _ _ _ _ _ _ 8 _ _ _ _ _ _ _ _ _ _ _ _ lX8_96 (cx_wi_f hT h6 h7 hb hn 1 (by decide) w1) ⟨by decide, rfl⟩ (cx_8o) rfl rfl (Nat.le_of_ble_eq_true rfl) (by first | decide | omega) (by decide) (by omega) (by omega) dX8_readNumbered_29 ?_
    refine hB bX8_readNumbered_32 _ _ _ _ _ _ _ kX8_readNumbered_32 ?_
    dsimp only [bX8_readNumbered_32, kx_wp, kx_step, kx_lI, kx_lL, kx_lA, kx_gl, kx_pI, kx_pL, kx_pR, kx_pA, kx_pV, kx_s1, kx_s2, kx_sl, kx_pre, kx_c2, kx_pl, kx_cmp, kx_oF, kx_eqN, kx_nil, kx_c1, kx_ft, kx_aI, kx_aL, kx_aR, kx_ln, Nat.reduceAdd, Option.toList, List.cons_append, List.nil_append, cf8_9, cf9_0, cf9_1, cf9_2, cf9_3, cf9_4, cf9_5, cf9_6, cf9_7]
    repeat (simp only [cx_8o, cx_8s, cx_83 hw, cx_84 hw, cx_dq0 hw, cx_dq1 hw, cx_dq2 hw, cx_dp0 hw, cx_dp1 hw, cx_dp2 hw, cx_8f3 hw, cx_8f4 hw, pk_us, pk_un, ne_eq, Nat.reduceEqDiff, not_false_eq_true, cp9_0, cp9_1, cp9_2, cp9_3, cp9_4, cp9_5, cp9_6, cp9_7, ks_eq, ks_ss]; try dsimp only [kx_wp, kx_step, kx_lI, kx_lL, kx_lA, kx_gl, kx_pI, kx_pL, kx_pR, kx_pA, kx_pV, kx_s1, kx_s2, kx_sl, kx_pre, kx_c2, kx_pl, kx_cmp, kx_oF, kx_eqN, kx_nil, kx_c1, kx_ft, kx_aI, kx_aL, kx_aR, kx_ln, Nat.reduceAdd, Option.toList, List.cons_append, List.nil_append, cf8_9, cf9_0, cf9_1, cf9_2, cf9_3, cf9_4, cf9_5, cf9_6, cf9_7])
    repeat' apply And.intro
    all_goals try (first | with_reducible assumption | (with_reducible refine ck_nzI ?_; simp; done) | (with_reducible refine ck_nzL ?_; simp; done) | (with_reducible refine vp_in_nI ?_ ?_ <;> first | omega | decide) | (with_reducible refine Nat.le_of_ble_eq_true ?_; rfl) | omega | exact Or.inl trivial | exact Or.inr trivial | exact Or.inl rfl | exact Or.inr rfl)
    · intro zc32
      have ze32 := zc32
      refine hB bX8_readNumbered_49 _ _ _ _ _ _ _ kX8_readNumbered_49 ?_
      dsimp only [bX8_readNumbered_49, kx_wp, kx_step, kx_lI, kx_lL, kx_lA, kx_gl, kx_pI, kx_pL, kx_pR, kx_pA, kx_pV, kx_s1, kx_s2, kx_sl, kx_pre, kx_c2, kx_pl, kx_cmp, kx_oF, kx_eqN, kx_nil, kx_c1, kx_ft, kx_aI, kx_aL, kx_aR, kx_ln, Nat.reduceAdd, Option.toList, List.cons_append, List.nil_append, cf8_9, cf9_0, cf9_1, cf9_2, cf9_3, cf9_4, cf9_5, cf9_6, cf9_7]
      repeat (simp only [cx_8o, cx_8s, cx_83 hw, cx_84 hw, cx_dq0 hw, cx_dq1 hw, cx_dq2 hw, cx_dp0 hw, cx_dp1 hw, cx_dp2 hw, cx_8f3 hw, cx_8f4 hw, pk_us, pk_un, ne_eq, Nat.reduceEqDiff, not_false_eq_true, cp9_0, cp9_1, cp9_2, cp9_3, cp9_4, cp9_5, cp9_6, cp9_7, ks_eq, ks_ss]; try dsimp only [kx_wp, kx_step, kx_lI, kx_lL, kx_lA, kx_gl, kx_pI, kx_pL, kx_pR, kx_pA, kx_pV, kx_s1, kx_s2, kx_sl, kx_pre, kx_c2, kx_pl, kx_cmp, kx_oF, kx_eqN, kx_nil, kx_c1, kx_ft, kx_aI, kx_aL, kx_aR, kx_ln, Nat.reduceAdd, Option.toList, List.cons_append, List.nil_append, cf8_9, cf9_0, cf9_1, cf9_2, cf9_3, cf9_4, cf9_5, cf9_6, cf9_7])
      repeat' apply And.intro
      all_goals try (first | with_reducible assumption | (with_reducible refine ck_nzI ?_; simp; done) | (with_reducible refine ck_nzL ?_; simp; done) | (with_reducible refine vp_in_nI ?_ ?_ <;> first | omega | decide) | (with_reducible refine Nat.le_of_ble_eq_true ?_; rfl) | omega | exact Or.inl trivial | exact Or.inr trivial | exact Or.inl rfl | exact Or.inr rfl)
      refine kz_lds hK rfl 2 dX8_readNumbered_50 (by decide) rfl ?_
      refine hC.1 96 _ _ _ _ _ _ _ 8 _ _ _ _ _ _ _ _ _ _ _ _ lX8_96 (cx_wi_f hT h6 h7 hb hn 2 (by decide) w2) ⟨by decide, rfl⟩ (cx_8o) rfl rfl (Nat.le_of_ble_eq_true rfl) (by first | decide | omega) (by decide) (by omega) (by omega) dX8_readNumbered_52 ?_
      refine hB bX8_readNumbered_55 _ _ _ _ _ _ _ kX8_readNumbered_55 ?_
      dsimp only [bX8_readNumbered_55, kx_wp, kx_step, kx_lI, kx_lL, kx_lA, kx_gl, kx_pI, kx_pL, kx_pR, kx_pA, kx_pV, kx_s1, kx_s2, kx_sl, kx_pre, kx_c2, kx_pl, kx_cmp, kx_oF, kx_eqN, kx_nil, kx_c1, kx_ft, kx_aI, kx_aL, kx_aR, kx_ln, Nat.reduceAdd, Option.toList, List.cons_append, List.nil_append, cf8_9, cf9_0, cf9_1, cf9_2, cf9_3, cf9_4, cf9_5, cf9_6, cf9_7]
      repeat (simp only [cx_8o, cx_8s, cx_83 hw, cx_84 hw, cx_dq0 hw, cx_dq1 hw, cx_dq2 hw, cx_dp0 hw, cx_dp1 hw, cx_dp2 hw, cx_8f3 hw, cx_8f4 hw, pk_us, pk_un, ne_eq, Nat.reduceEqDiff, not_false_eq_true, cp9_0, cp9_1, cp9_2, cp9_3, cp9_4, cp9_5, cp9_6, cp9_7, ks_eq, ks_ss]; try dsimp only [kx_wp, kx_step, kx_lI, kx_lL, kx_lA, kx_gl, kx_pI, kx_pL, kx_pR, kx_pA, kx_pV, kx_s1, kx_s2, kx_sl, kx_pre, kx_c2, kx_pl, kx_cmp, kx_oF, kx_eqN, kx_nil, kx_c1, kx_ft, kx_aI, kx_aL, kx_aR, kx_ln, Nat.reduceAdd, Option.toList, List.cons_append, List.nil_append, cf8_9, cf9_0, cf9_1, cf9_2, cf9_3, cf9_4, cf9_5, cf9_6, cf9_7])
      repeat' apply And.intro
      all_goals try (first | with_reducible assumption | (with_reducible refine ck_nzI ?_; simp; done) | (with_reducible refine ck_nzL ?_; simp; done) | (with_reducible refine vp_in_nI ?_ ?_ <;> first | omega | decide) | (with_reducible refine Nat.le_of_ble_eq_true ?_; rfl) | omega | exact Or.inl trivial | exact Or.inr trivial | exact Or.inl rfl | exact Or.inr rfl)
      · intro zc55
        have ze55 := zc55
        refine hB bX8_readNumbered_72 _ _ _ _ _ _ _ kX8_readNumbered_72 ?_
        dsimp only [bX8_readNumbered_72, kx_wp, kx_step, kx_lI, kx_lL, kx_lA, kx_gl, kx_pI, kx_pL, kx_pR, kx_pA, kx_pV, kx_s1, kx_s2, kx_sl, kx_pre, kx_c2, kx_pl, kx_cmp, kx_oF, kx_eqN, kx_nil, kx_c1, kx_ft, kx_aI, kx_aL, kx_aR, kx_ln, Nat.reduceAdd, Option.toList, List.cons_append, List.nil_append, cf8_9, cf9_0, cf9_1, cf9_2, cf9_3, cf9_4, cf9_5, cf9_6, cf9_7]
        repeat (simp only [cx_8o, cx_8s, cx_83 hw, cx_84 hw, cx_dq0 hw, cx_dq1 hw, cx_dq2 hw, cx_dp0 hw, cx_dp1 hw, cx_dp2 hw, cx_8f3 hw, cx_8f4 hw, pk_us, pk_un, ne_eq, Nat.reduceEqDiff, not_false_eq_true, cp9_0, cp9_1, cp9_2, cp9_3, cp9_4, cp9_5, cp9_6, cp9_7, ks_eq, ks_ss]; try dsimp only [kx_wp, kx_step, kx_lI, kx_lL, kx_lA, kx_gl, kx_pI, kx_pL, kx_pR, kx_pA, kx_pV, kx_s1, kx_s2, kx_sl, kx_pre, kx_c2, kx_pl, kx_cmp, kx_oF, kx_eqN, kx_nil, kx_c1, kx_ft, kx_aI, kx_aL, kx_aR, kx_ln, Nat.reduceAdd, Option.toList, List.cons_append, List.nil_append, cf8_9, cf9_0, cf9_1, cf9_2, cf9_3, cf9_4, cf9_5, cf9_6, cf9_7])
        repeat' apply And.intro
        all_goals try (first | with_reducible assumption | (with_reducible refine ck_nzI ?_; simp; done) | (with_reducible refine ck_nzL ?_; simp; done) | (with_reducible refine vp_in_nI ?_ ?_ <;> first | omega | decide) | (with_reducible refine Nat.le_of_ble_eq_true ?_; rfl) | omega | exact Or.inl trivial | exact Or.inr trivial | exact Or.inl rfl | exact Or.inr rfl)
        refine kz_lds hK rfl 3 dX8_readNumbered_73 (by decide) rfl ?_
        refine hC.1 96 _ _ _ _ _ _ _ 8 _ _ _ _ _ _ _ _ _ _ _ _ lX8_96 (cx_wi_f hT h6 h7 hb hn 3 (by decide) w3) ⟨by decide, rfl⟩ (cx_8o) rfl rfl (Nat.le_of_ble_eq_true rfl) (by first | decide | omega) (by decide) (by omega) (by omega) dX8_readNumbered_75 ?_
        refine hB bX8_readNumbered_78 _ _ _ _ _ _ _ kX8_readNumbered_78 ?_
        dsimp only [bX8_readNumbered_78, kx_wp, kx_step, kx_lI, kx_lL, kx_lA, kx_gl, kx_pI, kx_pL, kx_pR, kx_pA, kx_pV, kx_s1, kx_s2, kx_sl, kx_pre, kx_c2, kx_pl, kx_cmp, kx_oF, kx_eqN, kx_nil, kx_c1, kx_ft, kx_aI, kx_aL, kx_aR, kx_ln, Nat.reduceAdd, Option.toList, List.cons_append, List.nil_append, cf8_9, cf9_0, cf9_1, cf9_2, cf9_3, cf9_4, cf9_5, cf9_6, cf9_7]
        repeat (simp only [cx_8o, cx_8s, cx_83 hw, cx_84 hw, cx_dq0 hw, cx_dq1 hw, cx_dq2 hw, cx_dp0 hw, cx_dp1 hw, cx_dp2 hw, cx_8f3 hw, cx_8f4 hw, pk_us, pk_un, ne_eq, Nat.reduceEqDiff, not_false_eq_true, cp9_0, cp9_1, cp9_2, cp9_3, cp9_4, cp9_5, cp9_6, cp9_7, ks_eq, ks_ss]; try dsimp only [kx_wp, kx_step, kx_lI, kx_lL, kx_lA, kx_gl, kx_pI, kx_pL, kx_pR, kx_pA, kx_pV, kx_s1, kx_s2, kx_sl, kx_pre, kx_c2, kx_pl, kx_cmp, kx_oF, kx_eqN, kx_nil, kx_c1, kx_ft, kx_aI, kx_aL, kx_aR, kx_ln, Nat.reduceAdd, Option.toList, List.cons_append, List.nil_append, cf8_9, cf9_0, cf9_1, cf9_2, cf9_3, cf9_4, cf9_5, cf9_6, cf9_7])
        repeat' apply And.intro
        all_goals try (first | with_reducible assumption | (with_reducible refine ck_nzI ?_; simp; done) | (with_reducible refine ck_nzL ?_; simp; done) | (with_reducible refine vp_in_nI ?_ ?_ <;> first | omega | decide) | (with_reducible refine Nat.le_of_ble_eq_true ?_; rfl) | omega | exact Or.inl trivial | exact Or.inr trivial | exact Or.inl rfl | exact Or.inr rfl)
        · intro zc78
          have ze78 := zc78
          refine hB bX8_readNumbered_99 _ _ _ _ _ _ _ kX8_readNumbered_99 ?_
          dsimp only [bX8_readNumbered_99, kx_wp, kx_step, kx_lI, kx_lL, kx_lA, kx_gl, kx_pI, kx_pL, kx_pR, kx_pA, kx_pV, kx_s1, kx_s2, kx_sl, kx_pre, kx_c2, kx_pl, kx_cmp, kx_oF, kx_eqN, kx_nil, kx_c1, kx_ft, kx_aI, kx_aL, kx_aR, kx_ln, Nat.reduceAdd, Option.toList, List.cons_append, List.nil_append, cf8_9, cf9_0, cf9_1, cf9_2, cf9_3, cf9_4, cf9_5, cf9_6, cf9_7]
          repeat (simp only [cx_8o, cx_8s, cx_83 hw, cx_84 hw, cx_dq0 hw, cx_dq1 hw, cx_dq2 hw, cx_dp0 hw, cx_dp1 hw, cx_dp2 hw, cx_8f3 hw, cx_8f4 hw, pk_us, pk_un, ne_eq, Nat.reduceEqDiff, not_false_eq_true, cp9_0, cp9_1, cp9_2, cp9_3, cp9_4, cp9_5, cp9_6, cp9_7, ks_eq, ks_ss]; try dsimp only [kx_wp, kx_step, kx_lI, kx_lL, kx_lA, kx_gl, kx_pI, kx_pL, kx_pR, kx_pA, kx_pV, kx_s1, kx_s2, kx_sl, kx_pre, kx_c2, kx_pl, kx_cmp, kx_oF, kx_eqN, kx_nil, kx_c1, kx_ft, kx_aI, kx_aL, kx_aR, kx_ln, Nat.reduceAdd, Option.toList, List.cons_append, List.nil_append, cf8_9, cf9_0, cf9_1, cf9_2, cf9_3, cf9_4, cf9_5, cf9_6, cf9_7])
          repeat' apply And.intro
          all_goals try (first | with_reducible assumption | (with_reducible refine ck_nzI ?_; simp; done) | (with_reducible refine ck_nzL ?_; simp; done) | (with_reducible refine vp_in_nI ?_ ?_ <;> first | omega | decide) | (with_reducible refine Nat.le_of_ble_eq_true ?_; rfl) | omega | exact Or.inl trivial | exact Or.inr trivial | exact Or.inl rfl | exact Or.inr rfl)
          refine kz_lds hK rfl 4 dX8_readNumbered_100 (by decide) rfl ?_
          refine hC.1 96 _ _ _ _ _ _ _ 8 _ _ _ _ _ _ _ _ _ _ _ _ lX8_96 (cx_wi_f hT h6 h7 hb hn 4 (by decide) w4) ⟨by decide, rfl⟩ (cx_8o) rfl rfl (Nat.le_of_ble_eq_true rfl) (by first | decide | omega) (by decide) (by omega) (by omega) dX8_readNumbered_102 ?_
          refine hB bX8_readNumbered_105 _ _ _ _ _ _ _ kX8_readNumbered_105 ?_
          dsimp only [bX8_readNumbered_105, kx_wp, kx_step, kx_lI, kx_lL, kx_lA, kx_gl, kx_pI, kx_pL, kx_pR, kx_pA, kx_pV, kx_s1, kx_s2, kx_sl, kx_pre, kx_c2, kx_pl, kx_cmp, kx_oF, kx_eqN, kx_nil, kx_c1, kx_ft, kx_aI, kx_aL, kx_aR, kx_ln, Nat.reduceAdd, Option.toList, List.cons_append, List.nil_append, cf8_9, cf9_0, cf9_1, cf9_2, cf9_3, cf9_4, cf9_5, cf9_6, cf9_7]
          repeat (simp only [cx_8o, cx_8s, cx_83 hw, cx_84 hw, cx_dq0 hw, cx_dq1 hw, cx_dq2 hw, cx_dp0 hw, cx_dp1 hw, cx_dp2 hw, cx_8f3 hw, cx_8f4 hw, pk_us, pk_un, ne_eq, Nat.reduceEqDiff, not_false_eq_true, cp9_0, cp9_1, cp9_2, cp9_3, cp9_4, cp9_5, cp9_6, cp9_7, ks_eq, ks_ss]; try dsimp only [kx_wp, kx_step, kx_lI, kx_lL, kx_lA, kx_gl, kx_pI, kx_pL, kx_pR, kx_pA, kx_pV, kx_s1, kx_s2, kx_sl, kx_pre, kx_c2, kx_pl, kx_cmp, kx_oF, kx_eqN, kx_nil, kx_c1, kx_ft, kx_aI, kx_aL, kx_aR, kx_ln, Nat.reduceAdd, Option.toList, List.cons_append, List.nil_append, cf8_9, cf9_0, cf9_1, cf9_2, cf9_3, cf9_4, cf9_5, cf9_6, cf9_7])
          repeat' apply And.intro
          all_goals try (first | with_reducible assumption | (with_reducible refine ck_nzI ?_; simp; done) | (with_reducible refine ck_nzL ?_; simp; done) | (with_reducible refine vp_in_nI ?_ ?_ <;> first | omega | decide) | (with_reducible refine Nat.le_of_ble_eq_true ?_; rfl) | omega | exact Or.inl trivial | exact Or.inr trivial | exact Or.inl rfl | exact Or.inr rfl)
          · intro zc105
            have ze105 := zc105
            refine hB bX8_readNumbered_126 _ _ _ _ _ _ _ kX8_readNumbered_126 ?_
            dsimp only [bX8_readNumbered_126, kx_wp, kx_step, kx_lI, kx_lL, kx_lA, kx_gl, kx_pI, kx_pL, kx_pR, kx_pA, kx_pV, kx_s1, kx_s2, kx_sl, kx_pre, kx_c2, kx_pl, kx_cmp, kx_oF, kx_eqN, kx_nil, kx_c1, kx_ft, kx_aI, kx_aL, kx_aR, kx_ln, Nat.reduceAdd, Option.toList, List.cons_append, List.nil_append, cf8_9, cf9_0, cf9_1, cf9_2, cf9_3, cf9_4, cf9_5, cf9_6, cf9_7]
            repeat (simp only [cx_8o, cx_8s, cx_83 hw, cx_84 hw, cx_dq0 hw, cx_dq1 hw, cx_dq2 hw, cx_dp0 hw, cx_dp1 hw, cx_dp2 hw, cx_8f3 hw, cx_8f4 hw, pk_us, pk_un, ne_eq, Nat.reduceEqDiff, not_false_eq_true, cp9_0, cp9_1, cp9_2, cp9_3, cp9_4, cp9_5, cp9_6, cp9_7, ks_eq, ks_ss]; try dsimp only [kx_wp, kx_step, kx_lI, kx_lL, kx_lA, kx_gl, kx_pI, kx_pL, kx_pR, kx_pA, kx_pV, kx_s1, kx_s2, kx_sl, kx_pre, kx_c2, kx_pl, kx_cmp, kx_oF, kx_eqN, kx_nil, kx_c1, kx_ft, kx_aI, kx_aL, kx_aR, kx_ln, Nat.reduceAdd, Option.toList, List.cons_append, List.nil_append, cf8_9, cf9_0, cf9_1, cf9_2, cf9_3, cf9_4, cf9_5, cf9_6, cf9_7])
            repeat' apply And.intro
            all_goals try (first | with_reducible assumption | (with_reducible refine ck_nzI ?_; simp; done) | (with_reducible refine ck_nzL ?_; simp; done) | (with_reducible refine vp_in_nI ?_ ?_ <;> first | omega | decide) | (with_reducible refine Nat.le_of_ble_eq_true ?_; rfl) | omega | exact Or.inl trivial | exact Or.inr trivial | exact Or.inl rfl | exact Or.inr rfl)
            refine kz_lds hK rfl 5 dX8_readNumbered_127 (by decide) rfl ?_
            refine hC.1 96 _ _ _ _ _ _ _ 8 _ _ _ _ _ _ _ _ _ _ _ _ lX8_96 (cx_wi_f hT h6 h7 hb hn 5 (by decide) w5) ⟨by decide, rfl⟩ (cx_8o) rfl rfl (Nat.le_of_ble_eq_true rfl) (by first | decide | omega) (by decide) (by omega) (by omega) dX8_readNumbered_129 ?_
            refine hB bX8_readNumbered_132 _ _ _ _ _ _ _ kX8_readNumbered_132 ?_
            dsimp only [bX8_readNumbered_132, kx_wp, kx_step, kx_lI, kx_lL, kx_lA, kx_gl, kx_pI, kx_pL, kx_pR, kx_pA, kx_pV, kx_s1, kx_s2, kx_sl, kx_pre, kx_c2, kx_pl, kx_cmp, kx_oF, kx_eqN, kx_nil, kx_c1, kx_ft, kx_aI, kx_aL, kx_aR, kx_ln, Nat.reduceAdd, Option.toList, List.cons_append, List.nil_append, cf8_9, cf9_0, cf9_1, cf9_2, cf9_3, cf9_4, cf9_5, cf9_6, cf9_7]
            repeat (simp only [cx_8o, cx_8s, cx_83 hw, cx_84 hw, cx_dq0 hw, cx_dq1 hw, cx_dq2 hw, cx_dp0 hw, cx_dp1 hw, cx_dp2 hw, cx_8f3 hw, cx_8f4 hw, pk_us, pk_un, ne_eq, Nat.reduceEqDiff, not_false_eq_true, cp9_0, cp9_1, cp9_2, cp9_3, cp9_4, cp9_5, cp9_6, cp9_7, ks_eq, ks_ss]; try dsimp only [kx_wp, kx_step, kx_lI, kx_lL, kx_lA, kx_gl, kx_pI, kx_pL, kx_pR, kx_pA, kx_pV, kx_s1, kx_s2, kx_sl, kx_pre, kx_c2, kx_pl, kx_cmp, kx_oF, kx_eqN, kx_nil, kx_c1, kx_ft, kx_aI, kx_aL, kx_aR, kx_ln, Nat.reduceAdd, Option.toList, List.cons_append, List.nil_append, cf8_9, cf9_0, cf9_1, cf9_2, cf9_3, cf9_4, cf9_5, cf9_6, cf9_7])
            repeat' apply And.intro
            all_goals try (first | with_reducible assumption | (with_reducible refine ck_nzI ?_; simp; done) | (with_reducible refine ck_nzL ?_; simp; done) | (with_reducible refine vp_in_nI ?_ ?_ <;> first | omega | decide) | (with_reducible refine Nat.le_of_ble_eq_true ?_; rfl) | omega | exact Or.inl trivial | exact Or.inr trivial | exact Or.inl rfl | exact Or.inr rfl)
            · intro zc132
              have ze132 := zc132
              refine hB bX8_readNumbered_152 _ _ _ _ _ _ _ kX8_readNumbered_152 ?_
              dsimp only [bX8_readNumbered_152, kx_wp, kx_step, kx_lI, kx_lL, kx_lA, kx_gl, kx_pI, kx_pL, kx_pR, kx_pA, kx_pV, kx_s1, kx_s2, kx_sl, kx_pre, kx_c2, kx_pl, kx_cmp, kx_oF, kx_eqN, kx_nil, kx_c1, kx_ft, kx_aI, kx_aL, kx_aR, kx_ln, Nat.reduceAdd, Option.toList, List.cons_append, List.nil_append, cf8_9, cf9_0, cf9_1, cf9_2, cf9_3, cf9_4, cf9_5, cf9_6, cf9_7]
              repeat (simp only [cx_8o, cx_8s, cx_83 hw, cx_84 hw, cx_dq0 hw, cx_dq1 hw, cx_dq2 hw, cx_dp0 hw, cx_dp1 hw, cx_dp2 hw, cx_8f3 hw, cx_8f4 hw, pk_us, pk_un, ne_eq, Nat.reduceEqDiff, not_false_eq_true, cp9_0, cp9_1, cp9_2, cp9_3, cp9_4, cp9_5, cp9_6, cp9_7, ks_eq, ks_ss]; try dsimp only [kx_wp, kx_step, kx_lI, kx_lL, kx_lA, kx_gl, kx_pI, kx_pL, kx_pR, kx_pA, kx_pV, kx_s1, kx_s2, kx_sl, kx_pre, kx_c2, kx_pl, kx_cmp, kx_oF, kx_eqN, kx_nil, kx_c1, kx_ft, kx_aI, kx_aL, kx_aR, kx_ln, Nat.reduceAdd, Option.toList, List.cons_append, List.nil_append, cf8_9, cf9_0, cf9_1, cf9_2, cf9_3, cf9_4, cf9_5, cf9_6, cf9_7])
              repeat' apply And.intro
              all_goals try (first | with_reducible assumption | (with_reducible refine ck_nzI ?_; simp; done) | (with_reducible refine ck_nzL ?_; simp; done) | (with_reducible refine vp_in_nI ?_ ?_ <;> first | omega | decide) | (with_reducible refine Nat.le_of_ble_eq_true ?_; rfl) | omega | exact Or.inl trivial | exact Or.inr trivial | exact Or.inl rfl | exact Or.inr rfl)
              refine kz_lds hK rfl 6 dX8_readNumbered_153 (by decide) rfl ?_
              refine hC.1 96 _ _ _ _ _ _ _ 8 _ _ _ _ _ _ _ _ _ _ _ _ lX8_96 (cx_wi_t hT h6 h7 hb hn 6 (by decide) w6) ⟨by decide, rfl⟩ (cx_8o) rfl rfl (Nat.le_of_ble_eq_true rfl) (by first | decide | omega) (by decide) (by omega) (by omega) dX8_readNumbered_155 ?_
              refine hB bX8_readNumbered_158 _ _ _ _ _ _ _ kX8_readNumbered_158 ?_
              dsimp only [bX8_readNumbered_158, kx_wp, kx_step, kx_lI, kx_lL, kx_lA, kx_gl, kx_pI, kx_pL, kx_pR, kx_pA, kx_pV, kx_s1, kx_s2, kx_sl, kx_pre, kx_c2, kx_pl, kx_cmp, kx_oF, kx_eqN, kx_nil, kx_c1, kx_ft, kx_aI, kx_aL, kx_aR, kx_ln, Nat.reduceAdd, Option.toList, List.cons_append, List.nil_append, cf8_9, cf9_0, cf9_1, cf9_2, cf9_3, cf9_4, cf9_5, cf9_6, cf9_7]
              repeat (simp only [cx_8o, cx_8s, cx_83 hw, cx_84 hw, cx_dq0 hw, cx_dq1 hw, cx_dq2 hw, cx_dp0 hw, cx_dp1 hw, cx_dp2 hw, cx_8f3 hw, cx_8f4 hw, pk_us, pk_un, ne_eq, Nat.reduceEqDiff, not_false_eq_true, cp9_0, cp9_1, cp9_2, cp9_3, cp9_4, cp9_5, cp9_6, cp9_7, ks_eq, ks_ss]; try dsimp only [kx_wp, kx_step, kx_lI, kx_lL, kx_lA, kx_gl, kx_pI, kx_pL, kx_pR, kx_pA, kx_pV, kx_s1, kx_s2, kx_sl, kx_pre, kx_c2, kx_pl, kx_cmp, kx_oF, kx_eqN, kx_nil, kx_c1, kx_ft, kx_aI, kx_aL, kx_aR, kx_ln, Nat.reduceAdd, Option.toList, List.cons_append, List.nil_append, cf8_9, cf9_0, cf9_1, cf9_2, cf9_3, cf9_4, cf9_5, cf9_6, cf9_7])
              repeat' apply And.intro
              all_goals try (first | with_reducible assumption | (with_reducible refine ck_nzI ?_; simp; done) | (with_reducible refine ck_nzL ?_; simp; done) | (with_reducible refine vp_in_nI ?_ ?_ <;> first | omega | decide) | (with_reducible refine Nat.le_of_ble_eq_true ?_; rfl) | omega | exact Or.inl trivial | exact Or.inr trivial | exact Or.inl rfl | exact Or.inr rfl)
              · intro zc158
                first | exact absurd rfl zc158 | exact absurd zc158 (by decide) | exact absurd (by decide) zc158 | (exfalso; ((try clear hB hC); simp only [ck_lt, ck_le, ck_eq, not_true_eq_false, not_false_eq_true, Int32.reduceToInt, Int32.reduceAdd, Int32.reduceSub, Int32.reduceMul] at * <;> omega)) | (exfalso; simp_all; done)
              · intro zc158
                have ze158 := zc158
                refine hB bX8_readNumbered_161 _ _ _ _ _ _ _ kX8_readNumbered_161 ?_
                dsimp only [bX8_readNumbered_161, kx_wp, kx_step, kx_lI, kx_lL, kx_lA, kx_gl, kx_pI, kx_pL, kx_pR, kx_pA, kx_pV, kx_s1, kx_s2, kx_sl, kx_pre, kx_c2, kx_pl, kx_cmp, kx_oF, kx_eqN, kx_nil, kx_c1, kx_ft, kx_aI, kx_aL, kx_aR, kx_ln, Nat.reduceAdd, Option.toList, List.cons_append, List.nil_append, cf8_9, cf9_0, cf9_1, cf9_2, cf9_3, cf9_4, cf9_5, cf9_6, cf9_7]
                repeat (simp only [cx_8o, cx_8s, cx_83 hw, cx_84 hw, cx_dq0 hw, cx_dq1 hw, cx_dq2 hw, cx_dp0 hw, cx_dp1 hw, cx_dp2 hw, cx_8f3 hw, cx_8f4 hw, pk_us, pk_un, ne_eq, Nat.reduceEqDiff, not_false_eq_true, cp9_0, cp9_1, cp9_2, cp9_3, cp9_4, cp9_5, cp9_6, cp9_7, ks_eq, ks_ss]; try dsimp only [kx_wp, kx_step, kx_lI, kx_lL, kx_lA, kx_gl, kx_pI, kx_pL, kx_pR, kx_pA, kx_pV, kx_s1, kx_s2, kx_sl, kx_pre, kx_c2, kx_pl, kx_cmp, kx_oF, kx_eqN, kx_nil, kx_c1, kx_ft, kx_aI, kx_aL, kx_aR, kx_ln, Nat.reduceAdd, Option.toList, List.cons_append, List.nil_append, cf8_9, cf9_0, cf9_1, cf9_2, cf9_3, cf9_4, cf9_5, cf9_6, cf9_7])
                repeat' apply And.intro
                all_goals try (first | with_reducible assumption | (with_reducible refine ck_nzI ?_; simp; done) | (with_reducible refine ck_nzL ?_; simp; done) | (with_reducible refine vp_in_nI ?_ ?_ <;> first | omega | decide) | (with_reducible refine Nat.le_of_ble_eq_true ?_; rfl) | omega | exact Or.inl trivial | exact Or.inr trivial | exact Or.inl rfl | exact Or.inr rfl)
                refine hC.1 85 _ _ _ _ _ _ _ 8 _ _ _ _ _ _ _ _ _ _ _ _ lX8_85 (hM) ⟨by decide, rfl⟩ (cx_8o) rfl rfl (Nat.le_of_ble_eq_true rfl) (by first | decide | omega) (by decide) (by omega) (by omega) dX8_readNumbered_170 ?_
                refine hB bX8_readNumbered_173 _ _ _ _ _ _ _ kX8_readNumbered_173 ?_
                dsimp only [bX8_readNumbered_173, kx_wp, kx_step, kx_lI, kx_lL, kx_lA, kx_gl, kx_pI, kx_pL, kx_pR, kx_pA, kx_pV, kx_s1, kx_s2, kx_sl, kx_pre, kx_c2, kx_pl, kx_cmp, kx_oF, kx_eqN, kx_nil, kx_c1, kx_ft, kx_aI, kx_aL, kx_aR, kx_ln, Nat.reduceAdd, Option.toList, List.cons_append, List.nil_append, cf8_9, cf9_0, cf9_1, cf9_2, cf9_3, cf9_4, cf9_5, cf9_6, cf9_7]
                repeat (simp only [cx_8o, cx_8s, cx_83 hw, cx_84 hw, cx_dq0 hw, cx_dq1 hw, cx_dq2 hw, cx_dp0 hw, cx_dp1 hw, cx_dp2 hw, cx_8f3 hw, cx_8f4 hw, pk_us, pk_un, ne_eq, Nat.reduceEqDiff, not_false_eq_true, cp9_0, cp9_1, cp9_2, cp9_3, cp9_4, cp9_5, cp9_6, cp9_7, ks_eq, ks_ss]; try dsimp only [kx_wp, kx_step, kx_lI, kx_lL, kx_lA, kx_gl, kx_pI, kx_pL, kx_pR, kx_pA, kx_pV, kx_s1, kx_s2, kx_sl, kx_pre, kx_c2, kx_pl, kx_cmp, kx_oF, kx_eqN, kx_nil, kx_c1, kx_ft, kx_aI, kx_aL, kx_aR, kx_ln, Nat.reduceAdd, Option.toList, List.cons_append, List.nil_append, cf8_9, cf9_0, cf9_1, cf9_2, cf9_3, cf9_4, cf9_5, cf9_6, cf9_7])
                repeat' apply And.intro
                all_goals try (first | with_reducible assumption | (with_reducible refine ck_nzI ?_; simp; done) | (with_reducible refine ck_nzL ?_; simp; done) | (with_reducible refine vp_in_nI ?_ ?_ <;> first | omega | decide) | (with_reducible refine Nat.le_of_ble_eq_true ?_; rfl) | omega | exact Or.inl trivial | exact Or.inr trivial | exact Or.inl rfl | exact Or.inr rfl)
                refine hB bX8_readNumbered_194 _ _ _ _ _ _ _ kX8_readNumbered_194 ?_
                dsimp only [bX8_readNumbered_194, kx_wp, kx_step, kx_lI, kx_lL, kx_lA, kx_gl, kx_pI, kx_pL, kx_pR, kx_pA, kx_pV, kx_s1, kx_s2, kx_sl, kx_pre, kx_c2, kx_pl, kx_cmp, kx_oF, kx_eqN, kx_nil, kx_c1, kx_ft, kx_aI, kx_aL, kx_aR, kx_ln, Nat.reduceAdd, Option.toList, List.cons_append, List.nil_append, cf8_9, cf9_0, cf9_1, cf9_2, cf9_3, cf9_4, cf9_5, cf9_6, cf9_7]
                repeat (simp only [cx_8o, cx_8s, cx_83 hw, cx_84 hw, cx_dq0 hw, cx_dq1 hw, cx_dq2 hw, cx_dp0 hw, cx_dp1 hw, cx_dp2 hw, cx_8f3 hw, cx_8f4 hw, pk_us, pk_un, ne_eq, Nat.reduceEqDiff, not_false_eq_true, cp9_0, cp9_1, cp9_2, cp9_3, cp9_4, cp9_5, cp9_6, cp9_7, ks_eq, ks_ss]; try dsimp only [kx_wp, kx_step, kx_lI, kx_lL, kx_lA, kx_gl, kx_pI, kx_pL, kx_pR, kx_pA, kx_pV, kx_s1, kx_s2, kx_sl, kx_pre, kx_c2, kx_pl, kx_cmp, kx_oF, kx_eqN, kx_nil, kx_c1, kx_ft, kx_aI, kx_aL, kx_aR, kx_ln, Nat.reduceAdd, Option.toList, List.cons_append, List.nil_append, cf8_9, cf9_0, cf9_1, cf9_2, cf9_3, cf9_4, cf9_5, cf9_6, cf9_7])
                all_goals (repeat' apply And.intro)
                all_goals ((try clear hB hC); first | exact True.intro | rfl)
            · intro zc132
              first | exact absurd rfl zc132 | exact absurd zc132 (by decide) | exact absurd (by decide) zc132 | (exfalso; ((try clear hB hC); simp only [ck_lt, ck_le, ck_eq, not_true_eq_false, not_false_eq_true, Int32.reduceToInt, Int32.reduceAdd, Int32.reduceSub, Int32.reduceMul] at * <;> omega)) | (exfalso; simp_all; done)
          · intro zc105
            first | exact absurd rfl zc105 | exact absurd zc105 (by decide) | exact absurd (by decide) zc105 | (exfalso; ((try clear hB hC); simp only [ck_lt, ck_le, ck_eq, not_true_eq_false, not_false_eq_true, Int32.reduceToInt, Int32.reduceAdd, Int32.reduceSub, Int32.reduceMul] at * <;> omega)) | (exfalso; simp_all; done)
        · intro zc78
          first | exact absurd rfl zc78 | exact absurd zc78 (by decide) | exact absurd (by decide) zc78 | (exfalso; ((try clear hB hC); simp only [ck_lt, ck_le, ck_eq, not_true_eq_false, not_false_eq_true, Int32.reduceToInt, Int32.reduceAdd, Int32.reduceSub, Int32.reduceMul] at * <;> omega)) | (exfalso; simp_all; done)
      · intro zc55
        first | exact absurd rfl zc55 | exact absurd zc55 (by decide) | exact absurd (by decide) zc55 | (exfalso; ((try clear hB hC); simp only [ck_lt, ck_le, ck_eq, not_true_eq_false, not_false_eq_true, Int32.reduceToInt, Int32.reduceAdd, Int32.reduceSub, Int32.reduceMul] at * <;> omega)) | (exfalso; simp_all; done)
    · intro zc32
      first | exact absurd rfl zc32 | exact absurd zc32 (by decide) | exact absurd (by decide) zc32 | (exfalso; ((try clear hB hC); simp only [ck_lt, ck_le, ck_eq, not_true_eq_false, not_false_eq_true, Int32.reduceToInt, Int32.reduceAdd, Int32.reduceSub, Int32.reduceMul] at * <;> omega)) | (exfalso; simp_all; done)
  · intro zc6
    first | exact absurd rfl zc6 | exact absurd zc6 (by decide) | exact absurd (by decide) zc6 | (exfalso; ((try clear hB hC); simp only [ck_lt, ck_le, ck_eq, not_true_eq_false, not_false_eq_true, Int32.reduceToInt, Int32.reduceAdd, Int32.reduceSub, Int32.reduceMul] at * <;> omega)) | (exfalso; simp_all; done)

set_option maxRecDepth 100000 in
set_option maxHeartbeats 4000000 in
theorem cn_7 (l : Launch) (G : kx_G) {P : kx_P} {sz : Nat} {Q : kx_P} {w : Nat} (hw : 144 ≤ w) {F F2 V te qu Fo st T : Nat → Int32} (hT : cx_fW (cx_vW Q w V te qu) w Fo st 67 = kI 0 400 T) {n b : Nat} (h6 : F 6 = nI b) (h7 : F 7 = nI (ck_ps T n b)) (hb : b ≤ n) (hn : n ≤ 400) {v : Int32} (w0 : ¬ ck_wo_ T n b = kz_co 0) (w1 : ¬ ck_wo_ T n b = kz_co 1) (w2 : ¬ ck_wo_ T n b = kz_co 2) (w3 : ¬ ck_wo_ T n b = kz_co 3) (w4 : ¬ ck_wo_ T n b = kz_co 4) (w5 : ¬ ck_wo_ T n b = kz_co 5) (w6 : ¬ ck_wo_ T n b = kz_co 6) (hM : kx_M l G sX8_takeNumber 2 0 0 [.ref 68, .int 0, .int 200] (cx_8 (cx_fW (cx_vW Q w (V) (te) (qu)) w (Fo) (st)) (.ref w) (F)) sz (some (.int v)) (cx_8 (cx_fW (cx_vW Q w (V) (te) (qu)) w (Fo) (st)) (.ref w) (F2)) sz)  : kx_M l G sX8_readNumbered 6 0 0 [.ref 68] (cx_8 (cx_fW (cx_vW Q w (V) (te) (qu)) w (Fo) (st)) (.ref w) (F)) sz none (cx_8 (cx_fW (cx_vW Q w (upd V 7 v) (te) (qu)) w (Fo) (st)) (.ref w) (F2)) sz := by
  refine kz_m2d kx_tab kxLok_X8 (ini := false) [some (.ref 68)] ⟨by decide +kernel, rfl, by decide, by decide⟩ (Or.inl rfl) rfl rfl (fun g hB hC hK => ?_)
  refine hB bX8_readNumbered_0 _ _ _ _ _ _ _ kX8_readNumbered_0 ?_
  dsimp only [bX8_readNumbered_0, kx_wp, kx_step, kx_lI, kx_lL, kx_lA, kx_gl, kx_pI, kx_pL, kx_pR, kx_pA, kx_pV, kx_s1, kx_s2, kx_sl, kx_pre, kx_c2, kx_pl, kx_cmp, kx_oF, kx_eqN, kx_nil, kx_c1, kx_ft, kx_aI, kx_aL, kx_aR, kx_ln, Nat.reduceAdd, Option.toList, List.cons_append, List.nil_append, cf8_9, cf9_0, cf9_1, cf9_2, cf9_3, cf9_4, cf9_5, cf9_6, cf9_7]
  repeat (simp only [cx_8o, cx_8s, cx_83 hw, cx_84 hw, cx_dq0 hw, cx_dq1 hw, cx_dq2 hw, cx_dp0 hw, cx_dp1 hw, cx_dp2 hw, cx_8f3 hw, cx_8f4 hw, pk_us, pk_un, ne_eq, Nat.reduceEqDiff, not_false_eq_true, cp9_0, cp9_1, cp9_2, cp9_3, cp9_4, cp9_5, cp9_6, cp9_7, ks_eq, ks_ss]; try dsimp only [kx_wp, kx_step, kx_lI, kx_lL, kx_lA, kx_gl, kx_pI, kx_pL, kx_pR, kx_pA, kx_pV, kx_s1, kx_s2, kx_sl, kx_pre, kx_c2, kx_pl, kx_cmp, kx_oF, kx_eqN, kx_nil, kx_c1, kx_ft, kx_aI, kx_aL, kx_aR, kx_ln, Nat.reduceAdd, Option.toList, List.cons_append, List.nil_append, cf8_9, cf9_0, cf9_1, cf9_2, cf9_3, cf9_4, cf9_5, cf9_6, cf9_7])
  repeat' apply And.intro
  all_goals try (first | with_reducible assumption | (with_reducible refine ck_nzI ?_; simp; done) | (with_reducible refine ck_nzL ?_; simp; done) | (with_reducible refine vp_in_nI ?_ ?_ <;> first | omega | decide) | (with_reducible refine Nat.le_of_ble_eq_true ?_; rfl) | omega | exact Or.inl trivial | exact Or.inr trivial | exact Or.inl rfl | exact Or.inr rfl)
  refine kz_lds hK rfl 0 dX8_readNumbered_1 (by decide) rfl ?_
  refine hC.1 96 _ _ _ _ _ _ _ 8 _ _ _ _ _ _ _ _ _ _ _ _ lX8_96 (cx_wi_f hT h6 h7 hb hn 0 (by decide) w0) ⟨by decide, rfl⟩ (cx_8o) rfl rfl (Nat.le_of_ble_eq_true rfl) (by first | decide | omega) (by decide) (by omega) (by omega) dX8_readNumbered_3 ?_
  refine hB bX8_readNumbered_6 _ _ _ _ _ _ _ kX8_readNumbered_6 ?_
  dsimp only [bX8_readNumbered_6, kx_wp, kx_step, kx_lI, kx_lL, kx_lA, kx_gl, kx_pI, kx_pL, kx_pR, kx_pA, kx_pV, kx_s1, kx_s2, kx_sl, kx_pre, kx_c2, kx_pl, kx_cmp, kx_oF, kx_eqN, kx_nil, kx_c1, kx_ft, kx_aI, kx_aL, kx_aR, kx_ln, Nat.reduceAdd, Option.toList, List.cons_append, List.nil_append, cf8_9, cf9_0, cf9_1, cf9_2, cf9_3, cf9_4, cf9_5, cf9_6, cf9_7]
  repeat (simp only [cx_8o, cx_8s, cx_83 hw, cx_84 hw, cx_dq0 hw, cx_dq1 hw, cx_dq2 hw, cx_dp0 hw, cx_dp1 hw, cx_dp2 hw, cx_8f3 hw, cx_8f4 hw, pk_us, pk_un, ne_eq, Nat.reduceEqDiff, not_false_eq_true, cp9_0, cp9_1, cp9_2, cp9_3, cp9_4, cp9_5, cp9_6, cp9_7, ks_eq, ks_ss]; try dsimp only [kx_wp, kx_step, kx_lI, kx_lL, kx_lA, kx_gl, kx_pI, kx_pL, kx_pR, kx_pA, kx_pV, kx_s1, kx_s2, kx_sl, kx_pre, kx_c2, kx_pl, kx_cmp, kx_oF, kx_eqN, kx_nil, kx_c1, kx_ft, kx_aI, kx_aL, kx_aR, kx_ln, Nat.reduceAdd, Option.toList, List.cons_append, List.nil_append, cf8_9, cf9_0, cf9_1, cf9_2, cf9_3, cf9_4, cf9_5, cf9_6, cf9_7])
  repeat' apply And.intro
  all_goals try (first | with_reducible assumption | (with_reducible refine ck_nzI ?_; simp; done) | (with_reducible refine ck_nzL ?_; simp; done) | (with_reducible refine vp_in_nI ?_ ?_ <;> first | omega | decide) | (with_reducible refine Nat.le_of_ble_eq_true ?_; rfl) | omega | exact Or.inl trivial | exact Or.inr trivial | exact Or.inl rfl | exact Or.inr rfl)
  · intro zc6
    have ze6 := zc6
    refine hB bX8_readNumbered_26 _ _ _ _ _ _ _ kX8_readNumbered_26 ?_
    dsimp only [bX8_readNumbered_26, kx_wp, kx_step, kx_lI, kx_lL, kx_lA, kx_gl, kx_pI, kx_pL, kx_pR, kx_pA, kx_pV, kx_s1, kx_s2, kx_sl, kx_pre, kx_c2, kx_pl, kx_cmp, kx_oF, kx_eqN, kx_nil, kx_c1, kx_ft, kx_aI, kx_aL, kx_aR, kx_ln, Nat.reduceAdd, Option.toList, List.cons_append, List.nil_append, cf8_9, cf9_0, cf9_1, cf9_2, cf9_3, cf9_4, cf9_5, cf9_6, cf9_7]
    repeat (simp only [cx_8o, cx_8s, cx_83 hw, cx_84 hw, cx_dq0 hw, cx_dq1 hw, cx_dq2 hw, cx_dp0 hw, cx_dp1 hw, cx_dp2 hw, cx_8f3 hw, cx_8f4 hw, pk_us, pk_un, ne_eq, Nat.reduceEqDiff, not_false_eq_true, cp9_0, cp9_1, cp9_2, cp9_3, cp9_4, cp9_5, cp9_6, cp9_7, ks_eq, ks_ss]; try dsimp only [kx_wp, kx_step, kx_lI, kx_lL, kx_lA, kx_gl, kx_pI, kx_pL, kx_pR, kx_pA, kx_pV, kx_s1, kx_s2, kx_sl, kx_pre, kx_c2, kx_pl, kx_cmp, kx_oF, kx_eqN, kx_nil, kx_c1, kx_ft, kx_aI, kx_aL, kx_aR, kx_ln, Nat.reduceAdd, Option.toList, List.cons_append, List.nil_append, cf8_9, cf9_0, cf9_1, cf9_2, cf9_3, cf9_4, cf9_5, cf9_6, cf9_7])
    repeat' apply And.intro
    all_goals try (first | with_reducible assumption | (with_reducible refine ck_nzI ?_; simp; done) | (with_reducible refine ck_nzL ?_; simp; done) | (with_reducible refine vp_in_nI ?_ ?_ <;> first | omega | decide) | (with_reducible refine Nat.le_of_ble_eq_true ?_; rfl) | omega | exact Or.inl trivial | exact Or.inr trivial | exact Or.inl rfl | exact Or.inr rfl)
    refine kz_lds hK rfl 1 dX8_readNumbered_27 (by decide) rfl ?_
    refine hC.1 96 _ _ _ _ _ _ _ 8 _ _ _ _ _ _ _ _ _ _ _ _ lX8_96 (cx_wi_f hT h6 h7 hb hn 1 (by decide) w1) ⟨by decide, rfl⟩ (cx_8o) rfl rfl (Nat.le_of_ble_eq_true rfl) (by first | decide | omega) (by decide) (by omega) (by omega) dX8_readNumbered_29 ?_
    refine hB bX8_readNumbered_32 _ _ _ _ _ _ _ kX8_readNumbered_32 ?_
    dsimp only [bX8_readNumbered_32, kx_wp, kx_step, kx_lI, kx_lL, kx_lA, kx_gl, kx_pI, kx_pL, kx_pR, kx_pA, kx_pV, kx_s1, kx_s2, kx_sl, kx_pre, kx_c2, kx_pl, kx_cmp, kx_oF, kx_eqN, kx_nil, kx_c1, kx_ft, kx_aI, kx_aL, kx_aR, kx_ln, Nat.reduceAdd, Option.toList, List.cons_append, List.nil_append, cf8_9, cf9_0, cf9_1, cf9_2, cf9_3, cf9_4, cf9_5, cf9_6, cf9_7]
    repeat (simp only [cx_8o, cx_8s, cx_83 hw, cx_84 hw, cx_dq0 hw, cx_dq1 hw, cx_dq2 hw, cx_dp0 hw, cx_dp1 hw, cx_dp2 hw, cx_8f3 hw, cx_8f4 hw, pk_us, pk_un, ne_eq, Nat.reduceEqDiff, not_false_eq_true, cp9_0, cp9_1, cp9_2, cp9_3, cp9_4, cp9_5, cp9_6, cp9_7, ks_eq, ks_ss]; try dsimp only [kx_wp, kx_step, kx_lI, kx_lL, kx_lA, kx_gl, kx_pI, kx_pL, kx_pR, kx_pA, kx_pV, kx_s1, kx_s2, kx_sl, kx_pre, kx_c2, kx_pl, kx_cmp, kx_oF, kx_eqN, kx_nil, kx_c1, kx_ft, kx_aI, kx_aL, kx_aR, kx_ln, Nat.reduceAdd, Option.toList, List.cons_append, List.nil_append, cf8_9, cf9_0, cf9_1, cf9_2, cf9_3, cf9_4, cf9_5, cf9_6, cf9_7])
    repeat' apply And.intro
    all_goals try (first | with_reducible assumption | (with_reducible refine ck_nzI ?_; simp; done) | (with_reducible refine ck_nzL ?_; simp; done) | (with_reducible refine vp_in_nI ?_ ?_ <;> first | omega | decide) | (with_reducible refine Nat.le_of_ble_eq_true ?_; rfl) | omega | exact Or.inl trivial | exact Or.inr trivial | exact Or.inl rfl | exact Or.inr rfl)
    · intro zc32
      have ze32 := zc32
      refine hB bX8_readNumbered_49 _ _ _ _ _ _ _ kX8_readNumbered_49 ?_
      dsimp only [bX8_readNumbered_49, kx_wp, kx_step, kx_lI, kx_lL, kx_lA, kx_gl, kx_pI, kx_pL, kx_pR, kx_pA, kx_pV, kx_s1, kx_s2, kx_sl, kx_pre, kx_c2, kx_pl, kx_cmp, kx_oF, kx_eqN, kx_nil, kx_c1, kx_ft, kx_aI, kx_aL, kx_aR, kx_ln, Nat.reduceAdd, Option.toList, List.cons_append, List.nil_append, cf8_9, cf9_0, cf9_1, cf9_2, cf9_3, cf9_4, cf9_5, cf9_6, cf9_7]
      repeat (simp only [cx_8o, cx_8s, cx_83 hw, cx_84 hw, cx_dq0 hw, cx_dq1 hw, cx_dq2 hw, cx_dp0 hw, cx_dp1 hw, cx_dp2 hw, cx_8f3 hw, cx_8f4 hw, pk_us, pk_un, ne_eq, Nat.reduceEqDiff, not_false_eq_true, cp9_0, cp9_1, cp9_2, cp9_3, cp9_4, cp9_5, cp9_6, cp9_7, ks_eq, ks_ss]; try dsimp only [kx_wp, kx_step, kx_lI, kx_lL, kx_lA, kx_gl, kx_pI, kx_pL, kx_pR, kx_pA, kx_pV, kx_s1, kx_s2, kx_sl, kx_pre, kx_c2, kx_pl, kx_cmp, kx_oF, kx_eqN, kx_nil, kx_c1, kx_ft, kx_aI, kx_aL, kx_aR, kx_ln, Nat.reduceAdd, Option.toList, List.cons_append, List.nil_append, cf8_9, cf9_0, cf9_1, cf9_2, cf9_3, cf9_4, cf9_5, cf9_6, cf9_7])
      repeat' apply And.intro
      all_goals try (first | with_reducible assumption | (with_reducible refine ck_nzI ?_; simp; done) | (with_reducible refine ck_nzL ?_; simp; done) | (with_reducible refine vp_in_nI ?_ ?_ <;> first | omega | decide) | (with_reducible refine Nat.le_of_ble_eq_true ?_; rfl) | omega | exact Or.inl trivial | exact Or.inr trivial | exact Or.inl rfl | exact Or.inr rfl)
      refine kz_lds hK rfl 2 dX8_readNumbered_50 (by decide) rfl ?_
      refine hC.1 96 _ _ _ _ _ _ _ 8 _ _ _ _ _ _ _ _ _ _ _ _ lX8_96 (cx_wi_f hT h6 h7 hb hn 2 (by decide) w2) ⟨by decide, rfl⟩ (cx_8o) rfl rfl (Nat.le_of_ble_eq_true rfl) (by first | decide | omega) (by decide) (by omega) (by omega) dX8_readNumbered_52 ?_
      refine hB bX8_readNumbered_55 _ _ _ _ _ _ _ kX8_readNumbered_55 ?_
      dsimp only [bX8_readNumbered_55, kx_wp, kx_step, kx_lI, kx_lL, kx_lA, kx_gl, kx_pI, kx_pL, kx_pR, kx_pA, kx_pV, kx_s1, kx_s2, kx_sl, kx_pre, kx_c2, kx_pl, kx_cmp, kx_oF, kx_eqN, kx_nil, kx_c1, kx_ft, kx_aI, kx_aL, kx_aR, kx_ln, Nat.reduceAdd, Option.toList, List.cons_append, List.nil_append, cf8_9, cf9_0, cf9_1, cf9_2, cf9_3, cf9_4, cf9_5, cf9_6, cf9_7]
      repeat (simp only [cx_8o, cx_8s, cx_83 hw, cx_84 hw, cx_dq0 hw, cx_dq1 hw, cx_dq2 hw, cx_dp0 hw, cx_dp1 hw, cx_dp2 hw, cx_8f3 hw, cx_8f4 hw, pk_us, pk_un, ne_eq, Nat.reduceEqDiff, not_false_eq_true, cp9_0, cp9_1, cp9_2, cp9_3, cp9_4, cp9_5, cp9_6, cp9_7, ks_eq, ks_ss]; try dsimp only [kx_wp, kx_step, kx_lI, kx_lL, kx_lA, kx_gl, kx_pI, kx_pL, kx_pR, kx_pA, kx_pV, kx_s1, kx_s2, kx_sl, kx_pre, kx_c2, kx_pl, kx_cmp, kx_oF, kx_eqN, kx_nil, kx_c1, kx_ft, kx_aI, kx_aL, kx_aR, kx_ln, Nat.reduceAdd, Option.toList, List.cons_append, List.nil_append, cf8_9, cf9_0, cf9_1, cf9_2, cf9_3, cf9_4, cf9_5, cf9_6, cf9_7])
      repeat' apply And.intro
      all_goals try (first | with_reducible assumption | (with_reducible refine ck_nzI ?_; simp; done) | (with_reducible refine ck_nzL ?_; simp; done) | (with_reducible refine vp_in_nI ?_ ?_ <;> first | omega | decide) | (with_reducible refine Nat.le_of_ble_eq_true ?_; rfl) | omega | exact Or.inl trivial | exact Or.inr trivial | exact Or.inl rfl | exact Or.inr rfl)
      · intro zc55
        have ze55 := zc55
        refine hB bX8_readNumbered_72 _ _ _ _ _ _ _ kX8_readNumbered_72 ?_
        dsimp only [bX8_readNumbered_72, kx_wp, kx_step, kx_lI, kx_lL, kx_lA, kx_gl, kx_pI, kx_pL, kx_pR, kx_pA, kx_pV, kx_s1, kx_s2, kx_sl, kx_pre, kx_c2, kx_pl, kx_cmp, kx_oF, kx_eqN, kx_nil, kx_c1, kx_ft, kx_aI, kx_aL, kx_aR, kx_ln, Nat.reduceAdd, Option.toList, List.cons_append, List.nil_append, cf8_9, cf9_0, cf9_1, cf9_2, cf9_3, cf9_4, cf9_5, cf9_6, cf9_7]
        repeat (simp only [cx_8o, cx_8s, cx_83 hw, cx_84 hw, cx_dq0 hw, cx_dq1 hw, cx_dq2 hw, cx_dp0 hw, cx_dp1 hw, cx_dp2 hw, cx_8f3 hw, cx_8f4 hw, pk_us, pk_un, ne_eq, Nat.reduceEqDiff, not_false_eq_true, cp9_0, cp9_1, cp9_2, cp9_3, cp9_4, cp9_5, cp9_6, cp9_7, ks_eq, ks_ss]; try dsimp only [kx_wp, kx_step, kx_lI, kx_lL, kx_lA, kx_gl, kx_pI, kx_pL, kx_pR, kx_pA, kx_pV, kx_s1, kx_s2, kx_sl, kx_pre, kx_c2, kx_pl, kx_cmp, kx_oF, kx_eqN, kx_nil, kx_c1, kx_ft, kx_aI, kx_aL, kx_aR, kx_ln, Nat.reduceAdd, Option.toList, List.cons_append, List.nil_append, cf8_9, cf9_0, cf9_1, cf9_2, cf9_3, cf9_4, cf9_5, cf9_6, cf9_7])
        repeat' apply And.intro
        all_goals try (first | with_reducible assumption | (with_reducible refine ck_nzI ?_; simp; done) | (with_reducible refine ck_nzL ?_; simp; done) | (with_reducible refine vp_in_nI ?_ ?_ <;> first | omega | decide) | (with_reducible refine Nat.le_of_ble_eq_true ?_; rfl) | omega | exact Or.inl trivial | exact Or.inr trivial | exact Or.inl rfl | exact Or.inr rfl)
        refine kz_lds hK rfl 3 dX8_readNumbered_73 (by decide) rfl ?_
        refine hC.1 96 _ _ _ _ _ _ _ 8 _ _ _ _ _ _ _ _ _ _ _ _ lX8_96 (cx_wi_f hT h6 h7 hb hn 3 (by decide) w3) ⟨by decide, rfl⟩ (cx_8o) rfl rfl (Nat.le_of_ble_eq_true rfl) (by first | decide | omega) (by decide) (by omega) (by omega) dX8_readNumbered_75 ?_
        refine hB bX8_readNumbered_78 _ _ _ _ _ _ _ kX8_readNumbered_78 ?_
        dsimp only [bX8_readNumbered_78, kx_wp, kx_step, kx_lI, kx_lL, kx_lA, kx_gl, kx_pI, kx_pL, kx_pR, kx_pA, kx_pV, kx_s1, kx_s2, kx_sl, kx_pre, kx_c2, kx_pl, kx_cmp, kx_oF, kx_eqN, kx_nil, kx_c1, kx_ft, kx_aI, kx_aL, kx_aR, kx_ln, Nat.reduceAdd, Option.toList, List.cons_append, List.nil_append, cf8_9, cf9_0, cf9_1, cf9_2, cf9_3, cf9_4, cf9_5, cf9_6, cf9_7]
        repeat (simp only [cx_8o, cx_8s, cx_83 hw, cx_84 hw, cx_dq0 hw, cx_dq1 hw, cx_dq2 hw, cx_dp0 hw, cx_dp1 hw, cx_dp2 hw, cx_8f3 hw, cx_8f4 hw, pk_us, pk_un, ne_eq, Nat.reduceEqDiff, not_false_eq_true, cp9_0, cp9_1, cp9_2, cp9_3, cp9_4, cp9_5, cp9_6, cp9_7, ks_eq, ks_ss]; try dsimp only [kx_wp, kx_step, kx_lI, kx_lL, kx_lA, kx_gl, kx_pI, kx_pL, kx_pR, kx_pA, kx_pV, kx_s1, kx_s2, kx_sl, kx_pre, kx_c2, kx_pl, kx_cmp, kx_oF, kx_eqN, kx_nil, kx_c1, kx_ft, kx_aI, kx_aL, kx_aR, kx_ln, Nat.reduceAdd, Option.toList, List.cons_append, List.nil_append, cf8_9, cf9_0, cf9_1, cf9_2, cf9_3, cf9_4, cf9_5, cf9_6, cf9_7])
        repeat' apply And.intro
        all_goals try (first | with_reducible assumption | (with_reducible refine ck_nzI ?_; simp; done) | (with_reducible refine ck_nzL ?_; simp; done) | (with_reducible refine vp_in_nI ?_ ?_ <;> first | omega | decide) | (with_reducible refine Nat.le_of_ble_eq_true ?_; rfl) | omega | exact Or.inl trivial | exact Or.inr trivial | exact Or.inl rfl | exact Or.inr rfl)
        · intro zc78
          have ze78 := zc78
          refine hB bX8_readNumbered_99 _ _ _ _ _ _ _ kX8_readNumbered_99 ?_
          dsimp only [bX8_readNumbered_99, kx_wp, kx_step, kx_lI, kx_lL, kx_lA, kx_gl, kx_pI, kx_pL, kx_pR, kx_pA, kx_pV, kx_s1, kx_s2, kx_sl, kx_pre, kx_c2, kx_pl, kx_cmp, kx_oF, kx_eqN, kx_nil, kx_c1, kx_ft, kx_aI, kx_aL, kx_aR, kx_ln, Nat.reduceAdd, Option.toList, List.cons_append, List.nil_append, cf8_9, cf9_0, cf9_1, cf9_2, cf9_3, cf9_4, cf9_5, cf9_6, cf9_7]
          repeat (simp only [cx_8o, cx_8s, cx_83 hw, cx_84 hw, cx_dq0 hw, cx_dq1 hw, cx_dq2 hw, cx_dp0 hw, cx_dp1 hw, cx_dp2 hw, cx_8f3 hw, cx_8f4 hw, pk_us, pk_un, ne_eq, Nat.reduceEqDiff, not_false_eq_true, cp9_0, cp9_1, cp9_2, cp9_3, cp9_4, cp9_5, cp9_6, cp9_7, ks_eq, ks_ss]; try dsimp only [kx_wp, kx_step, kx_lI, kx_lL, kx_lA, kx_gl, kx_pI, kx_pL, kx_pR, kx_pA, kx_pV, kx_s1, kx_s2, kx_sl, kx_pre, kx_c2, kx_pl, kx_cmp, kx_oF, kx_eqN, kx_nil, kx_c1, kx_ft, kx_aI, kx_aL, kx_aR, kx_ln, Nat.reduceAdd, Option.toList, List.cons_append, List.nil_append, cf8_9, cf9_0, cf9_1, cf9_2, cf9_3, cf9_4, cf9_5, cf9_6, cf9_7])
          repeat' apply And.intro
          all_goals try (first | with_reducible assumption | (with_reducible refine ck_nzI ?_; simp; done) | (with_reducible refine ck_nzL ?_; simp; done) | (with_reducible refine vp_in_nI ?_ ?_ <;> first | omega | decide) | (with_reducible refine Nat.le_of_ble_eq_true ?_; rfl) | omega | exact Or.inl trivial | exact Or.inr trivial | exact Or.inl rfl | exact Or.inr rfl)
          refine kz_lds hK rfl 4 dX8_readNumbered_100 (by decide) rfl ?_
          refine hC.1 96 _ _ _ _ _ _ _ 8 _ _ _ _ _ _ _ _ _ _ _ _ lX8_96 (cx_wi_f hT h6 h7 hb hn 4 (by decide) w4) ⟨by decide, rfl⟩ (cx_8o) rfl rfl (Nat.le_of_ble_eq_true rfl) (by first | decide | omega) (by decide) (by omega) (by omega) dX8_readNumbered_102 ?_
          refine hB bX8_readNumbered_105 _ _ _ _ _ _ _ kX8_readNumbered_105 ?_
          dsimp only [bX8_readNumbered_105, kx_wp, kx_step, kx_lI, kx_lL, kx_lA, kx_gl, kx_pI, kx_pL, kx_pR, kx_pA, kx_pV, kx_s1, kx_s2, kx_sl, kx_pre, kx_c2, kx_pl, kx_cmp, kx_oF, kx_eqN, kx_nil, kx_c1, kx_ft, kx_aI, kx_aL, kx_aR, kx_ln, Nat.reduceAdd, Option.toList, List.cons_append, List.nil_append, cf8_9, cf9_0, cf9_1, cf9_2, cf9_3, cf9_4, cf9_5, cf9_6, cf9_7]
          repeat (simp only [cx_8o, cx_8s, cx_83 hw, cx_84 hw, cx_dq0 hw, cx_dq1 hw, cx_dq2 hw, cx_dp0 hw, cx_dp1 hw, cx_dp2 hw, cx_8f3 hw, cx_8f4 hw, pk_us, pk_un, ne_eq, Nat.reduceEqDiff, not_false_eq_true, cp9_0, cp9_1, cp9_2, cp9_3, cp9_4, cp9_5, cp9_6, cp9_7, ks_eq, ks_ss]; try dsimp only [kx_wp, kx_step, kx_lI, kx_lL, kx_lA, kx_gl, kx_pI, kx_pL, kx_pR, kx_pA, kx_pV, kx_s1, kx_s2, kx_sl, kx_pre, kx_c2, kx_pl, kx_cmp, kx_oF, kx_eqN, kx_nil, kx_c1, kx_ft, kx_aI, kx_aL, kx_aR, kx_ln, Nat.reduceAdd, Option.toList, List.cons_append, List.nil_append, cf8_9, cf9_0, cf9_1, cf9_2, cf9_3, cf9_4, cf9_5, cf9_6, cf9_7])
          repeat' apply And.intro
          all_goals try (first | with_reducible assumption | (with_reducible refine ck_nzI ?_; simp; done) | (with_reducible refine ck_nzL ?_; simp; done) | (with_reducible refine vp_in_nI ?_ ?_ <;> first | omega | decide) | (with_reducible refine Nat.le_of_ble_eq_true ?_; rfl) | omega | exact Or.inl trivial | exact Or.inr trivial | exact Or.inl rfl | exact Or.inr rfl)
          · intro zc105
            have ze105 := zc105
            refine hB bX8_readNumbered_126 _ _ _ _ _ _ _ kX8_readNumbered_126 ?_
            dsimp only [bX8_readNumbered_126, kx_wp, kx_step, kx_lI, kx_lL, kx_lA, kx_gl, kx_pI, kx_pL, kx_pR, kx_pA, kx_pV, kx_s1, kx_s2, kx_sl, kx_pre, kx_c2, kx_pl, kx_cmp, kx_oF, kx_eqN, kx_nil, kx_c1, kx_ft, kx_aI, kx_aL, kx_aR, kx_ln, Nat.reduceAdd, Option.toList, List.cons_append, List.nil_append, cf8_9, cf9_0, cf9_1, cf9_2, cf9_3, cf9_4, cf9_5, cf9_6, cf9_7]
            repeat (simp only [cx_8o, cx_8s, cx_83 hw, cx_84 hw, cx_dq0 hw, cx_dq1 hw, cx_dq2 hw, cx_dp0 hw, cx_dp1 hw, cx_dp2 hw, cx_8f3 hw, cx_8f4 hw, pk_us, pk_un, ne_eq, Nat.reduceEqDiff, not_false_eq_true, cp9_0, cp9_1, cp9_2, cp9_3, cp9_4, cp9_5, cp9_6, cp9_7, ks_eq, ks_ss]; try dsimp only [kx_wp, kx_step, kx_lI, kx_lL, kx_lA, kx_gl, kx_pI, kx_pL, kx_pR, kx_pA, kx_pV, kx_s1, kx_s2, kx_sl, kx_pre, kx_c2, kx_pl, kx_cmp, kx_oF, kx_eqN, kx_nil, kx_c1, kx_ft, kx_aI, kx_aL, kx_aR, kx_ln, Nat.reduceAdd, Option.toList, List.cons_append, List.nil_append, cf8_9, cf9_0, cf9_1, cf9_2, cf9_3, cf9_4, cf9_5, cf9_6, cf9_7])
            repeat' apply And.intro
            all_goals try (first | with_reducible assumption | (with_reducible refine ck_nzI ?_; simp; done) | (with_reducible refine ck_nzL ?_; simp; done) | (with_reducible refine vp_in_nI ?_ ?_ <;> first | omega | decide) | (with_reducible refine Nat.le_of_ble_eq_true ?_; rfl) | omega | exact Or.inl trivial | exact Or.inr trivial | exact Or.inl rfl | exact Or.inr rfl)
            refine kz_lds hK rfl 5 dX8_readNumbered_127 (by decide) rfl ?_
            refine hC.1 96 _ _ _ _ _ _ _ 8 _ _ _ _ _ _ _ _ _ _ _ _ lX8_96 (cx_wi_f hT h6 h7 hb hn 5 (by decide) w5) ⟨by decide, rfl⟩ (cx_8o) rfl rfl (Nat.le_of_ble_eq_true rfl) (by first | decide | omega) (by decide) (by omega) (by omega) dX8_readNumbered_129 ?_
            refine hB bX8_readNumbered_132 _ _ _ _ _ _ _ kX8_readNumbered_132 ?_
            dsimp only [bX8_readNumbered_132, kx_wp, kx_step, kx_lI, kx_lL, kx_lA, kx_gl, kx_pI, kx_pL, kx_pR, kx_pA, kx_pV, kx_s1, kx_s2, kx_sl, kx_pre, kx_c2, kx_pl, kx_cmp, kx_oF, kx_eqN, kx_nil, kx_c1, kx_ft, kx_aI, kx_aL, kx_aR, kx_ln, Nat.reduceAdd, Option.toList, List.cons_append, List.nil_append, cf8_9, cf9_0, cf9_1, cf9_2, cf9_3, cf9_4, cf9_5, cf9_6, cf9_7]
            repeat (simp only [cx_8o, cx_8s, cx_83 hw, cx_84 hw, cx_dq0 hw, cx_dq1 hw, cx_dq2 hw, cx_dp0 hw, cx_dp1 hw, cx_dp2 hw, cx_8f3 hw, cx_8f4 hw, pk_us, pk_un, ne_eq, Nat.reduceEqDiff, not_false_eq_true, cp9_0, cp9_1, cp9_2, cp9_3, cp9_4, cp9_5, cp9_6, cp9_7, ks_eq, ks_ss]; try dsimp only [kx_wp, kx_step, kx_lI, kx_lL, kx_lA, kx_gl, kx_pI, kx_pL, kx_pR, kx_pA, kx_pV, kx_s1, kx_s2, kx_sl, kx_pre, kx_c2, kx_pl, kx_cmp, kx_oF, kx_eqN, kx_nil, kx_c1, kx_ft, kx_aI, kx_aL, kx_aR, kx_ln, Nat.reduceAdd, Option.toList, List.cons_append, List.nil_append, cf8_9, cf9_0, cf9_1, cf9_2, cf9_3, cf9_4, cf9_5, cf9_6, cf9_7])
            repeat' apply And.intro
            all_goals try (first | with_reducible assumption | (with_reducible refine ck_nzI ?_; simp; done) | (with_reducible refine ck_nzL ?_; simp; done) | (with_reducible refine vp_in_nI ?_ ?_ <;> first | omega | decide) | (with_reducible refine Nat.le_of_ble_eq_true ?_; rfl) | omega | exact Or.inl trivial | exact Or.inr trivial | exact Or.inl rfl | exact Or.inr rfl)
            · intro zc132
              have ze132 := zc132
              refine hB bX8_readNumbered_152 _ _ _ _ _ _ _ kX8_readNumbered_152 ?_
              dsimp only [bX8_readNumbered_152, kx_wp, kx_step, kx_lI, kx_lL, kx_lA, kx_gl, kx_pI, kx_pL, kx_pR, kx_pA, kx_pV, kx_s1, kx_s2, kx_sl, kx_pre, kx_c2, kx_pl, kx_cmp, kx_oF, kx_eqN, kx_nil, kx_c1, kx_ft, kx_aI, kx_aL, kx_aR, kx_ln, Nat.reduceAdd, Option.toList, List.cons_append, List.nil_append, cf8_9, cf9_0, cf9_1, cf9_2, cf9_3, cf9_4, cf9_5, cf9_6, cf9_7]
              repeat (simp only [cx_8o, cx_8s, cx_83 hw, cx_84 hw, cx_dq0 hw, cx_dq1 hw, cx_dq2 hw, cx_dp0 hw, cx_dp1 hw, cx_dp2 hw, cx_8f3 hw, cx_8f4 hw, pk_us, pk_un, ne_eq, Nat.reduceEqDiff, not_false_eq_true, cp9_0, cp9_1, cp9_2, cp9_3, cp9_4, cp9_5, cp9_6, cp9_7, ks_eq, ks_ss]; try dsimp only [kx_wp, kx_step, kx_lI, kx_lL, kx_lA, kx_gl, kx_pI, kx_pL, kx_pR, kx_pA, kx_pV, kx_s1, kx_s2, kx_sl, kx_pre, kx_c2, kx_pl, kx_cmp, kx_oF, kx_eqN, kx_nil, kx_c1, kx_ft, kx_aI, kx_aL, kx_aR, kx_ln, Nat.reduceAdd, Option.toList, List.cons_append, List.nil_append, cf8_9, cf9_0, cf9_1, cf9_2, cf9_3, cf9_4, cf9_5, cf9_6, cf9_7])
              repeat' apply And.intro
              all_goals try (first | with_reducible assumption | (with_reducible refine ck_nzI ?_; simp; done) | (with_reducible refine ck_nzL ?_; simp; done) | (with_reducible refine vp_in_nI ?_ ?_ <;> first | omega | decide) | (with_reducible refine Nat.le_of_ble_eq_true ?_; rfl) | omega | exact Or.inl trivial | exact Or.inr trivial | exact Or.inl rfl | exact Or.inr rfl)
              refine kz_lds hK rfl 6 dX8_readNumbered_153 (by decide) rfl ?_
              refine hC.1 96 _ _ _ _ _ _ _ 8 _ _ _ _ _ _ _ _ _ _ _ _ lX8_96 (cx_wi_f hT h6 h7 hb hn 6 (by decide) w6) ⟨by decide, rfl⟩ (cx_8o) rfl rfl (Nat.le_of_ble_eq_true rfl) (by first | decide | omega) (by decide) (by omega) (by omega) dX8_readNumbered_155 ?_
              refine hB bX8_readNumbered_158 _ _ _ _ _ _ _ kX8_readNumbered_158 ?_
              dsimp only [bX8_readNumbered_158, kx_wp, kx_step, kx_lI, kx_lL, kx_lA, kx_gl, kx_pI, kx_pL, kx_pR, kx_pA, kx_pV, kx_s1, kx_s2, kx_sl, kx_pre, kx_c2, kx_pl, kx_cmp, kx_oF, kx_eqN, kx_nil, kx_c1, kx_ft, kx_aI, kx_aL, kx_aR, kx_ln, Nat.reduceAdd, Option.toList, List.cons_append, List.nil_append, cf8_9, cf9_0, cf9_1, cf9_2, cf9_3, cf9_4, cf9_5, cf9_6, cf9_7]
              repeat (simp only [cx_8o, cx_8s, cx_83 hw, cx_84 hw, cx_dq0 hw, cx_dq1 hw, cx_dq2 hw, cx_dp0 hw, cx_dp1 hw, cx_dp2 hw, cx_8f3 hw, cx_8f4 hw, pk_us, pk_un, ne_eq, Nat.reduceEqDiff, not_false_eq_true, cp9_0, cp9_1, cp9_2, cp9_3, cp9_4, cp9_5, cp9_6, cp9_7, ks_eq, ks_ss]; try dsimp only [kx_wp, kx_step, kx_lI, kx_lL, kx_lA, kx_gl, kx_pI, kx_pL, kx_pR, kx_pA, kx_pV, kx_s1, kx_s2, kx_sl, kx_pre, kx_c2, kx_pl, kx_cmp, kx_oF, kx_eqN, kx_nil, kx_c1, kx_ft, kx_aI, kx_aL, kx_aR, kx_ln, Nat.reduceAdd, Option.toList, List.cons_append, List.nil_append, cf8_9, cf9_0, cf9_1, cf9_2, cf9_3, cf9_4, cf9_5, cf9_6, cf9_7])
              repeat' apply And.intro
              all_goals try (first | with_reducible assumption | (with_reducible refine ck_nzI ?_; simp; done) | (with_reducible refine ck_nzL ?_; simp; done) | (with_reducible refine vp_in_nI ?_ ?_ <;> first | omega | decide) | (with_reducible refine Nat.le_of_ble_eq_true ?_; rfl) | omega | exact Or.inl trivial | exact Or.inr trivial | exact Or.inl rfl | exact Or.inr rfl)
              · intro zc158
                have ze158 := zc158
                refine hB bX8_readNumbered_179 _ _ _ _ _ _ _ kX8_readNumbered_179 ?_
                dsimp only [bX8_readNumbered_179, kx_wp, kx_step, kx_lI, kx_lL, kx_lA, kx_gl, kx_pI, kx_pL, kx_pR, kx_pA, kx_pV, kx_s1, kx_s2, kx_sl, kx_pre, kx_c2, kx_pl, kx_cmp, kx_oF, kx_eqN, kx_nil, kx_c1, kx_ft, kx_aI, kx_aL, kx_aR, kx_ln, Nat.reduceAdd, Option.toList, List.cons_append, List.nil_append, cf8_9, cf9_0, cf9_1, cf9_2, cf9_3, cf9_4, cf9_5, cf9_6, cf9_7]
                repeat (simp only [cx_8o, cx_8s, cx_83 hw, cx_84 hw, cx_dq0 hw, cx_dq1 hw, cx_dq2 hw, cx_dp0 hw, cx_dp1 hw, cx_dp2 hw, cx_8f3 hw, cx_8f4 hw, pk_us, pk_un, ne_eq, Nat.reduceEqDiff, not_false_eq_true, cp9_0, cp9_1, cp9_2, cp9_3, cp9_4, cp9_5, cp9_6, cp9_7, ks_eq, ks_ss]; try dsimp only [kx_wp, kx_step, kx_lI, kx_lL, kx_lA, kx_gl, kx_pI, kx_pL, kx_pR, kx_pA, kx_pV, kx_s1, kx_s2, kx_sl, kx_pre, kx_c2, kx_pl, kx_cmp, kx_oF, kx_eqN, kx_nil, kx_c1, kx_ft, kx_aI, kx_aL, kx_aR, kx_ln, Nat.reduceAdd, Option.toList, List.cons_append, List.nil_append, cf8_9, cf9_0, cf9_1, cf9_2, cf9_3, cf9_4, cf9_5, cf9_6, cf9_7])
                repeat' apply And.intro
                all_goals try (first | with_reducible assumption | (with_reducible refine ck_nzI ?_; simp; done) | (with_reducible refine ck_nzL ?_; simp; done) | (with_reducible refine vp_in_nI ?_ ?_ <;> first | omega | decide) | (with_reducible refine Nat.le_of_ble_eq_true ?_; rfl) | omega | exact Or.inl trivial | exact Or.inr trivial | exact Or.inl rfl | exact Or.inr rfl)
                refine hC.1 85 _ _ _ _ _ _ _ 8 _ _ _ _ _ _ _ _ _ _ _ _ lX8_85 (hM) ⟨by decide, rfl⟩ (cx_8o) rfl rfl (Nat.le_of_ble_eq_true rfl) (by first | decide | omega) (by decide) (by omega) (by omega) dX8_readNumbered_188 ?_
                refine hB bX8_readNumbered_191 _ _ _ _ _ _ _ kX8_readNumbered_191 ?_
                dsimp only [bX8_readNumbered_191, kx_wp, kx_step, kx_lI, kx_lL, kx_lA, kx_gl, kx_pI, kx_pL, kx_pR, kx_pA, kx_pV, kx_s1, kx_s2, kx_sl, kx_pre, kx_c2, kx_pl, kx_cmp, kx_oF, kx_eqN, kx_nil, kx_c1, kx_ft, kx_aI, kx_aL, kx_aR, kx_ln, Nat.reduceAdd, Option.toList, List.cons_append, List.nil_append, cf8_9, cf9_0, cf9_1, cf9_2, cf9_3, cf9_4, cf9_5, cf9_6, cf9_7]
                repeat (simp only [cx_8o, cx_8s, cx_83 hw, cx_84 hw, cx_dq0 hw, cx_dq1 hw, cx_dq2 hw, cx_dp0 hw, cx_dp1 hw, cx_dp2 hw, cx_8f3 hw, cx_8f4 hw, pk_us, pk_un, ne_eq, Nat.reduceEqDiff, not_false_eq_true, cp9_0, cp9_1, cp9_2, cp9_3, cp9_4, cp9_5, cp9_6, cp9_7, ks_eq, ks_ss]; try dsimp only [kx_wp, kx_step, kx_lI, kx_lL, kx_lA, kx_gl, kx_pI, kx_pL, kx_pR, kx_pA, kx_pV, kx_s1, kx_s2, kx_sl, kx_pre, kx_c2, kx_pl, kx_cmp, kx_oF, kx_eqN, kx_nil, kx_c1, kx_ft, kx_aI, kx_aL, kx_aR, kx_ln, Nat.reduceAdd, Option.toList, List.cons_append, List.nil_append, cf8_9, cf9_0, cf9_1, cf9_2, cf9_3, cf9_4, cf9_5, cf9_6, cf9_7])
                repeat' apply And.intro
                all_goals try (first | with_reducible assumption | (with_reducible refine ck_nzI ?_; simp; done) | (with_reducible refine ck_nzL ?_; simp; done) | (with_reducible refine vp_in_nI ?_ ?_ <;> first | omega | decide) | (with_reducible refine Nat.le_of_ble_eq_true ?_; rfl) | omega | exact Or.inl trivial | exact Or.inr trivial | exact Or.inl rfl | exact Or.inr rfl)
                refine hB bX8_readNumbered_194 _ _ _ _ _ _ _ kX8_readNumbered_194 ?_
                dsimp only [bX8_readNumbered_194, kx_wp, kx_step, kx_lI, kx_lL, kx_lA, kx_gl, kx_pI, kx_pL, kx_pR, kx_pA, kx_pV, kx_s1, kx_s2, kx_sl, kx_pre, kx_c2, kx_pl, kx_cmp, kx_oF, kx_eqN, kx_nil, kx_c1, kx_ft, kx_aI, kx_aL, kx_aR, kx_ln, Nat.reduceAdd, Option.toList, List.cons_append, List.nil_append, cf8_9, cf9_0, cf9_1, cf9_2, cf9_3, cf9_4, cf9_5, cf9_6, cf9_7]
                repeat (simp only [cx_8o, cx_8s, cx_83 hw, cx_84 hw, cx_dq0 hw, cx_dq1 hw, cx_dq2 hw, cx_dp0 hw, cx_dp1 hw, cx_dp2 hw, cx_8f3 hw, cx_8f4 hw, pk_us, pk_un, ne_eq, Nat.reduceEqDiff, not_false_eq_true, cp9_0, cp9_1, cp9_2, cp9_3, cp9_4, cp9_5, cp9_6, cp9_7, ks_eq, ks_ss]; try dsimp only [kx_wp, kx_step, kx_lI, kx_lL, kx_lA, kx_gl, kx_pI, kx_pL, kx_pR, kx_pA, kx_pV, kx_s1, kx_s2, kx_sl, kx_pre, kx_c2, kx_pl, kx_cmp, kx_oF, kx_eqN, kx_nil, kx_c1, kx_ft, kx_aI, kx_aL, kx_aR, kx_ln, Nat.reduceAdd, Option.toList, List.cons_append, List.nil_append, cf8_9, cf9_0, cf9_1, cf9_2, cf9_3, cf9_4, cf9_5, cf9_6, cf9_7])
                all_goals (repeat' apply And.intro)
                all_goals ((try clear hB hC); first | exact True.intro | rfl)
              · intro zc158
                first | exact absurd rfl zc158 | exact absurd zc158 (by decide) | exact absurd (by decide) zc158 | (exfalso; ((try clear hB hC); simp only [ck_lt, ck_le, ck_eq, not_true_eq_false, not_false_eq_true, Int32.reduceToInt, Int32.reduceAdd, Int32.reduceSub, Int32.reduceMul] at * <;> omega)) | (exfalso; simp_all; done)
            · intro zc132
              first | exact absurd rfl zc132 | exact absurd zc132 (by decide) | exact absurd (by decide) zc132 | (exfalso; ((try clear hB hC); simp only [ck_lt, ck_le, ck_eq, not_true_eq_false, not_false_eq_true, Int32.reduceToInt, Int32.reduceAdd, Int32.reduceSub, Int32.reduceMul] at * <;> omega)) | (exfalso; simp_all; done)
          · intro zc105
            first | exact absurd rfl zc105 | exact absurd zc105 (by decide) | exact absurd (by decide) zc105 | (exfalso; ((try clear hB hC); simp only [ck_lt, ck_le, ck_eq, not_true_eq_false, not_false_eq_true, Int32.reduceToInt, Int32.reduceAdd, Int32.reduceSub, Int32.reduceMul] at * <;> omega)) | (exfalso; simp_all; done)
        · intro zc78
          first | exact absurd rfl zc78 | exact absurd zc78 (by decide) | exact absurd (by decide) zc78 | (exfalso; ((try clear hB hC); simp only [ck_lt, ck_le, ck_eq, not_true_eq_false, not_false_eq_true, Int32.reduceToInt, Int32.reduceAdd, Int32.reduceSub, Int32.reduceMul] at * <;> omega)) | (exfalso; simp_all; done)
      · intro zc55
        first | exact absurd rfl zc55 | exact absurd zc55 (by decide) | exact absurd (by decide) zc55 | (exfalso; ((try clear hB hC); simp only [ck_lt, ck_le, ck_eq, not_true_eq_false, not_false_eq_true, Int32.reduceToInt, Int32.reduceAdd, Int32.reduceSub, Int32.reduceMul] at * <;> omega)) | (exfalso; simp_all; done)
    · intro zc32
      first | exact absurd rfl zc32 | exact absurd zc32 (by decide) | exact absurd (by decide) zc32 | (exfalso; ((try clear hB hC); simp only [ck_lt, ck_le, ck_eq, not_true_eq_false, not_false_eq_true, Int32.reduceToInt, Int32.reduceAdd, Int32.reduceSub, Int32.reduceMul] at * <;> omega)) | (exfalso; simp_all; done)
  · intro zc6
    first | exact absurd rfl zc6 | exact absurd zc6 (by decide) | exact absurd (by decide) zc6 | (exfalso; ((try clear hB hC); simp only [ck_lt, ck_le, ck_eq, not_true_eq_false, not_false_eq_true, Int32.reduceToInt, Int32.reduceAdd, Int32.reduceSub, Int32.reduceMul] at * <;> omega)) | (exfalso; simp_all; done)


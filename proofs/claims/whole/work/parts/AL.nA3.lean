/-- what reading a sum leaves, where its answer is dropped -/
def cx_PEn (Q : kx_P) (w : Nat) (T : Nat → Int32) (n : Nat) (S : ck_R) (sz : Nat) : Option Value → kx_P → Nat → Prop := fun r P2 s2 => ∃ F Fo st, r = none ∧ s2 = sz ∧ P2 = cx_8 (cx_fW Q w Fo st) (.ref w) F ∧ (S.2.1 = -1 → cx_E T n S F Fo st) ∧ (¬ S.2.1 = -1 → cx_X S F)
theorem cx_PEn.rn {Q : kx_P} {w : Nat} {T : Nat → Int32} {n : Nat} {S : ck_R} {sz : Nat} {r : Option Value} {P2 : kx_P} {s2 : Nat} (h : cx_PEn Q w T n S sz r P2 s2) : r = none := by
  obtain ⟨F, Fo, st, h1, -⟩ := h
  exact h1
def bX8_readStrike_0 : List kx_O := [(.aload_n 0, 0, 0, 0, .null)]
theorem kX8_readStrike_0 : kx_oks kxL_X8 false cX8_readStrike 0 bX8_readStrike_0 = true := by decide +kernel
def bX8_readStrike_4 : List kx_O := [(.aload_n 0, 0, 0, 0, .null)]
theorem kX8_readStrike_4 : kx_oks kxL_X8 false cX8_readStrike 4 bX8_readStrike_4 = true := by decide +kernel
def bX8_readStrike_10 : List kx_O := [(.ifCond .eq 18, 28, 0, 0, .null)]
theorem kX8_readStrike_10 : kx_oks kxL_X8 false cX8_readStrike 10 bX8_readStrike_10 = true := by decide +kernel
def bX8_readStrike_13 : List kx_O := [(.aload_n 0, 0, 0, 0, .null), (.getfield 37, 8, 9, 0, .null)]
theorem kX8_readStrike_13 : kx_oks kxL_X8 false cX8_readStrike 13 bX8_readStrike_13 = true := by decide +kernel
def bX8_readStrike_20 : List kx_O := [(.aload_n 0, 0, 0, 0, .null)]
theorem kX8_readStrike_20 : kx_oks kxL_X8 false cX8_readStrike 20 bX8_readStrike_20 = true := by decide +kernel
def bX8_readStrike_24 : List kx_O := [(.pop, 0, 0, 0, .null), (.goto 36, 61, 0, 0, .null)]
theorem kX8_readStrike_24 : kx_oks kxL_X8 false cX8_readStrike 24 bX8_readStrike_24 = true := by decide +kernel
def bX8_readStrike_28 : List kx_O := [(.aload_n 0, 0, 0, 0, .null)]
theorem kX8_readStrike_28 : kx_oks kxL_X8 false cX8_readStrike 28 bX8_readStrike_28 = true := by decide +kernel
def bX8_readStrike_34 : List kx_O := [(.ifCond .eq 17, 51, 0, 0, .null)]
theorem kX8_readStrike_34 : kx_oks kxL_X8 false cX8_readStrike 34 bX8_readStrike_34 = true := by decide +kernel
def bX8_readStrike_37 : List kx_O := [(.aload_n 0, 0, 0, 0, .null), (.getfield 37, 8, 9, 0, .null)]
theorem kX8_readStrike_37 : kx_oks kxL_X8 false cX8_readStrike 37 bX8_readStrike_37 = true := by decide +kernel
def bX8_readStrike_44 : List kx_O := [(.aload_n 0, 0, 0, 0, .null)]
theorem kX8_readStrike_44 : kx_oks kxL_X8 false cX8_readStrike 44 bX8_readStrike_44 = true := by decide +kernel
def bX8_readStrike_48 : List kx_O := [(.goto 13, 61, 0, 0, .null)]
theorem kX8_readStrike_48 : kx_oks kxL_X8 false cX8_readStrike 48 bX8_readStrike_48 = true := by decide +kernel
def bX8_readStrike_51 : List kx_O := [(.aload_n 0, 0, 0, 0, .null), (.iconst 1, 0, 0, 0, .int 1), (.aload_n 0, 0, 0, 0, .null), (.getfield 62, 8, 6, 0, .null)]
theorem kX8_readStrike_51 : kx_oks kxL_X8 false cX8_readStrike 51 bX8_readStrike_51 = true := by decide +kernel
def bX8_readStrike_60 : List kx_O := [(.pop, 0, 0, 0, .null)]
theorem kX8_readStrike_60 : kx_oks kxL_X8 false cX8_readStrike 60 bX8_readStrike_60 = true := by decide +kernel
def bX8_readStrike_61 : List kx_O := [(.return_, 0, 0, 0, .null)]
theorem kX8_readStrike_61 : kx_oks kxL_X8 false cX8_readStrike 61 bX8_readStrike_61 = true := by decide +kernel
theorem dX8_readStrike_1 : decode cX8_readStrike 1 = .ok (.invokevirtual 88, 3) := by decide +kernel
theorem dX8_readStrike_5 : decode cX8_readStrike 5 = .ok (.ldc 159, 2) := by decide +kernel
theorem dX8_readStrike_7 : decode cX8_readStrike 7 = .ok (.invokevirtual 96, 3) := by decide +kernel
theorem dX8_readStrike_17 : decode cX8_readStrike 17 = .ok (.invokevirtual 161, 3) := by decide +kernel
theorem dX8_readStrike_21 : decode cX8_readStrike 21 = .ok (.invokevirtual 164, 3) := by decide +kernel
theorem dX8_readStrike_29 : decode cX8_readStrike 29 = .ok (.ldc 167, 2) := by decide +kernel
theorem dX8_readStrike_31 : decode cX8_readStrike 31 = .ok (.invokevirtual 96, 3) := by decide +kernel
theorem dX8_readStrike_41 : decode cX8_readStrike 41 = .ok (.invokevirtual 169, 3) := by decide +kernel
theorem dX8_readStrike_45 : decode cX8_readStrike 45 = .ok (.invokevirtual 172, 3) := by decide +kernel
theorem dX8_readStrike_57 : decode cX8_readStrike 57 = .ok (.invokevirtual 58, 3) := by decide +kernel
set_option maxRecDepth 100000 in
set_option maxHeartbeats 4000000 in
theorem ck9_r (l : Launch) (G : kx_G) {P : kx_P} {sz : Nat} {Q : kx_P} {w : Nat} (hw : 144 ≤ w) {F V te qu Fo st T : Nat → Int32} (hT : cx_fW (cx_vW Q w V te qu) w Fo st 67 = kI 0 400 T) {n a : Nat} (h1 : F 1 = nI n) (hn : n ≤ 400) (h2 : F 2 = nI a) (ha : a ≤ n) {S2 : ck_R} {d d2 : Nat} (hdd : 7 ≤ d) (hd2 : d2 < d) (w0 : ck_wo_ T n a = kz_co 12) (hs2 : kx_Mn l G sX8_readSum d2 0 0 [.ref 68] (cx_8 (cx_fW (cx_vW Q w (upd (upd V 12 0) 14 0) (te) (qu)) w (upd Fo 1 0) (st)) (.ref w) (cx_tw T n a F)) sz (cx_PE (cx_vW Q w (upd (upd V 12 0) 14 0) te qu) w T n S2 sz))  : kx_Mn l G sX8_readStrike d 0 0 [.ref 68] (cx_8 (cx_fW (cx_vW Q w (V) (te) (qu)) w (Fo) (st)) (.ref w) (F)) sz (cx_PEn (cx_vW Q w (upd (upd V 12 0) 14 0) te qu) w T n S2 sz) := by
  refine kz_m2 kx_tab kxLok_X8 (ini := false) [some (.ref 68)] ⟨by decide +kernel, rfl, by decide, by omega⟩ (fun _ _ _ h => Or.inl h.rn) rfl rfl (fun g hB hC hN hK => ?_)
  refine hB bX8_readStrike_0 _ _ _ _ _ _ _ kX8_readStrike_0 ?_
  dsimp only [bX8_readStrike_0, kx_wp, kx_step, kx_lI, kx_lL, kx_lA, kx_gl, kx_pI, kx_pL, kx_pR, kx_pA, kx_pV, kx_s1, kx_s2, kx_sl, kx_pre, kx_c2, kx_pl, kx_cmp, kx_oF, kx_eqN, kx_nil, kx_c1, kx_ft, kx_aI, kx_aL, kx_aR, kx_ln, Nat.reduceAdd, Option.toList, List.cons_append, List.nil_append, cf8_9, cf8_6]
  repeat (simp only [cx_8o, cx_8s, cx_83 hw, cx_84 hw, cx_dq0 hw, cx_dq1 hw, cx_dq2 hw, cx_dp0 hw, cx_dp1 hw, cx_dp2 hw, cx_8f3 hw, cx_8f4 hw, pk_us, pk_un, ne_eq, Nat.reduceEqDiff, not_false_eq_true, ks_eq, ks_ss]; try dsimp only [kx_wp, kx_step, kx_lI, kx_lL, kx_lA, kx_gl, kx_pI, kx_pL, kx_pR, kx_pA, kx_pV, kx_s1, kx_s2, kx_sl, kx_pre, kx_c2, kx_pl, kx_cmp, kx_oF, kx_eqN, kx_nil, kx_c1, kx_ft, kx_aI, kx_aL, kx_aR, kx_ln, Nat.reduceAdd, Option.toList, List.cons_append, List.nil_append, cf8_9, cf8_6])
  repeat' apply And.intro
  all_goals try (first | with_reducible assumption | (with_reducible refine ck_nzI ?_; simp; done) | (with_reducible refine ck_nzL ?_; simp; done) | (with_reducible refine vp_in_nI ?_ ?_ <;> first | omega | decide) | (with_reducible refine Nat.le_of_ble_eq_true ?_; rfl) | omega | exact Or.inl trivial | exact Or.inr trivial | exact Or.inl rfl | exact Or.inr rfl)
  refine hC.1 88 _ _ _ _ _ _ _ 8 _ _ _ _ _ _ _ _ _ _ _ _ lX8_88 (ct_X8_takeWord l G (x := .ref w) hT h1 hn h2 ha) ⟨by decide, rfl⟩ (by first | exact cx_8o | exact cx_dq0 hw) rfl rfl (Nat.le_of_ble_eq_true rfl) (by first | decide | omega) (by decide) (by omega) (by omega) dX8_readStrike_1 ?_
  refine hB bX8_readStrike_4 _ _ _ _ _ _ _ kX8_readStrike_4 ?_
  dsimp only [bX8_readStrike_4, kx_wp, kx_step, kx_lI, kx_lL, kx_lA, kx_gl, kx_pI, kx_pL, kx_pR, kx_pA, kx_pV, kx_s1, kx_s2, kx_sl, kx_pre, kx_c2, kx_pl, kx_cmp, kx_oF, kx_eqN, kx_nil, kx_c1, kx_ft, kx_aI, kx_aL, kx_aR, kx_ln, Nat.reduceAdd, Option.toList, List.cons_append, List.nil_append, cf8_9, cf8_6]
  repeat (simp only [cx_8o, cx_8s, cx_83 hw, cx_84 hw, cx_dq0 hw, cx_dq1 hw, cx_dq2 hw, cx_dp0 hw, cx_dp1 hw, cx_dp2 hw, cx_8f3 hw, cx_8f4 hw, pk_us, pk_un, ne_eq, Nat.reduceEqDiff, not_false_eq_true, ks_eq, ks_ss]; try dsimp only [kx_wp, kx_step, kx_lI, kx_lL, kx_lA, kx_gl, kx_pI, kx_pL, kx_pR, kx_pA, kx_pV, kx_s1, kx_s2, kx_sl, kx_pre, kx_c2, kx_pl, kx_cmp, kx_oF, kx_eqN, kx_nil, kx_c1, kx_ft, kx_aI, kx_aL, kx_aR, kx_ln, Nat.reduceAdd, Option.toList, List.cons_append, List.nil_append, cf8_9, cf8_6])
  repeat' apply And.intro
  all_goals try (first | with_reducible assumption | (with_reducible refine ck_nzI ?_; simp; done) | (with_reducible refine ck_nzL ?_; simp; done) | (with_reducible refine vp_in_nI ?_ ?_ <;> first | omega | decide) | (with_reducible refine Nat.le_of_ble_eq_true ?_; rfl) | omega | exact Or.inl trivial | exact Or.inr trivial | exact Or.inl rfl | exact Or.inr rfl)
  refine kz_lds hK rfl 12 dX8_readStrike_5 (by decide) rfl ?_
  refine hC.1 96 _ _ _ _ _ _ _ 8 _ _ _ _ _ _ _ _ _ _ _ _ lX8_96 (cx_wi_t (x := .ref w) (F := (cx_tw T n a F)) hT (b := a) rfl rfl ha hn 12 (by decide) w0) ⟨by decide, rfl⟩ (by first | exact cx_8o | exact cx_dq0 hw) rfl rfl (Nat.le_of_ble_eq_true rfl) (by first | decide | omega) (by decide) (by omega) (by omega) dX8_readStrike_7 ?_
  refine hB bX8_readStrike_10 _ _ _ _ _ _ _ kX8_readStrike_10 ?_
  dsimp only [bX8_readStrike_10, kx_wp, kx_step, kx_lI, kx_lL, kx_lA, kx_gl, kx_pI, kx_pL, kx_pR, kx_pA, kx_pV, kx_s1, kx_s2, kx_sl, kx_pre, kx_c2, kx_pl, kx_cmp, kx_oF, kx_eqN, kx_nil, kx_c1, kx_ft, kx_aI, kx_aL, kx_aR, kx_ln, Nat.reduceAdd, Option.toList, List.cons_append, List.nil_append, cf8_9, cf8_6]
  repeat (simp only [cx_8o, cx_8s, cx_83 hw, cx_84 hw, cx_dq0 hw, cx_dq1 hw, cx_dq2 hw, cx_dp0 hw, cx_dp1 hw, cx_dp2 hw, cx_8f3 hw, cx_8f4 hw, pk_us, pk_un, ne_eq, Nat.reduceEqDiff, not_false_eq_true, ks_eq, ks_ss]; try dsimp only [kx_wp, kx_step, kx_lI, kx_lL, kx_lA, kx_gl, kx_pI, kx_pL, kx_pR, kx_pA, kx_pV, kx_s1, kx_s2, kx_sl, kx_pre, kx_c2, kx_pl, kx_cmp, kx_oF, kx_eqN, kx_nil, kx_c1, kx_ft, kx_aI, kx_aL, kx_aR, kx_ln, Nat.reduceAdd, Option.toList, List.cons_append, List.nil_append, cf8_9, cf8_6])
  repeat' apply And.intro
  all_goals try (first | with_reducible assumption | (with_reducible refine ck_nzI ?_; simp; done) | (with_reducible refine ck_nzL ?_; simp; done) | (with_reducible refine vp_in_nI ?_ ?_ <;> first | omega | decide) | (with_reducible refine Nat.le_of_ble_eq_true ?_; rfl) | omega | exact Or.inl trivial | exact Or.inr trivial | exact Or.inl rfl | exact Or.inr rfl)
  · intro zc10
    first | exact absurd rfl zc10 | exact absurd zc10 (by decide) | exact absurd (by decide) zc10 | (exfalso; ((try clear hB hC); simp only [ck_lt, ck_le, ck_eq, not_true_eq_false, not_false_eq_true, Int32.reduceToInt, Int32.reduceAdd, Int32.reduceSub, Int32.reduceMul] at * <;> omega)) | (exfalso; simp_all; done)
  · intro zc10
    have ze10 := zc10
    refine hB bX8_readStrike_13 _ _ _ _ _ _ _ kX8_readStrike_13 ?_
    dsimp only [bX8_readStrike_13, kx_wp, kx_step, kx_lI, kx_lL, kx_lA, kx_gl, kx_pI, kx_pL, kx_pR, kx_pA, kx_pV, kx_s1, kx_s2, kx_sl, kx_pre, kx_c2, kx_pl, kx_cmp, kx_oF, kx_eqN, kx_nil, kx_c1, kx_ft, kx_aI, kx_aL, kx_aR, kx_ln, Nat.reduceAdd, Option.toList, List.cons_append, List.nil_append, cf8_9, cf8_6]
    repeat (simp only [cx_8o, cx_8s, cx_83 hw, cx_84 hw, cx_dq0 hw, cx_dq1 hw, cx_dq2 hw, cx_dp0 hw, cx_dp1 hw, cx_dp2 hw, cx_8f3 hw, cx_8f4 hw, pk_us, pk_un, ne_eq, Nat.reduceEqDiff, not_false_eq_true, ks_eq, ks_ss]; try dsimp only [kx_wp, kx_step, kx_lI, kx_lL, kx_lA, kx_gl, kx_pI, kx_pL, kx_pR, kx_pA, kx_pV, kx_s1, kx_s2, kx_sl, kx_pre, kx_c2, kx_pl, kx_cmp, kx_oF, kx_eqN, kx_nil, kx_c1, kx_ft, kx_aI, kx_aL, kx_aR, kx_ln, Nat.reduceAdd, Option.toList, List.cons_append, List.nil_append, cf8_9, cf8_6])
    repeat' apply And.intro
    all_goals try (first | with_reducible assumption | (with_reducible refine ck_nzI ?_; simp; done) | (with_reducible refine ck_nzL ?_; simp; done) | (with_reducible refine vp_in_nI ?_ ?_ <;> first | omega | decide) | (with_reducible refine Nat.le_of_ble_eq_true ?_; rfl) | omega | exact Or.inl trivial | exact Or.inr trivial | exact Or.inl rfl | exact Or.inr rfl)
    refine hC.1 161 _ _ _ _ _ _ _ 9 _ _ _ _ _ _ _ _ _ _ _ _ lX8_161 (ct_X9_beginRack l G (P := Q) (Q := Q) hw) ⟨by decide, rfl⟩ (cx_dq0 hw) rfl rfl (Nat.le_of_ble_eq_true rfl) (by first | decide | omega) (by decide) (by omega) (by omega) dX8_readStrike_17 ?_
    refine hB bX8_readStrike_20 _ _ _ _ _ _ _ kX8_readStrike_20 ?_
    dsimp only [bX8_readStrike_20, kx_wp, kx_step, kx_lI, kx_lL, kx_lA, kx_gl, kx_pI, kx_pL, kx_pR, kx_pA, kx_pV, kx_s1, kx_s2, kx_sl, kx_pre, kx_c2, kx_pl, kx_cmp, kx_oF, kx_eqN, kx_nil, kx_c1, kx_ft, kx_aI, kx_aL, kx_aR, kx_ln, Nat.reduceAdd, Option.toList, List.cons_append, List.nil_append, cf8_9, cf8_6]
    repeat (simp only [cx_8o, cx_8s, cx_83 hw, cx_84 hw, cx_dq0 hw, cx_dq1 hw, cx_dq2 hw, cx_dp0 hw, cx_dp1 hw, cx_dp2 hw, cx_8f3 hw, cx_8f4 hw, pk_us, pk_un, ne_eq, Nat.reduceEqDiff, not_false_eq_true, ks_eq, ks_ss]; try dsimp only [kx_wp, kx_step, kx_lI, kx_lL, kx_lA, kx_gl, kx_pI, kx_pL, kx_pR, kx_pA, kx_pV, kx_s1, kx_s2, kx_sl, kx_pre, kx_c2, kx_pl, kx_cmp, kx_oF, kx_eqN, kx_nil, kx_c1, kx_ft, kx_aI, kx_aL, kx_aR, kx_ln, Nat.reduceAdd, Option.toList, List.cons_append, List.nil_append, cf8_9, cf8_6])
    repeat' apply And.intro
    all_goals try (first | with_reducible assumption | (with_reducible refine ck_nzI ?_; simp; done) | (with_reducible refine ck_nzL ?_; simp; done) | (with_reducible refine vp_in_nI ?_ ?_ <;> first | omega | decide) | (with_reducible refine Nat.le_of_ble_eq_true ?_; rfl) | omega | exact Or.inl trivial | exact Or.inr trivial | exact Or.inl rfl | exact Or.inr rfl)
    refine hN.1 164 _ _ _ _ _ _ _ 8 _ _ _ _ _ _ _ _ _ _ lX8_164 (hs2) ⟨by decide, rfl⟩ (by first | exact cx_8o | exact cx_dq0 hw) rfl rfl (Nat.le_of_ble_eq_true rfl) (by omega) (by decide) (by omega) (by omega) dX8_readStrike_21 ?_
    rintro r2 P2 s2 ⟨F2, Fo2, st2, rfl, rfl, rfl, hE2, hX2⟩
    dsimp only [Option.toList, List.cons_append, List.nil_append]
    refine hB bX8_readStrike_24 _ _ _ _ _ _ _ kX8_readStrike_24 ?_
    dsimp only [bX8_readStrike_24, kx_wp, kx_step, kx_lI, kx_lL, kx_lA, kx_gl, kx_pI, kx_pL, kx_pR, kx_pA, kx_pV, kx_s1, kx_s2, kx_sl, kx_pre, kx_c2, kx_pl, kx_cmp, kx_oF, kx_eqN, kx_nil, kx_c1, kx_ft, kx_aI, kx_aL, kx_aR, kx_ln, Nat.reduceAdd, Option.toList, List.cons_append, List.nil_append, cf8_9, cf8_6]
    repeat (simp only [cx_8o, cx_8s, cx_83 hw, cx_84 hw, cx_dq0 hw, cx_dq1 hw, cx_dq2 hw, cx_dp0 hw, cx_dp1 hw, cx_dp2 hw, cx_8f3 hw, cx_8f4 hw, pk_us, pk_un, ne_eq, Nat.reduceEqDiff, not_false_eq_true, ks_eq, ks_ss]; try dsimp only [kx_wp, kx_step, kx_lI, kx_lL, kx_lA, kx_gl, kx_pI, kx_pL, kx_pR, kx_pA, kx_pV, kx_s1, kx_s2, kx_sl, kx_pre, kx_c2, kx_pl, kx_cmp, kx_oF, kx_eqN, kx_nil, kx_c1, kx_ft, kx_aI, kx_aL, kx_aR, kx_ln, Nat.reduceAdd, Option.toList, List.cons_append, List.nil_append, cf8_9, cf8_6])
    repeat' apply And.intro
    all_goals try (first | with_reducible assumption | (with_reducible refine ck_nzI ?_; simp; done) | (with_reducible refine ck_nzL ?_; simp; done) | (with_reducible refine vp_in_nI ?_ ?_ <;> first | omega | decide) | (with_reducible refine Nat.le_of_ble_eq_true ?_; rfl) | omega | exact Or.inl trivial | exact Or.inr trivial | exact Or.inl rfl | exact Or.inr rfl)
    refine hB bX8_readStrike_61 _ _ _ _ _ _ _ kX8_readStrike_61 ?_
    dsimp only [bX8_readStrike_61, kx_wp, kx_step, kx_lI, kx_lL, kx_lA, kx_gl, kx_pI, kx_pL, kx_pR, kx_pA, kx_pV, kx_s1, kx_s2, kx_sl, kx_pre, kx_c2, kx_pl, kx_cmp, kx_oF, kx_eqN, kx_nil, kx_c1, kx_ft, kx_aI, kx_aL, kx_aR, kx_ln, Nat.reduceAdd, Option.toList, List.cons_append, List.nil_append, cf8_9, cf8_6]
    repeat (simp only [cx_8o, cx_8s, cx_83 hw, cx_84 hw, cx_dq0 hw, cx_dq1 hw, cx_dq2 hw, cx_dp0 hw, cx_dp1 hw, cx_dp2 hw, cx_8f3 hw, cx_8f4 hw, pk_us, pk_un, ne_eq, Nat.reduceEqDiff, not_false_eq_true, ks_eq, ks_ss]; try dsimp only [kx_wp, kx_step, kx_lI, kx_lL, kx_lA, kx_gl, kx_pI, kx_pL, kx_pR, kx_pA, kx_pV, kx_s1, kx_s2, kx_sl, kx_pre, kx_c2, kx_pl, kx_cmp, kx_oF, kx_eqN, kx_nil, kx_c1, kx_ft, kx_aI, kx_aL, kx_aR, kx_ln, Nat.reduceAdd, Option.toList, List.cons_append, List.nil_append, cf8_9, cf8_6])
    all_goals (repeat' apply And.intro)
    all_goals ((try clear hB hC); first | exact True.intro | exact ⟨F2, Fo2, st2, rfl, rfl, rfl, hE2, hX2⟩)

set_option maxRecDepth 100000 in
set_option maxHeartbeats 4000000 in
theorem ck9_w (l : Launch) (G : kx_G) {P : kx_P} {sz : Nat} {Q : kx_P} {w : Nat} (hw : 144 ≤ w) {F V te qu Fo st T : Nat → Int32} (hT : cx_fW (cx_vW Q w V te qu) w Fo st 67 = kI 0 400 T) {n a : Nat} (h1 : F 1 = nI n) (hn : n ≤ 400) (h2 : F 2 = nI a) (ha : a ≤ n) {R9 : ck_Qt} {d : Nat} (hdd : 7 ≤ d) (w0 : ¬ ck_wo_ T n a = kz_co 12) (w1 : ck_wo_ T n a = kz_co 17) (hs2 : kx_Mn l G sX8_readTeeth 4 0 0 [.ref 68] (cx_8 (cx_fW (cx_vW Q w (upd (upd V 12 1) 14 0) (te) (qu)) w (Fo) (st)) (.ref w) (cx_tw T n a F)) sz (cx_PD Q w T n R9 sz cx_rn))  : kx_Mn l G sX8_readStrike d 0 0 [.ref 68] (cx_8 (cx_fW (cx_vW Q w (V) (te) (qu)) w (Fo) (st)) (.ref w) (F)) sz (cx_PD Q w T n R9 sz cx_rn) := by
  refine kz_m2 kx_tab kxLok_X8 (ini := false) [some (.ref 68)] ⟨by decide +kernel, rfl, by decide, by omega⟩ (fun _ _ _ h => Or.inl h.rn) rfl rfl (fun g hB hC hN hK => ?_)
  refine hB bX8_readStrike_0 _ _ _ _ _ _ _ kX8_readStrike_0 ?_
  dsimp only [bX8_readStrike_0, kx_wp, kx_step, kx_lI, kx_lL, kx_lA, kx_gl, kx_pI, kx_pL, kx_pR, kx_pA, kx_pV, kx_s1, kx_s2, kx_sl, kx_pre, kx_c2, kx_pl, kx_cmp, kx_oF, kx_eqN, kx_nil, kx_c1, kx_ft, kx_aI, kx_aL, kx_aR, kx_ln, Nat.reduceAdd, Option.toList, List.cons_append, List.nil_append, cf8_9, cf8_6]
  repeat (simp only [cx_8o, cx_8s, cx_83 hw, cx_84 hw, cx_dq0 hw, cx_dq1 hw, cx_dq2 hw, cx_dp0 hw, cx_dp1 hw, cx_dp2 hw, cx_8f3 hw, cx_8f4 hw, pk_us, pk_un, ne_eq, Nat.reduceEqDiff, not_false_eq_true, ks_eq, ks_ss]; try dsimp only [kx_wp, kx_step, kx_lI, kx_lL, kx_lA, kx_gl, kx_pI, kx_pL, kx_pR, kx_pA, kx_pV, kx_s1, kx_s2, kx_sl, kx_pre, kx_c2, kx_pl, kx_cmp, kx_oF, kx_eqN, kx_nil, kx_c1, kx_ft, kx_aI, kx_aL, kx_aR, kx_ln, Nat.reduceAdd, Option.toList, List.cons_append, List.nil_append, cf8_9, cf8_6])
  repeat' apply And.intro
  all_goals try (first | with_reducible assumption | (with_reducible refine ck_nzI ?_; simp; done) | (with_reducible refine ck_nzL ?_; simp; done) | (with_reducible refine vp_in_nI ?_ ?_ <;> first | omega | decide) | (with_reducible refine Nat.le_of_ble_eq_true ?_; rfl) | omega | exact Or.inl trivial | exact Or.inr trivial | exact Or.inl rfl | exact Or.inr rfl)
  refine hC.1 88 _ _ _ _ _ _ _ 8 _ _ _ _ _ _ _ _ _ _ _ _ lX8_88 (ct_X8_takeWord l G (x := .ref w) hT h1 hn h2 ha) ⟨by decide, rfl⟩ (by first | exact cx_8o | exact cx_dq0 hw) rfl rfl (Nat.le_of_ble_eq_true rfl) (by first | decide | omega) (by decide) (by omega) (by omega) dX8_readStrike_1 ?_
  refine hB bX8_readStrike_4 _ _ _ _ _ _ _ kX8_readStrike_4 ?_
  dsimp only [bX8_readStrike_4, kx_wp, kx_step, kx_lI, kx_lL, kx_lA, kx_gl, kx_pI, kx_pL, kx_pR, kx_pA, kx_pV, kx_s1, kx_s2, kx_sl, kx_pre, kx_c2, kx_pl, kx_cmp, kx_oF, kx_eqN, kx_nil, kx_c1, kx_ft, kx_aI, kx_aL, kx_aR, kx_ln, Nat.reduceAdd, Option.toList, List.cons_append, List.nil_append, cf8_9, cf8_6]
  repeat (simp only [cx_8o, cx_8s, cx_83 hw, cx_84 hw, cx_dq0 hw, cx_dq1 hw, cx_dq2 hw, cx_dp0 hw, cx_dp1 hw, cx_dp2 hw, cx_8f3 hw, cx_8f4 hw, pk_us, pk_un, ne_eq, Nat.reduceEqDiff, not_false_eq_true, ks_eq, ks_ss]; try dsimp only [kx_wp, kx_step, kx_lI, kx_lL, kx_lA, kx_gl, kx_pI, kx_pL, kx_pR, kx_pA, kx_pV, kx_s1, kx_s2, kx_sl, kx_pre, kx_c2, kx_pl, kx_cmp, kx_oF, kx_eqN, kx_nil, kx_c1, kx_ft, kx_aI, kx_aL, kx_aR, kx_ln, Nat.reduceAdd, Option.toList, List.cons_append, List.nil_append, cf8_9, cf8_6])
  repeat' apply And.intro
  all_goals try (first | with_reducible assumption | (with_reducible refine ck_nzI ?_; simp; done) | (with_reducible refine ck_nzL ?_; simp; done) | (with_reducible refine vp_in_nI ?_ ?_ <;> first | omega | decide) | (with_reducible refine Nat.le_of_ble_eq_true ?_; rfl) | omega | exact Or.inl trivial | exact Or.inr trivial | exact Or.inl rfl | exact Or.inr rfl)
  refine kz_lds hK rfl 12 dX8_readStrike_5 (by decide) rfl ?_
  refine hC.1 96 _ _ _ _ _ _ _ 8 _ _ _ _ _ _ _ _ _ _ _ _ lX8_96 (cx_wi_f (x := .ref w) (F := (cx_tw T n a F)) hT (b := a) rfl rfl ha hn 12 (by decide) w0) ⟨by decide, rfl⟩ (by first | exact cx_8o | exact cx_dq0 hw) rfl rfl (Nat.le_of_ble_eq_true rfl) (by first | decide | omega) (by decide) (by omega) (by omega) dX8_readStrike_7 ?_
  refine hB bX8_readStrike_10 _ _ _ _ _ _ _ kX8_readStrike_10 ?_
  dsimp only [bX8_readStrike_10, kx_wp, kx_step, kx_lI, kx_lL, kx_lA, kx_gl, kx_pI, kx_pL, kx_pR, kx_pA, kx_pV, kx_s1, kx_s2, kx_sl, kx_pre, kx_c2, kx_pl, kx_cmp, kx_oF, kx_eqN, kx_nil, kx_c1, kx_ft, kx_aI, kx_aL, kx_aR, kx_ln, Nat.reduceAdd, Option.toList, List.cons_append, List.nil_append, cf8_9, cf8_6]
  repeat (simp only [cx_8o, cx_8s, cx_83 hw, cx_84 hw, cx_dq0 hw, cx_dq1 hw, cx_dq2 hw, cx_dp0 hw, cx_dp1 hw, cx_dp2 hw, cx_8f3 hw, cx_8f4 hw, pk_us, pk_un, ne_eq, Nat.reduceEqDiff, not_false_eq_true, ks_eq, ks_ss]; try dsimp only [kx_wp, kx_step, kx_lI, kx_lL, kx_lA, kx_gl, kx_pI, kx_pL, kx_pR, kx_pA, kx_pV, kx_s1, kx_s2, kx_sl, kx_pre, kx_c2, kx_pl, kx_cmp, kx_oF, kx_eqN, kx_nil, kx_c1, kx_ft, kx_aI, kx_aL, kx_aR, kx_ln, Nat.reduceAdd, Option.toList, List.cons_append, List.nil_append, cf8_9, cf8_6])
  repeat' apply And.intro
  all_goals try (first | with_reducible assumption | (with_reducible refine ck_nzI ?_; simp; done) | (with_reducible refine ck_nzL ?_; simp; done) | (with_reducible refine vp_in_nI ?_ ?_ <;> first | omega | decide) | (with_reducible refine Nat.le_of_ble_eq_true ?_; rfl) | omega | exact Or.inl trivial | exact Or.inr trivial | exact Or.inl rfl | exact Or.inr rfl)
  · intro zc10
    have ze10 := zc10
    refine hB bX8_readStrike_28 _ _ _ _ _ _ _ kX8_readStrike_28 ?_
    dsimp only [bX8_readStrike_28, kx_wp, kx_step, kx_lI, kx_lL, kx_lA, kx_gl, kx_pI, kx_pL, kx_pR, kx_pA, kx_pV, kx_s1, kx_s2, kx_sl, kx_pre, kx_c2, kx_pl, kx_cmp, kx_oF, kx_eqN, kx_nil, kx_c1, kx_ft, kx_aI, kx_aL, kx_aR, kx_ln, Nat.reduceAdd, Option.toList, List.cons_append, List.nil_append, cf8_9, cf8_6]
    repeat (simp only [cx_8o, cx_8s, cx_83 hw, cx_84 hw, cx_dq0 hw, cx_dq1 hw, cx_dq2 hw, cx_dp0 hw, cx_dp1 hw, cx_dp2 hw, cx_8f3 hw, cx_8f4 hw, pk_us, pk_un, ne_eq, Nat.reduceEqDiff, not_false_eq_true, ks_eq, ks_ss]; try dsimp only [kx_wp, kx_step, kx_lI, kx_lL, kx_lA, kx_gl, kx_pI, kx_pL, kx_pR, kx_pA, kx_pV, kx_s1, kx_s2, kx_sl, kx_pre, kx_c2, kx_pl, kx_cmp, kx_oF, kx_eqN, kx_nil, kx_c1, kx_ft, kx_aI, kx_aL, kx_aR, kx_ln, Nat.reduceAdd, Option.toList, List.cons_append, List.nil_append, cf8_9, cf8_6])
    repeat' apply And.intro
    all_goals try (first | with_reducible assumption | (with_reducible refine ck_nzI ?_; simp; done) | (with_reducible refine ck_nzL ?_; simp; done) | (with_reducible refine vp_in_nI ?_ ?_ <;> first | omega | decide) | (with_reducible refine Nat.le_of_ble_eq_true ?_; rfl) | omega | exact Or.inl trivial | exact Or.inr trivial | exact Or.inl rfl | exact Or.inr rfl)
    refine kz_lds hK rfl 17 dX8_readStrike_29 (by decide) rfl ?_
    refine hC.1 96 _ _ _ _ _ _ _ 8 _ _ _ _ _ _ _ _ _ _ _ _ lX8_96 (cx_wi_t (x := .ref w) (F := (cx_tw T n a F)) hT (b := a) rfl rfl ha hn 17 (by decide) w1) ⟨by decide, rfl⟩ (by first | exact cx_8o | exact cx_dq0 hw) rfl rfl (Nat.le_of_ble_eq_true rfl) (by first | decide | omega) (by decide) (by omega) (by omega) dX8_readStrike_31 ?_
    refine hB bX8_readStrike_34 _ _ _ _ _ _ _ kX8_readStrike_34 ?_
    dsimp only [bX8_readStrike_34, kx_wp, kx_step, kx_lI, kx_lL, kx_lA, kx_gl, kx_pI, kx_pL, kx_pR, kx_pA, kx_pV, kx_s1, kx_s2, kx_sl, kx_pre, kx_c2, kx_pl, kx_cmp, kx_oF, kx_eqN, kx_nil, kx_c1, kx_ft, kx_aI, kx_aL, kx_aR, kx_ln, Nat.reduceAdd, Option.toList, List.cons_append, List.nil_append, cf8_9, cf8_6]
    repeat (simp only [cx_8o, cx_8s, cx_83 hw, cx_84 hw, cx_dq0 hw, cx_dq1 hw, cx_dq2 hw, cx_dp0 hw, cx_dp1 hw, cx_dp2 hw, cx_8f3 hw, cx_8f4 hw, pk_us, pk_un, ne_eq, Nat.reduceEqDiff, not_false_eq_true, ks_eq, ks_ss]; try dsimp only [kx_wp, kx_step, kx_lI, kx_lL, kx_lA, kx_gl, kx_pI, kx_pL, kx_pR, kx_pA, kx_pV, kx_s1, kx_s2, kx_sl, kx_pre, kx_c2, kx_pl, kx_cmp, kx_oF, kx_eqN, kx_nil, kx_c1, kx_ft, kx_aI, kx_aL, kx_aR, kx_ln, Nat.reduceAdd, Option.toList, List.cons_append, List.nil_append, cf8_9, cf8_6])
    repeat' apply And.intro
    all_goals try (first | with_reducible assumption | (with_reducible refine ck_nzI ?_; simp; done) | (with_reducible refine ck_nzL ?_; simp; done) | (with_reducible refine vp_in_nI ?_ ?_ <;> first | omega | decide) | (with_reducible refine Nat.le_of_ble_eq_true ?_; rfl) | omega | exact Or.inl trivial | exact Or.inr trivial | exact Or.inl rfl | exact Or.inr rfl)
    · intro zc34
      first | exact absurd rfl zc34 | exact absurd zc34 (by decide) | exact absurd (by decide) zc34 | (exfalso; ((try clear hB hC); simp only [ck_lt, ck_le, ck_eq, not_true_eq_false, not_false_eq_true, Int32.reduceToInt, Int32.reduceAdd, Int32.reduceSub, Int32.reduceMul] at * <;> omega)) | (exfalso; simp_all; done)
    · intro zc34
      have ze34 := zc34
      refine hB bX8_readStrike_37 _ _ _ _ _ _ _ kX8_readStrike_37 ?_
      dsimp only [bX8_readStrike_37, kx_wp, kx_step, kx_lI, kx_lL, kx_lA, kx_gl, kx_pI, kx_pL, kx_pR, kx_pA, kx_pV, kx_s1, kx_s2, kx_sl, kx_pre, kx_c2, kx_pl, kx_cmp, kx_oF, kx_eqN, kx_nil, kx_c1, kx_ft, kx_aI, kx_aL, kx_aR, kx_ln, Nat.reduceAdd, Option.toList, List.cons_append, List.nil_append, cf8_9, cf8_6]
      repeat (simp only [cx_8o, cx_8s, cx_83 hw, cx_84 hw, cx_dq0 hw, cx_dq1 hw, cx_dq2 hw, cx_dp0 hw, cx_dp1 hw, cx_dp2 hw, cx_8f3 hw, cx_8f4 hw, pk_us, pk_un, ne_eq, Nat.reduceEqDiff, not_false_eq_true, ks_eq, ks_ss]; try dsimp only [kx_wp, kx_step, kx_lI, kx_lL, kx_lA, kx_gl, kx_pI, kx_pL, kx_pR, kx_pA, kx_pV, kx_s1, kx_s2, kx_sl, kx_pre, kx_c2, kx_pl, kx_cmp, kx_oF, kx_eqN, kx_nil, kx_c1, kx_ft, kx_aI, kx_aL, kx_aR, kx_ln, Nat.reduceAdd, Option.toList, List.cons_append, List.nil_append, cf8_9, cf8_6])
      repeat' apply And.intro
      all_goals try (first | with_reducible assumption | (with_reducible refine ck_nzI ?_; simp; done) | (with_reducible refine ck_nzL ?_; simp; done) | (with_reducible refine vp_in_nI ?_ ?_ <;> first | omega | decide) | (with_reducible refine Nat.le_of_ble_eq_true ?_; rfl) | omega | exact Or.inl trivial | exact Or.inr trivial | exact Or.inl rfl | exact Or.inr rfl)
      refine hC.1 169 _ _ _ _ _ _ _ 9 _ _ _ _ _ _ _ _ _ _ _ _ lX8_169 (ct_X9_beginWheel l G (P := Q) (Q := Q) hw) ⟨by decide, rfl⟩ (cx_dq0 hw) rfl rfl (Nat.le_of_ble_eq_true rfl) (by first | decide | omega) (by decide) (by omega) (by omega) dX8_readStrike_41 ?_
      refine hB bX8_readStrike_44 _ _ _ _ _ _ _ kX8_readStrike_44 ?_
      dsimp only [bX8_readStrike_44, kx_wp, kx_step, kx_lI, kx_lL, kx_lA, kx_gl, kx_pI, kx_pL, kx_pR, kx_pA, kx_pV, kx_s1, kx_s2, kx_sl, kx_pre, kx_c2, kx_pl, kx_cmp, kx_oF, kx_eqN, kx_nil, kx_c1, kx_ft, kx_aI, kx_aL, kx_aR, kx_ln, Nat.reduceAdd, Option.toList, List.cons_append, List.nil_append, cf8_9, cf8_6]
      repeat (simp only [cx_8o, cx_8s, cx_83 hw, cx_84 hw, cx_dq0 hw, cx_dq1 hw, cx_dq2 hw, cx_dp0 hw, cx_dp1 hw, cx_dp2 hw, cx_8f3 hw, cx_8f4 hw, pk_us, pk_un, ne_eq, Nat.reduceEqDiff, not_false_eq_true, ks_eq, ks_ss]; try dsimp only [kx_wp, kx_step, kx_lI, kx_lL, kx_lA, kx_gl, kx_pI, kx_pL, kx_pR, kx_pA, kx_pV, kx_s1, kx_s2, kx_sl, kx_pre, kx_c2, kx_pl, kx_cmp, kx_oF, kx_eqN, kx_nil, kx_c1, kx_ft, kx_aI, kx_aL, kx_aR, kx_ln, Nat.reduceAdd, Option.toList, List.cons_append, List.nil_append, cf8_9, cf8_6])
      repeat' apply And.intro
      all_goals try (first | with_reducible assumption | (with_reducible refine ck_nzI ?_; simp; done) | (with_reducible refine ck_nzL ?_; simp; done) | (with_reducible refine vp_in_nI ?_ ?_ <;> first | omega | decide) | (with_reducible refine Nat.le_of_ble_eq_true ?_; rfl) | omega | exact Or.inl trivial | exact Or.inr trivial | exact Or.inl rfl | exact Or.inr rfl)
      refine hN.1 172 _ _ _ _ _ _ _ 8 _ _ _ _ _ _ _ _ _ _ lX8_172 (hs2) ⟨by decide, rfl⟩ (by first | exact cx_8o | exact cx_dq0 hw) rfl rfl (Nat.le_of_ble_eq_true rfl) (by omega) (by decide) (by omega) (by omega) dX8_readStrike_45 ?_
      rintro r2 P2 s2 ⟨F2, V2, te2, qu2, Fo2, st2, hr2, rfl, rfl, hg2, hb2⟩
      obtain rfl : r2 = none := hr2
      dsimp only [Option.toList, List.cons_append, List.nil_append]
      refine hB bX8_readStrike_48 _ _ _ _ _ _ _ kX8_readStrike_48 ?_
      dsimp only [bX8_readStrike_48, kx_wp, kx_step, kx_lI, kx_lL, kx_lA, kx_gl, kx_pI, kx_pL, kx_pR, kx_pA, kx_pV, kx_s1, kx_s2, kx_sl, kx_pre, kx_c2, kx_pl, kx_cmp, kx_oF, kx_eqN, kx_nil, kx_c1, kx_ft, kx_aI, kx_aL, kx_aR, kx_ln, Nat.reduceAdd, Option.toList, List.cons_append, List.nil_append, cf8_9, cf8_6]
      repeat (simp only [cx_8o, cx_8s, cx_83 hw, cx_84 hw, cx_dq0 hw, cx_dq1 hw, cx_dq2 hw, cx_dp0 hw, cx_dp1 hw, cx_dp2 hw, cx_8f3 hw, cx_8f4 hw, pk_us, pk_un, ne_eq, Nat.reduceEqDiff, not_false_eq_true, ks_eq, ks_ss]; try dsimp only [kx_wp, kx_step, kx_lI, kx_lL, kx_lA, kx_gl, kx_pI, kx_pL, kx_pR, kx_pA, kx_pV, kx_s1, kx_s2, kx_sl, kx_pre, kx_c2, kx_pl, kx_cmp, kx_oF, kx_eqN, kx_nil, kx_c1, kx_ft, kx_aI, kx_aL, kx_aR, kx_ln, Nat.reduceAdd, Option.toList, List.cons_append, List.nil_append, cf8_9, cf8_6])
      repeat' apply And.intro
      all_goals try (first | with_reducible assumption | (with_reducible refine ck_nzI ?_; simp; done) | (with_reducible refine ck_nzL ?_; simp; done) | (with_reducible refine vp_in_nI ?_ ?_ <;> first | omega | decide) | (with_reducible refine Nat.le_of_ble_eq_true ?_; rfl) | omega | exact Or.inl trivial | exact Or.inr trivial | exact Or.inl rfl | exact Or.inr rfl)
      refine hB bX8_readStrike_61 _ _ _ _ _ _ _ kX8_readStrike_61 ?_
      dsimp only [bX8_readStrike_61, kx_wp, kx_step, kx_lI, kx_lL, kx_lA, kx_gl, kx_pI, kx_pL, kx_pR, kx_pA, kx_pV, kx_s1, kx_s2, kx_sl, kx_pre, kx_c2, kx_pl, kx_cmp, kx_oF, kx_eqN, kx_nil, kx_c1, kx_ft, kx_aI, kx_aL, kx_aR, kx_ln, Nat.reduceAdd, Option.toList, List.cons_append, List.nil_append, cf8_9, cf8_6]
      repeat (simp only [cx_8o, cx_8s, cx_83 hw, cx_84 hw, cx_dq0 hw, cx_dq1 hw, cx_dq2 hw, cx_dp0 hw, cx_dp1 hw, cx_dp2 hw, cx_8f3 hw, cx_8f4 hw, pk_us, pk_un, ne_eq, Nat.reduceEqDiff, not_false_eq_true, ks_eq, ks_ss]; try dsimp only [kx_wp, kx_step, kx_lI, kx_lL, kx_lA, kx_gl, kx_pI, kx_pL, kx_pR, kx_pA, kx_pV, kx_s1, kx_s2, kx_sl, kx_pre, kx_c2, kx_pl, kx_cmp, kx_oF, kx_eqN, kx_nil, kx_c1, kx_ft, kx_aI, kx_aL, kx_aR, kx_ln, Nat.reduceAdd, Option.toList, List.cons_append, List.nil_append, cf8_9, cf8_6])
      all_goals (repeat' apply And.intro)
      all_goals ((try clear hB hC); first | exact True.intro | exact ⟨F2, V2, te2, qu2, Fo2, st2, rfl, rfl, rfl, hg2, hb2⟩)
  · intro zc10
    first | exact absurd rfl zc10 | exact absurd zc10 (by decide) | exact absurd (by decide) zc10 | (exfalso; ((try clear hB hC); simp only [ck_lt, ck_le, ck_eq, not_true_eq_false, not_false_eq_true, Int32.reduceToInt, Int32.reduceAdd, Int32.reduceSub, Int32.reduceMul] at * <;> omega)) | (exfalso; simp_all; done)

set_option maxRecDepth 100000 in
set_option maxHeartbeats 4000000 in
theorem ck9_n (l : Launch) (G : kx_G) {P : kx_P} {sz : Nat} {Q : kx_P} {w : Nat} (hw : 144 ≤ w) {F V te qu Fo st T : Nat → Int32} (hT : cx_fW (cx_vW Q w V te qu) w Fo st 67 = kI 0 400 T) {n a : Nat} (h1 : F 1 = nI n) (hn : n ≤ 400) (h2 : F 2 = nI a) (ha : a ≤ n) (w0 : ¬ ck_wo_ T n a = kz_co 12) (w1 : ¬ ck_wo_ T n a = kz_co 17)  : kx_M l G sX8_readStrike 45 0 0 [.ref 68] (cx_8 (cx_fW (cx_vW Q w (V) (te) (qu)) w (Fo) (st)) (.ref w) (F)) sz none (cx_8 (cx_fW (cx_vW Q w (V) (te) (qu)) w (Fo) (st)) (.ref w) (cx_rf 1 (nI a) (cx_tw T n a F))) sz := by
  refine kz_m2d kx_tab kxLok_X8 (ini := false) [some (.ref 68)] ⟨by decide +kernel, rfl, by decide, by decide⟩ (Or.inl rfl) rfl rfl (fun g hB hC hK => ?_)
  refine hB bX8_readStrike_0 _ _ _ _ _ _ _ kX8_readStrike_0 ?_
  dsimp only [bX8_readStrike_0, kx_wp, kx_step, kx_lI, kx_lL, kx_lA, kx_gl, kx_pI, kx_pL, kx_pR, kx_pA, kx_pV, kx_s1, kx_s2, kx_sl, kx_pre, kx_c2, kx_pl, kx_cmp, kx_oF, kx_eqN, kx_nil, kx_c1, kx_ft, kx_aI, kx_aL, kx_aR, kx_ln, Nat.reduceAdd, Option.toList, List.cons_append, List.nil_append, cf8_9, cf8_6]
  repeat (simp only [cx_8o, cx_8s, cx_83 hw, cx_84 hw, cx_dq0 hw, cx_dq1 hw, cx_dq2 hw, cx_dp0 hw, cx_dp1 hw, cx_dp2 hw, cx_8f3 hw, cx_8f4 hw, pk_us, pk_un, ne_eq, Nat.reduceEqDiff, not_false_eq_true, show cx_tw T n a F 6 = nI a from rfl, ks_eq, ks_ss]; try dsimp only [kx_wp, kx_step, kx_lI, kx_lL, kx_lA, kx_gl, kx_pI, kx_pL, kx_pR, kx_pA, kx_pV, kx_s1, kx_s2, kx_sl, kx_pre, kx_c2, kx_pl, kx_cmp, kx_oF, kx_eqN, kx_nil, kx_c1, kx_ft, kx_aI, kx_aL, kx_aR, kx_ln, Nat.reduceAdd, Option.toList, List.cons_append, List.nil_append, cf8_9, cf8_6])
  repeat' apply And.intro
  all_goals try (first | with_reducible assumption | (with_reducible refine ck_nzI ?_; simp; done) | (with_reducible refine ck_nzL ?_; simp; done) | (with_reducible refine vp_in_nI ?_ ?_ <;> first | omega | decide) | (with_reducible refine Nat.le_of_ble_eq_true ?_; rfl) | omega | exact Or.inl trivial | exact Or.inr trivial | exact Or.inl rfl | exact Or.inr rfl)
  refine hC.1 88 _ _ _ _ _ _ _ 8 _ _ _ _ _ _ _ _ _ _ _ _ lX8_88 (ct_X8_takeWord l G (x := .ref w) hT h1 hn h2 ha) ⟨by decide, rfl⟩ (cx_8o) rfl rfl (Nat.le_of_ble_eq_true rfl) (by first | decide | omega) (by decide) (by omega) (by omega) dX8_readStrike_1 ?_
  refine hB bX8_readStrike_4 _ _ _ _ _ _ _ kX8_readStrike_4 ?_
  dsimp only [bX8_readStrike_4, kx_wp, kx_step, kx_lI, kx_lL, kx_lA, kx_gl, kx_pI, kx_pL, kx_pR, kx_pA, kx_pV, kx_s1, kx_s2, kx_sl, kx_pre, kx_c2, kx_pl, kx_cmp, kx_oF, kx_eqN, kx_nil, kx_c1, kx_ft, kx_aI, kx_aL, kx_aR, kx_ln, Nat.reduceAdd, Option.toList, List.cons_append, List.nil_append, cf8_9, cf8_6]
  repeat (simp only [cx_8o, cx_8s, cx_83 hw, cx_84 hw, cx_dq0 hw, cx_dq1 hw, cx_dq2 hw, cx_dp0 hw, cx_dp1 hw, cx_dp2 hw, cx_8f3 hw, cx_8f4 hw, pk_us, pk_un, ne_eq, Nat.reduceEqDiff, not_false_eq_true, show cx_tw T n a F 6 = nI a from rfl, ks_eq, ks_ss]; try dsimp only [kx_wp, kx_step, kx_lI, kx_lL, kx_lA, kx_gl, kx_pI, kx_pL, kx_pR, kx_pA, kx_pV, kx_s1, kx_s2, kx_sl, kx_pre, kx_c2, kx_pl, kx_cmp, kx_oF, kx_eqN, kx_nil, kx_c1, kx_ft, kx_aI, kx_aL, kx_aR, kx_ln, Nat.reduceAdd, Option.toList, List.cons_append, List.nil_append, cf8_9, cf8_6])
  repeat' apply And.intro
  all_goals try (first | with_reducible assumption | (with_reducible refine ck_nzI ?_; simp; done) | (with_reducible refine ck_nzL ?_; simp; done) | (with_reducible refine vp_in_nI ?_ ?_ <;> first | omega | decide) | (with_reducible refine Nat.le_of_ble_eq_true ?_; rfl) | omega | exact Or.inl trivial | exact Or.inr trivial | exact Or.inl rfl | exact Or.inr rfl)
  refine kz_lds hK rfl 12 dX8_readStrike_5 (by decide) rfl ?_
  refine hC.1 96 _ _ _ _ _ _ _ 8 _ _ _ _ _ _ _ _ _ _ _ _ lX8_96 (cx_wi_f (x := .ref w) (F := (cx_tw T n a F)) hT (b := a) rfl rfl ha hn 12 (by decide) w0) ⟨by decide, rfl⟩ (cx_8o) rfl rfl (Nat.le_of_ble_eq_true rfl) (by first | decide | omega) (by decide) (by omega) (by omega) dX8_readStrike_7 ?_
  refine hB bX8_readStrike_10 _ _ _ _ _ _ _ kX8_readStrike_10 ?_
  dsimp only [bX8_readStrike_10, kx_wp, kx_step, kx_lI, kx_lL, kx_lA, kx_gl, kx_pI, kx_pL, kx_pR, kx_pA, kx_pV, kx_s1, kx_s2, kx_sl, kx_pre, kx_c2, kx_pl, kx_cmp, kx_oF, kx_eqN, kx_nil, kx_c1, kx_ft, kx_aI, kx_aL, kx_aR, kx_ln, Nat.reduceAdd, Option.toList, List.cons_append, List.nil_append, cf8_9, cf8_6]
  repeat (simp only [cx_8o, cx_8s, cx_83 hw, cx_84 hw, cx_dq0 hw, cx_dq1 hw, cx_dq2 hw, cx_dp0 hw, cx_dp1 hw, cx_dp2 hw, cx_8f3 hw, cx_8f4 hw, pk_us, pk_un, ne_eq, Nat.reduceEqDiff, not_false_eq_true, show cx_tw T n a F 6 = nI a from rfl, ks_eq, ks_ss]; try dsimp only [kx_wp, kx_step, kx_lI, kx_lL, kx_lA, kx_gl, kx_pI, kx_pL, kx_pR, kx_pA, kx_pV, kx_s1, kx_s2, kx_sl, kx_pre, kx_c2, kx_pl, kx_cmp, kx_oF, kx_eqN, kx_nil, kx_c1, kx_ft, kx_aI, kx_aL, kx_aR, kx_ln, Nat.reduceAdd, Option.toList, List.cons_append, List.nil_append, cf8_9, cf8_6])
  repeat' apply And.intro
  all_goals try (first | with_reducible assumption | (with_reducible refine ck_nzI ?_; simp; done) | (with_reducible refine ck_nzL ?_; simp; done) | (with_reducible refine vp_in_nI ?_ ?_ <;> first | omega | decide) | (with_reducible refine Nat.le_of_ble_eq_true ?_; rfl) | omega | exact Or.inl trivial | exact Or.inr trivial | exact Or.inl rfl | exact Or.inr rfl)
  · intro zc10
    have ze10 := zc10
    refine hB bX8_readStrike_28 _ _ _ _ _ _ _ kX8_readStrike_28 ?_
    dsimp only [bX8_readStrike_28, kx_wp, kx_step, kx_lI, kx_lL, kx_lA, kx_gl, kx_pI, kx_pL, kx_pR, kx_pA, kx_pV, kx_s1, kx_s2, kx_sl, kx_pre, kx_c2, kx_pl, kx_cmp, kx_oF, kx_eqN, kx_nil, kx_c1, kx_ft, kx_aI, kx_aL, kx_aR, kx_ln, Nat.reduceAdd, Option.toList, List.cons_append, List.nil_append, cf8_9, cf8_6]
    repeat (simp only [cx_8o, cx_8s, cx_83 hw, cx_84 hw, cx_dq0 hw, cx_dq1 hw, cx_dq2 hw, cx_dp0 hw, cx_dp1 hw, cx_dp2 hw, cx_8f3 hw, cx_8f4 hw, pk_us, pk_un, ne_eq, Nat.reduceEqDiff, not_false_eq_true, show cx_tw T n a F 6 = nI a from rfl, ks_eq, ks_ss]; try dsimp only [kx_wp, kx_step, kx_lI, kx_lL, kx_lA, kx_gl, kx_pI, kx_pL, kx_pR, kx_pA, kx_pV, kx_s1, kx_s2, kx_sl, kx_pre, kx_c2, kx_pl, kx_cmp, kx_oF, kx_eqN, kx_nil, kx_c1, kx_ft, kx_aI, kx_aL, kx_aR, kx_ln, Nat.reduceAdd, Option.toList, List.cons_append, List.nil_append, cf8_9, cf8_6])
    repeat' apply And.intro
    all_goals try (first | with_reducible assumption | (with_reducible refine ck_nzI ?_; simp; done) | (with_reducible refine ck_nzL ?_; simp; done) | (with_reducible refine vp_in_nI ?_ ?_ <;> first | omega | decide) | (with_reducible refine Nat.le_of_ble_eq_true ?_; rfl) | omega | exact Or.inl trivial | exact Or.inr trivial | exact Or.inl rfl | exact Or.inr rfl)
    refine kz_lds hK rfl 17 dX8_readStrike_29 (by decide) rfl ?_
    refine hC.1 96 _ _ _ _ _ _ _ 8 _ _ _ _ _ _ _ _ _ _ _ _ lX8_96 (cx_wi_f (x := .ref w) (F := (cx_tw T n a F)) hT (b := a) rfl rfl ha hn 17 (by decide) w1) ⟨by decide, rfl⟩ (cx_8o) rfl rfl (Nat.le_of_ble_eq_true rfl) (by first | decide | omega) (by decide) (by omega) (by omega) dX8_readStrike_31 ?_
    refine hB bX8_readStrike_34 _ _ _ _ _ _ _ kX8_readStrike_34 ?_
    dsimp only [bX8_readStrike_34, kx_wp, kx_step, kx_lI, kx_lL, kx_lA, kx_gl, kx_pI, kx_pL, kx_pR, kx_pA, kx_pV, kx_s1, kx_s2, kx_sl, kx_pre, kx_c2, kx_pl, kx_cmp, kx_oF, kx_eqN, kx_nil, kx_c1, kx_ft, kx_aI, kx_aL, kx_aR, kx_ln, Nat.reduceAdd, Option.toList, List.cons_append, List.nil_append, cf8_9, cf8_6]
    repeat (simp only [cx_8o, cx_8s, cx_83 hw, cx_84 hw, cx_dq0 hw, cx_dq1 hw, cx_dq2 hw, cx_dp0 hw, cx_dp1 hw, cx_dp2 hw, cx_8f3 hw, cx_8f4 hw, pk_us, pk_un, ne_eq, Nat.reduceEqDiff, not_false_eq_true, show cx_tw T n a F 6 = nI a from rfl, ks_eq, ks_ss]; try dsimp only [kx_wp, kx_step, kx_lI, kx_lL, kx_lA, kx_gl, kx_pI, kx_pL, kx_pR, kx_pA, kx_pV, kx_s1, kx_s2, kx_sl, kx_pre, kx_c2, kx_pl, kx_cmp, kx_oF, kx_eqN, kx_nil, kx_c1, kx_ft, kx_aI, kx_aL, kx_aR, kx_ln, Nat.reduceAdd, Option.toList, List.cons_append, List.nil_append, cf8_9, cf8_6])
    repeat' apply And.intro
    all_goals try (first | with_reducible assumption | (with_reducible refine ck_nzI ?_; simp; done) | (with_reducible refine ck_nzL ?_; simp; done) | (with_reducible refine vp_in_nI ?_ ?_ <;> first | omega | decide) | (with_reducible refine Nat.le_of_ble_eq_true ?_; rfl) | omega | exact Or.inl trivial | exact Or.inr trivial | exact Or.inl rfl | exact Or.inr rfl)
    · intro zc34
      have ze34 := zc34
      refine hB bX8_readStrike_51 _ _ _ _ _ _ _ kX8_readStrike_51 ?_
      dsimp only [bX8_readStrike_51, kx_wp, kx_step, kx_lI, kx_lL, kx_lA, kx_gl, kx_pI, kx_pL, kx_pR, kx_pA, kx_pV, kx_s1, kx_s2, kx_sl, kx_pre, kx_c2, kx_pl, kx_cmp, kx_oF, kx_eqN, kx_nil, kx_c1, kx_ft, kx_aI, kx_aL, kx_aR, kx_ln, Nat.reduceAdd, Option.toList, List.cons_append, List.nil_append, cf8_9, cf8_6]
      repeat (simp only [cx_8o, cx_8s, cx_83 hw, cx_84 hw, cx_dq0 hw, cx_dq1 hw, cx_dq2 hw, cx_dp0 hw, cx_dp1 hw, cx_dp2 hw, cx_8f3 hw, cx_8f4 hw, pk_us, pk_un, ne_eq, Nat.reduceEqDiff, not_false_eq_true, show cx_tw T n a F 6 = nI a from rfl, ks_eq, ks_ss]; try dsimp only [kx_wp, kx_step, kx_lI, kx_lL, kx_lA, kx_gl, kx_pI, kx_pL, kx_pR, kx_pA, kx_pV, kx_s1, kx_s2, kx_sl, kx_pre, kx_c2, kx_pl, kx_cmp, kx_oF, kx_eqN, kx_nil, kx_c1, kx_ft, kx_aI, kx_aL, kx_aR, kx_ln, Nat.reduceAdd, Option.toList, List.cons_append, List.nil_append, cf8_9, cf8_6])
      repeat' apply And.intro
      all_goals try (first | with_reducible assumption | (with_reducible refine ck_nzI ?_; simp; done) | (with_reducible refine ck_nzL ?_; simp; done) | (with_reducible refine vp_in_nI ?_ ?_ <;> first | omega | decide) | (with_reducible refine Nat.le_of_ble_eq_true ?_; rfl) | omega | exact Or.inl trivial | exact Or.inr trivial | exact Or.inl rfl | exact Or.inr rfl)
      refine hC.1 58 _ _ _ _ _ _ _ 8 _ _ _ _ _ _ _ _ _ _ _ _ lX8_58 (ct_X8_refuse l G) ⟨by decide, rfl⟩ (cx_8o) rfl rfl (Nat.le_of_ble_eq_true rfl) (by first | decide | omega) (by decide) (by omega) (by omega) dX8_readStrike_57 ?_
      refine hB bX8_readStrike_60 _ _ _ _ _ _ _ kX8_readStrike_60 ?_
      dsimp only [bX8_readStrike_60, kx_wp, kx_step, kx_lI, kx_lL, kx_lA, kx_gl, kx_pI, kx_pL, kx_pR, kx_pA, kx_pV, kx_s1, kx_s2, kx_sl, kx_pre, kx_c2, kx_pl, kx_cmp, kx_oF, kx_eqN, kx_nil, kx_c1, kx_ft, kx_aI, kx_aL, kx_aR, kx_ln, Nat.reduceAdd, Option.toList, List.cons_append, List.nil_append, cf8_9, cf8_6]
      repeat (simp only [cx_8o, cx_8s, cx_83 hw, cx_84 hw, cx_dq0 hw, cx_dq1 hw, cx_dq2 hw, cx_dp0 hw, cx_dp1 hw, cx_dp2 hw, cx_8f3 hw, cx_8f4 hw, pk_us, pk_un, ne_eq, Nat.reduceEqDiff, not_false_eq_true, show cx_tw T n a F 6 = nI a from rfl, ks_eq, ks_ss]; try dsimp only [kx_wp, kx_step, kx_lI, kx_lL, kx_lA, kx_gl, kx_pI, kx_pL, kx_pR, kx_pA, kx_pV, kx_s1, kx_s2, kx_sl, kx_pre, kx_c2, kx_pl, kx_cmp, kx_oF, kx_eqN, kx_nil, kx_c1, kx_ft, kx_aI, kx_aL, kx_aR, kx_ln, Nat.reduceAdd, Option.toList, List.cons_append, List.nil_append, cf8_9, cf8_6])
      repeat' apply And.intro
      all_goals try (first | with_reducible assumption | (with_reducible refine ck_nzI ?_; simp; done) | (with_reducible refine ck_nzL ?_; simp; done) | (with_reducible refine vp_in_nI ?_ ?_ <;> first | omega | decide) | (with_reducible refine Nat.le_of_ble_eq_true ?_; rfl) | omega | exact Or.inl trivial | exact Or.inr trivial | exact Or.inl rfl | exact Or.inr rfl)
      refine hB bX8_readStrike_61 _ _ _ _ _ _ _ kX8_readStrike_61 ?_
      dsimp only [bX8_readStrike_61, kx_wp, kx_step, kx_lI, kx_lL, kx_lA, kx_gl, kx_pI, kx_pL, kx_pR, kx_pA, kx_pV, kx_s1, kx_s2, kx_sl, kx_pre, kx_c2, kx_pl, kx_cmp, kx_oF, kx_eqN, kx_nil, kx_c1, kx_ft, kx_aI, kx_aL, kx_aR, kx_ln, Nat.reduceAdd, Option.toList, List.cons_append, List.nil_append, cf8_9, cf8_6]
      repeat (simp only [cx_8o, cx_8s, cx_83 hw, cx_84 hw, cx_dq0 hw, cx_dq1 hw, cx_dq2 hw, cx_dp0 hw, cx_dp1 hw, cx_dp2 hw, cx_8f3 hw, cx_8f4 hw, pk_us, pk_un, ne_eq, Nat.reduceEqDiff, not_false_eq_true, show cx_tw T n a F 6 = nI a from rfl, ks_eq, ks_ss]; try dsimp only [kx_wp, kx_step, kx_lI, kx_lL, kx_lA, kx_gl, kx_pI, kx_pL, kx_pR, kx_pA, kx_pV, kx_s1, kx_s2, kx_sl, kx_pre, kx_c2, kx_pl, kx_cmp, kx_oF, kx_eqN, kx_nil, kx_c1, kx_ft, kx_aI, kx_aL, kx_aR, kx_ln, Nat.reduceAdd, Option.toList, List.cons_append, List.nil_append, cf8_9, cf8_6])
      all_goals (repeat' apply And.intro)
      all_goals ((try clear hB hC); first | exact True.intro | rfl)
    · intro zc34
      first | exact absurd rfl zc34 | exact absurd zc34 (by decide) | exact absurd (by decide) zc34 | (exfalso; ((try clear hB hC); simp only [ck_lt, ck_le, ck_eq, not_true_eq_false, not_false_eq_true, Int32.reduceToInt, Int32.reduceAdd, Int32.reduceSub, Int32.reduceMul] at * <;> omega)) | (exfalso; simp_all; done)
  · intro zc10
    first | exact absurd rfl zc10 | exact absurd zc10 (by decide) | exact absurd (by decide) zc10 | (exfalso; ((try clear hB hC); simp only [ck_lt, ck_le, ck_eq, not_true_eq_false, not_false_eq_true, Int32.reduceToInt, Int32.reduceAdd, Int32.reduceSub, Int32.reduceMul] at * <;> omega)) | (exfalso; simp_all; done)


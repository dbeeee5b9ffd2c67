/-- the rate in the MINUTE mi -/
def cx_rt (V C Al Wm : Nat → Int32) (mi : Nat) : Int32 :=
  V 1 + V 2 * ((if nI (mi / 60) < Al 3 then Wm (mi / 60) else 15) - 15) - V 3 * (nI mi / 1440 - C 10) - V 4 * (if 1 ≤ 1440 * V 0 then 10 * (1440 * V 0 - C 6) / (1440 * V 0) else 0) + V 5 * C 9
def cx_em (V C : Nat → Int32) (lp : Int32) : Int32 := if C 4 < ck_cal (V 8) (C 5) lp then 0 else 1
def cx_db (V C : Nat → Int32) (lp : Int32) : Int32 := if cx_em V C lp = 0 then C 4 + 1 else 1
def cx_mb (V C : Nat → Int32) (lp : Int32) : Int32 := if cx_em V C lp = 0 then C 5 else C 5 - C 5 / 12 * 12 + 1
def cx_td (V C : Nat → Int32) (lp : Int32) : Nat → Int32 := upd (upd C 4 (cx_db V C lp)) 5 (cx_mb V C lp)
def bX1_rateIn_0 : List kx_O := [(.aload_n 0, 0, 0, 0, .null), (.getfield 9, 1, 2, 0, .null)]
theorem kX1_rateIn_0 : kx_oks kxL_X1 false cX1_rateIn 0 bX1_rateIn_0 = true := by decide +kernel
def bX1_rateIn_7 : List kx_O := [(.istore_n 3, 3, 0, 0, .null), (.iload_n 3, 3, 0, 0, .null), (.iconst 1, 0, 0, 0, .int 1), (.if_icmp .ge 7, 17, 0, 0, .null)]
theorem kX1_rateIn_7 : kx_oks kxL_X1 false cX1_rateIn 7 bX1_rateIn_7 = true := by decide +kernel
def bX1_rateIn_13 : List kx_O := [(.iconst 0, 0, 0, 0, .int 0), (.goto 14, 28, 0, 0, .null)]
theorem kX1_rateIn_13 : kx_oks kxL_X1 false cX1_rateIn 13 bX1_rateIn_13 = true := by decide +kernel
def bX1_rateIn_17 : List kx_O := [(.bipush 10, 0, 0, 0, .int 10), (.iload_n 3, 3, 0, 0, .null), (.aload_n 0, 0, 0, 0, .null), (.getfield 26, 1, 6, 0, .null), (.isub, 0, 0, 0, .null), (.imul, 0, 0, 0, .null), (.iload_n 3, 3, 0, 0, .null), (.idiv, 0, 0, 0, .null)]
theorem kX1_rateIn_17 : kx_oks kxL_X1 false cX1_rateIn 17 bX1_rateIn_17 = true := by decide +kernel
def bX1_rateIn_28 : List kx_O := [(.istore 4, 4, 0, 0, .null), (.iload_n 2, 2, 0, 0, .null), (.sipush 1440, 0, 0, 0, .int 1440), (.idiv, 0, 0, 0, .null), (.aload_n 0, 0, 0, 0, .null), (.getfield 38, 1, 10, 0, .null), (.isub, 0, 0, 0, .null), (.istore 5, 5, 0, 0, .null), (.aload_n 0, 0, 0, 0, .null), (.getfield 9, 1, 2, 0, .null), (.getfield 115, 9, 1, 0, .null), (.aload_n 0, 0, 0, 0, .null), (.getfield 9, 1, 2, 0, .null), (.getfield 118, 9, 2, 0, .null), (.aload_n 1, 1, 0, 0, .null), (.iload_n 2, 2, 0, 0, .null)]
theorem kX1_rateIn_28 : kx_oks kxL_X1 false cX1_rateIn 28 bX1_rateIn_28 = true := by decide +kernel
def bX1_rateIn_61 : List kx_O := [(.bipush 15, 0, 0, 0, .int 15), (.isub, 0, 0, 0, .null), (.imul, 0, 0, 0, .null), (.iadd, 0, 0, 0, .null), (.aload_n 0, 0, 0, 0, .null), (.getfield 9, 1, 2, 0, .null), (.getfield 124, 9, 3, 0, .null), (.iload 5, 5, 0, 0, .null), (.imul, 0, 0, 0, .null), (.isub, 0, 0, 0, .null), (.aload_n 0, 0, 0, 0, .null), (.getfield 9, 1, 2, 0, .null), (.getfield 127, 9, 4, 0, .null), (.iload 4, 4, 0, 0, .null), (.imul, 0, 0, 0, .null), (.isub, 0, 0, 0, .null), (.aload_n 0, 0, 0, 0, .null), (.getfield 9, 1, 2, 0, .null), (.getfield 130, 9, 5, 0, .null), (.aload_n 0, 0, 0, 0, .null), (.getfield 35, 1, 9, 0, .null), (.imul, 0, 0, 0, .null), (.iadd, 0, 0, 0, .null), (.ireturn, 0, 0, 0, .null)]
theorem kX1_rateIn_61 : kx_oks kxL_X1 false cX1_rateIn 61 bX1_rateIn_61 = true := by decide +kernel
theorem dX1_rateIn_4 : decode cX1_rateIn 4 = .ok (.invokevirtual 64, 3) := by decide +kernel
theorem dX1_rateIn_58 : decode cX1_rateIn 58 = .ok (.invokevirtual 121, 3) := by decide +kernel
set_option maxRecDepth 100000 in
set_option maxHeartbeats 4000000 in
theorem ct_X1_rateIn (l : Launch) (G : kx_G) {P : kx_P} {sz : Nat} {c w : Nat} {V T Q Fo St Al Wm S C : Nat → Int32} {d : Int64} {h : Value} (H : cx_R P c w V T Q Fo St Al Wm) {mi : Nat} (hmi : mi ≤ 100000)  : kx_M l G sX1_rateIn 2 0 0 [.ref c, .ref 65, .int (nI mi)] (cW P c w S d h C) sz (some (.int (cx_rt V C Al Wm mi))) (cW P c w S d h C) sz := by
  refine kx_mk kx_tab kxLok_X1 (ini := false) [some (.ref c), some (.ref 65), some (.int (nI mi)), none, none, none] ⟨by decide, rfl, by decide, by decide⟩ (⟨_, rfl⟩) rfl rfl (fun g hB hC => ?_)
  refine hB bX1_rateIn_0 _ _ _ _ _ _ _ kX1_rateIn_0 ?_
  dsimp only [bX1_rateIn_0, kx_wp, kx_step, kx_lI, kx_lL, kx_lA, kx_gl, kx_pI, kx_pL, kx_pR, kx_pA, kx_pV, kx_s1, kx_s2, kx_sl, kx_pre, kx_c2, kx_pl, kx_cmp, kx_oF, kx_eqN, kx_nil, kx_c1, kx_ft, kx_aI, kx_aL, kx_aR, kx_ln, Nat.reduceAdd, Option.toList, List.cons_append, List.nil_append, cf1_2, cf1_6, cf1_10, cf9_1, cf9_2, cf9_3, cf9_4, cf9_5, cf1_9]
  repeat (simp only [cW_c, cW_w H, cW_t H, cW_q H, cW_f H, cW_s H, cW_65 H, cW_66 H, cW_1 H, cW_k H, cW_pc, cW_pk H, pk_us, pk_un, ne_eq, Nat.reduceEqDiff, not_false_eq_true, ks_eq, ks_ss]; try dsimp only [kx_wp, kx_step, kx_lI, kx_lL, kx_lA, kx_gl, kx_pI, kx_pL, kx_pR, kx_pA, kx_pV, kx_s1, kx_s2, kx_sl, kx_pre, kx_c2, kx_pl, kx_cmp, kx_oF, kx_eqN, kx_nil, kx_c1, kx_ft, kx_aI, kx_aL, kx_aR, kx_ln, Nat.reduceAdd, Option.toList, List.cons_append, List.nil_append, cf1_2, cf1_6, cf1_10, cf9_1, cf9_2, cf9_3, cf9_4, cf9_5, cf1_9])
  repeat' apply And.intro
  all_goals try (first | exact cx_ge1 (by assumption) | first | with_reducible assumption | (with_reducible refine ck_nzI ?_; simp; done) | (with_reducible refine ck_nzL ?_; simp; done) | (with_reducible refine vp_in_nI ?_ ?_ <;> first | omega | decide) | (with_reducible refine Nat.le_of_ble_eq_true ?_; rfl) | omega)
  refine hC.1 64 _ _ _ _ _ _ _ 9 _ _ _ _ _ _ _ _ _ _ _ _ lX1_64 (ct_X9_fullLeft l G (cW_w H)) ⟨by decide, rfl⟩ (by first | exact cW_c | exact cW_w H | exact cW_f H | exact cW_65 H) rfl rfl (Nat.le_of_ble_eq_true rfl) (by decide) (by decide) (by omega) (by omega) dX1_rateIn_4 ?_
  refine hB bX1_rateIn_7 _ _ _ _ _ _ _ kX1_rateIn_7 ?_
  dsimp only [bX1_rateIn_7, kx_wp, kx_step, kx_lI, kx_lL, kx_lA, kx_gl, kx_pI, kx_pL, kx_pR, kx_pA, kx_pV, kx_s1, kx_s2, kx_sl, kx_pre, kx_c2, kx_pl, kx_cmp, kx_oF, kx_eqN, kx_nil, kx_c1, kx_ft, kx_aI, kx_aL, kx_aR, kx_ln, Nat.reduceAdd, Option.toList, List.cons_append, List.nil_append, cf1_2, cf1_6, cf1_10, cf9_1, cf9_2, cf9_3, cf9_4, cf9_5, cf1_9]
  repeat (simp only [cW_c, cW_w H, cW_t H, cW_q H, cW_f H, cW_s H, cW_65 H, cW_66 H, cW_1 H, cW_k H, cW_pc, cW_pk H, pk_us, pk_un, ne_eq, Nat.reduceEqDiff, not_false_eq_true, ks_eq, ks_ss]; try dsimp only [kx_wp, kx_step, kx_lI, kx_lL, kx_lA, kx_gl, kx_pI, kx_pL, kx_pR, kx_pA, kx_pV, kx_s1, kx_s2, kx_sl, kx_pre, kx_c2, kx_pl, kx_cmp, kx_oF, kx_eqN, kx_nil, kx_c1, kx_ft, kx_aI, kx_aL, kx_aR, kx_ln, Nat.reduceAdd, Option.toList, List.cons_append, List.nil_append, cf1_2, cf1_6, cf1_10, cf9_1, cf9_2, cf9_3, cf9_4, cf9_5, cf1_9])
  repeat' apply And.intro
  all_goals try (first | exact cx_ge1 (by assumption) | first | with_reducible assumption | (with_reducible refine ck_nzI ?_; simp; done) | (with_reducible refine ck_nzL ?_; simp; done) | (with_reducible refine vp_in_nI ?_ ?_ <;> first | omega | decide) | (with_reducible refine Nat.le_of_ble_eq_true ?_; rfl) | omega)
  · intro zc10
    with_reducible first | have ze10 := Int32.not_lt.mpr zc10 | have ze10 := zc10
    refine hB bX1_rateIn_17 _ _ _ _ _ _ _ kX1_rateIn_17 ?_
    dsimp only [bX1_rateIn_17, kx_wp, kx_step, kx_lI, kx_lL, kx_lA, kx_gl, kx_pI, kx_pL, kx_pR, kx_pA, kx_pV, kx_s1, kx_s2, kx_sl, kx_pre, kx_c2, kx_pl, kx_cmp, kx_oF, kx_eqN, kx_nil, kx_c1, kx_ft, kx_aI, kx_aL, kx_aR, kx_ln, Nat.reduceAdd, Option.toList, List.cons_append, List.nil_append, cf1_2, cf1_6, cf1_10, cf9_1, cf9_2, cf9_3, cf9_4, cf9_5, cf1_9]
    repeat (simp only [cW_c, cW_w H, cW_t H, cW_q H, cW_f H, cW_s H, cW_65 H, cW_66 H, cW_1 H, cW_k H, cW_pc, cW_pk H, pk_us, pk_un, ne_eq, Nat.reduceEqDiff, not_false_eq_true, ks_eq, ks_ss]; try dsimp only [kx_wp, kx_step, kx_lI, kx_lL, kx_lA, kx_gl, kx_pI, kx_pL, kx_pR, kx_pA, kx_pV, kx_s1, kx_s2, kx_sl, kx_pre, kx_c2, kx_pl, kx_cmp, kx_oF, kx_eqN, kx_nil, kx_c1, kx_ft, kx_aI, kx_aL, kx_aR, kx_ln, Nat.reduceAdd, Option.toList, List.cons_append, List.nil_append, cf1_2, cf1_6, cf1_10, cf9_1, cf9_2, cf9_3, cf9_4, cf9_5, cf1_9])
    repeat' apply And.intro
    all_goals try (first | exact cx_ge1 (by assumption) | first | with_reducible assumption | (with_reducible refine ck_nzI ?_; simp; done) | (with_reducible refine ck_nzL ?_; simp; done) | (with_reducible refine vp_in_nI ?_ ?_ <;> first | omega | decide) | (with_reducible refine Nat.le_of_ble_eq_true ?_; rfl) | omega)
    refine hB bX1_rateIn_28 _ _ _ _ _ _ _ kX1_rateIn_28 ?_
    dsimp only [bX1_rateIn_28, kx_wp, kx_step, kx_lI, kx_lL, kx_lA, kx_gl, kx_pI, kx_pL, kx_pR, kx_pA, kx_pV, kx_s1, kx_s2, kx_sl, kx_pre, kx_c2, kx_pl, kx_cmp, kx_oF, kx_eqN, kx_nil, kx_c1, kx_ft, kx_aI, kx_aL, kx_aR, kx_ln, Nat.reduceAdd, Option.toList, List.cons_append, List.nil_append, cf1_2, cf1_6, cf1_10, cf9_1, cf9_2, cf9_3, cf9_4, cf9_5, cf1_9]
    repeat (simp only [cW_c, cW_w H, cW_t H, cW_q H, cW_f H, cW_s H, cW_65 H, cW_66 H, cW_1 H, cW_k H, cW_pc, cW_pk H, pk_us, pk_un, ne_eq, Nat.reduceEqDiff, not_false_eq_true, ks_eq, ks_ss]; try dsimp only [kx_wp, kx_step, kx_lI, kx_lL, kx_lA, kx_gl, kx_pI, kx_pL, kx_pR, kx_pA, kx_pV, kx_s1, kx_s2, kx_sl, kx_pre, kx_c2, kx_pl, kx_cmp, kx_oF, kx_eqN, kx_nil, kx_c1, kx_ft, kx_aI, kx_aL, kx_aR, kx_ln, Nat.reduceAdd, Option.toList, List.cons_append, List.nil_append, cf1_2, cf1_6, cf1_10, cf9_1, cf9_2, cf9_3, cf9_4, cf9_5, cf1_9])
    repeat' apply And.intro
    all_goals try (first | exact cx_ge1 (by assumption) | first | with_reducible assumption | (with_reducible refine ck_nzI ?_; simp; done) | (with_reducible refine ck_nzL ?_; simp; done) | (with_reducible refine vp_in_nI ?_ ?_ <;> first | omega | decide) | (with_reducible refine Nat.le_of_ble_eq_true ?_; rfl) | omega)
    refine hC.1 121 _ _ _ _ _ _ _ 0 _ _ _ _ _ _ _ _ _ _ _ _ lX1_121 (ct_X0_warmthIn l G (cW_65 H) (cW_66 H) hmi) ⟨by decide, rfl⟩ (by first | exact cW_c | exact cW_w H | exact cW_f H | exact cW_65 H) rfl rfl (Nat.le_of_ble_eq_true rfl) (by decide) (by decide) (by omega) (by omega) dX1_rateIn_58 ?_
    refine hB bX1_rateIn_61 _ _ _ _ _ _ _ kX1_rateIn_61 ?_
    dsimp only [bX1_rateIn_61, kx_wp, kx_step, kx_lI, kx_lL, kx_lA, kx_gl, kx_pI, kx_pL, kx_pR, kx_pA, kx_pV, kx_s1, kx_s2, kx_sl, kx_pre, kx_c2, kx_pl, kx_cmp, kx_oF, kx_eqN, kx_nil, kx_c1, kx_ft, kx_aI, kx_aL, kx_aR, kx_ln, Nat.reduceAdd, Option.toList, List.cons_append, List.nil_append, cf1_2, cf1_6, cf1_10, cf9_1, cf9_2, cf9_3, cf9_4, cf9_5, cf1_9]
    repeat (simp only [cW_c, cW_w H, cW_t H, cW_q H, cW_f H, cW_s H, cW_65 H, cW_66 H, cW_1 H, cW_k H, cW_pc, cW_pk H, pk_us, pk_un, ne_eq, Nat.reduceEqDiff, not_false_eq_true, ks_eq, ks_ss]; try dsimp only [kx_wp, kx_step, kx_lI, kx_lL, kx_lA, kx_gl, kx_pI, kx_pL, kx_pR, kx_pA, kx_pV, kx_s1, kx_s2, kx_sl, kx_pre, kx_c2, kx_pl, kx_cmp, kx_oF, kx_eqN, kx_nil, kx_c1, kx_ft, kx_aI, kx_aL, kx_aR, kx_ln, Nat.reduceAdd, Option.toList, List.cons_append, List.nil_append, cf1_2, cf1_6, cf1_10, cf9_1, cf9_2, cf9_3, cf9_4, cf9_5, cf1_9])
    all_goals (repeat' apply And.intro)
    all_goals ((try clear hB hC); first | exact True.intro | with_reducible rfl | with_reducible assumption | (with_reducible refine vp_in_nI ?_ ?_ <;> first | omega | decide) | exact Nat.le_of_ble_eq_true rfl | (with_reducible refine ck_nzI ?_; simp; done) | (with_reducible refine ck_nzL ?_; simp; done) | (simp only [pk_us, pk_uLs, cx_rt, zc10, ze10, ↓reduceIte, not_true_eq_false, not_false_eq_true]; done) | (simp only [cx_rt, zc10, ze10, ↓reduceIte, not_true_eq_false, not_false_eq_true]; with_reducible rfl) | omega | skip)
  · intro zc10
    with_reducible first | have ze10 := Int32.not_le.mp zc10 | have ze10 := zc10
    refine hB bX1_rateIn_13 _ _ _ _ _ _ _ kX1_rateIn_13 ?_
    dsimp only [bX1_rateIn_13, kx_wp, kx_step, kx_lI, kx_lL, kx_lA, kx_gl, kx_pI, kx_pL, kx_pR, kx_pA, kx_pV, kx_s1, kx_s2, kx_sl, kx_pre, kx_c2, kx_pl, kx_cmp, kx_oF, kx_eqN, kx_nil, kx_c1, kx_ft, kx_aI, kx_aL, kx_aR, kx_ln, Nat.reduceAdd, Option.toList, List.cons_append, List.nil_append, cf1_2, cf1_6, cf1_10, cf9_1, cf9_2, cf9_3, cf9_4, cf9_5, cf1_9]
    repeat (simp only [cW_c, cW_w H, cW_t H, cW_q H, cW_f H, cW_s H, cW_65 H, cW_66 H, cW_1 H, cW_k H, cW_pc, cW_pk H, pk_us, pk_un, ne_eq, Nat.reduceEqDiff, not_false_eq_true, ks_eq, ks_ss]; try dsimp only [kx_wp, kx_step, kx_lI, kx_lL, kx_lA, kx_gl, kx_pI, kx_pL, kx_pR, kx_pA, kx_pV, kx_s1, kx_s2, kx_sl, kx_pre, kx_c2, kx_pl, kx_cmp, kx_oF, kx_eqN, kx_nil, kx_c1, kx_ft, kx_aI, kx_aL, kx_aR, kx_ln, Nat.reduceAdd, Option.toList, List.cons_append, List.nil_append, cf1_2, cf1_6, cf1_10, cf9_1, cf9_2, cf9_3, cf9_4, cf9_5, cf1_9])
    repeat' apply And.intro
    all_goals try (first | exact cx_ge1 (by assumption) | first | with_reducible assumption | (with_reducible refine ck_nzI ?_; simp; done) | (with_reducible refine ck_nzL ?_; simp; done) | (with_reducible refine vp_in_nI ?_ ?_ <;> first | omega | decide) | (with_reducible refine Nat.le_of_ble_eq_true ?_; rfl) | omega)
    refine hB bX1_rateIn_28 _ _ _ _ _ _ _ kX1_rateIn_28 ?_
    dsimp only [bX1_rateIn_28, kx_wp, kx_step, kx_lI, kx_lL, kx_lA, kx_gl, kx_pI, kx_pL, kx_pR, kx_pA, kx_pV, kx_s1, kx_s2, kx_sl, kx_pre, kx_c2, kx_pl, kx_cmp, kx_oF, kx_eqN, kx_nil, kx_c1, kx_ft, kx_aI, kx_aL, kx_aR, kx_ln, Nat.reduceAdd, Option.toList, List.cons_append, List.nil_append, cf1_2, cf1_6, cf1_10, cf9_1, cf9_2, cf9_3, cf9_4, cf9_5, cf1_9]
    repeat (simp only [cW_c, cW_w H, cW_t H, cW_q H, cW_f H, cW_s H, cW_65 H, cW_66 H, cW_1 H, cW_k H, cW_pc, cW_pk H, pk_us, pk_un, ne_eq, Nat.reduceEqDiff, not_false_eq_true, ks_eq, ks_ss]; try dsimp only [kx_wp, kx_step, kx_lI, kx_lL, kx_lA, kx_gl, kx_pI, kx_pL, kx_pR, kx_pA, kx_pV, kx_s1, kx_s2, kx_sl, kx_pre, kx_c2, kx_pl, kx_cmp, kx_oF, kx_eqN, kx_nil, kx_c1, kx_ft, kx_aI, kx_aL, kx_aR, kx_ln, Nat.reduceAdd, Option.toList, List.cons_append, List.nil_append, cf1_2, cf1_6, cf1_10, cf9_1, cf9_2, cf9_3, cf9_4, cf9_5, cf1_9])
    repeat' apply And.intro
    all_goals try (first | exact cx_ge1 (by assumption) | first | with_reducible assumption | (with_reducible refine ck_nzI ?_; simp; done) | (with_reducible refine ck_nzL ?_; simp; done) | (with_reducible refine vp_in_nI ?_ ?_ <;> first | omega | decide) | (with_reducible refine Nat.le_of_ble_eq_true ?_; rfl) | omega)
    refine hC.1 121 _ _ _ _ _ _ _ 0 _ _ _ _ _ _ _ _ _ _ _ _ lX1_121 (ct_X0_warmthIn l G (cW_65 H) (cW_66 H) hmi) ⟨by decide, rfl⟩ (by first | exact cW_c | exact cW_w H | exact cW_f H | exact cW_65 H) rfl rfl (Nat.le_of_ble_eq_true rfl) (by decide) (by decide) (by omega) (by omega) dX1_rateIn_58 ?_
    refine hB bX1_rateIn_61 _ _ _ _ _ _ _ kX1_rateIn_61 ?_
    dsimp only [bX1_rateIn_61, kx_wp, kx_step, kx_lI, kx_lL, kx_lA, kx_gl, kx_pI, kx_pL, kx_pR, kx_pA, kx_pV, kx_s1, kx_s2, kx_sl, kx_pre, kx_c2, kx_pl, kx_cmp, kx_oF, kx_eqN, kx_nil, kx_c1, kx_ft, kx_aI, kx_aL, kx_aR, kx_ln, Nat.reduceAdd, Option.toList, List.cons_append, List.nil_append, cf1_2, cf1_6, cf1_10, cf9_1, cf9_2, cf9_3, cf9_4, cf9_5, cf1_9]
    repeat (simp only [cW_c, cW_w H, cW_t H, cW_q H, cW_f H, cW_s H, cW_65 H, cW_66 H, cW_1 H, cW_k H, cW_pc, cW_pk H, pk_us, pk_un, ne_eq, Nat.reduceEqDiff, not_false_eq_true, ks_eq, ks_ss]; try dsimp only [kx_wp, kx_step, kx_lI, kx_lL, kx_lA, kx_gl, kx_pI, kx_pL, kx_pR, kx_pA, kx_pV, kx_s1, kx_s2, kx_sl, kx_pre, kx_c2, kx_pl, kx_cmp, kx_oF, kx_eqN, kx_nil, kx_c1, kx_ft, kx_aI, kx_aL, kx_aR, kx_ln, Nat.reduceAdd, Option.toList, List.cons_append, List.nil_append, cf1_2, cf1_6, cf1_10, cf9_1, cf9_2, cf9_3, cf9_4, cf9_5, cf1_9])
    all_goals (repeat' apply And.intro)
    all_goals ((try clear hB hC); first | exact True.intro | with_reducible rfl | with_reducible assumption | (with_reducible refine vp_in_nI ?_ ?_ <;> first | omega | decide) | exact Nat.le_of_ble_eq_true rfl | (with_reducible refine ck_nzI ?_; simp; done) | (with_reducible refine ck_nzL ?_; simp; done) | (simp only [pk_us, pk_uLs, cx_rt, zc10, ze10, ↓reduceIte, not_true_eq_false, not_false_eq_true]; done) | (simp only [cx_rt, zc10, ze10, ↓reduceIte, not_true_eq_false, not_false_eq_true]; with_reducible rfl) | omega | skip)

def bX1_endsMonth_0 : List kx_O := [(.aload_n 0, 0, 0, 0, .null), (.getfield 19, 1, 4, 0, .null), (.aload_n 0, 0, 0, 0, .null), (.getfield 9, 1, 2, 0, .null), (.aload_n 0, 0, 0, 0, .null), (.getfield 23, 1, 5, 0, .null), (.iload_n 1, 1, 0, 0, .null)]
theorem kX1_endsMonth_0 : kx_oks kxL_X1 false cX1_endsMonth 0 bX1_endsMonth_0 = true := by decide +kernel
def bX1_endsMonth_16 : List kx_O := [(.if_icmp .lt 7, 23, 0, 0, .null)]
theorem kX1_endsMonth_16 : kx_oks kxL_X1 false cX1_endsMonth 16 bX1_endsMonth_16 = true := by decide +kernel
def bX1_endsMonth_19 : List kx_O := [(.iconst 1, 0, 0, 0, .int 1), (.goto 4, 24, 0, 0, .null)]
theorem kX1_endsMonth_19 : kx_oks kxL_X1 false cX1_endsMonth 19 bX1_endsMonth_19 = true := by decide +kernel
def bX1_endsMonth_23 : List kx_O := [(.iconst 0, 0, 0, 0, .int 0)]
theorem kX1_endsMonth_23 : kx_oks kxL_X1 false cX1_endsMonth 23 bX1_endsMonth_23 = true := by decide +kernel
def bX1_endsMonth_24 : List kx_O := [(.ireturn, 0, 0, 0, .null)]
theorem kX1_endsMonth_24 : kx_oks kxL_X1 false cX1_endsMonth 24 bX1_endsMonth_24 = true := by decide +kernel
theorem dX1_endsMonth_13 : decode cX1_endsMonth 13 = .ok (.invokevirtual 159, 3) := by decide +kernel
set_option maxRecDepth 100000 in
set_option maxHeartbeats 4000000 in
theorem ct_X1_endsMonth (l : Launch) (G : kx_G) {P : kx_P} {sz : Nat} {c w : Nat} {V T Q Fo St Al Wm S C : Nat → Int32} {d : Int64} {h : Value} (H : cx_R P c w V T Q Fo St Al Wm) {lp : Int32}  : kx_M l G sX1_endsMonth 3 0 0 [.ref c, .int (lp)] (cW P c w S d h C) sz (some (.int (cx_em V C lp))) (cW P c w S d h C) sz := by
  refine kx_mk kx_tab kxLok_X1 (ini := false) [some (.ref c), some (.int (lp))] ⟨by decide, rfl, by decide, by decide⟩ (by unfold cx_em; split <;> first | exact Or.inl rfl | exact Or.inr rfl) rfl rfl (fun g hB hC => ?_)
  refine hB bX1_endsMonth_0 _ _ _ _ _ _ _ kX1_endsMonth_0 ?_
  dsimp only [bX1_endsMonth_0, kx_wp, kx_step, kx_lI, kx_lL, kx_lA, kx_gl, kx_pI, kx_pL, kx_pR, kx_pA, kx_pV, kx_s1, kx_s2, kx_sl, kx_pre, kx_c2, kx_pl, kx_cmp, kx_oF, kx_eqN, kx_nil, kx_c1, kx_ft, kx_aI, kx_aL, kx_aR, kx_ln, Nat.reduceAdd, Option.toList, List.cons_append, List.nil_append, cf1_4, cf1_2, cf1_5]
  repeat (simp only [cW_c, cW_w H, cW_t H, cW_q H, cW_f H, cW_s H, cW_65 H, cW_66 H, cW_1 H, cW_k H, cW_pc, cW_pk H, pk_us, pk_un, ne_eq, Nat.reduceEqDiff, not_false_eq_true, ks_eq, ks_ss]; try dsimp only [kx_wp, kx_step, kx_lI, kx_lL, kx_lA, kx_gl, kx_pI, kx_pL, kx_pR, kx_pA, kx_pV, kx_s1, kx_s2, kx_sl, kx_pre, kx_c2, kx_pl, kx_cmp, kx_oF, kx_eqN, kx_nil, kx_c1, kx_ft, kx_aI, kx_aL, kx_aR, kx_ln, Nat.reduceAdd, Option.toList, List.cons_append, List.nil_append, cf1_4, cf1_2, cf1_5])
  repeat' apply And.intro
  all_goals try (first | with_reducible assumption | (with_reducible refine ck_nzI ?_; simp; done) | (with_reducible refine ck_nzL ?_; simp; done) | (with_reducible refine vp_in_nI ?_ ?_ <;> first | omega | decide) | (with_reducible refine Nat.le_of_ble_eq_true ?_; rfl) | omega)
  refine hC.1 159 _ _ _ _ _ _ _ 9 _ _ _ _ _ _ _ _ _ _ _ _ lX1_159 (ct_X9_lastDate l G (cW_w H) (cW_1 H)) ⟨by decide, rfl⟩ (by first | exact cW_c | exact cW_w H | exact cW_f H | exact cW_65 H) rfl rfl (Nat.le_of_ble_eq_true rfl) (by decide) (by decide) (by omega) (by omega) dX1_endsMonth_13 ?_
  refine hB bX1_endsMonth_16 _ _ _ _ _ _ _ kX1_endsMonth_16 ?_
  dsimp only [bX1_endsMonth_16, kx_wp, kx_step, kx_lI, kx_lL, kx_lA, kx_gl, kx_pI, kx_pL, kx_pR, kx_pA, kx_pV, kx_s1, kx_s2, kx_sl, kx_pre, kx_c2, kx_pl, kx_cmp, kx_oF, kx_eqN, kx_nil, kx_c1, kx_ft, kx_aI, kx_aL, kx_aR, kx_ln, Nat.reduceAdd, Option.toList, List.cons_append, List.nil_append, cf1_4, cf1_2, cf1_5]
  repeat (simp only [cW_c, cW_w H, cW_t H, cW_q H, cW_f H, cW_s H, cW_65 H, cW_66 H, cW_1 H, cW_k H, cW_pc, cW_pk H, pk_us, pk_un, ne_eq, Nat.reduceEqDiff, not_false_eq_true, ks_eq, ks_ss]; try dsimp only [kx_wp, kx_step, kx_lI, kx_lL, kx_lA, kx_gl, kx_pI, kx_pL, kx_pR, kx_pA, kx_pV, kx_s1, kx_s2, kx_sl, kx_pre, kx_c2, kx_pl, kx_cmp, kx_oF, kx_eqN, kx_nil, kx_c1, kx_ft, kx_aI, kx_aL, kx_aR, kx_ln, Nat.reduceAdd, Option.toList, List.cons_append, List.nil_append, cf1_4, cf1_2, cf1_5])
  repeat' apply And.intro
  all_goals try (first | with_reducible assumption | (with_reducible refine ck_nzI ?_; simp; done) | (with_reducible refine ck_nzL ?_; simp; done) | (with_reducible refine vp_in_nI ?_ ?_ <;> first | omega | decide) | (with_reducible refine Nat.le_of_ble_eq_true ?_; rfl) | omega)
  · intro zc16
    with_reducible first | have ze16 := Int32.not_le.mpr zc16 | have ze16 := zc16
    refine hB bX1_endsMonth_23 _ _ _ _ _ _ _ kX1_endsMonth_23 ?_
    dsimp only [bX1_endsMonth_23, kx_wp, kx_step, kx_lI, kx_lL, kx_lA, kx_gl, kx_pI, kx_pL, kx_pR, kx_pA, kx_pV, kx_s1, kx_s2, kx_sl, kx_pre, kx_c2, kx_pl, kx_cmp, kx_oF, kx_eqN, kx_nil, kx_c1, kx_ft, kx_aI, kx_aL, kx_aR, kx_ln, Nat.reduceAdd, Option.toList, List.cons_append, List.nil_append, cf1_4, cf1_2, cf1_5]
    repeat (simp only [cW_c, cW_w H, cW_t H, cW_q H, cW_f H, cW_s H, cW_65 H, cW_66 H, cW_1 H, cW_k H, cW_pc, cW_pk H, pk_us, pk_un, ne_eq, Nat.reduceEqDiff, not_false_eq_true, ks_eq, ks_ss]; try dsimp only [kx_wp, kx_step, kx_lI, kx_lL, kx_lA, kx_gl, kx_pI, kx_pL, kx_pR, kx_pA, kx_pV, kx_s1, kx_s2, kx_sl, kx_pre, kx_c2, kx_pl, kx_cmp, kx_oF, kx_eqN, kx_nil, kx_c1, kx_ft, kx_aI, kx_aL, kx_aR, kx_ln, Nat.reduceAdd, Option.toList, List.cons_append, List.nil_append, cf1_4, cf1_2, cf1_5])
    repeat' apply And.intro
    all_goals try (first | with_reducible assumption | (with_reducible refine ck_nzI ?_; simp; done) | (with_reducible refine ck_nzL ?_; simp; done) | (with_reducible refine vp_in_nI ?_ ?_ <;> first | omega | decide) | (with_reducible refine Nat.le_of_ble_eq_true ?_; rfl) | omega)
    refine hB bX1_endsMonth_24 _ _ _ _ _ _ _ kX1_endsMonth_24 ?_
    dsimp only [bX1_endsMonth_24, kx_wp, kx_step, kx_lI, kx_lL, kx_lA, kx_gl, kx_pI, kx_pL, kx_pR, kx_pA, kx_pV, kx_s1, kx_s2, kx_sl, kx_pre, kx_c2, kx_pl, kx_cmp, kx_oF, kx_eqN, kx_nil, kx_c1, kx_ft, kx_aI, kx_aL, kx_aR, kx_ln, Nat.reduceAdd, Option.toList, List.cons_append, List.nil_append, cf1_4, cf1_2, cf1_5]
    repeat (simp only [cW_c, cW_w H, cW_t H, cW_q H, cW_f H, cW_s H, cW_65 H, cW_66 H, cW_1 H, cW_k H, cW_pc, cW_pk H, pk_us, pk_un, ne_eq, Nat.reduceEqDiff, not_false_eq_true, ks_eq, ks_ss]; try dsimp only [kx_wp, kx_step, kx_lI, kx_lL, kx_lA, kx_gl, kx_pI, kx_pL, kx_pR, kx_pA, kx_pV, kx_s1, kx_s2, kx_sl, kx_pre, kx_c2, kx_pl, kx_cmp, kx_oF, kx_eqN, kx_nil, kx_c1, kx_ft, kx_aI, kx_aL, kx_aR, kx_ln, Nat.reduceAdd, Option.toList, List.cons_append, List.nil_append, cf1_4, cf1_2, cf1_5])
    all_goals (repeat' apply And.intro)
    all_goals ((try clear hB hC); first | exact True.intro | with_reducible rfl | with_reducible assumption | (with_reducible refine vp_in_nI ?_ ?_ <;> first | omega | decide) | exact Nat.le_of_ble_eq_true rfl | (with_reducible refine ck_nzI ?_; simp; done) | (with_reducible refine ck_nzL ?_; simp; done) | (simp only [pk_us, pk_uLs, cx_em, zc16, ze16, ↓reduceIte, not_true_eq_false, not_false_eq_true]; done) | (simp only [cx_em, zc16, ze16, ↓reduceIte, not_true_eq_false, not_false_eq_true]; with_reducible rfl) | omega | skip)
  · intro zc16
    with_reducible first | have ze16 := Int32.not_lt.mp zc16 | have ze16 := zc16
    refine hB bX1_endsMonth_19 _ _ _ _ _ _ _ kX1_endsMonth_19 ?_
    dsimp only [bX1_endsMonth_19, kx_wp, kx_step, kx_lI, kx_lL, kx_lA, kx_gl, kx_pI, kx_pL, kx_pR, kx_pA, kx_pV, kx_s1, kx_s2, kx_sl, kx_pre, kx_c2, kx_pl, kx_cmp, kx_oF, kx_eqN, kx_nil, kx_c1, kx_ft, kx_aI, kx_aL, kx_aR, kx_ln, Nat.reduceAdd, Option.toList, List.cons_append, List.nil_append, cf1_4, cf1_2, cf1_5]
    repeat (simp only [cW_c, cW_w H, cW_t H, cW_q H, cW_f H, cW_s H, cW_65 H, cW_66 H, cW_1 H, cW_k H, cW_pc, cW_pk H, pk_us, pk_un, ne_eq, Nat.reduceEqDiff, not_false_eq_true, ks_eq, ks_ss]; try dsimp only [kx_wp, kx_step, kx_lI, kx_lL, kx_lA, kx_gl, kx_pI, kx_pL, kx_pR, kx_pA, kx_pV, kx_s1, kx_s2, kx_sl, kx_pre, kx_c2, kx_pl, kx_cmp, kx_oF, kx_eqN, kx_nil, kx_c1, kx_ft, kx_aI, kx_aL, kx_aR, kx_ln, Nat.reduceAdd, Option.toList, List.cons_append, List.nil_append, cf1_4, cf1_2, cf1_5])
    repeat' apply And.intro
    all_goals try (first | with_reducible assumption | (with_reducible refine ck_nzI ?_; simp; done) | (with_reducible refine ck_nzL ?_; simp; done) | (with_reducible refine vp_in_nI ?_ ?_ <;> first | omega | decide) | (with_reducible refine Nat.le_of_ble_eq_true ?_; rfl) | omega)
    refine hB bX1_endsMonth_24 _ _ _ _ _ _ _ kX1_endsMonth_24 ?_
    dsimp only [bX1_endsMonth_24, kx_wp, kx_step, kx_lI, kx_lL, kx_lA, kx_gl, kx_pI, kx_pL, kx_pR, kx_pA, kx_pV, kx_s1, kx_s2, kx_sl, kx_pre, kx_c2, kx_pl, kx_cmp, kx_oF, kx_eqN, kx_nil, kx_c1, kx_ft, kx_aI, kx_aL, kx_aR, kx_ln, Nat.reduceAdd, Option.toList, List.cons_append, List.nil_append, cf1_4, cf1_2, cf1_5]
    repeat (simp only [cW_c, cW_w H, cW_t H, cW_q H, cW_f H, cW_s H, cW_65 H, cW_66 H, cW_1 H, cW_k H, cW_pc, cW_pk H, pk_us, pk_un, ne_eq, Nat.reduceEqDiff, not_false_eq_true, ks_eq, ks_ss]; try dsimp only [kx_wp, kx_step, kx_lI, kx_lL, kx_lA, kx_gl, kx_pI, kx_pL, kx_pR, kx_pA, kx_pV, kx_s1, kx_s2, kx_sl, kx_pre, kx_c2, kx_pl, kx_cmp, kx_oF, kx_eqN, kx_nil, kx_c1, kx_ft, kx_aI, kx_aL, kx_aR, kx_ln, Nat.reduceAdd, Option.toList, List.cons_append, List.nil_append, cf1_4, cf1_2, cf1_5])
    all_goals (repeat' apply And.intro)
    all_goals ((try clear hB hC); first | exact True.intro | with_reducible rfl | with_reducible assumption | (with_reducible refine vp_in_nI ?_ ?_ <;> first | omega | decide) | exact Nat.le_of_ble_eq_true rfl | (with_reducible refine ck_nzI ?_; simp; done) | (with_reducible refine ck_nzL ?_; simp; done) | (simp only [pk_us, pk_uLs, cx_em, zc16, ze16, ↓reduceIte, not_true_eq_false, not_false_eq_true]; done) | (simp only [cx_em, zc16, ze16, ↓reduceIte, not_true_eq_false, not_false_eq_true]; with_reducible rfl) | omega | skip)

def bX1_dateBehind_0 : List kx_O := [(.aload_n 0, 0, 0, 0, .null), (.iload_n 1, 1, 0, 0, .null)]
theorem kX1_dateBehind_0 : kx_oks kxL_X1 false cX1_dateBehind 0 bX1_dateBehind_0 = true := by decide +kernel
def bX1_dateBehind_5 : List kx_O := [(.ifCond .eq 7, 12, 0, 0, .null)]
theorem kX1_dateBehind_5 : kx_oks kxL_X1 false cX1_dateBehind 5 bX1_dateBehind_5 = true := by decide +kernel
def bX1_dateBehind_8 : List kx_O := [(.iconst 1, 0, 0, 0, .int 1), (.goto 9, 18, 0, 0, .null)]
theorem kX1_dateBehind_8 : kx_oks kxL_X1 false cX1_dateBehind 8 bX1_dateBehind_8 = true := by decide +kernel
def bX1_dateBehind_12 : List kx_O := [(.aload_n 0, 0, 0, 0, .null), (.getfield 19, 1, 4, 0, .null), (.iconst 1, 0, 0, 0, .int 1), (.iadd, 0, 0, 0, .null)]
theorem kX1_dateBehind_12 : kx_oks kxL_X1 false cX1_dateBehind 12 bX1_dateBehind_12 = true := by decide +kernel
def bX1_dateBehind_18 : List kx_O := [(.ireturn, 0, 0, 0, .null)]
theorem kX1_dateBehind_18 : kx_oks kxL_X1 false cX1_dateBehind 18 bX1_dateBehind_18 = true := by decide +kernel
theorem dX1_dateBehind_2 : decode cX1_dateBehind 2 = .ok (.invokevirtual 163, 3) := by decide +kernel
set_option maxRecDepth 100000 in
set_option maxHeartbeats 4000000 in
theorem ct_X1_dateBehind (l : Launch) (G : kx_G) {P : kx_P} {sz : Nat} {c w : Nat} {V T Q Fo St Al Wm S C : Nat → Int32} {d : Int64} {h : Value} (H : cx_R P c w V T Q Fo St Al Wm) {lp : Int32}  : kx_M l G sX1_dateBehind 4 0 0 [.ref c, .int (lp)] (cW P c w S d h C) sz (some (.int (cx_db V C lp))) (cW P c w S d h C) sz := by
  refine kx_mk kx_tab kxLok_X1 (ini := false) [some (.ref c), some (.int (lp))] ⟨by decide, rfl, by decide, by decide⟩ (⟨_, rfl⟩) rfl rfl (fun g hB hC => ?_)
  refine hB bX1_dateBehind_0 _ _ _ _ _ _ _ kX1_dateBehind_0 ?_
  dsimp only [bX1_dateBehind_0, kx_wp, kx_step, kx_lI, kx_lL, kx_lA, kx_gl, kx_pI, kx_pL, kx_pR, kx_pA, kx_pV, kx_s1, kx_s2, kx_sl, kx_pre, kx_c2, kx_pl, kx_cmp, kx_oF, kx_eqN, kx_nil, kx_c1, kx_ft, kx_aI, kx_aL, kx_aR, kx_ln, Nat.reduceAdd, Option.toList, List.cons_append, List.nil_append, cf1_4]
  repeat (simp only [cW_c, cW_w H, cW_t H, cW_q H, cW_f H, cW_s H, cW_65 H, cW_66 H, cW_1 H, cW_k H, cW_pc, cW_pk H, pk_us, pk_un, ne_eq, Nat.reduceEqDiff, not_false_eq_true, ks_eq, ks_ss]; try dsimp only [kx_wp, kx_step, kx_lI, kx_lL, kx_lA, kx_gl, kx_pI, kx_pL, kx_pR, kx_pA, kx_pV, kx_s1, kx_s2, kx_sl, kx_pre, kx_c2, kx_pl, kx_cmp, kx_oF, kx_eqN, kx_nil, kx_c1, kx_ft, kx_aI, kx_aL, kx_aR, kx_ln, Nat.reduceAdd, Option.toList, List.cons_append, List.nil_append, cf1_4])
  repeat' apply And.intro
  all_goals try (first | with_reducible assumption | (with_reducible refine ck_nzI ?_; simp; done) | (with_reducible refine ck_nzL ?_; simp; done) | (with_reducible refine vp_in_nI ?_ ?_ <;> first | omega | decide) | (with_reducible refine Nat.le_of_ble_eq_true ?_; rfl) | omega)
  refine hC.1 163 _ _ _ _ _ _ _ 1 _ _ _ _ _ _ _ _ _ _ _ _ lX1_163 (ct_X1_endsMonth l G H) ⟨by decide, rfl⟩ (by first | exact cW_c | exact cW_w H | exact cW_f H | exact cW_65 H) rfl rfl (Nat.le_of_ble_eq_true rfl) (by decide) (by decide) (by omega) (by omega) dX1_dateBehind_2 ?_
  refine hB bX1_dateBehind_5 _ _ _ _ _ _ _ kX1_dateBehind_5 ?_
  dsimp only [bX1_dateBehind_5, kx_wp, kx_step, kx_lI, kx_lL, kx_lA, kx_gl, kx_pI, kx_pL, kx_pR, kx_pA, kx_pV, kx_s1, kx_s2, kx_sl, kx_pre, kx_c2, kx_pl, kx_cmp, kx_oF, kx_eqN, kx_nil, kx_c1, kx_ft, kx_aI, kx_aL, kx_aR, kx_ln, Nat.reduceAdd, Option.toList, List.cons_append, List.nil_append, cf1_4]
  repeat (simp only [cW_c, cW_w H, cW_t H, cW_q H, cW_f H, cW_s H, cW_65 H, cW_66 H, cW_1 H, cW_k H, cW_pc, cW_pk H, pk_us, pk_un, ne_eq, Nat.reduceEqDiff, not_false_eq_true, ks_eq, ks_ss]; try dsimp only [kx_wp, kx_step, kx_lI, kx_lL, kx_lA, kx_gl, kx_pI, kx_pL, kx_pR, kx_pA, kx_pV, kx_s1, kx_s2, kx_sl, kx_pre, kx_c2, kx_pl, kx_cmp, kx_oF, kx_eqN, kx_nil, kx_c1, kx_ft, kx_aI, kx_aL, kx_aR, kx_ln, Nat.reduceAdd, Option.toList, List.cons_append, List.nil_append, cf1_4])
  repeat' apply And.intro
  all_goals try (first | with_reducible assumption | (with_reducible refine ck_nzI ?_; simp; done) | (with_reducible refine ck_nzL ?_; simp; done) | (with_reducible refine vp_in_nI ?_ ?_ <;> first | omega | decide) | (with_reducible refine Nat.le_of_ble_eq_true ?_; rfl) | omega)
  · intro zc5
    have ze5 := zc5
    refine hB bX1_dateBehind_12 _ _ _ _ _ _ _ kX1_dateBehind_12 ?_
    dsimp only [bX1_dateBehind_12, kx_wp, kx_step, kx_lI, kx_lL, kx_lA, kx_gl, kx_pI, kx_pL, kx_pR, kx_pA, kx_pV, kx_s1, kx_s2, kx_sl, kx_pre, kx_c2, kx_pl, kx_cmp, kx_oF, kx_eqN, kx_nil, kx_c1, kx_ft, kx_aI, kx_aL, kx_aR, kx_ln, Nat.reduceAdd, Option.toList, List.cons_append, List.nil_append, cf1_4]
    repeat (simp only [cW_c, cW_w H, cW_t H, cW_q H, cW_f H, cW_s H, cW_65 H, cW_66 H, cW_1 H, cW_k H, cW_pc, cW_pk H, pk_us, pk_un, ne_eq, Nat.reduceEqDiff, not_false_eq_true, ks_eq, ks_ss]; try dsimp only [kx_wp, kx_step, kx_lI, kx_lL, kx_lA, kx_gl, kx_pI, kx_pL, kx_pR, kx_pA, kx_pV, kx_s1, kx_s2, kx_sl, kx_pre, kx_c2, kx_pl, kx_cmp, kx_oF, kx_eqN, kx_nil, kx_c1, kx_ft, kx_aI, kx_aL, kx_aR, kx_ln, Nat.reduceAdd, Option.toList, List.cons_append, List.nil_append, cf1_4])
    repeat' apply And.intro
    all_goals try (first | with_reducible assumption | (with_reducible refine ck_nzI ?_; simp; done) | (with_reducible refine ck_nzL ?_; simp; done) | (with_reducible refine vp_in_nI ?_ ?_ <;> first | omega | decide) | (with_reducible refine Nat.le_of_ble_eq_true ?_; rfl) | omega)
    refine hB bX1_dateBehind_18 _ _ _ _ _ _ _ kX1_dateBehind_18 ?_
    dsimp only [bX1_dateBehind_18, kx_wp, kx_step, kx_lI, kx_lL, kx_lA, kx_gl, kx_pI, kx_pL, kx_pR, kx_pA, kx_pV, kx_s1, kx_s2, kx_sl, kx_pre, kx_c2, kx_pl, kx_cmp, kx_oF, kx_eqN, kx_nil, kx_c1, kx_ft, kx_aI, kx_aL, kx_aR, kx_ln, Nat.reduceAdd, Option.toList, List.cons_append, List.nil_append, cf1_4]
    repeat (simp only [cW_c, cW_w H, cW_t H, cW_q H, cW_f H, cW_s H, cW_65 H, cW_66 H, cW_1 H, cW_k H, cW_pc, cW_pk H, pk_us, pk_un, ne_eq, Nat.reduceEqDiff, not_false_eq_true, ks_eq, ks_ss]; try dsimp only [kx_wp, kx_step, kx_lI, kx_lL, kx_lA, kx_gl, kx_pI, kx_pL, kx_pR, kx_pA, kx_pV, kx_s1, kx_s2, kx_sl, kx_pre, kx_c2, kx_pl, kx_cmp, kx_oF, kx_eqN, kx_nil, kx_c1, kx_ft, kx_aI, kx_aL, kx_aR, kx_ln, Nat.reduceAdd, Option.toList, List.cons_append, List.nil_append, cf1_4])
    all_goals (repeat' apply And.intro)
    all_goals ((try clear hB hC); first | exact True.intro | with_reducible rfl | with_reducible assumption | (with_reducible refine vp_in_nI ?_ ?_ <;> first | omega | decide) | exact Nat.le_of_ble_eq_true rfl | (with_reducible refine ck_nzI ?_; simp; done) | (with_reducible refine ck_nzL ?_; simp; done) | (simp only [pk_us, pk_uLs, cx_db, eq_true ze5, ↓reduceIte, not_true_eq_false, not_false_eq_true]; done) | (simp only [cx_db, eq_true ze5, ↓reduceIte, not_true_eq_false, not_false_eq_true]; with_reducible rfl) | omega | skip)
  · intro zc5
    have ze5 := zc5
    refine hB bX1_dateBehind_8 _ _ _ _ _ _ _ kX1_dateBehind_8 ?_
    dsimp only [bX1_dateBehind_8, kx_wp, kx_step, kx_lI, kx_lL, kx_lA, kx_gl, kx_pI, kx_pL, kx_pR, kx_pA, kx_pV, kx_s1, kx_s2, kx_sl, kx_pre, kx_c2, kx_pl, kx_cmp, kx_oF, kx_eqN, kx_nil, kx_c1, kx_ft, kx_aI, kx_aL, kx_aR, kx_ln, Nat.reduceAdd, Option.toList, List.cons_append, List.nil_append, cf1_4]
    repeat (simp only [cW_c, cW_w H, cW_t H, cW_q H, cW_f H, cW_s H, cW_65 H, cW_66 H, cW_1 H, cW_k H, cW_pc, cW_pk H, pk_us, pk_un, ne_eq, Nat.reduceEqDiff, not_false_eq_true, ks_eq, ks_ss]; try dsimp only [kx_wp, kx_step, kx_lI, kx_lL, kx_lA, kx_gl, kx_pI, kx_pL, kx_pR, kx_pA, kx_pV, kx_s1, kx_s2, kx_sl, kx_pre, kx_c2, kx_pl, kx_cmp, kx_oF, kx_eqN, kx_nil, kx_c1, kx_ft, kx_aI, kx_aL, kx_aR, kx_ln, Nat.reduceAdd, Option.toList, List.cons_append, List.nil_append, cf1_4])
    repeat' apply And.intro
    all_goals try (first | with_reducible assumption | (with_reducible refine ck_nzI ?_; simp; done) | (with_reducible refine ck_nzL ?_; simp; done) | (with_reducible refine vp_in_nI ?_ ?_ <;> first | omega | decide) | (with_reducible refine Nat.le_of_ble_eq_true ?_; rfl) | omega)
    refine hB bX1_dateBehind_18 _ _ _ _ _ _ _ kX1_dateBehind_18 ?_
    dsimp only [bX1_dateBehind_18, kx_wp, kx_step, kx_lI, kx_lL, kx_lA, kx_gl, kx_pI, kx_pL, kx_pR, kx_pA, kx_pV, kx_s1, kx_s2, kx_sl, kx_pre, kx_c2, kx_pl, kx_cmp, kx_oF, kx_eqN, kx_nil, kx_c1, kx_ft, kx_aI, kx_aL, kx_aR, kx_ln, Nat.reduceAdd, Option.toList, List.cons_append, List.nil_append, cf1_4]
    repeat (simp only [cW_c, cW_w H, cW_t H, cW_q H, cW_f H, cW_s H, cW_65 H, cW_66 H, cW_1 H, cW_k H, cW_pc, cW_pk H, pk_us, pk_un, ne_eq, Nat.reduceEqDiff, not_false_eq_true, ks_eq, ks_ss]; try dsimp only [kx_wp, kx_step, kx_lI, kx_lL, kx_lA, kx_gl, kx_pI, kx_pL, kx_pR, kx_pA, kx_pV, kx_s1, kx_s2, kx_sl, kx_pre, kx_c2, kx_pl, kx_cmp, kx_oF, kx_eqN, kx_nil, kx_c1, kx_ft, kx_aI, kx_aL, kx_aR, kx_ln, Nat.reduceAdd, Option.toList, List.cons_append, List.nil_append, cf1_4])
    all_goals (repeat' apply And.intro)
    all_goals ((try clear hB hC); first | exact True.intro | with_reducible rfl | with_reducible assumption | (with_reducible refine vp_in_nI ?_ ?_ <;> first | omega | decide) | exact Nat.le_of_ble_eq_true rfl | (with_reducible refine ck_nzI ?_; simp; done) | (with_reducible refine ck_nzL ?_; simp; done) | (simp only [pk_us, pk_uLs, cx_db, ze5, ↓reduceIte, not_true_eq_false, not_false_eq_true]; done) | (simp only [cx_db, ze5, ↓reduceIte, not_true_eq_false, not_false_eq_true]; with_reducible rfl) | omega | skip)

def bX1_monthBehind_0 : List kx_O := [(.aload_n 0, 0, 0, 0, .null), (.iload_n 1, 1, 0, 0, .null)]
theorem kX1_monthBehind_0 : kx_oks kxL_X1 false cX1_monthBehind 0 bX1_monthBehind_0 = true := by decide +kernel
def bX1_monthBehind_5 : List kx_O := [(.ifCond .eq 15, 20, 0, 0, .null)]
theorem kX1_monthBehind_5 : kx_oks kxL_X1 false cX1_monthBehind 5 bX1_monthBehind_5 = true := by decide +kernel
def bX1_monthBehind_8 : List kx_O := [(.aload_n 0, 0, 0, 0, .null), (.getfield 23, 1, 5, 0, .null), (.bipush 12, 0, 0, 0, .int 12), (.irem, 0, 0, 0, .null), (.iconst 1, 0, 0, 0, .int 1), (.iadd, 0, 0, 0, .null), (.goto 7, 24, 0, 0, .null)]
theorem kX1_monthBehind_8 : kx_oks kxL_X1 false cX1_monthBehind 8 bX1_monthBehind_8 = true := by decide +kernel
def bX1_monthBehind_20 : List kx_O := [(.aload_n 0, 0, 0, 0, .null), (.getfield 23, 1, 5, 0, .null)]
theorem kX1_monthBehind_20 : kx_oks kxL_X1 false cX1_monthBehind 20 bX1_monthBehind_20 = true := by decide +kernel
def bX1_monthBehind_24 : List kx_O := [(.ireturn, 0, 0, 0, .null)]
theorem kX1_monthBehind_24 : kx_oks kxL_X1 false cX1_monthBehind 24 bX1_monthBehind_24 = true := by decide +kernel
theorem dX1_monthBehind_2 : decode cX1_monthBehind 2 = .ok (.invokevirtual 163, 3) := by decide +kernel
set_option maxRecDepth 100000 in
set_option maxHeartbeats 4000000 in
theorem ct_X1_monthBehind (l : Launch) (G : kx_G) {P : kx_P} {sz : Nat} {c w : Nat} {V T Q Fo St Al Wm S C : Nat → Int32} {d : Int64} {h : Value} (H : cx_R P c w V T Q Fo St Al Wm) {lp : Int32}  : kx_M l G sX1_monthBehind 4 0 0 [.ref c, .int (lp)] (cW P c w S d h C) sz (some (.int (cx_mb V C lp))) (cW P c w S d h C) sz := by
  refine kx_mk kx_tab kxLok_X1 (ini := false) [some (.ref c), some (.int (lp))] ⟨by decide, rfl, by decide, by decide⟩ (⟨_, rfl⟩) rfl rfl (fun g hB hC => ?_)
  refine hB bX1_monthBehind_0 _ _ _ _ _ _ _ kX1_monthBehind_0 ?_
  dsimp only [bX1_monthBehind_0, kx_wp, kx_step, kx_lI, kx_lL, kx_lA, kx_gl, kx_pI, kx_pL, kx_pR, kx_pA, kx_pV, kx_s1, kx_s2, kx_sl, kx_pre, kx_c2, kx_pl, kx_cmp, kx_oF, kx_eqN, kx_nil, kx_c1, kx_ft, kx_aI, kx_aL, kx_aR, kx_ln, Nat.reduceAdd, Option.toList, List.cons_append, List.nil_append, cf1_5]
  repeat (simp only [cW_c, cW_w H, cW_t H, cW_q H, cW_f H, cW_s H, cW_65 H, cW_66 H, cW_1 H, cW_k H, cW_pc, cW_pk H, pk_us, pk_un, ne_eq, Nat.reduceEqDiff, not_false_eq_true, ks_eq, ks_ss]; try dsimp only [kx_wp, kx_step, kx_lI, kx_lL, kx_lA, kx_gl, kx_pI, kx_pL, kx_pR, kx_pA, kx_pV, kx_s1, kx_s2, kx_sl, kx_pre, kx_c2, kx_pl, kx_cmp, kx_oF, kx_eqN, kx_nil, kx_c1, kx_ft, kx_aI, kx_aL, kx_aR, kx_ln, Nat.reduceAdd, Option.toList, List.cons_append, List.nil_append, cf1_5])
  repeat' apply And.intro
  all_goals try (first | with_reducible assumption | (with_reducible refine ck_nzI ?_; simp; done) | (with_reducible refine ck_nzL ?_; simp; done) | (with_reducible refine vp_in_nI ?_ ?_ <;> first | omega | decide) | (with_reducible refine Nat.le_of_ble_eq_true ?_; rfl) | omega)
  refine hC.1 163 _ _ _ _ _ _ _ 1 _ _ _ _ _ _ _ _ _ _ _ _ lX1_163 (ct_X1_endsMonth l G H) ⟨by decide, rfl⟩ (by first | exact cW_c | exact cW_w H | exact cW_f H | exact cW_65 H) rfl rfl (Nat.le_of_ble_eq_true rfl) (by decide) (by decide) (by omega) (by omega) dX1_monthBehind_2 ?_
  refine hB bX1_monthBehind_5 _ _ _ _ _ _ _ kX1_monthBehind_5 ?_
  dsimp only [bX1_monthBehind_5, kx_wp, kx_step, kx_lI, kx_lL, kx_lA, kx_gl, kx_pI, kx_pL, kx_pR, kx_pA, kx_pV, kx_s1, kx_s2, kx_sl, kx_pre, kx_c2, kx_pl, kx_cmp, kx_oF, kx_eqN, kx_nil, kx_c1, kx_ft, kx_aI, kx_aL, kx_aR, kx_ln, Nat.reduceAdd, Option.toList, List.cons_append, List.nil_append, cf1_5]
  repeat (simp only [cW_c, cW_w H, cW_t H, cW_q H, cW_f H, cW_s H, cW_65 H, cW_66 H, cW_1 H, cW_k H, cW_pc, cW_pk H, pk_us, pk_un, ne_eq, Nat.reduceEqDiff, not_false_eq_true, ks_eq, ks_ss]; try dsimp only [kx_wp, kx_step, kx_lI, kx_lL, kx_lA, kx_gl, kx_pI, kx_pL, kx_pR, kx_pA, kx_pV, kx_s1, kx_s2, kx_sl, kx_pre, kx_c2, kx_pl, kx_cmp, kx_oF, kx_eqN, kx_nil, kx_c1, kx_ft, kx_aI, kx_aL, kx_aR, kx_ln, Nat.reduceAdd, Option.toList, List.cons_append, List.nil_append, cf1_5])
  repeat' apply And.intro
  all_goals try (first | with_reducible assumption | (with_reducible refine ck_nzI ?_; simp; done) | (with_reducible refine ck_nzL ?_; simp; done) | (with_reducible refine vp_in_nI ?_ ?_ <;> first | omega | decide) | (with_reducible refine Nat.le_of_ble_eq_true ?_; rfl) | omega)
  · intro zc5
    have ze5 := zc5
    refine hB bX1_monthBehind_20 _ _ _ _ _ _ _ kX1_monthBehind_20 ?_
    dsimp only [bX1_monthBehind_20, kx_wp, kx_step, kx_lI, kx_lL, kx_lA, kx_gl, kx_pI, kx_pL, kx_pR, kx_pA, kx_pV, kx_s1, kx_s2, kx_sl, kx_pre, kx_c2, kx_pl, kx_cmp, kx_oF, kx_eqN, kx_nil, kx_c1, kx_ft, kx_aI, kx_aL, kx_aR, kx_ln, Nat.reduceAdd, Option.toList, List.cons_append, List.nil_append, cf1_5]
    repeat (simp only [cW_c, cW_w H, cW_t H, cW_q H, cW_f H, cW_s H, cW_65 H, cW_66 H, cW_1 H, cW_k H, cW_pc, cW_pk H, pk_us, pk_un, ne_eq, Nat.reduceEqDiff, not_false_eq_true, ks_eq, ks_ss]; try dsimp only [kx_wp, kx_step, kx_lI, kx_lL, kx_lA, kx_gl, kx_pI, kx_pL, kx_pR, kx_pA, kx_pV, kx_s1, kx_s2, kx_sl, kx_pre, kx_c2, kx_pl, kx_cmp, kx_oF, kx_eqN, kx_nil, kx_c1, kx_ft, kx_aI, kx_aL, kx_aR, kx_ln, Nat.reduceAdd, Option.toList, List.cons_append, List.nil_append, cf1_5])
    repeat' apply And.intro
    all_goals try (first | with_reducible assumption | (with_reducible refine ck_nzI ?_; simp; done) | (with_reducible refine ck_nzL ?_; simp; done) | (with_reducible refine vp_in_nI ?_ ?_ <;> first | omega | decide) | (with_reducible refine Nat.le_of_ble_eq_true ?_; rfl) | omega)
    refine hB bX1_monthBehind_24 _ _ _ _ _ _ _ kX1_monthBehind_24 ?_
    dsimp only [bX1_monthBehind_24, kx_wp, kx_step, kx_lI, kx_lL, kx_lA, kx_gl, kx_pI, kx_pL, kx_pR, kx_pA, kx_pV, kx_s1, kx_s2, kx_sl, kx_pre, kx_c2, kx_pl, kx_cmp, kx_oF, kx_eqN, kx_nil, kx_c1, kx_ft, kx_aI, kx_aL, kx_aR, kx_ln, Nat.reduceAdd, Option.toList, List.cons_append, List.nil_append, cf1_5]
    repeat (simp only [cW_c, cW_w H, cW_t H, cW_q H, cW_f H, cW_s H, cW_65 H, cW_66 H, cW_1 H, cW_k H, cW_pc, cW_pk H, pk_us, pk_un, ne_eq, Nat.reduceEqDiff, not_false_eq_true, ks_eq, ks_ss]; try dsimp only [kx_wp, kx_step, kx_lI, kx_lL, kx_lA, kx_gl, kx_pI, kx_pL, kx_pR, kx_pA, kx_pV, kx_s1, kx_s2, kx_sl, kx_pre, kx_c2, kx_pl, kx_cmp, kx_oF, kx_eqN, kx_nil, kx_c1, kx_ft, kx_aI, kx_aL, kx_aR, kx_ln, Nat.reduceAdd, Option.toList, List.cons_append, List.nil_append, cf1_5])
    all_goals (repeat' apply And.intro)
    all_goals ((try clear hB hC); first | exact True.intro | with_reducible rfl | with_reducible assumption | (with_reducible refine vp_in_nI ?_ ?_ <;> first | omega | decide) | exact Nat.le_of_ble_eq_true rfl | (with_reducible refine ck_nzI ?_; simp; done) | (with_reducible refine ck_nzL ?_; simp; done) | (simp only [pk_us, pk_uLs, cx_mb, eq_true ze5, ↓reduceIte, not_true_eq_false, not_false_eq_true]; done) | (simp only [cx_mb, eq_true ze5, ↓reduceIte, not_true_eq_false, not_false_eq_true]; with_reducible rfl) | omega | skip)
  · intro zc5
    have ze5 := zc5
    refine hB bX1_monthBehind_8 _ _ _ _ _ _ _ kX1_monthBehind_8 ?_
    dsimp only [bX1_monthBehind_8, kx_wp, kx_step, kx_lI, kx_lL, kx_lA, kx_gl, kx_pI, kx_pL, kx_pR, kx_pA, kx_pV, kx_s1, kx_s2, kx_sl, kx_pre, kx_c2, kx_pl, kx_cmp, kx_oF, kx_eqN, kx_nil, kx_c1, kx_ft, kx_aI, kx_aL, kx_aR, kx_ln, Nat.reduceAdd, Option.toList, List.cons_append, List.nil_append, cf1_5]
    repeat (simp only [cW_c, cW_w H, cW_t H, cW_q H, cW_f H, cW_s H, cW_65 H, cW_66 H, cW_1 H, cW_k H, cW_pc, cW_pk H, pk_us, pk_un, ne_eq, Nat.reduceEqDiff, not_false_eq_true, ks_eq, ks_ss]; try dsimp only [kx_wp, kx_step, kx_lI, kx_lL, kx_lA, kx_gl, kx_pI, kx_pL, kx_pR, kx_pA, kx_pV, kx_s1, kx_s2, kx_sl, kx_pre, kx_c2, kx_pl, kx_cmp, kx_oF, kx_eqN, kx_nil, kx_c1, kx_ft, kx_aI, kx_aL, kx_aR, kx_ln, Nat.reduceAdd, Option.toList, List.cons_append, List.nil_append, cf1_5])
    repeat' apply And.intro
    all_goals try (first | with_reducible assumption | (with_reducible refine ck_nzI ?_; simp; done) | (with_reducible refine ck_nzL ?_; simp; done) | (with_reducible refine vp_in_nI ?_ ?_ <;> first | omega | decide) | (with_reducible refine Nat.le_of_ble_eq_true ?_; rfl) | omega)
    refine hB bX1_monthBehind_24 _ _ _ _ _ _ _ kX1_monthBehind_24 ?_
    dsimp only [bX1_monthBehind_24, kx_wp, kx_step, kx_lI, kx_lL, kx_lA, kx_gl, kx_pI, kx_pL, kx_pR, kx_pA, kx_pV, kx_s1, kx_s2, kx_sl, kx_pre, kx_c2, kx_pl, kx_cmp, kx_oF, kx_eqN, kx_nil, kx_c1, kx_ft, kx_aI, kx_aL, kx_aR, kx_ln, Nat.reduceAdd, Option.toList, List.cons_append, List.nil_append, cf1_5]
    repeat (simp only [cW_c, cW_w H, cW_t H, cW_q H, cW_f H, cW_s H, cW_65 H, cW_66 H, cW_1 H, cW_k H, cW_pc, cW_pk H, pk_us, pk_un, ne_eq, Nat.reduceEqDiff, not_false_eq_true, ks_eq, ks_ss]; try dsimp only [kx_wp, kx_step, kx_lI, kx_lL, kx_lA, kx_gl, kx_pI, kx_pL, kx_pR, kx_pA, kx_pV, kx_s1, kx_s2, kx_sl, kx_pre, kx_c2, kx_pl, kx_cmp, kx_oF, kx_eqN, kx_nil, kx_c1, kx_ft, kx_aI, kx_aL, kx_aR, kx_ln, Nat.reduceAdd, Option.toList, List.cons_append, List.nil_append, cf1_5])
    all_goals (repeat' apply And.intro)
    all_goals ((try clear hB hC); first | exact True.intro | with_reducible rfl | with_reducible assumption | (with_reducible refine vp_in_nI ?_ ?_ <;> first | omega | decide) | exact Nat.le_of_ble_eq_true rfl | (with_reducible refine ck_nzI ?_; simp; done) | (with_reducible refine ck_nzL ?_; simp; done) | (simp only [pk_us, pk_uLs, cx_mb, ze5, ↓reduceIte, not_true_eq_false, not_false_eq_true]; done) | (simp only [cx_mb, ze5, ↓reduceIte, not_true_eq_false, not_false_eq_true]; with_reducible rfl) | omega | skip)

def bX1_turnDate_0 : List kx_O := [(.aload_n 0, 0, 0, 0, .null), (.iload_n 1, 1, 0, 0, .null)]
theorem kX1_turnDate_0 : kx_oks kxL_X1 false cX1_turnDate 0 bX1_turnDate_0 = true := by decide +kernel
def bX1_turnDate_5 : List kx_O := [(.istore_n 2, 2, 0, 0, .null), (.aload_n 0, 0, 0, 0, .null), (.aload_n 0, 0, 0, 0, .null), (.iload_n 1, 1, 0, 0, .null)]
theorem kX1_turnDate_5 : kx_oks kxL_X1 false cX1_turnDate 5 bX1_turnDate_5 = true := by decide +kernel
def bX1_turnDate_12 : List kx_O := [(.putfield 19, 1, 4, 0, .null), (.aload_n 0, 0, 0, 0, .null), (.iload_n 2, 2, 0, 0, .null), (.putfield 23, 1, 5, 0, .null), (.return_, 0, 0, 0, .null)]
theorem kX1_turnDate_12 : kx_oks kxL_X1 false cX1_turnDate 12 bX1_turnDate_12 = true := by decide +kernel
theorem dX1_turnDate_2 : decode cX1_turnDate 2 = .ok (.invokevirtual 167, 3) := by decide +kernel
theorem dX1_turnDate_9 : decode cX1_turnDate 9 = .ok (.invokevirtual 171, 3) := by decide +kernel
set_option maxRecDepth 100000 in
set_option maxHeartbeats 4000000 in
theorem ct_X1_turnDate (l : Launch) (G : kx_G) {P : kx_P} {sz : Nat} {c w : Nat} {V T Q Fo St Al Wm S C : Nat → Int32} {d : Int64} {h : Value} (H : cx_R P c w V T Q Fo St Al Wm) {lp : Int32}  : kx_M l G sX1_turnDate 5 0 0 [.ref c, .int (lp)] (cW P c w S d h C) sz none (cW P c w S d h (cx_td V C lp)) sz := by
  have c64 := H.c64
  refine kx_mk kx_tab kxLok_X1 (ini := false) [some (.ref c), some (.int (lp)), none] ⟨by decide, rfl, by decide, by decide⟩ (rfl) rfl rfl (fun g hB hC => ?_)
  refine hB bX1_turnDate_0 _ _ _ _ _ _ _ kX1_turnDate_0 ?_
  dsimp only [bX1_turnDate_0, kx_wp, kx_step, kx_lI, kx_lL, kx_lA, kx_gl, kx_pI, kx_pL, kx_pR, kx_pA, kx_pV, kx_s1, kx_s2, kx_sl, kx_pre, kx_c2, kx_pl, kx_cmp, kx_oF, kx_eqN, kx_nil, kx_c1, kx_ft, kx_aI, kx_aL, kx_aR, kx_ln, Nat.reduceAdd, Option.toList, List.cons_append, List.nil_append, cf1_4, cf1_5]
  repeat (simp only [cW_c, cW_w H, cW_t H, cW_q H, cW_f H, cW_s H, cW_65 H, cW_66 H, cW_1 H, cW_k H, cW_pc, cW_pk H, pk_us, pk_un, ne_eq, Nat.reduceEqDiff, not_false_eq_true, cp1_4, cp1_5, ks_eq, ks_ss]; try dsimp only [kx_wp, kx_step, kx_lI, kx_lL, kx_lA, kx_gl, kx_pI, kx_pL, kx_pR, kx_pA, kx_pV, kx_s1, kx_s2, kx_sl, kx_pre, kx_c2, kx_pl, kx_cmp, kx_oF, kx_eqN, kx_nil, kx_c1, kx_ft, kx_aI, kx_aL, kx_aR, kx_ln, Nat.reduceAdd, Option.toList, List.cons_append, List.nil_append, cf1_4, cf1_5])
  repeat' apply And.intro
  all_goals try (first | with_reducible assumption | (with_reducible refine ck_nzI ?_; simp; done) | (with_reducible refine ck_nzL ?_; simp; done) | (with_reducible refine vp_in_nI ?_ ?_ <;> first | omega | decide) | (with_reducible refine Nat.le_of_ble_eq_true ?_; rfl) | omega)
  refine hC.1 167 _ _ _ _ _ _ _ 1 _ _ _ _ _ _ _ _ _ _ _ _ lX1_167 (ct_X1_monthBehind l G H) ⟨by decide, rfl⟩ (by first | exact cW_c | exact cW_w H | exact cW_f H | exact cW_65 H) rfl rfl (Nat.le_of_ble_eq_true rfl) (by decide) (by decide) (by omega) (by omega) dX1_turnDate_2 ?_
  refine hB bX1_turnDate_5 _ _ _ _ _ _ _ kX1_turnDate_5 ?_
  dsimp only [bX1_turnDate_5, kx_wp, kx_step, kx_lI, kx_lL, kx_lA, kx_gl, kx_pI, kx_pL, kx_pR, kx_pA, kx_pV, kx_s1, kx_s2, kx_sl, kx_pre, kx_c2, kx_pl, kx_cmp, kx_oF, kx_eqN, kx_nil, kx_c1, kx_ft, kx_aI, kx_aL, kx_aR, kx_ln, Nat.reduceAdd, Option.toList, List.cons_append, List.nil_append, cf1_4, cf1_5]
  repeat (simp only [cW_c, cW_w H, cW_t H, cW_q H, cW_f H, cW_s H, cW_65 H, cW_66 H, cW_1 H, cW_k H, cW_pc, cW_pk H, pk_us, pk_un, ne_eq, Nat.reduceEqDiff, not_false_eq_true, cp1_4, cp1_5, ks_eq, ks_ss]; try dsimp only [kx_wp, kx_step, kx_lI, kx_lL, kx_lA, kx_gl, kx_pI, kx_pL, kx_pR, kx_pA, kx_pV, kx_s1, kx_s2, kx_sl, kx_pre, kx_c2, kx_pl, kx_cmp, kx_oF, kx_eqN, kx_nil, kx_c1, kx_ft, kx_aI, kx_aL, kx_aR, kx_ln, Nat.reduceAdd, Option.toList, List.cons_append, List.nil_append, cf1_4, cf1_5])
  repeat' apply And.intro
  all_goals try (first | with_reducible assumption | (with_reducible refine ck_nzI ?_; simp; done) | (with_reducible refine ck_nzL ?_; simp; done) | (with_reducible refine vp_in_nI ?_ ?_ <;> first | omega | decide) | (with_reducible refine Nat.le_of_ble_eq_true ?_; rfl) | omega)
  refine hC.1 171 _ _ _ _ _ _ _ 1 _ _ _ _ _ _ _ _ _ _ _ _ lX1_171 (ct_X1_dateBehind l G H) ⟨by decide, rfl⟩ (by first | exact cW_c | exact cW_w H | exact cW_f H | exact cW_65 H) rfl rfl (Nat.le_of_ble_eq_true rfl) (by decide) (by decide) (by omega) (by omega) dX1_turnDate_9 ?_
  refine hB bX1_turnDate_12 _ _ _ _ _ _ _ kX1_turnDate_12 ?_
  dsimp only [bX1_turnDate_12, kx_wp, kx_step, kx_lI, kx_lL, kx_lA, kx_gl, kx_pI, kx_pL, kx_pR, kx_pA, kx_pV, kx_s1, kx_s2, kx_sl, kx_pre, kx_c2, kx_pl, kx_cmp, kx_oF, kx_eqN, kx_nil, kx_c1, kx_ft, kx_aI, kx_aL, kx_aR, kx_ln, Nat.reduceAdd, Option.toList, List.cons_append, List.nil_append, cf1_4, cf1_5]
  repeat (simp only [cW_c, cW_w H, cW_t H, cW_q H, cW_f H, cW_s H, cW_65 H, cW_66 H, cW_1 H, cW_k H, cW_pc, cW_pk H, pk_us, pk_un, ne_eq, Nat.reduceEqDiff, not_false_eq_true, cp1_4, cp1_5, ks_eq, ks_ss]; try dsimp only [kx_wp, kx_step, kx_lI, kx_lL, kx_lA, kx_gl, kx_pI, kx_pL, kx_pR, kx_pA, kx_pV, kx_s1, kx_s2, kx_sl, kx_pre, kx_c2, kx_pl, kx_cmp, kx_oF, kx_eqN, kx_nil, kx_c1, kx_ft, kx_aI, kx_aL, kx_aR, kx_ln, Nat.reduceAdd, Option.toList, List.cons_append, List.nil_append, cf1_4, cf1_5])
  all_goals (repeat' apply And.intro)
  all_goals ((try clear hB hC); first | exact True.intro | with_reducible rfl | with_reducible assumption | (with_reducible refine vp_in_nI ?_ ?_ <;> first | omega | decide) | exact Nat.le_of_ble_eq_true rfl | (with_reducible refine ck_nzI ?_; simp; done) | (with_reducible refine ck_nzL ?_; simp; done) | (simp only [pk_us, pk_uLs, cx_td, ↓reduceIte, not_true_eq_false, not_false_eq_true]; done) | (simp only [cx_td, ↓reduceIte, not_true_eq_false, not_false_eq_true]; with_reducible rfl) | omega | skip)

def bX1_hasTrueDate_0 : List kx_O := [(.aload_n 0, 0, 0, 0, .null), (.getfield 19, 1, 4, 0, .null), (.aload_n 1, 1, 0, 0, .null)]
theorem kX1_hasTrueDate_0 : kx_oks kxL_X1 false cX1_hasTrueDate 0 bX1_hasTrueDate_0 = true := by decide +kernel
def bX1_hasTrueDate_8 : List kx_O := [(.if_icmp .ne 18, 26, 0, 0, .null)]
theorem kX1_hasTrueDate_8 : kx_oks kxL_X1 false cX1_hasTrueDate 8 bX1_hasTrueDate_8 = true := by decide +kernel
def bX1_hasTrueDate_11 : List kx_O := [(.aload_n 0, 0, 0, 0, .null), (.getfield 23, 1, 5, 0, .null), (.aload_n 1, 1, 0, 0, .null)]
theorem kX1_hasTrueDate_11 : kx_oks kxL_X1 false cX1_hasTrueDate 11 bX1_hasTrueDate_11 = true := by decide +kernel
def bX1_hasTrueDate_19 : List kx_O := [(.if_icmp .ne 7, 26, 0, 0, .null)]
theorem kX1_hasTrueDate_19 : kx_oks kxL_X1 false cX1_hasTrueDate 19 bX1_hasTrueDate_19 = true := by decide +kernel
def bX1_hasTrueDate_22 : List kx_O := [(.iconst 1, 0, 0, 0, .int 1), (.goto 4, 27, 0, 0, .null)]
theorem kX1_hasTrueDate_22 : kx_oks kxL_X1 false cX1_hasTrueDate 22 bX1_hasTrueDate_22 = true := by decide +kernel
def bX1_hasTrueDate_26 : List kx_O := [(.iconst 0, 0, 0, 0, .int 0)]
theorem kX1_hasTrueDate_26 : kx_oks kxL_X1 false cX1_hasTrueDate 26 bX1_hasTrueDate_26 = true := by decide +kernel
def bX1_hasTrueDate_27 : List kx_O := [(.ireturn, 0, 0, 0, .null)]
theorem kX1_hasTrueDate_27 : kx_oks kxL_X1 false cX1_hasTrueDate 27 bX1_hasTrueDate_27 = true := by decide +kernel
theorem dX1_hasTrueDate_5 : decode cX1_hasTrueDate 5 = .ok (.invokevirtual 174, 3) := by decide +kernel
theorem dX1_hasTrueDate_16 : decode cX1_hasTrueDate 16 = .ok (.invokevirtual 177, 3) := by decide +kernel
set_option maxRecDepth 100000 in
set_option maxHeartbeats 4000000 in
theorem ct_X1_hasTrueDate (l : Launch) (G : kx_G) {P : kx_P} {sz : Nat} {c w : Nat} {V T Q Fo St Al Wm S C : Nat → Int32} {d : Int64} {h : Value} (H : cx_R P c w V T Q Fo St Al Wm) {dd : Nat} (h1 : Al 0 = nI dd) (hd : dd ≤ 100000)  : kx_M l G sX1_hasTrueDate 4 0 0 [.ref c, .ref 65] (cW P c w S d h C) sz (some (.int (if C 4 = nI (ck_da (dd / 1440) (ck_feb (Al 1))) then (if C 5 = nI (ck_mo (dd / 1440) (ck_feb (Al 1))) then 1 else 0) else 0))) (cW P c w S d h C) sz := by
  refine kx_mk kx_tab kxLok_X1 (ini := false) [some (.ref c), some (.ref 65)] ⟨by decide, rfl, by decide, by decide⟩ (by split <;> (try split) <;> first | exact Or.inl rfl | exact Or.inr rfl) rfl rfl (fun g hB hC => ?_)
  refine hB bX1_hasTrueDate_0 _ _ _ _ _ _ _ kX1_hasTrueDate_0 ?_
  dsimp only [bX1_hasTrueDate_0, kx_wp, kx_step, kx_lI, kx_lL, kx_lA, kx_gl, kx_pI, kx_pL, kx_pR, kx_pA, kx_pV, kx_s1, kx_s2, kx_sl, kx_pre, kx_c2, kx_pl, kx_cmp, kx_oF, kx_eqN, kx_nil, kx_c1, kx_ft, kx_aI, kx_aL, kx_aR, kx_ln, Nat.reduceAdd, Option.toList, List.cons_append, List.nil_append, cf1_4, cf1_5]
  repeat (simp only [cW_c, cW_w H, cW_t H, cW_q H, cW_f H, cW_s H, cW_65 H, cW_66 H, cW_1 H, cW_k H, cW_pc, cW_pk H, pk_us, pk_un, ne_eq, Nat.reduceEqDiff, not_false_eq_true, ks_eq, ks_ss]; try dsimp only [kx_wp, kx_step, kx_lI, kx_lL, kx_lA, kx_gl, kx_pI, kx_pL, kx_pR, kx_pA, kx_pV, kx_s1, kx_s2, kx_sl, kx_pre, kx_c2, kx_pl, kx_cmp, kx_oF, kx_eqN, kx_nil, kx_c1, kx_ft, kx_aI, kx_aL, kx_aR, kx_ln, Nat.reduceAdd, Option.toList, List.cons_append, List.nil_append, cf1_4, cf1_5])
  repeat' apply And.intro
  all_goals try (first | with_reducible assumption | (with_reducible refine ck_nzI ?_; simp; done) | (with_reducible refine ck_nzL ?_; simp; done) | (with_reducible refine vp_in_nI ?_ ?_ <;> first | omega | decide) | (with_reducible refine Nat.le_of_ble_eq_true ?_; rfl) | omega)
  refine hC.1 174 _ _ _ _ _ _ _ 0 _ _ _ _ _ _ _ _ _ _ _ _ lX1_174 (ct_X0_trueDate l G (cW_65 H) (cW_1 H) h1 hd) ⟨by decide, rfl⟩ (by first | exact cW_c | exact cW_w H | exact cW_f H | exact cW_65 H) rfl rfl (Nat.le_of_ble_eq_true rfl) (by decide) (by decide) (by omega) (by omega) dX1_hasTrueDate_5 ?_
  refine hB bX1_hasTrueDate_8 _ _ _ _ _ _ _ kX1_hasTrueDate_8 ?_
  dsimp only [bX1_hasTrueDate_8, kx_wp, kx_step, kx_lI, kx_lL, kx_lA, kx_gl, kx_pI, kx_pL, kx_pR, kx_pA, kx_pV, kx_s1, kx_s2, kx_sl, kx_pre, kx_c2, kx_pl, kx_cmp, kx_oF, kx_eqN, kx_nil, kx_c1, kx_ft, kx_aI, kx_aL, kx_aR, kx_ln, Nat.reduceAdd, Option.toList, List.cons_append, List.nil_append, cf1_4, cf1_5]
  repeat (simp only [cW_c, cW_w H, cW_t H, cW_q H, cW_f H, cW_s H, cW_65 H, cW_66 H, cW_1 H, cW_k H, cW_pc, cW_pk H, pk_us, pk_un, ne_eq, Nat.reduceEqDiff, not_false_eq_true, ks_eq, ks_ss]; try dsimp only [kx_wp, kx_step, kx_lI, kx_lL, kx_lA, kx_gl, kx_pI, kx_pL, kx_pR, kx_pA, kx_pV, kx_s1, kx_s2, kx_sl, kx_pre, kx_c2, kx_pl, kx_cmp, kx_oF, kx_eqN, kx_nil, kx_c1, kx_ft, kx_aI, kx_aL, kx_aR, kx_ln, Nat.reduceAdd, Option.toList, List.cons_append, List.nil_append, cf1_4, cf1_5])
  repeat' apply And.intro
  all_goals try (first | with_reducible assumption | (with_reducible refine ck_nzI ?_; simp; done) | (with_reducible refine ck_nzL ?_; simp; done) | (with_reducible refine vp_in_nI ?_ ?_ <;> first | omega | decide) | (with_reducible refine Nat.le_of_ble_eq_true ?_; rfl) | omega)
  · intro zc8
    have ze8 := zc8
    refine hB bX1_hasTrueDate_26 _ _ _ _ _ _ _ kX1_hasTrueDate_26 ?_
    dsimp only [bX1_hasTrueDate_26, kx_wp, kx_step, kx_lI, kx_lL, kx_lA, kx_gl, kx_pI, kx_pL, kx_pR, kx_pA, kx_pV, kx_s1, kx_s2, kx_sl, kx_pre, kx_c2, kx_pl, kx_cmp, kx_oF, kx_eqN, kx_nil, kx_c1, kx_ft, kx_aI, kx_aL, kx_aR, kx_ln, Nat.reduceAdd, Option.toList, List.cons_append, List.nil_append, cf1_4, cf1_5]
    repeat (simp only [cW_c, cW_w H, cW_t H, cW_q H, cW_f H, cW_s H, cW_65 H, cW_66 H, cW_1 H, cW_k H, cW_pc, cW_pk H, pk_us, pk_un, ne_eq, Nat.reduceEqDiff, not_false_eq_true, ks_eq, ks_ss]; try dsimp only [kx_wp, kx_step, kx_lI, kx_lL, kx_lA, kx_gl, kx_pI, kx_pL, kx_pR, kx_pA, kx_pV, kx_s1, kx_s2, kx_sl, kx_pre, kx_c2, kx_pl, kx_cmp, kx_oF, kx_eqN, kx_nil, kx_c1, kx_ft, kx_aI, kx_aL, kx_aR, kx_ln, Nat.reduceAdd, Option.toList, List.cons_append, List.nil_append, cf1_4, cf1_5])
    repeat' apply And.intro
    all_goals try (first | with_reducible assumption | (with_reducible refine ck_nzI ?_; simp; done) | (with_reducible refine ck_nzL ?_; simp; done) | (with_reducible refine vp_in_nI ?_ ?_ <;> first | omega | decide) | (with_reducible refine Nat.le_of_ble_eq_true ?_; rfl) | omega)
    refine hB bX1_hasTrueDate_27 _ _ _ _ _ _ _ kX1_hasTrueDate_27 ?_
    dsimp only [bX1_hasTrueDate_27, kx_wp, kx_step, kx_lI, kx_lL, kx_lA, kx_gl, kx_pI, kx_pL, kx_pR, kx_pA, kx_pV, kx_s1, kx_s2, kx_sl, kx_pre, kx_c2, kx_pl, kx_cmp, kx_oF, kx_eqN, kx_nil, kx_c1, kx_ft, kx_aI, kx_aL, kx_aR, kx_ln, Nat.reduceAdd, Option.toList, List.cons_append, List.nil_append, cf1_4, cf1_5]
    repeat (simp only [cW_c, cW_w H, cW_t H, cW_q H, cW_f H, cW_s H, cW_65 H, cW_66 H, cW_1 H, cW_k H, cW_pc, cW_pk H, pk_us, pk_un, ne_eq, Nat.reduceEqDiff, not_false_eq_true, ks_eq, ks_ss]; try dsimp only [kx_wp, kx_step, kx_lI, kx_lL, kx_lA, kx_gl, kx_pI, kx_pL, kx_pR, kx_pA, kx_pV, kx_s1, kx_s2, kx_sl, kx_pre, kx_c2, kx_pl, kx_cmp, kx_oF, kx_eqN, kx_nil, kx_c1, kx_ft, kx_aI, kx_aL, kx_aR, kx_ln, Nat.reduceAdd, Option.toList, List.cons_append, List.nil_append, cf1_4, cf1_5])
    all_goals (repeat' apply And.intro)
    all_goals ((try clear hB hC); first | exact True.intro | with_reducible rfl | with_reducible assumption | (with_reducible refine vp_in_nI ?_ ?_ <;> first | omega | decide) | exact Nat.le_of_ble_eq_true rfl | (with_reducible refine ck_nzI ?_; simp; done) | (with_reducible refine ck_nzL ?_; simp; done) | (simp only [pk_us, pk_uLs, ze8, ↓reduceIte, not_true_eq_false, not_false_eq_true]; done) | (simp only [ze8, ↓reduceIte, not_true_eq_false, not_false_eq_true]; with_reducible rfl) | omega | skip)
  · intro zc8
    with_reducible first | have ze8 := Decidable.not_not.mp zc8 | have ze8 := zc8
    refine hB bX1_hasTrueDate_11 _ _ _ _ _ _ _ kX1_hasTrueDate_11 ?_
    dsimp only [bX1_hasTrueDate_11, kx_wp, kx_step, kx_lI, kx_lL, kx_lA, kx_gl, kx_pI, kx_pL, kx_pR, kx_pA, kx_pV, kx_s1, kx_s2, kx_sl, kx_pre, kx_c2, kx_pl, kx_cmp, kx_oF, kx_eqN, kx_nil, kx_c1, kx_ft, kx_aI, kx_aL, kx_aR, kx_ln, Nat.reduceAdd, Option.toList, List.cons_append, List.nil_append, cf1_4, cf1_5]
    repeat (simp only [cW_c, cW_w H, cW_t H, cW_q H, cW_f H, cW_s H, cW_65 H, cW_66 H, cW_1 H, cW_k H, cW_pc, cW_pk H, pk_us, pk_un, ne_eq, Nat.reduceEqDiff, not_false_eq_true, ks_eq, ks_ss]; try dsimp only [kx_wp, kx_step, kx_lI, kx_lL, kx_lA, kx_gl, kx_pI, kx_pL, kx_pR, kx_pA, kx_pV, kx_s1, kx_s2, kx_sl, kx_pre, kx_c2, kx_pl, kx_cmp, kx_oF, kx_eqN, kx_nil, kx_c1, kx_ft, kx_aI, kx_aL, kx_aR, kx_ln, Nat.reduceAdd, Option.toList, List.cons_append, List.nil_append, cf1_4, cf1_5])
    repeat' apply And.intro
    all_goals try (first | with_reducible assumption | (with_reducible refine ck_nzI ?_; simp; done) | (with_reducible refine ck_nzL ?_; simp; done) | (with_reducible refine vp_in_nI ?_ ?_ <;> first | omega | decide) | (with_reducible refine Nat.le_of_ble_eq_true ?_; rfl) | omega)
    refine hC.1 177 _ _ _ _ _ _ _ 0 _ _ _ _ _ _ _ _ _ _ _ _ lX1_177 (ct_X0_trueMonth l G (cW_65 H) (cW_1 H) h1 hd) ⟨by decide, rfl⟩ (by first | exact cW_c | exact cW_w H | exact cW_f H | exact cW_65 H) rfl rfl (Nat.le_of_ble_eq_true rfl) (by decide) (by decide) (by omega) (by omega) dX1_hasTrueDate_16 ?_
    refine hB bX1_hasTrueDate_19 _ _ _ _ _ _ _ kX1_hasTrueDate_19 ?_
    dsimp only [bX1_hasTrueDate_19, kx_wp, kx_step, kx_lI, kx_lL, kx_lA, kx_gl, kx_pI, kx_pL, kx_pR, kx_pA, kx_pV, kx_s1, kx_s2, kx_sl, kx_pre, kx_c2, kx_pl, kx_cmp, kx_oF, kx_eqN, kx_nil, kx_c1, kx_ft, kx_aI, kx_aL, kx_aR, kx_ln, Nat.reduceAdd, Option.toList, List.cons_append, List.nil_append, cf1_4, cf1_5]
    repeat (simp only [cW_c, cW_w H, cW_t H, cW_q H, cW_f H, cW_s H, cW_65 H, cW_66 H, cW_1 H, cW_k H, cW_pc, cW_pk H, pk_us, pk_un, ne_eq, Nat.reduceEqDiff, not_false_eq_true, ks_eq, ks_ss]; try dsimp only [kx_wp, kx_step, kx_lI, kx_lL, kx_lA, kx_gl, kx_pI, kx_pL, kx_pR, kx_pA, kx_pV, kx_s1, kx_s2, kx_sl, kx_pre, kx_c2, kx_pl, kx_cmp, kx_oF, kx_eqN, kx_nil, kx_c1, kx_ft, kx_aI, kx_aL, kx_aR, kx_ln, Nat.reduceAdd, Option.toList, List.cons_append, List.nil_append, cf1_4, cf1_5])
    repeat' apply And.intro
    all_goals try (first | with_reducible assumption | (with_reducible refine ck_nzI ?_; simp; done) | (with_reducible refine ck_nzL ?_; simp; done) | (with_reducible refine vp_in_nI ?_ ?_ <;> first | omega | decide) | (with_reducible refine Nat.le_of_ble_eq_true ?_; rfl) | omega)
    · intro zc19
      have ze19 := zc19
      refine hB bX1_hasTrueDate_26 _ _ _ _ _ _ _ kX1_hasTrueDate_26 ?_
      dsimp only [bX1_hasTrueDate_26, kx_wp, kx_step, kx_lI, kx_lL, kx_lA, kx_gl, kx_pI, kx_pL, kx_pR, kx_pA, kx_pV, kx_s1, kx_s2, kx_sl, kx_pre, kx_c2, kx_pl, kx_cmp, kx_oF, kx_eqN, kx_nil, kx_c1, kx_ft, kx_aI, kx_aL, kx_aR, kx_ln, Nat.reduceAdd, Option.toList, List.cons_append, List.nil_append, cf1_4, cf1_5]
      repeat (simp only [cW_c, cW_w H, cW_t H, cW_q H, cW_f H, cW_s H, cW_65 H, cW_66 H, cW_1 H, cW_k H, cW_pc, cW_pk H, pk_us, pk_un, ne_eq, Nat.reduceEqDiff, not_false_eq_true, ks_eq, ks_ss]; try dsimp only [kx_wp, kx_step, kx_lI, kx_lL, kx_lA, kx_gl, kx_pI, kx_pL, kx_pR, kx_pA, kx_pV, kx_s1, kx_s2, kx_sl, kx_pre, kx_c2, kx_pl, kx_cmp, kx_oF, kx_eqN, kx_nil, kx_c1, kx_ft, kx_aI, kx_aL, kx_aR, kx_ln, Nat.reduceAdd, Option.toList, List.cons_append, List.nil_append, cf1_4, cf1_5])
      repeat' apply And.intro
      all_goals try (first | with_reducible assumption | (with_reducible refine ck_nzI ?_; simp; done) | (with_reducible refine ck_nzL ?_; simp; done) | (with_reducible refine vp_in_nI ?_ ?_ <;> first | omega | decide) | (with_reducible refine Nat.le_of_ble_eq_true ?_; rfl) | omega)
      refine hB bX1_hasTrueDate_27 _ _ _ _ _ _ _ kX1_hasTrueDate_27 ?_
      dsimp only [bX1_hasTrueDate_27, kx_wp, kx_step, kx_lI, kx_lL, kx_lA, kx_gl, kx_pI, kx_pL, kx_pR, kx_pA, kx_pV, kx_s1, kx_s2, kx_sl, kx_pre, kx_c2, kx_pl, kx_cmp, kx_oF, kx_eqN, kx_nil, kx_c1, kx_ft, kx_aI, kx_aL, kx_aR, kx_ln, Nat.reduceAdd, Option.toList, List.cons_append, List.nil_append, cf1_4, cf1_5]
      repeat (simp only [cW_c, cW_w H, cW_t H, cW_q H, cW_f H, cW_s H, cW_65 H, cW_66 H, cW_1 H, cW_k H, cW_pc, cW_pk H, pk_us, pk_un, ne_eq, Nat.reduceEqDiff, not_false_eq_true, ks_eq, ks_ss]; try dsimp only [kx_wp, kx_step, kx_lI, kx_lL, kx_lA, kx_gl, kx_pI, kx_pL, kx_pR, kx_pA, kx_pV, kx_s1, kx_s2, kx_sl, kx_pre, kx_c2, kx_pl, kx_cmp, kx_oF, kx_eqN, kx_nil, kx_c1, kx_ft, kx_aI, kx_aL, kx_aR, kx_ln, Nat.reduceAdd, Option.toList, List.cons_append, List.nil_append, cf1_4, cf1_5])
      all_goals (repeat' apply And.intro)
      all_goals ((try clear hB hC); first | exact True.intro | with_reducible rfl | with_reducible assumption | (with_reducible refine vp_in_nI ?_ ?_ <;> first | omega | decide) | exact Nat.le_of_ble_eq_true rfl | (with_reducible refine ck_nzI ?_; simp; done) | (with_reducible refine ck_nzL ?_; simp; done) | (simp only [pk_us, pk_uLs, eq_true ze8, ze19, ↓reduceIte, not_true_eq_false, not_false_eq_true]; done) | (simp only [eq_true ze8, ze19, ↓reduceIte, not_true_eq_false, not_false_eq_true]; with_reducible rfl) | omega | skip)
    · intro zc19
      with_reducible first | have ze19 := Decidable.not_not.mp zc19 | have ze19 := zc19
      refine hB bX1_hasTrueDate_22 _ _ _ _ _ _ _ kX1_hasTrueDate_22 ?_
      dsimp only [bX1_hasTrueDate_22, kx_wp, kx_step, kx_lI, kx_lL, kx_lA, kx_gl, kx_pI, kx_pL, kx_pR, kx_pA, kx_pV, kx_s1, kx_s2, kx_sl, kx_pre, kx_c2, kx_pl, kx_cmp, kx_oF, kx_eqN, kx_nil, kx_c1, kx_ft, kx_aI, kx_aL, kx_aR, kx_ln, Nat.reduceAdd, Option.toList, List.cons_append, List.nil_append, cf1_4, cf1_5]
      repeat (simp only [cW_c, cW_w H, cW_t H, cW_q H, cW_f H, cW_s H, cW_65 H, cW_66 H, cW_1 H, cW_k H, cW_pc, cW_pk H, pk_us, pk_un, ne_eq, Nat.reduceEqDiff, not_false_eq_true, ks_eq, ks_ss]; try dsimp only [kx_wp, kx_step, kx_lI, kx_lL, kx_lA, kx_gl, kx_pI, kx_pL, kx_pR, kx_pA, kx_pV, kx_s1, kx_s2, kx_sl, kx_pre, kx_c2, kx_pl, kx_cmp, kx_oF, kx_eqN, kx_nil, kx_c1, kx_ft, kx_aI, kx_aL, kx_aR, kx_ln, Nat.reduceAdd, Option.toList, List.cons_append, List.nil_append, cf1_4, cf1_5])
      repeat' apply And.intro
      all_goals try (first | with_reducible assumption | (with_reducible refine ck_nzI ?_; simp; done) | (with_reducible refine ck_nzL ?_; simp; done) | (with_reducible refine vp_in_nI ?_ ?_ <;> first | omega | decide) | (with_reducible refine Nat.le_of_ble_eq_true ?_; rfl) | omega)
      refine hB bX1_hasTrueDate_27 _ _ _ _ _ _ _ kX1_hasTrueDate_27 ?_
      dsimp only [bX1_hasTrueDate_27, kx_wp, kx_step, kx_lI, kx_lL, kx_lA, kx_gl, kx_pI, kx_pL, kx_pR, kx_pA, kx_pV, kx_s1, kx_s2, kx_sl, kx_pre, kx_c2, kx_pl, kx_cmp, kx_oF, kx_eqN, kx_nil, kx_c1, kx_ft, kx_aI, kx_aL, kx_aR, kx_ln, Nat.reduceAdd, Option.toList, List.cons_append, List.nil_append, cf1_4, cf1_5]
      repeat (simp only [cW_c, cW_w H, cW_t H, cW_q H, cW_f H, cW_s H, cW_65 H, cW_66 H, cW_1 H, cW_k H, cW_pc, cW_pk H, pk_us, pk_un, ne_eq, Nat.reduceEqDiff, not_false_eq_true, ks_eq, ks_ss]; try dsimp only [kx_wp, kx_step, kx_lI, kx_lL, kx_lA, kx_gl, kx_pI, kx_pL, kx_pR, kx_pA, kx_pV, kx_s1, kx_s2, kx_sl, kx_pre, kx_c2, kx_pl, kx_cmp, kx_oF, kx_eqN, kx_nil, kx_c1, kx_ft, kx_aI, kx_aL, kx_aR, kx_ln, Nat.reduceAdd, Option.toList, List.cons_append, List.nil_append, cf1_4, cf1_5])
      all_goals (repeat' apply And.intro)
      all_goals ((try clear hB hC); first | exact True.intro | with_reducible rfl | with_reducible assumption | (with_reducible refine vp_in_nI ?_ ?_ <;> first | omega | decide) | exact Nat.le_of_ble_eq_true rfl | (with_reducible refine ck_nzI ?_; simp; done) | (with_reducible refine ck_nzL ?_; simp; done) | (simp only [pk_us, pk_uLs, eq_true ze8, eq_true ze19, ↓reduceIte, not_true_eq_false, not_false_eq_true]; done) | (simp only [eq_true ze8, eq_true ze19, ↓reduceIte, not_true_eq_false, not_false_eq_true]; with_reducible rfl) | omega | skip)

def bX1_takeTrueDate_0 : List kx_O := [(.aload_n 0, 0, 0, 0, .null), (.aload_n 1, 1, 0, 0, .null)]
theorem kX1_takeTrueDate_0 : kx_oks kxL_X1 false cX1_takeTrueDate 0 bX1_takeTrueDate_0 = true := by decide +kernel
def bX1_takeTrueDate_5 : List kx_O := [(.putfield 19, 1, 4, 0, .null), (.aload_n 0, 0, 0, 0, .null), (.aload_n 1, 1, 0, 0, .null)]
theorem kX1_takeTrueDate_5 : kx_oks kxL_X1 false cX1_takeTrueDate 5 bX1_takeTrueDate_5 = true := by decide +kernel
def bX1_takeTrueDate_13 : List kx_O := [(.putfield 23, 1, 5, 0, .null), (.return_, 0, 0, 0, .null)]
theorem kX1_takeTrueDate_13 : kx_oks kxL_X1 false cX1_takeTrueDate 13 bX1_takeTrueDate_13 = true := by decide +kernel
theorem dX1_takeTrueDate_2 : decode cX1_takeTrueDate 2 = .ok (.invokevirtual 174, 3) := by decide +kernel
theorem dX1_takeTrueDate_10 : decode cX1_takeTrueDate 10 = .ok (.invokevirtual 177, 3) := by decide +kernel
set_option maxRecDepth 100000 in
set_option maxHeartbeats 4000000 in
theorem ct_X1_takeTrueDate (l : Launch) (G : kx_G) {P : kx_P} {sz : Nat} {c w : Nat} {V T Q Fo St Al Wm S C : Nat → Int32} {d : Int64} {h : Value} (H : cx_R P c w V T Q Fo St Al Wm) {dd : Nat} (h1 : Al 0 = nI dd) (hd : dd ≤ 100000)  : kx_M l G sX1_takeTrueDate 4 0 0 [.ref c, .ref 65] (cW P c w S d h C) sz none (cW P c w S d h (upd (upd C 4 (nI (ck_da (dd / 1440) (ck_feb (Al 1))))) 5 (nI (ck_mo (dd / 1440) (ck_feb (Al 1)))))) sz := by
  have c64 := H.c64
  refine kx_mk kx_tab kxLok_X1 (ini := false) [some (.ref c), some (.ref 65)] ⟨by decide, rfl, by decide, by decide⟩ (rfl) rfl rfl (fun g hB hC => ?_)
  refine hB bX1_takeTrueDate_0 _ _ _ _ _ _ _ kX1_takeTrueDate_0 ?_
  dsimp only [bX1_takeTrueDate_0, kx_wp, kx_step, kx_lI, kx_lL, kx_lA, kx_gl, kx_pI, kx_pL, kx_pR, kx_pA, kx_pV, kx_s1, kx_s2, kx_sl, kx_pre, kx_c2, kx_pl, kx_cmp, kx_oF, kx_eqN, kx_nil, kx_c1, kx_ft, kx_aI, kx_aL, kx_aR, kx_ln, Nat.reduceAdd, Option.toList, List.cons_append, List.nil_append, cf1_4, cf1_5]
  repeat (simp only [cW_c, cW_w H, cW_t H, cW_q H, cW_f H, cW_s H, cW_65 H, cW_66 H, cW_1 H, cW_k H, cW_pc, cW_pk H, pk_us, pk_un, ne_eq, Nat.reduceEqDiff, not_false_eq_true, cp1_4, cp1_5, ks_eq, ks_ss]; try dsimp only [kx_wp, kx_step, kx_lI, kx_lL, kx_lA, kx_gl, kx_pI, kx_pL, kx_pR, kx_pA, kx_pV, kx_s1, kx_s2, kx_sl, kx_pre, kx_c2, kx_pl, kx_cmp, kx_oF, kx_eqN, kx_nil, kx_c1, kx_ft, kx_aI, kx_aL, kx_aR, kx_ln, Nat.reduceAdd, Option.toList, List.cons_append, List.nil_append, cf1_4, cf1_5])
  repeat' apply And.intro
  all_goals try (first | with_reducible assumption | (with_reducible refine ck_nzI ?_; simp; done) | (with_reducible refine ck_nzL ?_; simp; done) | (with_reducible refine vp_in_nI ?_ ?_ <;> first | omega | decide) | (with_reducible refine Nat.le_of_ble_eq_true ?_; rfl) | omega)
  refine hC.1 174 _ _ _ _ _ _ _ 0 _ _ _ _ _ _ _ _ _ _ _ _ lX1_174 (ct_X0_trueDate l G (cW_65 H) (cW_1 H) h1 hd) ⟨by decide, rfl⟩ (by first | exact cW_c | exact cW_w H | exact cW_f H | exact cW_65 H) rfl rfl (Nat.le_of_ble_eq_true rfl) (by decide) (by decide) (by omega) (by omega) dX1_takeTrueDate_2 ?_
  refine hB bX1_takeTrueDate_5 _ _ _ _ _ _ _ kX1_takeTrueDate_5 ?_
  dsimp only [bX1_takeTrueDate_5, kx_wp, kx_step, kx_lI, kx_lL, kx_lA, kx_gl, kx_pI, kx_pL, kx_pR, kx_pA, kx_pV, kx_s1, kx_s2, kx_sl, kx_pre, kx_c2, kx_pl, kx_cmp, kx_oF, kx_eqN, kx_nil, kx_c1, kx_ft, kx_aI, kx_aL, kx_aR, kx_ln, Nat.reduceAdd, Option.toList, List.cons_append, List.nil_append, cf1_4, cf1_5]
  repeat (simp only [cW_c, cW_w H, cW_t H, cW_q H, cW_f H, cW_s H, cW_65 H, cW_66 H, cW_1 H, cW_k H, cW_pc, cW_pk H, pk_us, pk_un, ne_eq, Nat.reduceEqDiff, not_false_eq_true, cp1_4, cp1_5, ks_eq, ks_ss]; try dsimp only [kx_wp, kx_step, kx_lI, kx_lL, kx_lA, kx_gl, kx_pI, kx_pL, kx_pR, kx_pA, kx_pV, kx_s1, kx_s2, kx_sl, kx_pre, kx_c2, kx_pl, kx_cmp, kx_oF, kx_eqN, kx_nil, kx_c1, kx_ft, kx_aI, kx_aL, kx_aR, kx_ln, Nat.reduceAdd, Option.toList, List.cons_append, List.nil_append, cf1_4, cf1_5])
  repeat' apply And.intro
  all_goals try (first | with_reducible assumption | (with_reducible refine ck_nzI ?_; simp; done) | (with_reducible refine ck_nzL ?_; simp; done) | (with_reducible refine vp_in_nI ?_ ?_ <;> first | omega | decide) | (with_reducible refine Nat.le_of_ble_eq_true ?_; rfl) | omega)
  refine hC.1 177 _ _ _ _ _ _ _ 0 _ _ _ _ _ _ _ _ _ _ _ _ lX1_177 (ct_X0_trueMonth l G (cW_65 H) (cW_1 H) h1 hd) ⟨by decide, rfl⟩ (by first | exact cW_c | exact cW_w H | exact cW_f H | exact cW_65 H) rfl rfl (Nat.le_of_ble_eq_true rfl) (by decide) (by decide) (by omega) (by omega) dX1_takeTrueDate_10 ?_
  refine hB bX1_takeTrueDate_13 _ _ _ _ _ _ _ kX1_takeTrueDate_13 ?_
  dsimp only [bX1_takeTrueDate_13, kx_wp, kx_step, kx_lI, kx_lL, kx_lA, kx_gl, kx_pI, kx_pL, kx_pR, kx_pA, kx_pV, kx_s1, kx_s2, kx_sl, kx_pre, kx_c2, kx_pl, kx_cmp, kx_oF, kx_eqN, kx_nil, kx_c1, kx_ft, kx_aI, kx_aL, kx_aR, kx_ln, Nat.reduceAdd, Option.toList, List.cons_append, List.nil_append, cf1_4, cf1_5]
  repeat (simp only [cW_c, cW_w H, cW_t H, cW_q H, cW_f H, cW_s H, cW_65 H, cW_66 H, cW_1 H, cW_k H, cW_pc, cW_pk H, pk_us, pk_un, ne_eq, Nat.reduceEqDiff, not_false_eq_true, cp1_4, cp1_5, ks_eq, ks_ss]; try dsimp only [kx_wp, kx_step, kx_lI, kx_lL, kx_lA, kx_gl, kx_pI, kx_pL, kx_pR, kx_pA, kx_pV, kx_s1, kx_s2, kx_sl, kx_pre, kx_c2, kx_pl, kx_cmp, kx_oF, kx_eqN, kx_nil, kx_c1, kx_ft, kx_aI, kx_aL, kx_aR, kx_ln, Nat.reduceAdd, Option.toList, List.cons_append, List.nil_append, cf1_4, cf1_5])
  all_goals (repeat' apply And.intro)
  all_goals ((try clear hB hC); first | exact True.intro | with_reducible rfl | with_reducible assumption | (with_reducible refine vp_in_nI ?_ ?_ <;> first | omega | decide) | exact Nat.le_of_ble_eq_true rfl | (with_reducible refine ck_nzI ?_; simp; done) | (with_reducible refine ck_nzL ?_; simp; done) | (simp only [pk_us, pk_uLs, ↓reduceIte, not_true_eq_false, not_false_eq_true]; done) | (simp only [↓reduceIte, not_true_eq_false, not_false_eq_true]; with_reducible rfl) | omega | skip)

def bX1_takeRings_0 : List kx_O := [(.iload_n 1, 1, 0, 0, .null), (.aload_n 0, 0, 0, 0, .null), (.getfield 29, 1, 7, 0, .null)]
theorem kX1_takeRings_0 : kx_oks kxL_X1 false cX1_takeRings 0 bX1_takeRings_0 = true := by decide +kernel
def bX1_takeRings_8 : List kx_O := [(.istore_n 2, 2, 0, 0, .null), (.aload_n 0, 0, 0, 0, .null), (.dup, 0, 0, 0, .null), (.getfield 29, 1, 7, 0, .null), (.iload_n 2, 2, 0, 0, .null), (.isub, 0, 0, 0, .null), (.putfield 29, 1, 7, 0, .null), (.iload_n 2, 2, 0, 0, .null), (.ireturn, 0, 0, 0, .null)]
theorem kX1_takeRings_8 : kx_oks kxL_X1 false cX1_takeRings 8 bX1_takeRings_8 = true := by decide +kernel
theorem dX1_takeRings_5 : decode cX1_takeRings 5 = .ok (.invokestatic 88, 3) := by decide +kernel
set_option maxRecDepth 100000 in
set_option maxHeartbeats 4000000 in
theorem ct_X1_takeRings (l : Launch) (G : kx_G) {P : kx_P} {sz : Nat} {c w : Nat} {V T Q Fo St Al Wm S C : Nat → Int32} {d : Int64} {h : Value} (H : cx_R P c w V T Q Fo St Al Wm) {x : Int32}  : kx_M l G sX1_takeRings 2 0 0 [.ref c, .int (x)] (cW P c w S d h C) sz (some (.int (cj_min x (C 7)))) (cW P c w S d h (upd C 7 (C 7 - cj_min x (C 7)))) sz := by
  have c64 := H.c64
  refine kx_mk kx_tab kxLok_X1 (ini := false) [some (.ref c), some (.int (x)), none] ⟨by decide, rfl, by decide, by decide⟩ (⟨_, rfl⟩) rfl rfl (fun g hB hC => ?_)
  refine hB bX1_takeRings_0 _ _ _ _ _ _ _ kX1_takeRings_0 ?_
  dsimp only [bX1_takeRings_0, kx_wp, kx_step, kx_lI, kx_lL, kx_lA, kx_gl, kx_pI, kx_pL, kx_pR, kx_pA, kx_pV, kx_s1, kx_s2, kx_sl, kx_pre, kx_c2, kx_pl, kx_cmp, kx_oF, kx_eqN, kx_nil, kx_c1, kx_ft, kx_aI, kx_aL, kx_aR, kx_ln, Nat.reduceAdd, Option.toList, List.cons_append, List.nil_append, cf1_7]
  repeat (simp only [cW_c, cW_w H, cW_t H, cW_q H, cW_f H, cW_s H, cW_65 H, cW_66 H, cW_1 H, cW_k H, cW_pc, cW_pk H, pk_us, pk_un, ne_eq, Nat.reduceEqDiff, not_false_eq_true, cp1_7, ks_eq, ks_ss]; try dsimp only [kx_wp, kx_step, kx_lI, kx_lL, kx_lA, kx_gl, kx_pI, kx_pL, kx_pR, kx_pA, kx_pV, kx_s1, kx_s2, kx_sl, kx_pre, kx_c2, kx_pl, kx_cmp, kx_oF, kx_eqN, kx_nil, kx_c1, kx_ft, kx_aI, kx_aL, kx_aR, kx_ln, Nat.reduceAdd, Option.toList, List.cons_append, List.nil_append, cf1_7])
  repeat' apply And.intro
  all_goals try (first | with_reducible assumption | (with_reducible refine ck_nzI ?_; simp; done) | (with_reducible refine ck_nzL ?_; simp; done) | (with_reducible refine vp_in_nI ?_ ?_ <;> first | omega | decide) | (with_reducible refine Nat.le_of_ble_eq_true ?_; rfl) | omega)
  refine hC.2.1 88 _ _ _ _ _ _ _ _ _ _ _ _ _ _ _ _ _ lX1_88 (ct_J9_min_7cf53 l G) rfl rfl (Nat.le_of_ble_eq_true rfl) (by decide) (by decide) (by omega) (by omega) dX1_takeRings_5 ?_
  refine hB bX1_takeRings_8 _ _ _ _ _ _ _ kX1_takeRings_8 ?_
  dsimp only [bX1_takeRings_8, kx_wp, kx_step, kx_lI, kx_lL, kx_lA, kx_gl, kx_pI, kx_pL, kx_pR, kx_pA, kx_pV, kx_s1, kx_s2, kx_sl, kx_pre, kx_c2, kx_pl, kx_cmp, kx_oF, kx_eqN, kx_nil, kx_c1, kx_ft, kx_aI, kx_aL, kx_aR, kx_ln, Nat.reduceAdd, Option.toList, List.cons_append, List.nil_append, cf1_7]
  repeat (simp only [cW_c, cW_w H, cW_t H, cW_q H, cW_f H, cW_s H, cW_65 H, cW_66 H, cW_1 H, cW_k H, cW_pc, cW_pk H, pk_us, pk_un, ne_eq, Nat.reduceEqDiff, not_false_eq_true, cp1_7, ks_eq, ks_ss]; try dsimp only [kx_wp, kx_step, kx_lI, kx_lL, kx_lA, kx_gl, kx_pI, kx_pL, kx_pR, kx_pA, kx_pV, kx_s1, kx_s2, kx_sl, kx_pre, kx_c2, kx_pl, kx_cmp, kx_oF, kx_eqN, kx_nil, kx_c1, kx_ft, kx_aI, kx_aL, kx_aR, kx_ln, Nat.reduceAdd, Option.toList, List.cons_append, List.nil_append, cf1_7])
  all_goals (repeat' apply And.intro)
  all_goals ((try clear hB hC); first | exact True.intro | with_reducible rfl | with_reducible assumption | (with_reducible refine vp_in_nI ?_ ?_ <;> first | omega | decide) | exact Nat.le_of_ble_eq_true rfl | (with_reducible refine ck_nzI ?_; simp; done) | (with_reducible refine ck_nzL ?_; simp; done) | (simp only [pk_us, pk_uLs, ↓reduceIte, not_true_eq_false, not_false_eq_true]; done) | (simp only [↓reduceIte, not_true_eq_false, not_false_eq_true]; with_reducible rfl) | omega | skip)

/-- what a rack's text stands for -/
def cx_fw (Fo St C N : Nat → Int32) (nn : Nat) : Prop := Fo 1 = nI nn ∧ nn ≤ 400 ∧ (∀ k, k < nn → cx_cd (C k) (N k) (St k)) ∧ ∀ k, k < nn → ck_rko (C k) (ck_ht C k)
def cx_sd (V T CN NN S C : Nat → Int32) (nn : Nat) (x d m : Int32) : Int32 := if V 12 = 0 then cj_max 0 (cj_min 24 ((ck_rkS CN NN x d m S nn).1 0)) else cx_to V T (C 8)
def cx_sk (V CN NN S : Nat → Int32) (nn : Nat) (x d m : Int32) : Nat → Int32 := if V 12 = 0 then (ck_rkS CN NN x d m S nn).1 else S
def bX1_strokesDue_0 : List kx_O := [(.aload_n 0, 0, 0, 0, .null), (.getfield 9, 1, 2, 0, .null), (.getfield 200, 9, 12, 0, .null), (.ifCond .eq 17, 24, 0, 0, .null)]
theorem kX1_strokesDue_0 : kx_oks kxL_X1 false cX1_strokesDue 0 bX1_strokesDue_0 = true := by decide +kernel
def bX1_strokesDue_10 : List kx_O := [(.aload_n 0, 0, 0, 0, .null), (.getfield 9, 1, 2, 0, .null), (.aload_n 0, 0, 0, 0, .null), (.getfield 32, 1, 8, 0, .null)]
theorem kX1_strokesDue_10 : kx_oks kxL_X1 false cX1_strokesDue 10 bX1_strokesDue_10 = true := by decide +kernel
def bX1_strokesDue_21 : List kx_O := [(.goto 13, 34, 0, 0, .null)]
theorem kX1_strokesDue_21 : kx_oks kxL_X1 false cX1_strokesDue 21 bX1_strokesDue_21 = true := by decide +kernel
def bX1_strokesDue_24 : List kx_O := [(.aload_n 0, 0, 0, 0, .null), (.getfield 9, 1, 2, 0, .null), (.iload_n 1, 1, 0, 0, .null), (.iload_n 2, 2, 0, 0, .null), (.iload_n 3, 3, 0, 0, .null)]
theorem kX1_strokesDue_24 : kx_oks kxL_X1 false cX1_strokesDue 24 bX1_strokesDue_24 = true := by decide +kernel
def bX1_strokesDue_34 : List kx_O := [(.ireturn, 0, 0, 0, .null)]
theorem kX1_strokesDue_34 : kx_oks kxL_X1 false cX1_strokesDue 34 bX1_strokesDue_34 = true := by decide +kernel
theorem dX1_strokesDue_18 : decode cX1_strokesDue 18 = .ok (.invokevirtual 203, 3) := by decide +kernel
theorem dX1_strokesDue_31 : decode cX1_strokesDue 31 = .ok (.invokevirtual 206, 3) := by decide +kernel
set_option maxRecDepth 100000 in
set_option maxHeartbeats 4000000 in
theorem ct_X1_strokesDue (l : Launch) (G : kx_G) {P : kx_P} {sz : Nat} {c w : Nat} {V T Q Fo St Al Wm S C : Nat → Int32} {d : Int64} {h : Value} (H : cx_R P c w V T Q Fo St Al Wm) {CN NN : Nat → Int32} {nn : Nat} (hf : V 12 = 0 → cx_fw Fo St CN NN nn) {x y z : Int32}  : kx_M l G sX1_strokesDue 4 0 0 [.ref c, .int (x), .int (y), .int (z)] (cW P c w S d h C) sz (some (.int (cx_sd V T CN NN S C nn x y z))) (cW P c w (cx_sk V CN NN S nn x y z) d h C) sz := by
  refine kx_mk kx_tab kxLok_X1 (ini := false) [some (.ref c), some (.int (x)), some (.int (y)), some (.int (z))] ⟨by decide, rfl, by decide, by decide⟩ (⟨_, rfl⟩) rfl rfl (fun g hB hC => ?_)
  refine hB bX1_strokesDue_0 _ _ _ _ _ _ _ kX1_strokesDue_0 ?_
  dsimp only [bX1_strokesDue_0, kx_wp, kx_step, kx_lI, kx_lL, kx_lA, kx_gl, kx_pI, kx_pL, kx_pR, kx_pA, kx_pV, kx_s1, kx_s2, kx_sl, kx_pre, kx_c2, kx_pl, kx_cmp, kx_oF, kx_eqN, kx_nil, kx_c1, kx_ft, kx_aI, kx_aL, kx_aR, kx_ln, Nat.reduceAdd, Option.toList, List.cons_append, List.nil_append, cf1_2, cf9_12, cf1_8]
  repeat (simp only [cW_c, cW_w H, cW_t H, cW_q H, cW_f H, cW_s H, cW_65 H, cW_66 H, cW_1 H, cW_k H, cW_pc, cW_pk H, pk_us, pk_un, ne_eq, Nat.reduceEqDiff, not_false_eq_true, ks_eq, ks_ss]; try dsimp only [kx_wp, kx_step, kx_lI, kx_lL, kx_lA, kx_gl, kx_pI, kx_pL, kx_pR, kx_pA, kx_pV, kx_s1, kx_s2, kx_sl, kx_pre, kx_c2, kx_pl, kx_cmp, kx_oF, kx_eqN, kx_nil, kx_c1, kx_ft, kx_aI, kx_aL, kx_aR, kx_ln, Nat.reduceAdd, Option.toList, List.cons_append, List.nil_append, cf1_2, cf9_12, cf1_8])
  repeat' apply And.intro
  all_goals try (first | with_reducible assumption | (with_reducible refine ck_nzI ?_; simp; done) | (with_reducible refine ck_nzL ?_; simp; done) | (with_reducible refine vp_in_nI ?_ ?_ <;> first | omega | decide) | (with_reducible refine Nat.le_of_ble_eq_true ?_; rfl) | omega)
  · intro zc7
    have ze7 := zc7
    refine hB bX1_strokesDue_24 _ _ _ _ _ _ _ kX1_strokesDue_24 ?_
    dsimp only [bX1_strokesDue_24, kx_wp, kx_step, kx_lI, kx_lL, kx_lA, kx_gl, kx_pI, kx_pL, kx_pR, kx_pA, kx_pV, kx_s1, kx_s2, kx_sl, kx_pre, kx_c2, kx_pl, kx_cmp, kx_oF, kx_eqN, kx_nil, kx_c1, kx_ft, kx_aI, kx_aL, kx_aR, kx_ln, Nat.reduceAdd, Option.toList, List.cons_append, List.nil_append, cf1_2, cf9_12, cf1_8]
    repeat (simp only [cW_c, cW_w H, cW_t H, cW_q H, cW_f H, cW_s H, cW_65 H, cW_66 H, cW_1 H, cW_k H, cW_pc, cW_pk H, pk_us, pk_un, ne_eq, Nat.reduceEqDiff, not_false_eq_true, ks_eq, ks_ss]; try dsimp only [kx_wp, kx_step, kx_lI, kx_lL, kx_lA, kx_gl, kx_pI, kx_pL, kx_pR, kx_pA, kx_pV, kx_s1, kx_s2, kx_sl, kx_pre, kx_c2, kx_pl, kx_cmp, kx_oF, kx_eqN, kx_nil, kx_c1, kx_ft, kx_aI, kx_aL, kx_aR, kx_ln, Nat.reduceAdd, Option.toList, List.cons_append, List.nil_append, cf1_2, cf9_12, cf1_8])
    repeat' apply And.intro
    all_goals try (first | with_reducible assumption | (with_reducible refine ck_nzI ?_; simp; done) | (with_reducible refine ck_nzL ?_; simp; done) | (with_reducible refine vp_in_nI ?_ ?_ <;> first | omega | decide) | (with_reducible refine Nat.le_of_ble_eq_true ?_; rfl) | omega)
    obtain ⟨f1, f2, f3, f4⟩ := hf ze7
    refine hC.1 206 _ _ _ _ _ _ _ 9 _ _ _ _ _ _ _ _ _ _ _ _ lX1_206 (ct_X9_rackStrokes l G (cW_w H) H.w64 (cW_f H) (cW_k H) (cW_s H) f1 f2 f3 f4) ⟨by decide, rfl⟩ (by first | exact cW_c | exact cW_w H | exact cW_f H | exact cW_65 H) rfl rfl (Nat.le_of_ble_eq_true rfl) (by decide) (by decide) (by omega) (by omega) dX1_strokesDue_31 ?_
    rw [cW_pk H]
    refine hB bX1_strokesDue_34 _ _ _ _ _ _ _ kX1_strokesDue_34 ?_
    dsimp only [bX1_strokesDue_34, kx_wp, kx_step, kx_lI, kx_lL, kx_lA, kx_gl, kx_pI, kx_pL, kx_pR, kx_pA, kx_pV, kx_s1, kx_s2, kx_sl, kx_pre, kx_c2, kx_pl, kx_cmp, kx_oF, kx_eqN, kx_nil, kx_c1, kx_ft, kx_aI, kx_aL, kx_aR, kx_ln, Nat.reduceAdd, Option.toList, List.cons_append, List.nil_append, cf1_2, cf9_12, cf1_8]
    repeat (simp only [cW_c, cW_w H, cW_t H, cW_q H, cW_f H, cW_s H, cW_65 H, cW_66 H, cW_1 H, cW_k H, cW_pc, cW_pk H, pk_us, pk_un, ne_eq, Nat.reduceEqDiff, not_false_eq_true, ks_eq, ks_ss]; try dsimp only [kx_wp, kx_step, kx_lI, kx_lL, kx_lA, kx_gl, kx_pI, kx_pL, kx_pR, kx_pA, kx_pV, kx_s1, kx_s2, kx_sl, kx_pre, kx_c2, kx_pl, kx_cmp, kx_oF, kx_eqN, kx_nil, kx_c1, kx_ft, kx_aI, kx_aL, kx_aR, kx_ln, Nat.reduceAdd, Option.toList, List.cons_append, List.nil_append, cf1_2, cf9_12, cf1_8])
    all_goals (repeat' apply And.intro)
    all_goals ((try clear hB hC); first | exact True.intro | with_reducible rfl | with_reducible assumption | (with_reducible refine vp_in_nI ?_ ?_ <;> first | omega | decide) | exact Nat.le_of_ble_eq_true rfl | (with_reducible refine ck_nzI ?_; simp; done) | (with_reducible refine ck_nzL ?_; simp; done) | (simp only [pk_us, pk_uLs, cx_sd, cx_sk, eq_true ze7, ↓reduceIte, not_true_eq_false, not_false_eq_true]; done) | (simp only [cx_sd, cx_sk, eq_true ze7, ↓reduceIte, not_true_eq_false, not_false_eq_true]; with_reducible rfl) | omega | skip)
  · intro zc7
    have ze7 := zc7
    refine hB bX1_strokesDue_10 _ _ _ _ _ _ _ kX1_strokesDue_10 ?_
    dsimp only [bX1_strokesDue_10, kx_wp, kx_step, kx_lI, kx_lL, kx_lA, kx_gl, kx_pI, kx_pL, kx_pR, kx_pA, kx_pV, kx_s1, kx_s2, kx_sl, kx_pre, kx_c2, kx_pl, kx_cmp, kx_oF, kx_eqN, kx_nil, kx_c1, kx_ft, kx_aI, kx_aL, kx_aR, kx_ln, Nat.reduceAdd, Option.toList, List.cons_append, List.nil_append, cf1_2, cf9_12, cf1_8]
    repeat (simp only [cW_c, cW_w H, cW_t H, cW_q H, cW_f H, cW_s H, cW_65 H, cW_66 H, cW_1 H, cW_k H, cW_pc, cW_pk H, pk_us, pk_un, ne_eq, Nat.reduceEqDiff, not_false_eq_true, ks_eq, ks_ss]; try dsimp only [kx_wp, kx_step, kx_lI, kx_lL, kx_lA, kx_gl, kx_pI, kx_pL, kx_pR, kx_pA, kx_pV, kx_s1, kx_s2, kx_sl, kx_pre, kx_c2, kx_pl, kx_cmp, kx_oF, kx_eqN, kx_nil, kx_c1, kx_ft, kx_aI, kx_aL, kx_aR, kx_ln, Nat.reduceAdd, Option.toList, List.cons_append, List.nil_append, cf1_2, cf9_12, cf1_8])
    repeat' apply And.intro
    all_goals try (first | with_reducible assumption | (with_reducible refine ck_nzI ?_; simp; done) | (with_reducible refine ck_nzL ?_; simp; done) | (with_reducible refine vp_in_nI ?_ ?_ <;> first | omega | decide) | (with_reducible refine Nat.le_of_ble_eq_true ?_; rfl) | omega)
    refine hC.1 203 _ _ _ _ _ _ _ 9 _ _ _ _ _ _ _ _ _ _ _ _ lX1_203 (ct_X9_toothAt l G (cW_w H) (cW_t H)) ⟨by decide, rfl⟩ (by first | exact cW_c | exact cW_w H | exact cW_f H | exact cW_65 H) rfl rfl (Nat.le_of_ble_eq_true rfl) (by decide) (by decide) (by omega) (by omega) dX1_strokesDue_18 ?_
    refine hB bX1_strokesDue_21 _ _ _ _ _ _ _ kX1_strokesDue_21 ?_
    dsimp only [bX1_strokesDue_21, kx_wp, kx_step, kx_lI, kx_lL, kx_lA, kx_gl, kx_pI, kx_pL, kx_pR, kx_pA, kx_pV, kx_s1, kx_s2, kx_sl, kx_pre, kx_c2, kx_pl, kx_cmp, kx_oF, kx_eqN, kx_nil, kx_c1, kx_ft, kx_aI, kx_aL, kx_aR, kx_ln, Nat.reduceAdd, Option.toList, List.cons_append, List.nil_append, cf1_2, cf9_12, cf1_8]
    repeat (simp only [cW_c, cW_w H, cW_t H, cW_q H, cW_f H, cW_s H, cW_65 H, cW_66 H, cW_1 H, cW_k H, cW_pc, cW_pk H, pk_us, pk_un, ne_eq, Nat.reduceEqDiff, not_false_eq_true, ks_eq, ks_ss]; try dsimp only [kx_wp, kx_step, kx_lI, kx_lL, kx_lA, kx_gl, kx_pI, kx_pL, kx_pR, kx_pA, kx_pV, kx_s1, kx_s2, kx_sl, kx_pre, kx_c2, kx_pl, kx_cmp, kx_oF, kx_eqN, kx_nil, kx_c1, kx_ft, kx_aI, kx_aL, kx_aR, kx_ln, Nat.reduceAdd, Option.toList, List.cons_append, List.nil_append, cf1_2, cf9_12, cf1_8])
    repeat' apply And.intro
    all_goals try (first | with_reducible assumption | (with_reducible refine ck_nzI ?_; simp; done) | (with_reducible refine ck_nzL ?_; simp; done) | (with_reducible refine vp_in_nI ?_ ?_ <;> first | omega | decide) | (with_reducible refine Nat.le_of_ble_eq_true ?_; rfl) | omega)
    refine hB bX1_strokesDue_34 _ _ _ _ _ _ _ kX1_strokesDue_34 ?_
    dsimp only [bX1_strokesDue_34, kx_wp, kx_step, kx_lI, kx_lL, kx_lA, kx_gl, kx_pI, kx_pL, kx_pR, kx_pA, kx_pV, kx_s1, kx_s2, kx_sl, kx_pre, kx_c2, kx_pl, kx_cmp, kx_oF, kx_eqN, kx_nil, kx_c1, kx_ft, kx_aI, kx_aL, kx_aR, kx_ln, Nat.reduceAdd, Option.toList, List.cons_append, List.nil_append, cf1_2, cf9_12, cf1_8]
    repeat (simp only [cW_c, cW_w H, cW_t H, cW_q H, cW_f H, cW_s H, cW_65 H, cW_66 H, cW_1 H, cW_k H, cW_pc, cW_pk H, pk_us, pk_un, ne_eq, Nat.reduceEqDiff, not_false_eq_true, ks_eq, ks_ss]; try dsimp only [kx_wp, kx_step, kx_lI, kx_lL, kx_lA, kx_gl, kx_pI, kx_pL, kx_pR, kx_pA, kx_pV, kx_s1, kx_s2, kx_sl, kx_pre, kx_c2, kx_pl, kx_cmp, kx_oF, kx_eqN, kx_nil, kx_c1, kx_ft, kx_aI, kx_aL, kx_aR, kx_ln, Nat.reduceAdd, Option.toList, List.cons_append, List.nil_append, cf1_2, cf9_12, cf1_8])
    all_goals (repeat' apply And.intro)
    all_goals ((try clear hB hC); first | exact True.intro | with_reducible rfl | with_reducible assumption | (with_reducible refine vp_in_nI ?_ ?_ <;> first | omega | decide) | exact Nat.le_of_ble_eq_true rfl | (with_reducible refine ck_nzI ?_; simp; done) | (with_reducible refine ck_nzL ?_; simp; done) | (simp only [pk_us, pk_uLs, cx_sd, cx_sk, ze7, ↓reduceIte, not_true_eq_false, not_false_eq_true]; done) | (simp only [cx_sd, cx_sk, ze7, ↓reduceIte, not_true_eq_false, not_false_eq_true]; with_reducible rfl) | omega | skip)

def bX1_nextHour_0 : List kx_O := [(.aload_n 0, 0, 0, 0, .null), (.getfield 15, 1, 3, 0, .null), (.ldc2_w 209, 0, 0, 0, .long (3600000000)), (.ldiv, 0, 0, 0, .null), (.lconst 1, 0, 0, 0, .long 1), (.ladd, 0, 0, 0, .null), (.l2i, 0, 0, 0, .null), (.bipush 24, 0, 0, 0, .int 24), (.irem, 0, 0, 0, .null), (.ireturn, 0, 0, 0, .null)]
theorem kX1_nextHour_0 : kx_oks kxL_X1 false cX1_nextHour 0 bX1_nextHour_0 = true := by decide +kernel
set_option maxRecDepth 100000 in
set_option maxHeartbeats 4000000 in
theorem ct_X1_nextHour (l : Launch) (G : kx_G) {P : kx_P} {sz : Nat} {c w : Nat} {V T Q Fo St Al Wm S C : Nat → Int32} {d : Int64} {h : Value} (H : cx_R P c w V T Q Fo St Al Wm) {a : Nat} (hd : d = lN a) (ha : a < 86400000000)  : kx_M l G sX1_nextHour 1 0 0 [.ref c] (cW P c w S d h C) sz (some (.int (nI ((a / 3600000000 + 1) % 24)))) (cW P c w S d h C) sz := by
  have z1 : d / 3600000000 = lN (a / 3600000000) := by rw [hd]; exact pk_lDiv (b := 3600000000) (by omega) (by omega) (by omega)
  have z2 : (lN (a / 3600000000) + 1).toInt32 = nI (a / 3600000000 + 1) := by rw [show (1 : Int64) = lN 1 from rfl, lN_add]; exact lN_i _
  have z3 : nI (a / 3600000000 + 1) - nI (a / 3600000000 + 1) / 24 * 24 = nI ((a / 3600000000 + 1) % 24) := pk_rem (d := 24) (by omega) (by omega) (by omega)
  refine kx_mk kx_tab kxLok_X1 (ini := false) [some (.ref c)] ⟨by decide, rfl, by decide, by decide⟩ (⟨_, rfl⟩) rfl rfl (fun g hB hC => ?_)
  refine hB bX1_nextHour_0 _ _ _ _ _ _ _ kX1_nextHour_0 ?_
  dsimp only [bX1_nextHour_0, kx_wp, kx_step, kx_lI, kx_lL, kx_lA, kx_gl, kx_pI, kx_pL, kx_pR, kx_pA, kx_pV, kx_s1, kx_s2, kx_sl, kx_pre, kx_c2, kx_pl, kx_cmp, kx_oF, kx_eqN, kx_nil, kx_c1, kx_ft, kx_aI, kx_aL, kx_aR, kx_ln, Nat.reduceAdd, Option.toList, List.cons_append, List.nil_append, cf1_3]
  repeat (simp only [cW_c, cW_w H, cW_t H, cW_q H, cW_f H, cW_s H, cW_65 H, cW_66 H, cW_1 H, cW_k H, cW_pc, cW_pk H, pk_us, pk_un, ne_eq, Nat.reduceEqDiff, not_false_eq_true, z1, z2, z3, ks_eq, ks_ss]; try dsimp only [kx_wp, kx_step, kx_lI, kx_lL, kx_lA, kx_gl, kx_pI, kx_pL, kx_pR, kx_pA, kx_pV, kx_s1, kx_s2, kx_sl, kx_pre, kx_c2, kx_pl, kx_cmp, kx_oF, kx_eqN, kx_nil, kx_c1, kx_ft, kx_aI, kx_aL, kx_aR, kx_ln, Nat.reduceAdd, Option.toList, List.cons_append, List.nil_append, cf1_3])
  all_goals (repeat' apply And.intro)
  all_goals ((try clear hB hC); first | exact True.intro | with_reducible rfl | with_reducible assumption | (with_reducible refine vp_in_nI ?_ ?_ <;> first | omega | decide) | exact Nat.le_of_ble_eq_true rfl | (with_reducible refine ck_nzI ?_; simp; done) | (with_reducible refine ck_nzL ?_; simp; done) | (simp only [pk_us, pk_uLs, ↓reduceIte, not_true_eq_false, not_false_eq_true]; done) | (simp only [↓reduceIte, not_true_eq_false, not_false_eq_true]; with_reducible rfl) | omega | skip)

def bX1_strokesNext_0 : List kx_O := [(.aload_n 0, 0, 0, 0, .null)]
theorem kX1_strokesNext_0 : kx_oks kxL_X1 false cX1_strokesNext 0 bX1_strokesNext_0 = true := by decide +kernel
def bX1_strokesNext_4 : List kx_O := [(.istore_n 2, 2, 0, 0, .null), (.iload_n 2, 2, 0, 0, .null), (.ifCond .ne 21, 27, 0, 0, .null)]
theorem kX1_strokesNext_4 : kx_oks kxL_X1 false cX1_strokesNext 4 bX1_strokesNext_4 = true := by decide +kernel
def bX1_strokesNext_9 : List kx_O := [(.aload_n 0, 0, 0, 0, .null), (.iload_n 2, 2, 0, 0, .null), (.aload_n 0, 0, 0, 0, .null), (.iload_n 1, 1, 0, 0, .null)]
theorem kX1_strokesNext_9 : kx_oks kxL_X1 false cX1_strokesNext 9 bX1_strokesNext_9 = true := by decide +kernel
def bX1_strokesNext_16 : List kx_O := [(.aload_n 0, 0, 0, 0, .null), (.iload_n 1, 1, 0, 0, .null)]
theorem kX1_strokesNext_16 : kx_oks kxL_X1 false cX1_strokesNext 16 bX1_strokesNext_16 = true := by decide +kernel
def bX1_strokesNext_24 : List kx_O := [(.goto 16, 40, 0, 0, .null)]
theorem kX1_strokesNext_24 : kx_oks kxL_X1 false cX1_strokesNext 24 bX1_strokesNext_24 = true := by decide +kernel
def bX1_strokesNext_27 : List kx_O := [(.aload_n 0, 0, 0, 0, .null), (.iload_n 2, 2, 0, 0, .null), (.aload_n 0, 0, 0, 0, .null), (.getfield 19, 1, 4, 0, .null), (.aload_n 0, 0, 0, 0, .null), (.getfield 23, 1, 5, 0, .null)]
theorem kX1_strokesNext_27 : kx_oks kxL_X1 false cX1_strokesNext 27 bX1_strokesNext_27 = true := by decide +kernel
def bX1_strokesNext_40 : List kx_O := [(.ireturn, 0, 0, 0, .null)]
theorem kX1_strokesNext_40 : kx_oks kxL_X1 false cX1_strokesNext 40 bX1_strokesNext_40 = true := by decide +kernel
theorem dX1_strokesNext_1 : decode cX1_strokesNext 1 = .ok (.invokevirtual 211, 3) := by decide +kernel
theorem dX1_strokesNext_13 : decode cX1_strokesNext 13 = .ok (.invokevirtual 171, 3) := by decide +kernel
theorem dX1_strokesNext_18 : decode cX1_strokesNext 18 = .ok (.invokevirtual 167, 3) := by decide +kernel
theorem dX1_strokesNext_21 : decode cX1_strokesNext 21 = .ok (.invokevirtual 193, 3) := by decide +kernel
theorem dX1_strokesNext_37 : decode cX1_strokesNext 37 = .ok (.invokevirtual 193, 3) := by decide +kernel
set_option maxRecDepth 100000 in
set_option maxHeartbeats 4000000 in
theorem ct_X1_strokesNext (l : Launch) (G : kx_G) {P : kx_P} {sz : Nat} {c w : Nat} {V T Q Fo St Al Wm S C : Nat → Int32} {d : Int64} {h : Value} (H : cx_R P c w V T Q Fo St Al Wm) {CN NN : Nat → Int32} {nn : Nat} (hf : V 12 = 0 → cx_fw Fo St CN NN nn) {a : Nat} (hd : d = lN a) (ha : a < 86400000000) {lp : Int32}  : kx_M l G sX1_strokesNext 5 0 0 [.ref c, .int (lp)] (cW P c w S d h C) sz (some (.int (if (a / 3600000000 + 1) % 24 = 0 then cx_sd V T CN NN S C nn (nI ((a / 3600000000 + 1) % 24)) (cx_db V C lp) (cx_mb V C lp) else cx_sd V T CN NN S C nn (nI ((a / 3600000000 + 1) % 24)) (C 4) (C 5)))) (cW P c w (if (a / 3600000000 + 1) % 24 = 0 then cx_sk V CN NN S nn (nI ((a / 3600000000 + 1) % 24)) (cx_db V C lp) (cx_mb V C lp) else cx_sk V CN NN S nn (nI ((a / 3600000000 + 1) % 24)) (C 4) (C 5)) d h C) sz := by
  refine kx_mk kx_tab kxLok_X1 (ini := false) [some (.ref c), some (.int (lp)), none] ⟨by decide, rfl, by decide, by decide⟩ (⟨_, rfl⟩) rfl rfl (fun g hB hC => ?_)
  refine hB bX1_strokesNext_0 _ _ _ _ _ _ _ kX1_strokesNext_0 ?_
  dsimp only [bX1_strokesNext_0, kx_wp, kx_step, kx_lI, kx_lL, kx_lA, kx_gl, kx_pI, kx_pL, kx_pR, kx_pA, kx_pV, kx_s1, kx_s2, kx_sl, kx_pre, kx_c2, kx_pl, kx_cmp, kx_oF, kx_eqN, kx_nil, kx_c1, kx_ft, kx_aI, kx_aL, kx_aR, kx_ln, Nat.reduceAdd, Option.toList, List.cons_append, List.nil_append, cf1_4, cf1_5]
  repeat (simp only [cW_c, cW_w H, cW_t H, cW_q H, cW_f H, cW_s H, cW_65 H, cW_66 H, cW_1 H, cW_k H, cW_pc, cW_pk H, pk_us, pk_un, ne_eq, Nat.reduceEqDiff, not_false_eq_true, ks_eq, ks_ss]; try dsimp only [kx_wp, kx_step, kx_lI, kx_lL, kx_lA, kx_gl, kx_pI, kx_pL, kx_pR, kx_pA, kx_pV, kx_s1, kx_s2, kx_sl, kx_pre, kx_c2, kx_pl, kx_cmp, kx_oF, kx_eqN, kx_nil, kx_c1, kx_ft, kx_aI, kx_aL, kx_aR, kx_ln, Nat.reduceAdd, Option.toList, List.cons_append, List.nil_append, cf1_4, cf1_5])
  repeat' apply And.intro
  all_goals try (first | with_reducible assumption | (with_reducible refine ck_nzI ?_; simp; done) | (with_reducible refine ck_nzL ?_; simp; done) | (with_reducible refine vp_in_nI ?_ ?_ <;> first | omega | decide) | (with_reducible refine Nat.le_of_ble_eq_true ?_; rfl) | omega)
  refine hC.1 211 _ _ _ _ _ _ _ 1 _ _ _ _ _ _ _ _ _ _ _ _ lX1_211 (ct_X1_nextHour l G H hd ha) ⟨by decide, rfl⟩ (by first | exact cW_c | exact cW_w H | exact cW_f H | exact cW_65 H) rfl rfl (Nat.le_of_ble_eq_true rfl) (by decide) (by decide) (by omega) (by omega) dX1_strokesNext_1 ?_
  refine hB bX1_strokesNext_4 _ _ _ _ _ _ _ kX1_strokesNext_4 ?_
  dsimp only [bX1_strokesNext_4, kx_wp, kx_step, kx_lI, kx_lL, kx_lA, kx_gl, kx_pI, kx_pL, kx_pR, kx_pA, kx_pV, kx_s1, kx_s2, kx_sl, kx_pre, kx_c2, kx_pl, kx_cmp, kx_oF, kx_eqN, kx_nil, kx_c1, kx_ft, kx_aI, kx_aL, kx_aR, kx_ln, Nat.reduceAdd, Option.toList, List.cons_append, List.nil_append, cf1_4, cf1_5]
  repeat (simp only [cW_c, cW_w H, cW_t H, cW_q H, cW_f H, cW_s H, cW_65 H, cW_66 H, cW_1 H, cW_k H, cW_pc, cW_pk H, pk_us, pk_un, ne_eq, Nat.reduceEqDiff, not_false_eq_true, ks_eq, ks_ss]; try dsimp only [kx_wp, kx_step, kx_lI, kx_lL, kx_lA, kx_gl, kx_pI, kx_pL, kx_pR, kx_pA, kx_pV, kx_s1, kx_s2, kx_sl, kx_pre, kx_c2, kx_pl, kx_cmp, kx_oF, kx_eqN, kx_nil, kx_c1, kx_ft, kx_aI, kx_aL, kx_aR, kx_ln, Nat.reduceAdd, Option.toList, List.cons_append, List.nil_append, cf1_4, cf1_5])
  repeat' apply And.intro
  all_goals try (first | with_reducible assumption | (with_reducible refine ck_nzI ?_; simp; done) | (with_reducible refine ck_nzL ?_; simp; done) | (with_reducible refine vp_in_nI ?_ ?_ <;> first | omega | decide) | (with_reducible refine Nat.le_of_ble_eq_true ?_; rfl) | omega)
  · intro zc6
    have ze6 := zc6
    refine hB bX1_strokesNext_27 _ _ _ _ _ _ _ kX1_strokesNext_27 ?_
    dsimp only [bX1_strokesNext_27, kx_wp, kx_step, kx_lI, kx_lL, kx_lA, kx_gl, kx_pI, kx_pL, kx_pR, kx_pA, kx_pV, kx_s1, kx_s2, kx_sl, kx_pre, kx_c2, kx_pl, kx_cmp, kx_oF, kx_eqN, kx_nil, kx_c1, kx_ft, kx_aI, kx_aL, kx_aR, kx_ln, Nat.reduceAdd, Option.toList, List.cons_append, List.nil_append, cf1_4, cf1_5]
    repeat (simp only [cW_c, cW_w H, cW_t H, cW_q H, cW_f H, cW_s H, cW_65 H, cW_66 H, cW_1 H, cW_k H, cW_pc, cW_pk H, pk_us, pk_un, ne_eq, Nat.reduceEqDiff, not_false_eq_true, ks_eq, ks_ss]; try dsimp only [kx_wp, kx_step, kx_lI, kx_lL, kx_lA, kx_gl, kx_pI, kx_pL, kx_pR, kx_pA, kx_pV, kx_s1, kx_s2, kx_sl, kx_pre, kx_c2, kx_pl, kx_cmp, kx_oF, kx_eqN, kx_nil, kx_c1, kx_ft, kx_aI, kx_aL, kx_aR, kx_ln, Nat.reduceAdd, Option.toList, List.cons_append, List.nil_append, cf1_4, cf1_5])
    repeat' apply And.intro
    all_goals try (first | with_reducible assumption | (with_reducible refine ck_nzI ?_; simp; done) | (with_reducible refine ck_nzL ?_; simp; done) | (with_reducible refine vp_in_nI ?_ ?_ <;> first | omega | decide) | (with_reducible refine Nat.le_of_ble_eq_true ?_; rfl) | omega)
    refine hC.1 193 _ _ _ _ _ _ _ 1 _ _ _ _ _ _ _ _ _ _ _ _ lX1_193 (ct_X1_strokesDue l G H hf) ⟨by decide, rfl⟩ (by first | exact cW_c | exact cW_w H | exact cW_f H | exact cW_65 H) rfl rfl (Nat.le_of_ble_eq_true rfl) (by decide) (by decide) (by omega) (by omega) dX1_strokesNext_37 ?_
    refine hB bX1_strokesNext_40 _ _ _ _ _ _ _ kX1_strokesNext_40 ?_
    dsimp only [bX1_strokesNext_40, kx_wp, kx_step, kx_lI, kx_lL, kx_lA, kx_gl, kx_pI, kx_pL, kx_pR, kx_pA, kx_pV, kx_s1, kx_s2, kx_sl, kx_pre, kx_c2, kx_pl, kx_cmp, kx_oF, kx_eqN, kx_nil, kx_c1, kx_ft, kx_aI, kx_aL, kx_aR, kx_ln, Nat.reduceAdd, Option.toList, List.cons_append, List.nil_append, cf1_4, cf1_5]
    repeat (simp only [cW_c, cW_w H, cW_t H, cW_q H, cW_f H, cW_s H, cW_65 H, cW_66 H, cW_1 H, cW_k H, cW_pc, cW_pk H, pk_us, pk_un, ne_eq, Nat.reduceEqDiff, not_false_eq_true, ks_eq, ks_ss]; try dsimp only [kx_wp, kx_step, kx_lI, kx_lL, kx_lA, kx_gl, kx_pI, kx_pL, kx_pR, kx_pA, kx_pV, kx_s1, kx_s2, kx_sl, kx_pre, kx_c2, kx_pl, kx_cmp, kx_oF, kx_eqN, kx_nil, kx_c1, kx_ft, kx_aI, kx_aL, kx_aR, kx_ln, Nat.reduceAdd, Option.toList, List.cons_append, List.nil_append, cf1_4, cf1_5])
    all_goals (repeat' apply And.intro)
    all_goals ((try clear hB hC); first | exact True.intro | rw [if_pos ((nI_eq (b := 0) (by omega) (by omega)).mp (by first | exact ze6 | exact Decidable.not_not.mp zc6))] | rw [if_neg (fun e => zc6 ((nI_eq (b := 0) (by omega) (by omega)).mpr e))] | trace_state)
  · intro zc6
    with_reducible first | have ze6 := Decidable.not_not.mp zc6 | have ze6 := zc6
    refine hB bX1_strokesNext_9 _ _ _ _ _ _ _ kX1_strokesNext_9 ?_
    dsimp only [bX1_strokesNext_9, kx_wp, kx_step, kx_lI, kx_lL, kx_lA, kx_gl, kx_pI, kx_pL, kx_pR, kx_pA, kx_pV, kx_s1, kx_s2, kx_sl, kx_pre, kx_c2, kx_pl, kx_cmp, kx_oF, kx_eqN, kx_nil, kx_c1, kx_ft, kx_aI, kx_aL, kx_aR, kx_ln, Nat.reduceAdd, Option.toList, List.cons_append, List.nil_append, cf1_4, cf1_5]
    repeat (simp only [cW_c, cW_w H, cW_t H, cW_q H, cW_f H, cW_s H, cW_65 H, cW_66 H, cW_1 H, cW_k H, cW_pc, cW_pk H, pk_us, pk_un, ne_eq, Nat.reduceEqDiff, not_false_eq_true, ks_eq, ks_ss]; try dsimp only [kx_wp, kx_step, kx_lI, kx_lL, kx_lA, kx_gl, kx_pI, kx_pL, kx_pR, kx_pA, kx_pV, kx_s1, kx_s2, kx_sl, kx_pre, kx_c2, kx_pl, kx_cmp, kx_oF, kx_eqN, kx_nil, kx_c1, kx_ft, kx_aI, kx_aL, kx_aR, kx_ln, Nat.reduceAdd, Option.toList, List.cons_append, List.nil_append, cf1_4, cf1_5])
    repeat' apply And.intro
    all_goals try (first | with_reducible assumption | (with_reducible refine ck_nzI ?_; simp; done) | (with_reducible refine ck_nzL ?_; simp; done) | (with_reducible refine vp_in_nI ?_ ?_ <;> first | omega | decide) | (with_reducible refine Nat.le_of_ble_eq_true ?_; rfl) | omega)
    refine hC.1 171 _ _ _ _ _ _ _ 1 _ _ _ _ _ _ _ _ _ _ _ _ lX1_171 (ct_X1_dateBehind l G H) ⟨by decide, rfl⟩ (by first | exact cW_c | exact cW_w H | exact cW_f H | exact cW_65 H) rfl rfl (Nat.le_of_ble_eq_true rfl) (by decide) (by decide) (by omega) (by omega) dX1_strokesNext_13 ?_
    refine hB bX1_strokesNext_16 _ _ _ _ _ _ _ kX1_strokesNext_16 ?_
    dsimp only [bX1_strokesNext_16, kx_wp, kx_step, kx_lI, kx_lL, kx_lA, kx_gl, kx_pI, kx_pL, kx_pR, kx_pA, kx_pV, kx_s1, kx_s2, kx_sl, kx_pre, kx_c2, kx_pl, kx_cmp, kx_oF, kx_eqN, kx_nil, kx_c1, kx_ft, kx_aI, kx_aL, kx_aR, kx_ln, Nat.reduceAdd, Option.toList, List.cons_append, List.nil_append, cf1_4, cf1_5]
    repeat (simp only [cW_c, cW_w H, cW_t H, cW_q H, cW_f H, cW_s H, cW_65 H, cW_66 H, cW_1 H, cW_k H, cW_pc, cW_pk H, pk_us, pk_un, ne_eq, Nat.reduceEqDiff, not_false_eq_true, ks_eq, ks_ss]; try dsimp only [kx_wp, kx_step, kx_lI, kx_lL, kx_lA, kx_gl, kx_pI, kx_pL, kx_pR, kx_pA, kx_pV, kx_s1, kx_s2, kx_sl, kx_pre, kx_c2, kx_pl, kx_cmp, kx_oF, kx_eqN, kx_nil, kx_c1, kx_ft, kx_aI, kx_aL, kx_aR, kx_ln, Nat.reduceAdd, Option.toList, List.cons_append, List.nil_append, cf1_4, cf1_5])
    repeat' apply And.intro
    all_goals try (first | with_reducible assumption | (with_reducible refine ck_nzI ?_; simp; done) | (with_reducible refine ck_nzL ?_; simp; done) | (with_reducible refine vp_in_nI ?_ ?_ <;> first | omega | decide) | (with_reducible refine Nat.le_of_ble_eq_true ?_; rfl) | omega)
    refine hC.1 167 _ _ _ _ _ _ _ 1 _ _ _ _ _ _ _ _ _ _ _ _ lX1_167 (ct_X1_monthBehind l G H) ⟨by decide, rfl⟩ (by first | exact cW_c | exact cW_w H | exact cW_f H | exact cW_65 H) rfl rfl (Nat.le_of_ble_eq_true rfl) (by decide) (by decide) (by omega) (by omega) dX1_strokesNext_18 ?_
    refine hC.1 193 _ _ _ _ _ _ _ 1 _ _ _ _ _ _ _ _ _ _ _ _ lX1_193 (ct_X1_strokesDue l G H hf) ⟨by decide, rfl⟩ (by first | exact cW_c | exact cW_w H | exact cW_f H | exact cW_65 H) rfl rfl (Nat.le_of_ble_eq_true rfl) (by decide) (by decide) (by omega) (by omega) dX1_strokesNext_21 ?_
    refine hB bX1_strokesNext_24 _ _ _ _ _ _ _ kX1_strokesNext_24 ?_
    dsimp only [bX1_strokesNext_24, kx_wp, kx_step, kx_lI, kx_lL, kx_lA, kx_gl, kx_pI, kx_pL, kx_pR, kx_pA, kx_pV, kx_s1, kx_s2, kx_sl, kx_pre, kx_c2, kx_pl, kx_cmp, kx_oF, kx_eqN, kx_nil, kx_c1, kx_ft, kx_aI, kx_aL, kx_aR, kx_ln, Nat.reduceAdd, Option.toList, List.cons_append, List.nil_append, cf1_4, cf1_5]
    repeat (simp only [cW_c, cW_w H, cW_t H, cW_q H, cW_f H, cW_s H, cW_65 H, cW_66 H, cW_1 H, cW_k H, cW_pc, cW_pk H, pk_us, pk_un, ne_eq, Nat.reduceEqDiff, not_false_eq_true, ks_eq, ks_ss]; try dsimp only [kx_wp, kx_step, kx_lI, kx_lL, kx_lA, kx_gl, kx_pI, kx_pL, kx_pR, kx_pA, kx_pV, kx_s1, kx_s2, kx_sl, kx_pre, kx_c2, kx_pl, kx_cmp, kx_oF, kx_eqN, kx_nil, kx_c1, kx_ft, kx_aI, kx_aL, kx_aR, kx_ln, Nat.reduceAdd, Option.toList, List.cons_append, List.nil_append, cf1_4, cf1_5])
    repeat' apply And.intro
    all_goals try (first | with_reducible assumption | (with_reducible refine ck_nzI ?_; simp; done) | (with_reducible refine ck_nzL ?_; simp; done) | (with_reducible refine vp_in_nI ?_ ?_ <;> first | omega | decide) | (with_reducible refine Nat.le_of_ble_eq_true ?_; rfl) | omega)
    refine hB bX1_strokesNext_40 _ _ _ _ _ _ _ kX1_strokesNext_40 ?_
    dsimp only [bX1_strokesNext_40, kx_wp, kx_step, kx_lI, kx_lL, kx_lA, kx_gl, kx_pI, kx_pL, kx_pR, kx_pA, kx_pV, kx_s1, kx_s2, kx_sl, kx_pre, kx_c2, kx_pl, kx_cmp, kx_oF, kx_eqN, kx_nil, kx_c1, kx_ft, kx_aI, kx_aL, kx_aR, kx_ln, Nat.reduceAdd, Option.toList, List.cons_append, List.nil_append, cf1_4, cf1_5]
    repeat (simp only [cW_c, cW_w H, cW_t H, cW_q H, cW_f H, cW_s H, cW_65 H, cW_66 H, cW_1 H, cW_k H, cW_pc, cW_pk H, pk_us, pk_un, ne_eq, Nat.reduceEqDiff, not_false_eq_true, ks_eq, ks_ss]; try dsimp only [kx_wp, kx_step, kx_lI, kx_lL, kx_lA, kx_gl, kx_pI, kx_pL, kx_pR, kx_pA, kx_pV, kx_s1, kx_s2, kx_sl, kx_pre, kx_c2, kx_pl, kx_cmp, kx_oF, kx_eqN, kx_nil, kx_c1, kx_ft, kx_aI, kx_aL, kx_aR, kx_ln, Nat.reduceAdd, Option.toList, List.cons_append, List.nil_append, cf1_4, cf1_5])
    all_goals (repeat' apply And.intro)
    all_goals ((try clear hB hC); first | exact True.intro | rw [if_pos ((nI_eq (b := 0) (by omega) (by omega)).mp (by first | exact ze6 | exact Decidable.not_not.mp zc6))] | rw [if_neg (fun e => zc6 ((nI_eq (b := 0) (by omega) (by omega)).mpr e))] | trace_state)

def bX1_wheelPlace_0 : List kx_O := [(.aload_n 0, 0, 0, 0, .null), (.getfield 9, 1, 2, 0, .null), (.getfield 200, 9, 12, 0, .null), (.ifCond .eq 10, 17, 0, 0, .null)]
theorem kX1_wheelPlace_0 : kx_oks kxL_X1 false cX1_wheelPlace 0 bX1_wheelPlace_0 = true := by decide +kernel
def bX1_wheelPlace_10 : List kx_O := [(.aload_n 0, 0, 0, 0, .null), (.getfield 32, 1, 8, 0, .null), (.goto 4, 18, 0, 0, .null)]
theorem kX1_wheelPlace_10 : kx_oks kxL_X1 false cX1_wheelPlace 10 bX1_wheelPlace_10 = true := by decide +kernel
def bX1_wheelPlace_17 : List kx_O := [(.iconst (-1), 0, 0, 0, .int (-1))]
theorem kX1_wheelPlace_17 : kx_oks kxL_X1 false cX1_wheelPlace 17 bX1_wheelPlace_17 = true := by decide +kernel
def bX1_wheelPlace_18 : List kx_O := [(.ireturn, 0, 0, 0, .null)]
theorem kX1_wheelPlace_18 : kx_oks kxL_X1 false cX1_wheelPlace 18 bX1_wheelPlace_18 = true := by decide +kernel
set_option maxRecDepth 100000 in
set_option maxHeartbeats 4000000 in
theorem ct_X1_wheelPlace (l : Launch) (G : kx_G) {P : kx_P} {sz : Nat} {c w : Nat} {V T Q Fo St Al Wm S C : Nat → Int32} {d : Int64} {h : Value} (H : cx_R P c w V T Q Fo St Al Wm)  : kx_M l G sX1_wheelPlace 1 0 0 [.ref c] (cW P c w S d h C) sz (some (.int (if V 12 = 0 then -1 else C 8))) (cW P c w S d h C) sz := by
  refine kx_mk kx_tab kxLok_X1 (ini := false) [some (.ref c)] ⟨by decide, rfl, by decide, by decide⟩ (⟨_, rfl⟩) rfl rfl (fun g hB hC => ?_)
  refine hB bX1_wheelPlace_0 _ _ _ _ _ _ _ kX1_wheelPlace_0 ?_
  dsimp only [bX1_wheelPlace_0, kx_wp, kx_step, kx_lI, kx_lL, kx_lA, kx_gl, kx_pI, kx_pL, kx_pR, kx_pA, kx_pV, kx_s1, kx_s2, kx_sl, kx_pre, kx_c2, kx_pl, kx_cmp, kx_oF, kx_eqN, kx_nil, kx_c1, kx_ft, kx_aI, kx_aL, kx_aR, kx_ln, Nat.reduceAdd, Option.toList, List.cons_append, List.nil_append, cf1_2, cf9_12, cf1_8]
  repeat (simp only [cW_c, cW_w H, cW_t H, cW_q H, cW_f H, cW_s H, cW_65 H, cW_66 H, cW_1 H, cW_k H, cW_pc, cW_pk H, pk_us, pk_un, ne_eq, Nat.reduceEqDiff, not_false_eq_true, ks_eq, ks_ss]; try dsimp only [kx_wp, kx_step, kx_lI, kx_lL, kx_lA, kx_gl, kx_pI, kx_pL, kx_pR, kx_pA, kx_pV, kx_s1, kx_s2, kx_sl, kx_pre, kx_c2, kx_pl, kx_cmp, kx_oF, kx_eqN, kx_nil, kx_c1, kx_ft, kx_aI, kx_aL, kx_aR, kx_ln, Nat.reduceAdd, Option.toList, List.cons_append, List.nil_append, cf1_2, cf9_12, cf1_8])
  repeat' apply And.intro
  all_goals try (first | with_reducible assumption | (with_reducible refine ck_nzI ?_; simp; done) | (with_reducible refine ck_nzL ?_; simp; done) | (with_reducible refine vp_in_nI ?_ ?_ <;> first | omega | decide) | (with_reducible refine Nat.le_of_ble_eq_true ?_; rfl) | omega)
  · intro zc7
    have ze7 := zc7
    refine hB bX1_wheelPlace_17 _ _ _ _ _ _ _ kX1_wheelPlace_17 ?_
    dsimp only [bX1_wheelPlace_17, kx_wp, kx_step, kx_lI, kx_lL, kx_lA, kx_gl, kx_pI, kx_pL, kx_pR, kx_pA, kx_pV, kx_s1, kx_s2, kx_sl, kx_pre, kx_c2, kx_pl, kx_cmp, kx_oF, kx_eqN, kx_nil, kx_c1, kx_ft, kx_aI, kx_aL, kx_aR, kx_ln, Nat.reduceAdd, Option.toList, List.cons_append, List.nil_append, cf1_2, cf9_12, cf1_8]
    repeat (simp only [cW_c, cW_w H, cW_t H, cW_q H, cW_f H, cW_s H, cW_65 H, cW_66 H, cW_1 H, cW_k H, cW_pc, cW_pk H, pk_us, pk_un, ne_eq, Nat.reduceEqDiff, not_false_eq_true, ks_eq, ks_ss]; try dsimp only [kx_wp, kx_step, kx_lI, kx_lL, kx_lA, kx_gl, kx_pI, kx_pL, kx_pR, kx_pA, kx_pV, kx_s1, kx_s2, kx_sl, kx_pre, kx_c2, kx_pl, kx_cmp, kx_oF, kx_eqN, kx_nil, kx_c1, kx_ft, kx_aI, kx_aL, kx_aR, kx_ln, Nat.reduceAdd, Option.toList, List.cons_append, List.nil_append, cf1_2, cf9_12, cf1_8])
    repeat' apply And.intro
    all_goals try (first | with_reducible assumption | (with_reducible refine ck_nzI ?_; simp; done) | (with_reducible refine ck_nzL ?_; simp; done) | (with_reducible refine vp_in_nI ?_ ?_ <;> first | omega | decide) | (with_reducible refine Nat.le_of_ble_eq_true ?_; rfl) | omega)
    refine hB bX1_wheelPlace_18 _ _ _ _ _ _ _ kX1_wheelPlace_18 ?_
    dsimp only [bX1_wheelPlace_18, kx_wp, kx_step, kx_lI, kx_lL, kx_lA, kx_gl, kx_pI, kx_pL, kx_pR, kx_pA, kx_pV, kx_s1, kx_s2, kx_sl, kx_pre, kx_c2, kx_pl, kx_cmp, kx_oF, kx_eqN, kx_nil, kx_c1, kx_ft, kx_aI, kx_aL, kx_aR, kx_ln, Nat.reduceAdd, Option.toList, List.cons_append, List.nil_append, cf1_2, cf9_12, cf1_8]
    repeat (simp only [cW_c, cW_w H, cW_t H, cW_q H, cW_f H, cW_s H, cW_65 H, cW_66 H, cW_1 H, cW_k H, cW_pc, cW_pk H, pk_us, pk_un, ne_eq, Nat.reduceEqDiff, not_false_eq_true, ks_eq, ks_ss]; try dsimp only [kx_wp, kx_step, kx_lI, kx_lL, kx_lA, kx_gl, kx_pI, kx_pL, kx_pR, kx_pA, kx_pV, kx_s1, kx_s2, kx_sl, kx_pre, kx_c2, kx_pl, kx_cmp, kx_oF, kx_eqN, kx_nil, kx_c1, kx_ft, kx_aI, kx_aL, kx_aR, kx_ln, Nat.reduceAdd, Option.toList, List.cons_append, List.nil_append, cf1_2, cf9_12, cf1_8])
    all_goals (repeat' apply And.intro)
    all_goals ((try clear hB hC); first | exact True.intro | with_reducible rfl | with_reducible assumption | (with_reducible refine vp_in_nI ?_ ?_ <;> first | omega | decide) | exact Nat.le_of_ble_eq_true rfl | (with_reducible refine ck_nzI ?_; simp; done) | (with_reducible refine ck_nzL ?_; simp; done) | (simp only [pk_us, pk_uLs, eq_true ze7, ↓reduceIte, not_true_eq_false, not_false_eq_true]; done) | (simp only [eq_true ze7, ↓reduceIte, not_true_eq_false, not_false_eq_true]; with_reducible rfl) | omega | skip)
  · intro zc7
    have ze7 := zc7
    refine hB bX1_wheelPlace_10 _ _ _ _ _ _ _ kX1_wheelPlace_10 ?_
    dsimp only [bX1_wheelPlace_10, kx_wp, kx_step, kx_lI, kx_lL, kx_lA, kx_gl, kx_pI, kx_pL, kx_pR, kx_pA, kx_pV, kx_s1, kx_s2, kx_sl, kx_pre, kx_c2, kx_pl, kx_cmp, kx_oF, kx_eqN, kx_nil, kx_c1, kx_ft, kx_aI, kx_aL, kx_aR, kx_ln, Nat.reduceAdd, Option.toList, List.cons_append, List.nil_append, cf1_2, cf9_12, cf1_8]
    repeat (simp only [cW_c, cW_w H, cW_t H, cW_q H, cW_f H, cW_s H, cW_65 H, cW_66 H, cW_1 H, cW_k H, cW_pc, cW_pk H, pk_us, pk_un, ne_eq, Nat.reduceEqDiff, not_false_eq_true, ks_eq, ks_ss]; try dsimp only [kx_wp, kx_step, kx_lI, kx_lL, kx_lA, kx_gl, kx_pI, kx_pL, kx_pR, kx_pA, kx_pV, kx_s1, kx_s2, kx_sl, kx_pre, kx_c2, kx_pl, kx_cmp, kx_oF, kx_eqN, kx_nil, kx_c1, kx_ft, kx_aI, kx_aL, kx_aR, kx_ln, Nat.reduceAdd, Option.toList, List.cons_append, List.nil_append, cf1_2, cf9_12, cf1_8])
    repeat' apply And.intro
    all_goals try (first | with_reducible assumption | (with_reducible refine ck_nzI ?_; simp; done) | (with_reducible refine ck_nzL ?_; simp; done) | (with_reducible refine vp_in_nI ?_ ?_ <;> first | omega | decide) | (with_reducible refine Nat.le_of_ble_eq_true ?_; rfl) | omega)
    refine hB bX1_wheelPlace_18 _ _ _ _ _ _ _ kX1_wheelPlace_18 ?_
    dsimp only [bX1_wheelPlace_18, kx_wp, kx_step, kx_lI, kx_lL, kx_lA, kx_gl, kx_pI, kx_pL, kx_pR, kx_pA, kx_pV, kx_s1, kx_s2, kx_sl, kx_pre, kx_c2, kx_pl, kx_cmp, kx_oF, kx_eqN, kx_nil, kx_c1, kx_ft, kx_aI, kx_aL, kx_aR, kx_ln, Nat.reduceAdd, Option.toList, List.cons_append, List.nil_append, cf1_2, cf9_12, cf1_8]
    repeat (simp only [cW_c, cW_w H, cW_t H, cW_q H, cW_f H, cW_s H, cW_65 H, cW_66 H, cW_1 H, cW_k H, cW_pc, cW_pk H, pk_us, pk_un, ne_eq, Nat.reduceEqDiff, not_false_eq_true, ks_eq, ks_ss]; try dsimp only [kx_wp, kx_step, kx_lI, kx_lL, kx_lA, kx_gl, kx_pI, kx_pL, kx_pR, kx_pA, kx_pV, kx_s1, kx_s2, kx_sl, kx_pre, kx_c2, kx_pl, kx_cmp, kx_oF, kx_eqN, kx_nil, kx_c1, kx_ft, kx_aI, kx_aL, kx_aR, kx_ln, Nat.reduceAdd, Option.toList, List.cons_append, List.nil_append, cf1_2, cf9_12, cf1_8])
    all_goals (repeat' apply And.intro)
    all_goals ((try clear hB hC); first | exact True.intro | with_reducible rfl | with_reducible assumption | (with_reducible refine vp_in_nI ?_ ?_ <;> first | omega | decide) | exact Nat.le_of_ble_eq_true rfl | (with_reducible refine ck_nzI ?_; simp; done) | (with_reducible refine ck_nzL ?_; simp; done) | (simp only [pk_us, pk_uLs, ze7, ↓reduceIte, not_true_eq_false, not_false_eq_true]; done) | (simp only [ze7, ↓reduceIte, not_true_eq_false, not_false_eq_true]; with_reducible rfl) | omega | skip)

def bX1_windingMinutes_0 : List kx_O := [(.aload_n 0, 0, 0, 0, .null), (.getfield 9, 1, 2, 0, .null)]
theorem kX1_windingMinutes_0 : kx_oks kxL_X1 false cX1_windingMinutes 0 bX1_windingMinutes_0 = true := by decide +kernel
def bX1_windingMinutes_7 : List kx_O := [(.iload_n 1, 1, 0, 0, .null), (.isub, 0, 0, 0, .null), (.sipush 1440, 0, 0, 0, .int 1440), (.iadd, 0, 0, 0, .null), (.iconst 1, 0, 0, 0, .int 1), (.isub, 0, 0, 0, .null), (.sipush 1440, 0, 0, 0, .int 1440), (.idiv, 0, 0, 0, .null), (.ireturn, 0, 0, 0, .null)]
theorem kX1_windingMinutes_7 : kx_oks kxL_X1 false cX1_windingMinutes 7 bX1_windingMinutes_7 = true := by decide +kernel
theorem dX1_windingMinutes_4 : decode cX1_windingMinutes 4 = .ok (.invokevirtual 64, 3) := by decide +kernel
set_option maxRecDepth 100000 in
set_option maxHeartbeats 4000000 in
theorem ct_X1_windingMinutes (l : Launch) (G : kx_G) {P : kx_P} {sz : Nat} {c w : Nat} {V T Q Fo St Al Wm S C : Nat → Int32} {d : Int64} {h : Value} (H : cx_R P c w V T Q Fo St Al Wm) {x : Int32}  : kx_M l G sX1_windingMinutes 2 0 0 [.ref c, .int (x)] (cW P c w S d h C) sz (some (.int ((1440 * V 0 - x + 1440 - 1) / 1440))) (cW P c w S d h C) sz := by
  refine kx_mk kx_tab kxLok_X1 (ini := false) [some (.ref c), some (.int (x))] ⟨by decide, rfl, by decide, by decide⟩ (⟨_, rfl⟩) rfl rfl (fun g hB hC => ?_)
  refine hB bX1_windingMinutes_0 _ _ _ _ _ _ _ kX1_windingMinutes_0 ?_
  dsimp only [bX1_windingMinutes_0, kx_wp, kx_step, kx_lI, kx_lL, kx_lA, kx_gl, kx_pI, kx_pL, kx_pR, kx_pA, kx_pV, kx_s1, kx_s2, kx_sl, kx_pre, kx_c2, kx_pl, kx_cmp, kx_oF, kx_eqN, kx_nil, kx_c1, kx_ft, kx_aI, kx_aL, kx_aR, kx_ln, Nat.reduceAdd, Option.toList, List.cons_append, List.nil_append, cf1_2]
  repeat (simp only [cW_c, cW_w H, cW_t H, cW_q H, cW_f H, cW_s H, cW_65 H, cW_66 H, cW_1 H, cW_k H, cW_pc, cW_pk H, pk_us, pk_un, ne_eq, Nat.reduceEqDiff, not_false_eq_true, ks_eq, ks_ss]; try dsimp only [kx_wp, kx_step, kx_lI, kx_lL, kx_lA, kx_gl, kx_pI, kx_pL, kx_pR, kx_pA, kx_pV, kx_s1, kx_s2, kx_sl, kx_pre, kx_c2, kx_pl, kx_cmp, kx_oF, kx_eqN, kx_nil, kx_c1, kx_ft, kx_aI, kx_aL, kx_aR, kx_ln, Nat.reduceAdd, Option.toList, List.cons_append, List.nil_append, cf1_2])
  repeat' apply And.intro
  all_goals try (first | with_reducible assumption | (with_reducible refine ck_nzI ?_; simp; done) | (with_reducible refine ck_nzL ?_; simp; done) | (with_reducible refine vp_in_nI ?_ ?_ <;> first | omega | decide) | (with_reducible refine Nat.le_of_ble_eq_true ?_; rfl) | omega)
  refine hC.1 64 _ _ _ _ _ _ _ 9 _ _ _ _ _ _ _ _ _ _ _ _ lX1_64 (ct_X9_fullLeft l G (cW_w H)) ⟨by decide, rfl⟩ (by first | exact cW_c | exact cW_w H | exact cW_f H | exact cW_65 H) rfl rfl (Nat.le_of_ble_eq_true rfl) (by decide) (by decide) (by omega) (by omega) dX1_windingMinutes_4 ?_
  refine hB bX1_windingMinutes_7 _ _ _ _ _ _ _ kX1_windingMinutes_7 ?_
  dsimp only [bX1_windingMinutes_7, kx_wp, kx_step, kx_lI, kx_lL, kx_lA, kx_gl, kx_pI, kx_pL, kx_pR, kx_pA, kx_pV, kx_s1, kx_s2, kx_sl, kx_pre, kx_c2, kx_pl, kx_cmp, kx_oF, kx_eqN, kx_nil, kx_c1, kx_ft, kx_aI, kx_aL, kx_aR, kx_ln, Nat.reduceAdd, Option.toList, List.cons_append, List.nil_append, cf1_2]
  repeat (simp only [cW_c, cW_w H, cW_t H, cW_q H, cW_f H, cW_s H, cW_65 H, cW_66 H, cW_1 H, cW_k H, cW_pc, cW_pk H, pk_us, pk_un, ne_eq, Nat.reduceEqDiff, not_false_eq_true, ks_eq, ks_ss]; try dsimp only [kx_wp, kx_step, kx_lI, kx_lL, kx_lA, kx_gl, kx_pI, kx_pL, kx_pR, kx_pA, kx_pV, kx_s1, kx_s2, kx_sl, kx_pre, kx_c2, kx_pl, kx_cmp, kx_oF, kx_eqN, kx_nil, kx_c1, kx_ft, kx_aI, kx_aL, kx_aR, kx_ln, Nat.reduceAdd, Option.toList, List.cons_append, List.nil_append, cf1_2])
  all_goals (repeat' apply And.intro)
  all_goals ((try clear hB hC); first | exact True.intro | with_reducible rfl | with_reducible assumption | (with_reducible refine vp_in_nI ?_ ?_ <;> first | omega | decide) | exact Nat.le_of_ble_eq_true rfl | (with_reducible refine ck_nzI ?_; simp; done) | (with_reducible refine ck_nzL ?_; simp; done) | (simp only [pk_us, pk_uLs, ↓reduceIte, not_true_eq_false, not_false_eq_true]; done) | (simp only [↓reduceIte, not_true_eq_false, not_false_eq_true]; with_reducible rfl) | omega | skip)


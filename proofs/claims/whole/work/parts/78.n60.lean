theorem kz_in {x : Int32} {n : Nat} (h1 : ¬ x < 0) (h2 : ¬ Int32.ofNat n ≤ x) (hn : n < 2 ^ 31) : vp_in x n := by
  obtain ⟨j, h3, rfl, -⟩ := pk_mu h1 h2 hn
  exact vp_in_nI h3 hn
def bX0_dayOfYear_0 : List kx_O := [(.aload_n 0, 0, 0, 0, .null)]
theorem kX0_dayOfYear_0 : kx_oks kxL_X0 false cX0_dayOfYear 0 bX0_dayOfYear_0 = true := by decide +kernel
def bX0_dayOfYear_4 : List kx_O := [(.aload_n 0, 0, 0, 0, .null), (.getfield 15, 0, 1, 0, .null), (.ifCond .eq 9, 17, 0, 0, .null)]
theorem kX0_dayOfYear_4 : kx_oks kxL_X0 false cX0_dayOfYear 4 bX0_dayOfYear_4 = true := by decide +kernel
def bX0_dayOfYear_11 : List kx_O := [(.sipush 366, 0, 0, 0, .int 366), (.goto 6, 20, 0, 0, .null)]
theorem kX0_dayOfYear_11 : kx_oks kxL_X0 false cX0_dayOfYear 11 bX0_dayOfYear_11 = true := by decide +kernel
def bX0_dayOfYear_17 : List kx_O := [(.sipush 365, 0, 0, 0, .int 365)]
theorem kX0_dayOfYear_17 : kx_oks kxL_X0 false cX0_dayOfYear 17 bX0_dayOfYear_17 = true := by decide +kernel
def bX0_dayOfYear_20 : List kx_O := [(.irem, 0, 0, 0, .null), (.ireturn, 0, 0, 0, .null)]
theorem kX0_dayOfYear_20 : kx_oks kxL_X0 false cX0_dayOfYear 20 bX0_dayOfYear_20 = true := by decide +kernel
theorem dX0_dayOfYear_1 : decode cX0_dayOfYear 1 = .ok (.invokevirtual 29, 3) := by decide +kernel
set_option maxRecDepth 100000 in
set_option maxHeartbeats 4000000 in
theorem ct_X0_dayOfYear (l : Launch) (G : kx_G) {P : kx_P} {sz : Nat} {F : Nat → Int32} (hA : P 65 = kO 0 (kf cr0 F)) {d : Nat} (h1 : F 0 = nI d) (hd : d ≤ 100000)  : kx_M l G sX0_dayOfYear 2 0 0 [.ref 65] P sz (some (.int (nI (d / 1440)))) P sz := by
  have zq : F 0 / 1440 = nI (d / 1440) := by rw [h1, show (1440 : Int32) = nI 1440 from rfl, pk_div (by omega) (by decide) (by decide)]
  refine kx_mk kx_tab kxLok_X0 (ini := false) [some (.ref 65)] ⟨by decide, rfl, by decide, by decide⟩ (⟨_, rfl⟩) rfl rfl (fun g hB hC => ?_)
  refine hB bX0_dayOfYear_0 _ _ _ _ _ _ _ kX0_dayOfYear_0 ?_
  dsimp only [bX0_dayOfYear_0, kx_wp, kx_step, kx_lI, kx_lL, kx_lA, kx_gl, kx_pI, kx_pL, kx_pR, kx_pA, kx_pV, kx_s1, kx_s2, kx_sl, kx_pre, kx_c2, kx_pl, kx_cmp, kx_oF, kx_eqN, kx_nil, kx_c1, kx_ft, kx_aI, kx_aL, kx_aR, kx_ln, Nat.reduceAdd, Option.toList, List.cons_append, List.nil_append, cf0_1]
  repeat (simp only [hA, zq, show nI (d / 1440) - nI (d / 1440) / 366 * 366 = nI (d / 1440) from by rw [show (366 : Int32) = nI 366 from rfl, pk_rem (by omega) (by decide) (by decide), Nat.mod_eq_of_lt (by omega)], show nI (d / 1440) - nI (d / 1440) / 365 * 365 = nI (d / 1440) from by rw [show (365 : Int32) = nI 365 from rfl, pk_rem (by omega) (by decide) (by decide), Nat.mod_eq_of_lt (by omega)], ks_eq, ks_ss]; try dsimp only [kx_wp, kx_step, kx_lI, kx_lL, kx_lA, kx_gl, kx_pI, kx_pL, kx_pR, kx_pA, kx_pV, kx_s1, kx_s2, kx_sl, kx_pre, kx_c2, kx_pl, kx_cmp, kx_oF, kx_eqN, kx_nil, kx_c1, kx_ft, kx_aI, kx_aL, kx_aR, kx_ln, Nat.reduceAdd, Option.toList, List.cons_append, List.nil_append, cf0_1])
  repeat' apply And.intro
  all_goals try (first | with_reducible assumption | (with_reducible refine ck_nzI ?_; simp; done) | (with_reducible refine ck_nzL ?_; simp; done) | (with_reducible refine vp_in_nI ?_ ?_ <;> first | omega | decide) | (with_reducible refine Nat.le_of_ble_eq_true ?_; rfl) | omega)
  refine hC.1 29 _ _ _ _ _ _ _ 0 _ _ _ _ _ _ _ _ _ _ _ _ lX0_29 (ct_X0_today l G hA) ⟨by decide, rfl⟩ (by first | assumption | (simp only [hA, zq, show nI (d / 1440) - nI (d / 1440) / 366 * 366 = nI (d / 1440) from by rw [show (366 : Int32) = nI 366 from rfl, pk_rem (by omega) (by decide) (by decide), Nat.mod_eq_of_lt (by omega)], show nI (d / 1440) - nI (d / 1440) / 365 * 365 = nI (d / 1440) from by rw [show (365 : Int32) = nI 365 from rfl, pk_rem (by omega) (by decide) (by decide), Nat.mod_eq_of_lt (by omega)], ks_eq, ks_ss])) rfl rfl (Nat.le_of_ble_eq_true rfl) (by decide) (by decide) (by omega) (by omega) dX0_dayOfYear_1 ?_
  refine hB bX0_dayOfYear_4 _ _ _ _ _ _ _ kX0_dayOfYear_4 ?_
  dsimp only [bX0_dayOfYear_4, kx_wp, kx_step, kx_lI, kx_lL, kx_lA, kx_gl, kx_pI, kx_pL, kx_pR, kx_pA, kx_pV, kx_s1, kx_s2, kx_sl, kx_pre, kx_c2, kx_pl, kx_cmp, kx_oF, kx_eqN, kx_nil, kx_c1, kx_ft, kx_aI, kx_aL, kx_aR, kx_ln, Nat.reduceAdd, Option.toList, List.cons_append, List.nil_append, cf0_1]
  repeat (simp only [hA, zq, show nI (d / 1440) - nI (d / 1440) / 366 * 366 = nI (d / 1440) from by rw [show (366 : Int32) = nI 366 from rfl, pk_rem (by omega) (by decide) (by decide), Nat.mod_eq_of_lt (by omega)], show nI (d / 1440) - nI (d / 1440) / 365 * 365 = nI (d / 1440) from by rw [show (365 : Int32) = nI 365 from rfl, pk_rem (by omega) (by decide) (by decide), Nat.mod_eq_of_lt (by omega)], ks_eq, ks_ss]; try dsimp only [kx_wp, kx_step, kx_lI, kx_lL, kx_lA, kx_gl, kx_pI, kx_pL, kx_pR, kx_pA, kx_pV, kx_s1, kx_s2, kx_sl, kx_pre, kx_c2, kx_pl, kx_cmp, kx_oF, kx_eqN, kx_nil, kx_c1, kx_ft, kx_aI, kx_aL, kx_aR, kx_ln, Nat.reduceAdd, Option.toList, List.cons_append, List.nil_append, cf0_1])
  repeat' apply And.intro
  all_goals try (first | with_reducible assumption | (with_reducible refine ck_nzI ?_; simp; done) | (with_reducible refine ck_nzL ?_; simp; done) | (with_reducible refine vp_in_nI ?_ ?_ <;> first | omega | decide) | (with_reducible refine Nat.le_of_ble_eq_true ?_; rfl) | omega)
  · intro zc8
    have ze8 := zc8
    refine hB bX0_dayOfYear_17 _ _ _ _ _ _ _ kX0_dayOfYear_17 ?_
    dsimp only [bX0_dayOfYear_17, kx_wp, kx_step, kx_lI, kx_lL, kx_lA, kx_gl, kx_pI, kx_pL, kx_pR, kx_pA, kx_pV, kx_s1, kx_s2, kx_sl, kx_pre, kx_c2, kx_pl, kx_cmp, kx_oF, kx_eqN, kx_nil, kx_c1, kx_ft, kx_aI, kx_aL, kx_aR, kx_ln, Nat.reduceAdd, Option.toList, List.cons_append, List.nil_append, cf0_1]
    repeat (simp only [hA, zq, show nI (d / 1440) - nI (d / 1440) / 366 * 366 = nI (d / 1440) from by rw [show (366 : Int32) = nI 366 from rfl, pk_rem (by omega) (by decide) (by decide), Nat.mod_eq_of_lt (by omega)], show nI (d / 1440) - nI (d / 1440) / 365 * 365 = nI (d / 1440) from by rw [show (365 : Int32) = nI 365 from rfl, pk_rem (by omega) (by decide) (by decide), Nat.mod_eq_of_lt (by omega)], ks_eq, ks_ss]; try dsimp only [kx_wp, kx_step, kx_lI, kx_lL, kx_lA, kx_gl, kx_pI, kx_pL, kx_pR, kx_pA, kx_pV, kx_s1, kx_s2, kx_sl, kx_pre, kx_c2, kx_pl, kx_cmp, kx_oF, kx_eqN, kx_nil, kx_c1, kx_ft, kx_aI, kx_aL, kx_aR, kx_ln, Nat.reduceAdd, Option.toList, List.cons_append, List.nil_append, cf0_1])
    repeat' apply And.intro
    all_goals try (first | with_reducible assumption | (with_reducible refine ck_nzI ?_; simp; done) | (with_reducible refine ck_nzL ?_; simp; done) | (with_reducible refine vp_in_nI ?_ ?_ <;> first | omega | decide) | (with_reducible refine Nat.le_of_ble_eq_true ?_; rfl) | omega)
    refine hB bX0_dayOfYear_20 _ _ _ _ _ _ _ kX0_dayOfYear_20 ?_
    dsimp only [bX0_dayOfYear_20, kx_wp, kx_step, kx_lI, kx_lL, kx_lA, kx_gl, kx_pI, kx_pL, kx_pR, kx_pA, kx_pV, kx_s1, kx_s2, kx_sl, kx_pre, kx_c2, kx_pl, kx_cmp, kx_oF, kx_eqN, kx_nil, kx_c1, kx_ft, kx_aI, kx_aL, kx_aR, kx_ln, Nat.reduceAdd, Option.toList, List.cons_append, List.nil_append, cf0_1]
    repeat (simp only [hA, zq, show nI (d / 1440) - nI (d / 1440) / 366 * 366 = nI (d / 1440) from by rw [show (366 : Int32) = nI 366 from rfl, pk_rem (by omega) (by decide) (by decide), Nat.mod_eq_of_lt (by omega)], show nI (d / 1440) - nI (d / 1440) / 365 * 365 = nI (d / 1440) from by rw [show (365 : Int32) = nI 365 from rfl, pk_rem (by omega) (by decide) (by decide), Nat.mod_eq_of_lt (by omega)], ks_eq, ks_ss]; try dsimp only [kx_wp, kx_step, kx_lI, kx_lL, kx_lA, kx_gl, kx_pI, kx_pL, kx_pR, kx_pA, kx_pV, kx_s1, kx_s2, kx_sl, kx_pre, kx_c2, kx_pl, kx_cmp, kx_oF, kx_eqN, kx_nil, kx_c1, kx_ft, kx_aI, kx_aL, kx_aR, kx_ln, Nat.reduceAdd, Option.toList, List.cons_append, List.nil_append, cf0_1])
    all_goals (repeat' apply And.intro)
    all_goals ((try clear hB hC); first | exact True.intro | with_reducible rfl | with_reducible assumption | (with_reducible refine vp_in_nI ?_ ?_ <;> first | omega | decide) | exact Nat.le_of_ble_eq_true rfl | (with_reducible refine ck_nzI ?_; simp; done) | (with_reducible refine ck_nzL ?_; simp; done) | (simp only [pk_us, pk_uLs, eq_true ze8, ↓reduceIte, not_true_eq_false, not_false_eq_true]; done) | (simp only [eq_true ze8, ↓reduceIte, not_true_eq_false, not_false_eq_true]; with_reducible rfl) | skip)
  · intro zc8
    have ze8 := zc8
    refine hB bX0_dayOfYear_11 _ _ _ _ _ _ _ kX0_dayOfYear_11 ?_
    dsimp only [bX0_dayOfYear_11, kx_wp, kx_step, kx_lI, kx_lL, kx_lA, kx_gl, kx_pI, kx_pL, kx_pR, kx_pA, kx_pV, kx_s1, kx_s2, kx_sl, kx_pre, kx_c2, kx_pl, kx_cmp, kx_oF, kx_eqN, kx_nil, kx_c1, kx_ft, kx_aI, kx_aL, kx_aR, kx_ln, Nat.reduceAdd, Option.toList, List.cons_append, List.nil_append, cf0_1]
    repeat (simp only [hA, zq, show nI (d / 1440) - nI (d / 1440) / 366 * 366 = nI (d / 1440) from by rw [show (366 : Int32) = nI 366 from rfl, pk_rem (by omega) (by decide) (by decide), Nat.mod_eq_of_lt (by omega)], show nI (d / 1440) - nI (d / 1440) / 365 * 365 = nI (d / 1440) from by rw [show (365 : Int32) = nI 365 from rfl, pk_rem (by omega) (by decide) (by decide), Nat.mod_eq_of_lt (by omega)], ks_eq, ks_ss]; try dsimp only [kx_wp, kx_step, kx_lI, kx_lL, kx_lA, kx_gl, kx_pI, kx_pL, kx_pR, kx_pA, kx_pV, kx_s1, kx_s2, kx_sl, kx_pre, kx_c2, kx_pl, kx_cmp, kx_oF, kx_eqN, kx_nil, kx_c1, kx_ft, kx_aI, kx_aL, kx_aR, kx_ln, Nat.reduceAdd, Option.toList, List.cons_append, List.nil_append, cf0_1])
    repeat' apply And.intro
    all_goals try (first | with_reducible assumption | (with_reducible refine ck_nzI ?_; simp; done) | (with_reducible refine ck_nzL ?_; simp; done) | (with_reducible refine vp_in_nI ?_ ?_ <;> first | omega | decide) | (with_reducible refine Nat.le_of_ble_eq_true ?_; rfl) | omega)
    refine hB bX0_dayOfYear_20 _ _ _ _ _ _ _ kX0_dayOfYear_20 ?_
    dsimp only [bX0_dayOfYear_20, kx_wp, kx_step, kx_lI, kx_lL, kx_lA, kx_gl, kx_pI, kx_pL, kx_pR, kx_pA, kx_pV, kx_s1, kx_s2, kx_sl, kx_pre, kx_c2, kx_pl, kx_cmp, kx_oF, kx_eqN, kx_nil, kx_c1, kx_ft, kx_aI, kx_aL, kx_aR, kx_ln, Nat.reduceAdd, Option.toList, List.cons_append, List.nil_append, cf0_1]
    repeat (simp only [hA, zq, show nI (d / 1440) - nI (d / 1440) / 366 * 366 = nI (d / 1440) from by rw [show (366 : Int32) = nI 366 from rfl, pk_rem (by omega) (by decide) (by decide), Nat.mod_eq_of_lt (by omega)], show nI (d / 1440) - nI (d / 1440) / 365 * 365 = nI (d / 1440) from by rw [show (365 : Int32) = nI 365 from rfl, pk_rem (by omega) (by decide) (by decide), Nat.mod_eq_of_lt (by omega)], ks_eq, ks_ss]; try dsimp only [kx_wp, kx_step, kx_lI, kx_lL, kx_lA, kx_gl, kx_pI, kx_pL, kx_pR, kx_pA, kx_pV, kx_s1, kx_s2, kx_sl, kx_pre, kx_c2, kx_pl, kx_cmp, kx_oF, kx_eqN, kx_nil, kx_c1, kx_ft, kx_aI, kx_aL, kx_aR, kx_ln, Nat.reduceAdd, Option.toList, List.cons_append, List.nil_append, cf0_1])
    all_goals (repeat' apply And.intro)
    all_goals ((try clear hB hC); first | exact True.intro | with_reducible rfl | with_reducible assumption | (with_reducible refine vp_in_nI ?_ ?_ <;> first | omega | decide) | exact Nat.le_of_ble_eq_true rfl | (with_reducible refine ck_nzI ?_; simp; done) | (with_reducible refine ck_nzL ?_; simp; done) | (simp only [pk_us, pk_uLs, ze8, ↓reduceIte, not_true_eq_false, not_false_eq_true]; done) | (simp only [ze8, ↓reduceIte, not_true_eq_false, not_false_eq_true]; with_reducible rfl) | skip)

def bX0_warmthIn_0 : List kx_O := [(.iload_n 1, 1, 0, 0, .null), (.bipush 60, 0, 0, 0, .int 60), (.idiv, 0, 0, 0, .null), (.istore_n 2, 2, 0, 0, .null), (.iload_n 2, 2, 0, 0, .null), (.ifCond .lt 29, 35, 0, 0, .null)]
theorem kX0_warmthIn_0 : kx_oks kxL_X0 false cX0_warmthIn 0 bX0_warmthIn_0 = true := by decide +kernel
def bX0_warmthIn_9 : List kx_O := [(.iload_n 2, 2, 0, 0, .null), (.aload_n 0, 0, 0, 0, .null), (.getfield 23, 0, 3, 0, .null), (.if_icmp .ge 21, 35, 0, 0, .null)]
theorem kX0_warmthIn_9 : kx_oks kxL_X0 false cX0_warmthIn 9 bX0_warmthIn_9 = true := by decide +kernel
def bX0_warmthIn_17 : List kx_O := [(.iload_n 2, 2, 0, 0, .null), (.aload_n 0, 0, 0, 0, .null), (.getfield 19, 0, 2, 0, .null), (.arraylength, 0, 0, 0, .null), (.if_icmp .ge 12, 35, 0, 0, .null)]
theorem kX0_warmthIn_17 : kx_oks kxL_X0 false cX0_warmthIn 17 bX0_warmthIn_17 = true := by decide +kernel
def bX0_warmthIn_26 : List kx_O := [(.aload_n 0, 0, 0, 0, .null), (.getfield 19, 0, 2, 0, .null), (.iload_n 2, 2, 0, 0, .null), (.iaload, 0, 0, 0, .null), (.goto 5, 37, 0, 0, .null)]
theorem kX0_warmthIn_26 : kx_oks kxL_X0 false cX0_warmthIn 26 bX0_warmthIn_26 = true := by decide +kernel
def bX0_warmthIn_35 : List kx_O := [(.bipush 15, 0, 0, 0, .int 15)]
theorem kX0_warmthIn_35 : kx_oks kxL_X0 false cX0_warmthIn 35 bX0_warmthIn_35 = true := by decide +kernel
def bX0_warmthIn_37 : List kx_O := [(.ireturn, 0, 0, 0, .null)]
theorem kX0_warmthIn_37 : kx_oks kxL_X0 false cX0_warmthIn 37 bX0_warmthIn_37 = true := by decide +kernel
set_option maxRecDepth 100000 in
set_option maxHeartbeats 4000000 in
theorem ct_X0_warmthIn (l : Launch) (G : kx_G) {P : kx_P} {sz : Nat} {F : Nat → Int32} (hA : P 65 = kO 0 (kf cr0 F)) {W : Nat → Int32} (hW : P 66 = kI 0 1700 W) {mi : Nat} (hmi : mi ≤ 100000)  : kx_M l G sX0_warmthIn 1 0 0 [.ref 65, .int (nI mi)] P sz (some (.int (if nI (mi / 60) < F 3 then W (mi / 60) else 15))) P sz := by
  have zq : nI mi / 60 = nI (mi / 60) := by rw [show (60 : Int32) = nI 60 from rfl, pk_div (by omega) (by decide) (by decide)]
  refine kx_mk kx_tab kxLok_X0 (ini := false) [some (.ref 65), some (.int (nI mi)), none] ⟨by decide, rfl, by decide, by decide⟩ (⟨_, rfl⟩) rfl rfl (fun g hB hC => ?_)
  refine hB bX0_warmthIn_0 _ _ _ _ _ _ _ kX0_warmthIn_0 ?_
  dsimp only [bX0_warmthIn_0, kx_wp, kx_step, kx_lI, kx_lL, kx_lA, kx_gl, kx_pI, kx_pL, kx_pR, kx_pA, kx_pV, kx_s1, kx_s2, kx_sl, kx_pre, kx_c2, kx_pl, kx_cmp, kx_oF, kx_eqN, kx_nil, kx_c1, kx_ft, kx_aI, kx_aL, kx_aR, kx_ln, Nat.reduceAdd, Option.toList, List.cons_append, List.nil_append, cf0_3, cf0_2]
  repeat (simp only [hA, hW, zq, nI_clamp (show mi / 60 < 2 ^ 31 by omega), ks_eq, ks_ss]; try dsimp only [kx_wp, kx_step, kx_lI, kx_lL, kx_lA, kx_gl, kx_pI, kx_pL, kx_pR, kx_pA, kx_pV, kx_s1, kx_s2, kx_sl, kx_pre, kx_c2, kx_pl, kx_cmp, kx_oF, kx_eqN, kx_nil, kx_c1, kx_ft, kx_aI, kx_aL, kx_aR, kx_ln, Nat.reduceAdd, Option.toList, List.cons_append, List.nil_append, cf0_3, cf0_2])
  repeat' apply And.intro
  all_goals try (first | with_reducible assumption | (with_reducible refine ck_nzI ?_; simp; done) | (with_reducible refine ck_nzL ?_; simp; done) | (with_reducible refine vp_in_nI ?_ ?_ <;> first | omega | decide) | (with_reducible refine Nat.le_of_ble_eq_true ?_; rfl) | omega)
  · intro zc6
    first | exact absurd rfl zc6 | exact absurd zc6 (by decide) | exact absurd (by decide) zc6 | (exfalso; first | exact absurd ((nI_ltI (a := mi / 60) (b := 0) (by omega) (by omega)).mp zc6) (by omega) | exact absurd ((nI_leI (a := 1700) (b := mi / 60) (by omega) (by omega)).mp zc23) (by omega)) | (exfalso; simp_all; done)
  · intro zc6
    with_reducible first | have ze6 := Int32.not_lt.mp zc6 | have ze6 := zc6
    refine hB bX0_warmthIn_9 _ _ _ _ _ _ _ kX0_warmthIn_9 ?_
    dsimp only [bX0_warmthIn_9, kx_wp, kx_step, kx_lI, kx_lL, kx_lA, kx_gl, kx_pI, kx_pL, kx_pR, kx_pA, kx_pV, kx_s1, kx_s2, kx_sl, kx_pre, kx_c2, kx_pl, kx_cmp, kx_oF, kx_eqN, kx_nil, kx_c1, kx_ft, kx_aI, kx_aL, kx_aR, kx_ln, Nat.reduceAdd, Option.toList, List.cons_append, List.nil_append, cf0_3, cf0_2]
    repeat (simp only [hA, hW, zq, nI_clamp (show mi / 60 < 2 ^ 31 by omega), ks_eq, ks_ss]; try dsimp only [kx_wp, kx_step, kx_lI, kx_lL, kx_lA, kx_gl, kx_pI, kx_pL, kx_pR, kx_pA, kx_pV, kx_s1, kx_s2, kx_sl, kx_pre, kx_c2, kx_pl, kx_cmp, kx_oF, kx_eqN, kx_nil, kx_c1, kx_ft, kx_aI, kx_aL, kx_aR, kx_ln, Nat.reduceAdd, Option.toList, List.cons_append, List.nil_append, cf0_3, cf0_2])
    repeat' apply And.intro
    all_goals try (first | with_reducible assumption | (with_reducible refine ck_nzI ?_; simp; done) | (with_reducible refine ck_nzL ?_; simp; done) | (with_reducible refine vp_in_nI ?_ ?_ <;> first | omega | decide) | (with_reducible refine Nat.le_of_ble_eq_true ?_; rfl) | omega)
    · intro zc14
      with_reducible first | have ze14 := Int32.not_lt.mpr zc14 | have ze14 := zc14
      refine hB bX0_warmthIn_35 _ _ _ _ _ _ _ kX0_warmthIn_35 ?_
      dsimp only [bX0_warmthIn_35, kx_wp, kx_step, kx_lI, kx_lL, kx_lA, kx_gl, kx_pI, kx_pL, kx_pR, kx_pA, kx_pV, kx_s1, kx_s2, kx_sl, kx_pre, kx_c2, kx_pl, kx_cmp, kx_oF, kx_eqN, kx_nil, kx_c1, kx_ft, kx_aI, kx_aL, kx_aR, kx_ln, Nat.reduceAdd, Option.toList, List.cons_append, List.nil_append, cf0_3, cf0_2]
      repeat (simp only [hA, hW, zq, nI_clamp (show mi / 60 < 2 ^ 31 by omega), ks_eq, ks_ss]; try dsimp only [kx_wp, kx_step, kx_lI, kx_lL, kx_lA, kx_gl, kx_pI, kx_pL, kx_pR, kx_pA, kx_pV, kx_s1, kx_s2, kx_sl, kx_pre, kx_c2, kx_pl, kx_cmp, kx_oF, kx_eqN, kx_nil, kx_c1, kx_ft, kx_aI, kx_aL, kx_aR, kx_ln, Nat.reduceAdd, Option.toList, List.cons_append, List.nil_append, cf0_3, cf0_2])
      repeat' apply And.intro
      all_goals try (first | with_reducible assumption | (with_reducible refine ck_nzI ?_; simp; done) | (with_reducible refine ck_nzL ?_; simp; done) | (with_reducible refine vp_in_nI ?_ ?_ <;> first | omega | decide) | (with_reducible refine Nat.le_of_ble_eq_true ?_; rfl) | omega)
      refine hB bX0_warmthIn_37 _ _ _ _ _ _ _ kX0_warmthIn_37 ?_
      dsimp only [bX0_warmthIn_37, kx_wp, kx_step, kx_lI, kx_lL, kx_lA, kx_gl, kx_pI, kx_pL, kx_pR, kx_pA, kx_pV, kx_s1, kx_s2, kx_sl, kx_pre, kx_c2, kx_pl, kx_cmp, kx_oF, kx_eqN, kx_nil, kx_c1, kx_ft, kx_aI, kx_aL, kx_aR, kx_ln, Nat.reduceAdd, Option.toList, List.cons_append, List.nil_append, cf0_3, cf0_2]
      repeat (simp only [hA, hW, zq, nI_clamp (show mi / 60 < 2 ^ 31 by omega), ks_eq, ks_ss]; try dsimp only [kx_wp, kx_step, kx_lI, kx_lL, kx_lA, kx_gl, kx_pI, kx_pL, kx_pR, kx_pA, kx_pV, kx_s1, kx_s2, kx_sl, kx_pre, kx_c2, kx_pl, kx_cmp, kx_oF, kx_eqN, kx_nil, kx_c1, kx_ft, kx_aI, kx_aL, kx_aR, kx_ln, Nat.reduceAdd, Option.toList, List.cons_append, List.nil_append, cf0_3, cf0_2])
      all_goals (repeat' apply And.intro)
      all_goals ((try clear hB hC); first | exact True.intro | with_reducible rfl | with_reducible assumption | (with_reducible refine vp_in_nI ?_ ?_ <;> first | omega | decide) | exact Nat.le_of_ble_eq_true rfl | (with_reducible refine ck_nzI ?_; simp; done) | (with_reducible refine ck_nzL ?_; simp; done) | (simp only [pk_us, pk_uLs, zc6, ze6, zc14, ze14, ↓reduceIte, not_true_eq_false, not_false_eq_true]; done) | (simp only [zc6, ze6, zc14, ze14, ↓reduceIte, not_true_eq_false, not_false_eq_true]; with_reducible rfl) | skip)
    · intro zc14
      with_reducible first | have ze14 := Int32.not_le.mp zc14 | have ze14 := zc14
      refine hB bX0_warmthIn_17 _ _ _ _ _ _ _ kX0_warmthIn_17 ?_
      dsimp only [bX0_warmthIn_17, kx_wp, kx_step, kx_lI, kx_lL, kx_lA, kx_gl, kx_pI, kx_pL, kx_pR, kx_pA, kx_pV, kx_s1, kx_s2, kx_sl, kx_pre, kx_c2, kx_pl, kx_cmp, kx_oF, kx_eqN, kx_nil, kx_c1, kx_ft, kx_aI, kx_aL, kx_aR, kx_ln, Nat.reduceAdd, Option.toList, List.cons_append, List.nil_append, cf0_3, cf0_2]
      repeat (simp only [hA, hW, zq, nI_clamp (show mi / 60 < 2 ^ 31 by omega), ks_eq, ks_ss]; try dsimp only [kx_wp, kx_step, kx_lI, kx_lL, kx_lA, kx_gl, kx_pI, kx_pL, kx_pR, kx_pA, kx_pV, kx_s1, kx_s2, kx_sl, kx_pre, kx_c2, kx_pl, kx_cmp, kx_oF, kx_eqN, kx_nil, kx_c1, kx_ft, kx_aI, kx_aL, kx_aR, kx_ln, Nat.reduceAdd, Option.toList, List.cons_append, List.nil_append, cf0_3, cf0_2])
      repeat' apply And.intro
      all_goals try (first | with_reducible assumption | (with_reducible refine ck_nzI ?_; simp; done) | (with_reducible refine ck_nzL ?_; simp; done) | (with_reducible refine vp_in_nI ?_ ?_ <;> first | omega | decide) | (with_reducible refine Nat.le_of_ble_eq_true ?_; rfl) | omega)
      · intro zc23
        first | exact absurd rfl zc23 | exact absurd zc23 (by decide) | exact absurd (by decide) zc23 | (exfalso; first | exact absurd ((nI_ltI (a := mi / 60) (b := 0) (by omega) (by omega)).mp zc6) (by omega) | exact absurd ((nI_leI (a := 1700) (b := mi / 60) (by omega) (by omega)).mp zc23) (by omega)) | (exfalso; simp_all; done)
      · intro zc23
        with_reducible first | have ze23 := Int32.not_le.mp zc23 | have ze23 := zc23
        refine hB bX0_warmthIn_26 _ _ _ _ _ _ _ kX0_warmthIn_26 ?_
        dsimp only [bX0_warmthIn_26, kx_wp, kx_step, kx_lI, kx_lL, kx_lA, kx_gl, kx_pI, kx_pL, kx_pR, kx_pA, kx_pV, kx_s1, kx_s2, kx_sl, kx_pre, kx_c2, kx_pl, kx_cmp, kx_oF, kx_eqN, kx_nil, kx_c1, kx_ft, kx_aI, kx_aL, kx_aR, kx_ln, Nat.reduceAdd, Option.toList, List.cons_append, List.nil_append, cf0_3, cf0_2]
        repeat (simp only [hA, hW, zq, nI_clamp (show mi / 60 < 2 ^ 31 by omega), ks_eq, ks_ss]; try dsimp only [kx_wp, kx_step, kx_lI, kx_lL, kx_lA, kx_gl, kx_pI, kx_pL, kx_pR, kx_pA, kx_pV, kx_s1, kx_s2, kx_sl, kx_pre, kx_c2, kx_pl, kx_cmp, kx_oF, kx_eqN, kx_nil, kx_c1, kx_ft, kx_aI, kx_aL, kx_aR, kx_ln, Nat.reduceAdd, Option.toList, List.cons_append, List.nil_append, cf0_3, cf0_2])
        repeat' apply And.intro
        all_goals try (first | with_reducible assumption | (with_reducible refine ck_nzI ?_; simp; done) | (with_reducible refine ck_nzL ?_; simp; done) | (with_reducible refine vp_in_nI ?_ ?_ <;> first | omega | decide) | (with_reducible refine Nat.le_of_ble_eq_true ?_; rfl) | omega)
        refine hB bX0_warmthIn_37 _ _ _ _ _ _ _ kX0_warmthIn_37 ?_
        dsimp only [bX0_warmthIn_37, kx_wp, kx_step, kx_lI, kx_lL, kx_lA, kx_gl, kx_pI, kx_pL, kx_pR, kx_pA, kx_pV, kx_s1, kx_s2, kx_sl, kx_pre, kx_c2, kx_pl, kx_cmp, kx_oF, kx_eqN, kx_nil, kx_c1, kx_ft, kx_aI, kx_aL, kx_aR, kx_ln, Nat.reduceAdd, Option.toList, List.cons_append, List.nil_append, cf0_3, cf0_2]
        repeat (simp only [hA, hW, zq, nI_clamp (show mi / 60 < 2 ^ 31 by omega), ks_eq, ks_ss]; try dsimp only [kx_wp, kx_step, kx_lI, kx_lL, kx_lA, kx_gl, kx_pI, kx_pL, kx_pR, kx_pA, kx_pV, kx_s1, kx_s2, kx_sl, kx_pre, kx_c2, kx_pl, kx_cmp, kx_oF, kx_eqN, kx_nil, kx_c1, kx_ft, kx_aI, kx_aL, kx_aR, kx_ln, Nat.reduceAdd, Option.toList, List.cons_append, List.nil_append, cf0_3, cf0_2])
        all_goals (repeat' apply And.intro)
        all_goals ((try clear hB hC); first | exact True.intro | with_reducible rfl | with_reducible assumption | (with_reducible refine vp_in_nI ?_ ?_ <;> first | omega | decide) | exact Nat.le_of_ble_eq_true rfl | (with_reducible refine ck_nzI ?_; simp; done) | (with_reducible refine ck_nzL ?_; simp; done) | (simp only [pk_us, pk_uLs, zc6, ze6, zc14, ze14, zc23, ze23, ↓reduceIte, not_true_eq_false, not_false_eq_true]; done) | (simp only [zc6, ze6, zc14, ze14, zc23, ze23, ↓reduceIte, not_true_eq_false, not_false_eq_true]; with_reducible rfl) | skip)

def bX0_tellWarmth_0 : List kx_O := [(.aload_n 0, 0, 0, 0, .null), (.getfield 23, 0, 3, 0, .null), (.aload_n 0, 0, 0, 0, .null), (.getfield 19, 0, 2, 0, .null), (.arraylength, 0, 0, 0, .null), (.if_icmp .lt 5, 14, 0, 0, .null)]
theorem kX0_tellWarmth_0 : kx_oks kxL_X0 false cX0_tellWarmth 0 bX0_tellWarmth_0 = true := by decide +kernel
def bX0_tellWarmth_12 : List kx_O := [(.iconst (-1), 0, 0, 0, .int (-1)), (.ireturn, 0, 0, 0, .null)]
theorem kX0_tellWarmth_12 : kx_oks kxL_X0 false cX0_tellWarmth 12 bX0_tellWarmth_12 = true := by decide +kernel
def bX0_tellWarmth_14 : List kx_O := [(.aload_n 0, 0, 0, 0, .null), (.getfield 19, 0, 2, 0, .null), (.aload_n 0, 0, 0, 0, .null), (.getfield 23, 0, 3, 0, .null), (.iload_n 1, 1, 0, 0, .null), (.iastore, 0, 0, 0, .null), (.aload_n 0, 0, 0, 0, .null), (.dup, 0, 0, 0, .null), (.getfield 23, 0, 3, 0, .null), (.iconst 1, 0, 0, 0, .int 1), (.iadd, 0, 0, 0, .null), (.putfield 23, 0, 3, 0, .null), (.aload_n 0, 0, 0, 0, .null), (.getfield 23, 0, 3, 0, .null), (.ireturn, 0, 0, 0, .null)]
theorem kX0_tellWarmth_14 : kx_oks kxL_X0 false cX0_tellWarmth 14 bX0_tellWarmth_14 = true := by decide +kernel
set_option maxRecDepth 100000 in
set_option maxHeartbeats 4000000 in
theorem ct_X0_tellWarmth_n (l : Launch) (G : kx_G) {P : kx_P} {sz : Nat} {F : Nat → Int32} (hA : P 65 = kO 0 (kf cr0 F)) {W : Nat → Int32} (hW : P 66 = kI 0 1700 W) {t : Int32} (h3 : F 3 = 1700)  : kx_M l G sX0_tellWarmth 1 0 0 [.ref 65, .int (t)] P sz (some (.int (-1))) P sz := by
  refine kx_mk kx_tab kxLok_X0 (ini := false) [some (.ref 65), some (.int (t))] ⟨by decide, rfl, by decide, by decide⟩ (⟨_, rfl⟩) rfl rfl (fun g hB hC => ?_)
  refine hB bX0_tellWarmth_0 _ _ _ _ _ _ _ kX0_tellWarmth_0 ?_
  dsimp only [bX0_tellWarmth_0, kx_wp, kx_step, kx_lI, kx_lL, kx_lA, kx_gl, kx_pI, kx_pL, kx_pR, kx_pA, kx_pV, kx_s1, kx_s2, kx_sl, kx_pre, kx_c2, kx_pl, kx_cmp, kx_oF, kx_eqN, kx_nil, kx_c1, kx_ft, kx_aI, kx_aL, kx_aR, kx_ln, Nat.reduceAdd, Option.toList, List.cons_append, List.nil_append, cf0_3, cf0_2]
  repeat (simp only [hA, hW, h3, cp0_3, ks_eq, ks_ss]; try dsimp only [kx_wp, kx_step, kx_lI, kx_lL, kx_lA, kx_gl, kx_pI, kx_pL, kx_pR, kx_pA, kx_pV, kx_s1, kx_s2, kx_sl, kx_pre, kx_c2, kx_pl, kx_cmp, kx_oF, kx_eqN, kx_nil, kx_c1, kx_ft, kx_aI, kx_aL, kx_aR, kx_ln, Nat.reduceAdd, Option.toList, List.cons_append, List.nil_append, cf0_3, cf0_2])
  repeat' apply And.intro
  all_goals try (first | with_reducible assumption | (with_reducible refine ck_nzI ?_; simp; done) | (with_reducible refine ck_nzL ?_; simp; done) | (with_reducible refine vp_in_nI ?_ ?_ <;> first | omega | decide) | (with_reducible refine Nat.le_of_ble_eq_true ?_; rfl) | omega)
  · intro zc9
    first | exact absurd rfl zc9 | exact absurd zc9 (by decide) | exact absurd (by decide) zc9 | (exfalso; first | exact absurd ((nI_ltI (a := 1700) (b := 1700) (by omega) (by omega)).mp zc9) (by omega)) | (exfalso; simp_all; done)
  · intro zc9
    with_reducible first | have ze9 := Int32.not_lt.mp zc9 | have ze9 := zc9
    refine hB bX0_tellWarmth_12 _ _ _ _ _ _ _ kX0_tellWarmth_12 ?_
    dsimp only [bX0_tellWarmth_12, kx_wp, kx_step, kx_lI, kx_lL, kx_lA, kx_gl, kx_pI, kx_pL, kx_pR, kx_pA, kx_pV, kx_s1, kx_s2, kx_sl, kx_pre, kx_c2, kx_pl, kx_cmp, kx_oF, kx_eqN, kx_nil, kx_c1, kx_ft, kx_aI, kx_aL, kx_aR, kx_ln, Nat.reduceAdd, Option.toList, List.cons_append, List.nil_append, cf0_3, cf0_2]
    repeat (simp only [hA, hW, h3, cp0_3, ks_eq, ks_ss]; try dsimp only [kx_wp, kx_step, kx_lI, kx_lL, kx_lA, kx_gl, kx_pI, kx_pL, kx_pR, kx_pA, kx_pV, kx_s1, kx_s2, kx_sl, kx_pre, kx_c2, kx_pl, kx_cmp, kx_oF, kx_eqN, kx_nil, kx_c1, kx_ft, kx_aI, kx_aL, kx_aR, kx_ln, Nat.reduceAdd, Option.toList, List.cons_append, List.nil_append, cf0_3, cf0_2])
    all_goals (repeat' apply And.intro)
    all_goals ((try clear hB hC); first | exact True.intro | with_reducible rfl | with_reducible assumption | (with_reducible refine vp_in_nI ?_ ?_ <;> first | omega | decide) | exact Nat.le_of_ble_eq_true rfl | (with_reducible refine ck_nzI ?_; simp; done) | (with_reducible refine ck_nzL ?_; simp; done) | (simp only [pk_us, pk_uLs, zc9, ze9, ↓reduceIte, not_true_eq_false, not_false_eq_true]; done) | (simp only [zc9, ze9, ↓reduceIte, not_true_eq_false, not_false_eq_true]; with_reducible rfl) | skip)

set_option maxRecDepth 100000 in
set_option maxHeartbeats 4000000 in
theorem ct_X0_tellWarmth_t (l : Launch) (G : kx_G) {P : kx_P} {sz : Nat} {F : Nat → Int32} (hA : P 65 = kO 0 (kf cr0 F)) {W : Nat → Int32} (hW : P 66 = kI 0 1700 W) {t : Int32} {k : Nat} (h3 : F 3 = nI k) (hk : k < 1700)  : kx_M l G sX0_tellWarmth 1 0 0 [.ref 65, .int (t)] P sz (some (.int (nI (k + 1)))) (kx_set (kx_set P 66 (kI 0 1700 (upd W k t))) 65 (kO 0 (kf cr0 (upd F 3 (nI (k + 1)))))) sz := by
  refine kx_mk kx_tab kxLok_X0 (ini := false) [some (.ref 65), some (.int (t))] ⟨by decide, rfl, by decide, by decide⟩ (⟨_, rfl⟩) rfl rfl (fun g hB hC => ?_)
  refine hB bX0_tellWarmth_0 _ _ _ _ _ _ _ kX0_tellWarmth_0 ?_
  dsimp only [bX0_tellWarmth_0, kx_wp, kx_step, kx_lI, kx_lL, kx_lA, kx_gl, kx_pI, kx_pL, kx_pR, kx_pA, kx_pV, kx_s1, kx_s2, kx_sl, kx_pre, kx_c2, kx_pl, kx_cmp, kx_oF, kx_eqN, kx_nil, kx_c1, kx_ft, kx_aI, kx_aL, kx_aR, kx_ln, Nat.reduceAdd, Option.toList, List.cons_append, List.nil_append, cf0_3, cf0_2]
  repeat (simp only [hA, hW, h3, nI_1, pk_us, nI_clamp (show k < 2 ^ 31 by omega), ks_ne (show ¬ (65 : Nat) = 66 by decide), ks_ne (show ¬ (66 : Nat) = 65 by decide), cp0_3, ks_eq, ks_ss]; try dsimp only [kx_wp, kx_step, kx_lI, kx_lL, kx_lA, kx_gl, kx_pI, kx_pL, kx_pR, kx_pA, kx_pV, kx_s1, kx_s2, kx_sl, kx_pre, kx_c2, kx_pl, kx_cmp, kx_oF, kx_eqN, kx_nil, kx_c1, kx_ft, kx_aI, kx_aL, kx_aR, kx_ln, Nat.reduceAdd, Option.toList, List.cons_append, List.nil_append, cf0_3, cf0_2])
  repeat' apply And.intro
  all_goals try (first | with_reducible assumption | (with_reducible refine ck_nzI ?_; simp; done) | (with_reducible refine ck_nzL ?_; simp; done) | (with_reducible refine vp_in_nI ?_ ?_ <;> first | omega | decide) | (with_reducible refine Nat.le_of_ble_eq_true ?_; rfl) | omega)
  · intro zc9
    with_reducible first | have ze9 := Int32.not_le.mpr zc9 | have ze9 := zc9
    refine hB bX0_tellWarmth_14 _ _ _ _ _ _ _ kX0_tellWarmth_14 ?_
    dsimp only [bX0_tellWarmth_14, kx_wp, kx_step, kx_lI, kx_lL, kx_lA, kx_gl, kx_pI, kx_pL, kx_pR, kx_pA, kx_pV, kx_s1, kx_s2, kx_sl, kx_pre, kx_c2, kx_pl, kx_cmp, kx_oF, kx_eqN, kx_nil, kx_c1, kx_ft, kx_aI, kx_aL, kx_aR, kx_ln, Nat.reduceAdd, Option.toList, List.cons_append, List.nil_append, cf0_3, cf0_2]
    repeat (simp only [hA, hW, h3, nI_1, pk_us, nI_clamp (show k < 2 ^ 31 by omega), ks_ne (show ¬ (65 : Nat) = 66 by decide), ks_ne (show ¬ (66 : Nat) = 65 by decide), cp0_3, ks_eq, ks_ss]; try dsimp only [kx_wp, kx_step, kx_lI, kx_lL, kx_lA, kx_gl, kx_pI, kx_pL, kx_pR, kx_pA, kx_pV, kx_s1, kx_s2, kx_sl, kx_pre, kx_c2, kx_pl, kx_cmp, kx_oF, kx_eqN, kx_nil, kx_c1, kx_ft, kx_aI, kx_aL, kx_aR, kx_ln, Nat.reduceAdd, Option.toList, List.cons_append, List.nil_append, cf0_3, cf0_2])
    all_goals (repeat' apply And.intro)
    all_goals ((try clear hB hC); first | exact True.intro | with_reducible rfl | with_reducible assumption | (with_reducible refine vp_in_nI ?_ ?_ <;> first | omega | decide) | exact Nat.le_of_ble_eq_true rfl | (with_reducible refine ck_nzI ?_; simp; done) | (with_reducible refine ck_nzL ?_; simp; done) | (simp only [pk_us, pk_uLs, zc9, ze9, ↓reduceIte, not_true_eq_false, not_false_eq_true]; done) | (simp only [zc9, ze9, ↓reduceIte, not_true_eq_false, not_false_eq_true]; with_reducible rfl) | skip)
  · intro zc9
    first | exact absurd rfl zc9 | exact absurd zc9 (by decide) | exact absurd (by decide) zc9 | (exfalso; first | exact absurd ((nI_ltI (a := k) (b := 1700) (by omega) (by omega)).mpr (by omega)) zc9) | (exfalso; simp_all; done)

def bX0_trueMonth_0 : List kx_O := [(.aload_n 0, 0, 0, 0, .null)]
theorem kX0_trueMonth_0 : kx_oks kxL_X0 false cX0_trueMonth 0 bX0_trueMonth_0 = true := by decide +kernel
def bX0_trueMonth_4 : List kx_O := [(.istore_n 1, 1, 0, 0, .null), (.iconst 1, 0, 0, 0, .int 1), (.istore_n 2, 2, 0, 0, .null)]
theorem kX0_trueMonth_4 : kx_oks kxL_X0 false cX0_trueMonth 4 bX0_trueMonth_4 = true := by decide +kernel
def bX0_trueMonth_7 : List kx_O := [(.iload_n 2, 2, 0, 0, .null), (.bipush 12, 0, 0, 0, .int 12), (.if_icmp .ge 32, 42, 0, 0, .null)]
theorem kX0_trueMonth_7 : kx_oks kxL_X0 false cX0_trueMonth 7 bX0_trueMonth_7 = true := by decide +kernel
def bX0_trueMonth_13 : List kx_O := [(.iload_n 1, 1, 0, 0, .null), (.iload_n 2, 2, 0, 0, .null), (.aload_n 0, 0, 0, 0, .null), (.getfield 15, 0, 1, 0, .null)]
theorem kX0_trueMonth_13 : kx_oks kxL_X0 false cX0_trueMonth 13 bX0_trueMonth_13 = true := by decide +kernel
def bX0_trueMonth_22 : List kx_O := [(.if_icmp .lt 20, 42, 0, 0, .null)]
theorem kX0_trueMonth_22 : kx_oks kxL_X0 false cX0_trueMonth 22 bX0_trueMonth_22 = true := by decide +kernel
def bX0_trueMonth_25 : List kx_O := [(.iload_n 1, 1, 0, 0, .null), (.iload_n 2, 2, 0, 0, .null), (.aload_n 0, 0, 0, 0, .null), (.getfield 15, 0, 1, 0, .null)]
theorem kX0_trueMonth_25 : kx_oks kxL_X0 false cX0_trueMonth 25 bX0_trueMonth_25 = true := by decide +kernel
def bX0_trueMonth_34 : List kx_O := [(.isub, 0, 0, 0, .null), (.istore_n 1, 1, 0, 0, .null), (.iinc 2 1, 2, 0, 0, .int 1), (.goto (-32), 7, 0, 0, .null)]
theorem kX0_trueMonth_34 : kx_oks kxL_X0 false cX0_trueMonth 34 bX0_trueMonth_34 = true := by decide +kernel
def bX0_trueMonth_42 : List kx_O := [(.iload_n 2, 2, 0, 0, .null), (.ireturn, 0, 0, 0, .null)]
theorem kX0_trueMonth_42 : kx_oks kxL_X0 false cX0_trueMonth 42 bX0_trueMonth_42 = true := by decide +kernel
theorem dX0_trueMonth_1 : decode cX0_trueMonth 1 = .ok (.invokevirtual 33, 3) := by decide +kernel
theorem dX0_trueMonth_19 : decode cX0_trueMonth 19 = .ok (.invokestatic 36, 3) := by decide +kernel
theorem dX0_trueMonth_31 : decode cX0_trueMonth 31 = .ok (.invokestatic 36, 3) := by decide +kernel
set_option maxRecDepth 100000 in
set_option maxHeartbeats 4000000 in
theorem ct_X0_trueMonth (l : Launch) (G : kx_G) {P : kx_P} {sz : Nat} {F : Nat → Int32} (hA : P 65 = kO 0 (kf cr0 F)) (hM : P 1 = kI 5 12 cj_md) {d : Nat} (h1 : F 0 = nI d) (hd : d ≤ 100000)  : kx_M l G sX0_trueMonth 3 0 0 [.ref 65] P sz (some (.int (nI (ck_mo (d / 1440) (ck_feb (F 1)))))) P sz := by
  have hf := ck_feb_le (F 1)
  refine kx_mk kx_tab kxLok_X0 (ini := false) [some (.ref 65), none, none] ⟨by decide, rfl, by decide, by decide⟩ (⟨_, rfl⟩) rfl rfl (fun g hB hC => ?_)
  have loop3 : ∀ e : Nat, 31 + ck_feb (F 1) + e = d / 1440 → g 7 [some (.ref 65), some (.int (nI e)), some (.int (3))] [] P sz 0 0 := by
    intro e he
    have zr : ck_mo (d / 1440) (ck_feb (F 1)) = 3 := by simp only [ck_mo, ck_da, if_neg (show ¬ d / 1440 < 31 by omega), if_neg (show ¬ d / 1440 < 31 + ck_feb (F 1) by omega)] <;> omega
    refine hB bX0_trueMonth_7 _ _ _ _ _ _ _ kX0_trueMonth_7 ?_
    dsimp only [bX0_trueMonth_7, kx_wp, kx_step, kx_lI, kx_lL, kx_lA, kx_gl, kx_pI, kx_pL, kx_pR, kx_pA, kx_pV, kx_s1, kx_s2, kx_sl, kx_pre, kx_c2, kx_pl, kx_cmp, kx_oF, kx_eqN, kx_nil, kx_c1, kx_ft, kx_aI, kx_aL, kx_aR, kx_ln, Nat.reduceAdd, Option.toList, List.cons_append, List.nil_append, cf0_1]
    repeat (simp only [hA, nI_1, ks_eq, ks_ss, show ck_last (nI 3) (F 1) = nI (31) from ck_last3 (F 1), zr]; try dsimp only [kx_wp, kx_step, kx_lI, kx_lL, kx_lA, kx_gl, kx_pI, kx_pL, kx_pR, kx_pA, kx_pV, kx_s1, kx_s2, kx_sl, kx_pre, kx_c2, kx_pl, kx_cmp, kx_oF, kx_eqN, kx_nil, kx_c1, kx_ft, kx_aI, kx_aL, kx_aR, kx_ln, Nat.reduceAdd, Option.toList, List.cons_append, List.nil_append, cf0_1])
    repeat' apply And.intro
    all_goals try (first | with_reducible assumption | (with_reducible refine ck_nzI ?_; simp; done) | (with_reducible refine ck_nzL ?_; simp; done) | (with_reducible refine vp_in_nI ?_ ?_ <;> first | omega | decide) | (with_reducible refine Nat.le_of_ble_eq_true ?_; rfl) | omega)
    · intro zc10
      first | exact absurd rfl zc10 | exact absurd zc10 (by decide) | exact absurd (by decide) zc10 | (exfalso; first | exact absurd ((nI_leI (a := 12) (b := 3) (by omega) (by omega)).mp zc10) (by omega) | exact absurd ((nI_ltI (a := e) (b := 31) (by omega) (by omega)).mp zc22) (by omega) | exact absurd ((nI_ltI (a := e) (b := 31) (by omega) (by omega)).mpr (by omega)) zc22) | (exfalso; simp_all; done)
    · intro zc10
      with_reducible first | have ze10 := Int32.not_le.mp zc10 | have ze10 := zc10
      refine hB bX0_trueMonth_13 _ _ _ _ _ _ _ kX0_trueMonth_13 ?_
      dsimp only [bX0_trueMonth_13, kx_wp, kx_step, kx_lI, kx_lL, kx_lA, kx_gl, kx_pI, kx_pL, kx_pR, kx_pA, kx_pV, kx_s1, kx_s2, kx_sl, kx_pre, kx_c2, kx_pl, kx_cmp, kx_oF, kx_eqN, kx_nil, kx_c1, kx_ft, kx_aI, kx_aL, kx_aR, kx_ln, Nat.reduceAdd, Option.toList, List.cons_append, List.nil_append, cf0_1]
      repeat (simp only [hA, nI_1, ks_eq, ks_ss, show ck_last (nI 3) (F 1) = nI (31) from ck_last3 (F 1), zr]; try dsimp only [kx_wp, kx_step, kx_lI, kx_lL, kx_lA, kx_gl, kx_pI, kx_pL, kx_pR, kx_pA, kx_pV, kx_s1, kx_s2, kx_sl, kx_pre, kx_c2, kx_pl, kx_cmp, kx_oF, kx_eqN, kx_nil, kx_c1, kx_ft, kx_aI, kx_aL, kx_aR, kx_ln, Nat.reduceAdd, Option.toList, List.cons_append, List.nil_append, cf0_1])
      repeat' apply And.intro
      all_goals try (first | with_reducible assumption | (with_reducible refine ck_nzI ?_; simp; done) | (with_reducible refine ck_nzL ?_; simp; done) | (with_reducible refine vp_in_nI ?_ ?_ <;> first | omega | decide) | (with_reducible refine Nat.le_of_ble_eq_true ?_; rfl) | omega)
      refine hC.2.1 36 _ _ _ _ _ _ _ _ _ _ _ _ _ _ _ _ _ lX0_36 (ct_X0_daysOf_t l G hM (k := 3) (by decide)) rfl rfl (Nat.le_of_ble_eq_true rfl) (by decide) (by decide) (by omega) (by omega) dX0_trueMonth_19 ?_
      refine hB bX0_trueMonth_22 _ _ _ _ _ _ _ kX0_trueMonth_22 ?_
      dsimp only [bX0_trueMonth_22, kx_wp, kx_step, kx_lI, kx_lL, kx_lA, kx_gl, kx_pI, kx_pL, kx_pR, kx_pA, kx_pV, kx_s1, kx_s2, kx_sl, kx_pre, kx_c2, kx_pl, kx_cmp, kx_oF, kx_eqN, kx_nil, kx_c1, kx_ft, kx_aI, kx_aL, kx_aR, kx_ln, Nat.reduceAdd, Option.toList, List.cons_append, List.nil_append, cf0_1]
      repeat (simp only [hA, nI_1, ks_eq, ks_ss, show ck_last (nI 3) (F 1) = nI (31) from ck_last3 (F 1), zr]; try dsimp only [kx_wp, kx_step, kx_lI, kx_lL, kx_lA, kx_gl, kx_pI, kx_pL, kx_pR, kx_pA, kx_pV, kx_s1, kx_s2, kx_sl, kx_pre, kx_c2, kx_pl, kx_cmp, kx_oF, kx_eqN, kx_nil, kx_c1, kx_ft, kx_aI, kx_aL, kx_aR, kx_ln, Nat.reduceAdd, Option.toList, List.cons_append, List.nil_append, cf0_1])
      repeat' apply And.intro
      all_goals try (first | with_reducible assumption | (with_reducible refine ck_nzI ?_; simp; done) | (with_reducible refine ck_nzL ?_; simp; done) | (with_reducible refine vp_in_nI ?_ ?_ <;> first | omega | decide) | (with_reducible refine Nat.le_of_ble_eq_true ?_; rfl) | omega)
      · intro zc22
        with_reducible first | have ze22 := Int32.not_le.mpr zc22 | have ze22 := zc22
        refine hB bX0_trueMonth_42 _ _ _ _ _ _ _ kX0_trueMonth_42 ?_
        dsimp only [bX0_trueMonth_42, kx_wp, kx_step, kx_lI, kx_lL, kx_lA, kx_gl, kx_pI, kx_pL, kx_pR, kx_pA, kx_pV, kx_s1, kx_s2, kx_sl, kx_pre, kx_c2, kx_pl, kx_cmp, kx_oF, kx_eqN, kx_nil, kx_c1, kx_ft, kx_aI, kx_aL, kx_aR, kx_ln, Nat.reduceAdd, Option.toList, List.cons_append, List.nil_append, cf0_1]
        repeat (simp only [hA, nI_1, ks_eq, ks_ss, show ck_last (nI 3) (F 1) = nI (31) from ck_last3 (F 1), zr]; try dsimp only [kx_wp, kx_step, kx_lI, kx_lL, kx_lA, kx_gl, kx_pI, kx_pL, kx_pR, kx_pA, kx_pV, kx_s1, kx_s2, kx_sl, kx_pre, kx_c2, kx_pl, kx_cmp, kx_oF, kx_eqN, kx_nil, kx_c1, kx_ft, kx_aI, kx_aL, kx_aR, kx_ln, Nat.reduceAdd, Option.toList, List.cons_append, List.nil_append, cf0_1])
        all_goals (repeat' apply And.intro)
        all_goals ((try clear hB hC); first | exact True.intro | rfl | first | exact True.intro | with_reducible rfl | with_reducible assumption | (with_reducible refine vp_in_nI ?_ ?_ <;> first | omega | decide) | exact Nat.le_of_ble_eq_true rfl | (with_reducible refine ck_nzI ?_; simp; done) | (with_reducible refine ck_nzL ?_; simp; done) | (simp only [pk_us, pk_uLs, zc10, ze10, zc22, ze22, ↓reduceIte, not_true_eq_false, not_false_eq_true]; done) | (simp only [zc10, ze10, zc22, ze22, ↓reduceIte, not_true_eq_false, not_false_eq_true]; with_reducible rfl) | skip)
      · intro zc22
        first | exact absurd rfl zc22 | exact absurd zc22 (by decide) | exact absurd (by decide) zc22 | (exfalso; first | exact absurd ((nI_leI (a := 12) (b := 3) (by omega) (by omega)).mp zc10) (by omega) | exact absurd ((nI_ltI (a := e) (b := 31) (by omega) (by omega)).mp zc22) (by omega) | exact absurd ((nI_ltI (a := e) (b := 31) (by omega) (by omega)).mpr (by omega)) zc22) | (exfalso; simp_all; done)
  have loop2 : ∀ e : Nat, 31 + e = d / 1440 → g 7 [some (.ref 65), some (.int (nI e)), some (.int (2))] [] P sz 0 0 := by
    intro e he
    by_cases hlt : e < ck_feb (F 1)
    · have zr : ck_mo (d / 1440) (ck_feb (F 1)) = 2 := by simp only [ck_mo, ck_da, if_neg (show ¬ d / 1440 < 31 by omega), if_pos (show d / 1440 < 31 + ck_feb (F 1) by omega)] <;> omega
      refine hB bX0_trueMonth_7 _ _ _ _ _ _ _ kX0_trueMonth_7 ?_
      dsimp only [bX0_trueMonth_7, kx_wp, kx_step, kx_lI, kx_lL, kx_lA, kx_gl, kx_pI, kx_pL, kx_pR, kx_pA, kx_pV, kx_s1, kx_s2, kx_sl, kx_pre, kx_c2, kx_pl, kx_cmp, kx_oF, kx_eqN, kx_nil, kx_c1, kx_ft, kx_aI, kx_aL, kx_aR, kx_ln, Nat.reduceAdd, Option.toList, List.cons_append, List.nil_append, cf0_1]
      repeat (simp only [hA, nI_1, ks_eq, ks_ss, show ck_last (nI 2) (F 1) = nI (ck_feb (F 1)) from ck_last2 (F 1), zr]; try dsimp only [kx_wp, kx_step, kx_lI, kx_lL, kx_lA, kx_gl, kx_pI, kx_pL, kx_pR, kx_pA, kx_pV, kx_s1, kx_s2, kx_sl, kx_pre, kx_c2, kx_pl, kx_cmp, kx_oF, kx_eqN, kx_nil, kx_c1, kx_ft, kx_aI, kx_aL, kx_aR, kx_ln, Nat.reduceAdd, Option.toList, List.cons_append, List.nil_append, cf0_1])
      repeat' apply And.intro
      all_goals try (first | with_reducible assumption | (with_reducible refine ck_nzI ?_; simp; done) | (with_reducible refine ck_nzL ?_; simp; done) | (with_reducible refine vp_in_nI ?_ ?_ <;> first | omega | decide) | (with_reducible refine Nat.le_of_ble_eq_true ?_; rfl) | omega)
      · intro zc10
        first | exact absurd rfl zc10 | exact absurd zc10 (by decide) | exact absurd (by decide) zc10 | (exfalso; first | exact absurd ((nI_leI (a := 12) (b := 2) (by omega) (by omega)).mp zc10) (by omega) | exact absurd ((nI_ltI (a := e) (b := ck_feb (F 1)) (by omega) (by omega)).mp zc22) (by omega) | exact absurd ((nI_ltI (a := e) (b := ck_feb (F 1)) (by omega) (by omega)).mpr (by omega)) zc22) | (exfalso; simp_all; done)
      · intro zc10
        with_reducible first | have ze10 := Int32.not_le.mp zc10 | have ze10 := zc10
        refine hB bX0_trueMonth_13 _ _ _ _ _ _ _ kX0_trueMonth_13 ?_
        dsimp only [bX0_trueMonth_13, kx_wp, kx_step, kx_lI, kx_lL, kx_lA, kx_gl, kx_pI, kx_pL, kx_pR, kx_pA, kx_pV, kx_s1, kx_s2, kx_sl, kx_pre, kx_c2, kx_pl, kx_cmp, kx_oF, kx_eqN, kx_nil, kx_c1, kx_ft, kx_aI, kx_aL, kx_aR, kx_ln, Nat.reduceAdd, Option.toList, List.cons_append, List.nil_append, cf0_1]
        repeat (simp only [hA, nI_1, ks_eq, ks_ss, show ck_last (nI 2) (F 1) = nI (ck_feb (F 1)) from ck_last2 (F 1), zr]; try dsimp only [kx_wp, kx_step, kx_lI, kx_lL, kx_lA, kx_gl, kx_pI, kx_pL, kx_pR, kx_pA, kx_pV, kx_s1, kx_s2, kx_sl, kx_pre, kx_c2, kx_pl, kx_cmp, kx_oF, kx_eqN, kx_nil, kx_c1, kx_ft, kx_aI, kx_aL, kx_aR, kx_ln, Nat.reduceAdd, Option.toList, List.cons_append, List.nil_append, cf0_1])
        repeat' apply And.intro
        all_goals try (first | with_reducible assumption | (with_reducible refine ck_nzI ?_; simp; done) | (with_reducible refine ck_nzL ?_; simp; done) | (with_reducible refine vp_in_nI ?_ ?_ <;> first | omega | decide) | (with_reducible refine Nat.le_of_ble_eq_true ?_; rfl) | omega)
        refine hC.2.1 36 _ _ _ _ _ _ _ _ _ _ _ _ _ _ _ _ _ lX0_36 (ct_X0_daysOf_t l G hM (k := 2) (by decide)) rfl rfl (Nat.le_of_ble_eq_true rfl) (by decide) (by decide) (by omega) (by omega) dX0_trueMonth_19 ?_
        refine hB bX0_trueMonth_22 _ _ _ _ _ _ _ kX0_trueMonth_22 ?_
        dsimp only [bX0_trueMonth_22, kx_wp, kx_step, kx_lI, kx_lL, kx_lA, kx_gl, kx_pI, kx_pL, kx_pR, kx_pA, kx_pV, kx_s1, kx_s2, kx_sl, kx_pre, kx_c2, kx_pl, kx_cmp, kx_oF, kx_eqN, kx_nil, kx_c1, kx_ft, kx_aI, kx_aL, kx_aR, kx_ln, Nat.reduceAdd, Option.toList, List.cons_append, List.nil_append, cf0_1]
        repeat (simp only [hA, nI_1, ks_eq, ks_ss, show ck_last (nI 2) (F 1) = nI (ck_feb (F 1)) from ck_last2 (F 1), zr]; try dsimp only [kx_wp, kx_step, kx_lI, kx_lL, kx_lA, kx_gl, kx_pI, kx_pL, kx_pR, kx_pA, kx_pV, kx_s1, kx_s2, kx_sl, kx_pre, kx_c2, kx_pl, kx_cmp, kx_oF, kx_eqN, kx_nil, kx_c1, kx_ft, kx_aI, kx_aL, kx_aR, kx_ln, Nat.reduceAdd, Option.toList, List.cons_append, List.nil_append, cf0_1])
        repeat' apply And.intro
        all_goals try (first | with_reducible assumption | (with_reducible refine ck_nzI ?_; simp; done) | (with_reducible refine ck_nzL ?_; simp; done) | (with_reducible refine vp_in_nI ?_ ?_ <;> first | omega | decide) | (with_reducible refine Nat.le_of_ble_eq_true ?_; rfl) | omega)
        · intro zc22
          with_reducible first | have ze22 := Int32.not_le.mpr zc22 | have ze22 := zc22
          refine hB bX0_trueMonth_42 _ _ _ _ _ _ _ kX0_trueMonth_42 ?_
          dsimp only [bX0_trueMonth_42, kx_wp, kx_step, kx_lI, kx_lL, kx_lA, kx_gl, kx_pI, kx_pL, kx_pR, kx_pA, kx_pV, kx_s1, kx_s2, kx_sl, kx_pre, kx_c2, kx_pl, kx_cmp, kx_oF, kx_eqN, kx_nil, kx_c1, kx_ft, kx_aI, kx_aL, kx_aR, kx_ln, Nat.reduceAdd, Option.toList, List.cons_append, List.nil_append, cf0_1]
          repeat (simp only [hA, nI_1, ks_eq, ks_ss, show ck_last (nI 2) (F 1) = nI (ck_feb (F 1)) from ck_last2 (F 1), zr]; try dsimp only [kx_wp, kx_step, kx_lI, kx_lL, kx_lA, kx_gl, kx_pI, kx_pL, kx_pR, kx_pA, kx_pV, kx_s1, kx_s2, kx_sl, kx_pre, kx_c2, kx_pl, kx_cmp, kx_oF, kx_eqN, kx_nil, kx_c1, kx_ft, kx_aI, kx_aL, kx_aR, kx_ln, Nat.reduceAdd, Option.toList, List.cons_append, List.nil_append, cf0_1])
          all_goals (repeat' apply And.intro)
          all_goals ((try clear hB hC); first | exact True.intro | rfl | first | exact True.intro | with_reducible rfl | with_reducible assumption | (with_reducible refine vp_in_nI ?_ ?_ <;> first | omega | decide) | exact Nat.le_of_ble_eq_true rfl | (with_reducible refine ck_nzI ?_; simp; done) | (with_reducible refine ck_nzL ?_; simp; done) | (simp only [pk_us, pk_uLs, zc10, ze10, zc22, ze22, ↓reduceIte, not_true_eq_false, not_false_eq_true]; done) | (simp only [zc10, ze10, zc22, ze22, ↓reduceIte, not_true_eq_false, not_false_eq_true]; with_reducible rfl) | skip)
        · intro zc22
          first | exact absurd rfl zc22 | exact absurd zc22 (by decide) | exact absurd (by decide) zc22 | (exfalso; first | exact absurd ((nI_leI (a := 12) (b := 2) (by omega) (by omega)).mp zc10) (by omega) | exact absurd ((nI_ltI (a := e) (b := ck_feb (F 1)) (by omega) (by omega)).mp zc22) (by omega) | exact absurd ((nI_ltI (a := e) (b := ck_feb (F 1)) (by omega) (by omega)).mpr (by omega)) zc22) | (exfalso; simp_all; done)
    · refine hB bX0_trueMonth_7 _ _ _ _ _ _ _ kX0_trueMonth_7 ?_
      dsimp only [bX0_trueMonth_7, kx_wp, kx_step, kx_lI, kx_lL, kx_lA, kx_gl, kx_pI, kx_pL, kx_pR, kx_pA, kx_pV, kx_s1, kx_s2, kx_sl, kx_pre, kx_c2, kx_pl, kx_cmp, kx_oF, kx_eqN, kx_nil, kx_c1, kx_ft, kx_aI, kx_aL, kx_aR, kx_ln, Nat.reduceAdd, Option.toList, List.cons_append, List.nil_append, cf0_1]
      repeat (simp only [hA, nI_1, ks_eq, ks_ss, show ck_last (nI 2) (F 1) = nI (ck_feb (F 1)) from ck_last2 (F 1), pk_sub (show ck_feb (F 1) ≤ e by omega)]; try dsimp only [kx_wp, kx_step, kx_lI, kx_lL, kx_lA, kx_gl, kx_pI, kx_pL, kx_pR, kx_pA, kx_pV, kx_s1, kx_s2, kx_sl, kx_pre, kx_c2, kx_pl, kx_cmp, kx_oF, kx_eqN, kx_nil, kx_c1, kx_ft, kx_aI, kx_aL, kx_aR, kx_ln, Nat.reduceAdd, Option.toList, List.cons_append, List.nil_append, cf0_1])
      repeat' apply And.intro
      all_goals try (first | with_reducible assumption | (with_reducible refine ck_nzI ?_; simp; done) | (with_reducible refine ck_nzL ?_; simp; done) | (with_reducible refine vp_in_nI ?_ ?_ <;> first | omega | decide) | (with_reducible refine Nat.le_of_ble_eq_true ?_; rfl) | omega)
      · intro zc10
        first | exact absurd rfl zc10 | exact absurd zc10 (by decide) | exact absurd (by decide) zc10 | (exfalso; first | exact absurd ((nI_leI (a := 12) (b := 2) (by omega) (by omega)).mp zc10) (by omega) | exact absurd ((nI_ltI (a := e) (b := ck_feb (F 1)) (by omega) (by omega)).mp zc22) (by omega) | exact absurd ((nI_ltI (a := e) (b := ck_feb (F 1)) (by omega) (by omega)).mpr (by omega)) zc22) | (exfalso; simp_all; done)
      · intro zc10
        with_reducible first | have ze10 := Int32.not_le.mp zc10 | have ze10 := zc10
        refine hB bX0_trueMonth_13 _ _ _ _ _ _ _ kX0_trueMonth_13 ?_
        dsimp only [bX0_trueMonth_13, kx_wp, kx_step, kx_lI, kx_lL, kx_lA, kx_gl, kx_pI, kx_pL, kx_pR, kx_pA, kx_pV, kx_s1, kx_s2, kx_sl, kx_pre, kx_c2, kx_pl, kx_cmp, kx_oF, kx_eqN, kx_nil, kx_c1, kx_ft, kx_aI, kx_aL, kx_aR, kx_ln, Nat.reduceAdd, Option.toList, List.cons_append, List.nil_append, cf0_1]
        repeat (simp only [hA, nI_1, ks_eq, ks_ss, show ck_last (nI 2) (F 1) = nI (ck_feb (F 1)) from ck_last2 (F 1), pk_sub (show ck_feb (F 1) ≤ e by omega)]; try dsimp only [kx_wp, kx_step, kx_lI, kx_lL, kx_lA, kx_gl, kx_pI, kx_pL, kx_pR, kx_pA, kx_pV, kx_s1, kx_s2, kx_sl, kx_pre, kx_c2, kx_pl, kx_cmp, kx_oF, kx_eqN, kx_nil, kx_c1, kx_ft, kx_aI, kx_aL, kx_aR, kx_ln, Nat.reduceAdd, Option.toList, List.cons_append, List.nil_append, cf0_1])
        repeat' apply And.intro
        all_goals try (first | with_reducible assumption | (with_reducible refine ck_nzI ?_; simp; done) | (with_reducible refine ck_nzL ?_; simp; done) | (with_reducible refine vp_in_nI ?_ ?_ <;> first | omega | decide) | (with_reducible refine Nat.le_of_ble_eq_true ?_; rfl) | omega)
        refine hC.2.1 36 _ _ _ _ _ _ _ _ _ _ _ _ _ _ _ _ _ lX0_36 (ct_X0_daysOf_t l G hM (k := 2) (by decide)) rfl rfl (Nat.le_of_ble_eq_true rfl) (by decide) (by decide) (by omega) (by omega) dX0_trueMonth_19 ?_
        refine hB bX0_trueMonth_22 _ _ _ _ _ _ _ kX0_trueMonth_22 ?_
        dsimp only [bX0_trueMonth_22, kx_wp, kx_step, kx_lI, kx_lL, kx_lA, kx_gl, kx_pI, kx_pL, kx_pR, kx_pA, kx_pV, kx_s1, kx_s2, kx_sl, kx_pre, kx_c2, kx_pl, kx_cmp, kx_oF, kx_eqN, kx_nil, kx_c1, kx_ft, kx_aI, kx_aL, kx_aR, kx_ln, Nat.reduceAdd, Option.toList, List.cons_append, List.nil_append, cf0_1]
        repeat (simp only [hA, nI_1, ks_eq, ks_ss, show ck_last (nI 2) (F 1) = nI (ck_feb (F 1)) from ck_last2 (F 1), pk_sub (show ck_feb (F 1) ≤ e by omega)]; try dsimp only [kx_wp, kx_step, kx_lI, kx_lL, kx_lA, kx_gl, kx_pI, kx_pL, kx_pR, kx_pA, kx_pV, kx_s1, kx_s2, kx_sl, kx_pre, kx_c2, kx_pl, kx_cmp, kx_oF, kx_eqN, kx_nil, kx_c1, kx_ft, kx_aI, kx_aL, kx_aR, kx_ln, Nat.reduceAdd, Option.toList, List.cons_append, List.nil_append, cf0_1])
        repeat' apply And.intro
        all_goals try (first | with_reducible assumption | (with_reducible refine ck_nzI ?_; simp; done) | (with_reducible refine ck_nzL ?_; simp; done) | (with_reducible refine vp_in_nI ?_ ?_ <;> first | omega | decide) | (with_reducible refine Nat.le_of_ble_eq_true ?_; rfl) | omega)
        · intro zc22
          first | exact absurd rfl zc22 | exact absurd zc22 (by decide) | exact absurd (by decide) zc22 | (exfalso; first | exact absurd ((nI_leI (a := 12) (b := 2) (by omega) (by omega)).mp zc10) (by omega) | exact absurd ((nI_ltI (a := e) (b := ck_feb (F 1)) (by omega) (by omega)).mp zc22) (by omega) | exact absurd ((nI_ltI (a := e) (b := ck_feb (F 1)) (by omega) (by omega)).mpr (by omega)) zc22) | (exfalso; simp_all; done)
        · intro zc22
          with_reducible first | have ze22 := Int32.not_lt.mp zc22 | have ze22 := zc22
          refine hB bX0_trueMonth_25 _ _ _ _ _ _ _ kX0_trueMonth_25 ?_
          dsimp only [bX0_trueMonth_25, kx_wp, kx_step, kx_lI, kx_lL, kx_lA, kx_gl, kx_pI, kx_pL, kx_pR, kx_pA, kx_pV, kx_s1, kx_s2, kx_sl, kx_pre, kx_c2, kx_pl, kx_cmp, kx_oF, kx_eqN, kx_nil, kx_c1, kx_ft, kx_aI, kx_aL, kx_aR, kx_ln, Nat.reduceAdd, Option.toList, List.cons_append, List.nil_append, cf0_1]
          repeat (simp only [hA, nI_1, ks_eq, ks_ss, show ck_last (nI 2) (F 1) = nI (ck_feb (F 1)) from ck_last2 (F 1), pk_sub (show ck_feb (F 1) ≤ e by omega)]; try dsimp only [kx_wp, kx_step, kx_lI, kx_lL, kx_lA, kx_gl, kx_pI, kx_pL, kx_pR, kx_pA, kx_pV, kx_s1, kx_s2, kx_sl, kx_pre, kx_c2, kx_pl, kx_cmp, kx_oF, kx_eqN, kx_nil, kx_c1, kx_ft, kx_aI, kx_aL, kx_aR, kx_ln, Nat.reduceAdd, Option.toList, List.cons_append, List.nil_append, cf0_1])
          repeat' apply And.intro
          all_goals try (first | with_reducible assumption | (with_reducible refine ck_nzI ?_; simp; done) | (with_reducible refine ck_nzL ?_; simp; done) | (with_reducible refine vp_in_nI ?_ ?_ <;> first | omega | decide) | (with_reducible refine Nat.le_of_ble_eq_true ?_; rfl) | omega)
          refine hC.2.1 36 _ _ _ _ _ _ _ _ _ _ _ _ _ _ _ _ _ lX0_36 (ct_X0_daysOf_t l G hM (k := 2) (by decide)) rfl rfl (Nat.le_of_ble_eq_true rfl) (by decide) (by decide) (by omega) (by omega) dX0_trueMonth_31 ?_
          refine hB bX0_trueMonth_34 _ _ _ _ _ _ _ kX0_trueMonth_34 ?_
          dsimp only [bX0_trueMonth_34, kx_wp, kx_step, kx_lI, kx_lL, kx_lA, kx_gl, kx_pI, kx_pL, kx_pR, kx_pA, kx_pV, kx_s1, kx_s2, kx_sl, kx_pre, kx_c2, kx_pl, kx_cmp, kx_oF, kx_eqN, kx_nil, kx_c1, kx_ft, kx_aI, kx_aL, kx_aR, kx_ln, Nat.reduceAdd, Option.toList, List.cons_append, List.nil_append, cf0_1]
          repeat (simp only [hA, nI_1, ks_eq, ks_ss, show ck_last (nI 2) (F 1) = nI (ck_feb (F 1)) from ck_last2 (F 1), pk_sub (show ck_feb (F 1) ≤ e by omega)]; try dsimp only [kx_wp, kx_step, kx_lI, kx_lL, kx_lA, kx_gl, kx_pI, kx_pL, kx_pR, kx_pA, kx_pV, kx_s1, kx_s2, kx_sl, kx_pre, kx_c2, kx_pl, kx_cmp, kx_oF, kx_eqN, kx_nil, kx_c1, kx_ft, kx_aI, kx_aL, kx_aR, kx_ln, Nat.reduceAdd, Option.toList, List.cons_append, List.nil_append, cf0_1])
          repeat' apply And.intro
          all_goals try (first | with_reducible assumption | (with_reducible refine ck_nzI ?_; simp; done) | (with_reducible refine ck_nzL ?_; simp; done) | (with_reducible refine vp_in_nI ?_ ?_ <;> first | omega | decide) | (with_reducible refine Nat.le_of_ble_eq_true ?_; rfl) | omega)
          exact loop3 (e - (ck_feb (F 1))) (by omega)
  have loop1 : ∀ e : Nat, e = d / 1440 → g 7 [some (.ref 65), some (.int (nI e)), some (.int (1))] [] P sz 0 0 := by
    intro e he
    by_cases hlt : e < 31
    · have zr : ck_mo (d / 1440) (ck_feb (F 1)) = 1 := by simp only [ck_mo, ck_da, if_pos (show d / 1440 < 31 by omega)] <;> omega
      refine hB bX0_trueMonth_7 _ _ _ _ _ _ _ kX0_trueMonth_7 ?_
      dsimp only [bX0_trueMonth_7, kx_wp, kx_step, kx_lI, kx_lL, kx_lA, kx_gl, kx_pI, kx_pL, kx_pR, kx_pA, kx_pV, kx_s1, kx_s2, kx_sl, kx_pre, kx_c2, kx_pl, kx_cmp, kx_oF, kx_eqN, kx_nil, kx_c1, kx_ft, kx_aI, kx_aL, kx_aR, kx_ln, Nat.reduceAdd, Option.toList, List.cons_append, List.nil_append, cf0_1]
      repeat (simp only [hA, nI_1, ks_eq, ks_ss, show ck_last (nI 1) (F 1) = nI (31) from ck_last1 (F 1), zr]; try dsimp only [kx_wp, kx_step, kx_lI, kx_lL, kx_lA, kx_gl, kx_pI, kx_pL, kx_pR, kx_pA, kx_pV, kx_s1, kx_s2, kx_sl, kx_pre, kx_c2, kx_pl, kx_cmp, kx_oF, kx_eqN, kx_nil, kx_c1, kx_ft, kx_aI, kx_aL, kx_aR, kx_ln, Nat.reduceAdd, Option.toList, List.cons_append, List.nil_append, cf0_1])
      repeat' apply And.intro
      all_goals try (first | with_reducible assumption | (with_reducible refine ck_nzI ?_; simp; done) | (with_reducible refine ck_nzL ?_; simp; done) | (with_reducible refine vp_in_nI ?_ ?_ <;> first | omega | decide) | (with_reducible refine Nat.le_of_ble_eq_true ?_; rfl) | omega)
      · intro zc10
        first | exact absurd rfl zc10 | exact absurd zc10 (by decide) | exact absurd (by decide) zc10 | (exfalso; first | exact absurd ((nI_leI (a := 12) (b := 1) (by omega) (by omega)).mp zc10) (by omega) | exact absurd ((nI_ltI (a := e) (b := 31) (by omega) (by omega)).mp zc22) (by omega) | exact absurd ((nI_ltI (a := e) (b := 31) (by omega) (by omega)).mpr (by omega)) zc22) | (exfalso; simp_all; done)
      · intro zc10
        with_reducible first | have ze10 := Int32.not_le.mp zc10 | have ze10 := zc10
        refine hB bX0_trueMonth_13 _ _ _ _ _ _ _ kX0_trueMonth_13 ?_
        dsimp only [bX0_trueMonth_13, kx_wp, kx_step, kx_lI, kx_lL, kx_lA, kx_gl, kx_pI, kx_pL, kx_pR, kx_pA, kx_pV, kx_s1, kx_s2, kx_sl, kx_pre, kx_c2, kx_pl, kx_cmp, kx_oF, kx_eqN, kx_nil, kx_c1, kx_ft, kx_aI, kx_aL, kx_aR, kx_ln, Nat.reduceAdd, Option.toList, List.cons_append, List.nil_append, cf0_1]
        repeat (simp only [hA, nI_1, ks_eq, ks_ss, show ck_last (nI 1) (F 1) = nI (31) from ck_last1 (F 1), zr]; try dsimp only [kx_wp, kx_step, kx_lI, kx_lL, kx_lA, kx_gl, kx_pI, kx_pL, kx_pR, kx_pA, kx_pV, kx_s1, kx_s2, kx_sl, kx_pre, kx_c2, kx_pl, kx_cmp, kx_oF, kx_eqN, kx_nil, kx_c1, kx_ft, kx_aI, kx_aL, kx_aR, kx_ln, Nat.reduceAdd, Option.toList, List.cons_append, List.nil_append, cf0_1])
        repeat' apply And.intro
        all_goals try (first | with_reducible assumption | (with_reducible refine ck_nzI ?_; simp; done) | (with_reducible refine ck_nzL ?_; simp; done) | (with_reducible refine vp_in_nI ?_ ?_ <;> first | omega | decide) | (with_reducible refine Nat.le_of_ble_eq_true ?_; rfl) | omega)
        refine hC.2.1 36 _ _ _ _ _ _ _ _ _ _ _ _ _ _ _ _ _ lX0_36 (ct_X0_daysOf_t l G hM (k := 1) (by decide)) rfl rfl (Nat.le_of_ble_eq_true rfl) (by decide) (by decide) (by omega) (by omega) dX0_trueMonth_19 ?_
        refine hB bX0_trueMonth_22 _ _ _ _ _ _ _ kX0_trueMonth_22 ?_
        dsimp only [bX0_trueMonth_22, kx_wp, kx_step, kx_lI, kx_lL, kx_lA, kx_gl, kx_pI, kx_pL, kx_pR, kx_pA, kx_pV, kx_s1, kx_s2, kx_sl, kx_pre, kx_c2, kx_pl, kx_cmp, kx_oF, kx_eqN, kx_nil, kx_c1, kx_ft, kx_aI, kx_aL, kx_aR, kx_ln, Nat.reduceAdd, Option.toList, List.cons_append, List.nil_append, cf0_1]
        repeat (simp only [hA, nI_1, ks_eq, ks_ss, show ck_last (nI 1) (F 1) = nI (31) from ck_last1 (F 1), zr]; try dsimp only [kx_wp, kx_step, kx_lI, kx_lL, kx_lA, kx_gl, kx_pI, kx_pL, kx_pR, kx_pA, kx_pV, kx_s1, kx_s2, kx_sl, kx_pre, kx_c2, kx_pl, kx_cmp, kx_oF, kx_eqN, kx_nil, kx_c1, kx_ft, kx_aI, kx_aL, kx_aR, kx_ln, Nat.reduceAdd, Option.toList, List.cons_append, List.nil_append, cf0_1])
        repeat' apply And.intro
        all_goals try (first | with_reducible assumption | (with_reducible refine ck_nzI ?_; simp; done) | (with_reducible refine ck_nzL ?_; simp; done) | (with_reducible refine vp_in_nI ?_ ?_ <;> first | omega | decide) | (with_reducible refine Nat.le_of_ble_eq_true ?_; rfl) | omega)
        · intro zc22
          with_reducible first | have ze22 := Int32.not_le.mpr zc22 | have ze22 := zc22
          refine hB bX0_trueMonth_42 _ _ _ _ _ _ _ kX0_trueMonth_42 ?_
          dsimp only [bX0_trueMonth_42, kx_wp, kx_step, kx_lI, kx_lL, kx_lA, kx_gl, kx_pI, kx_pL, kx_pR, kx_pA, kx_pV, kx_s1, kx_s2, kx_sl, kx_pre, kx_c2, kx_pl, kx_cmp, kx_oF, kx_eqN, kx_nil, kx_c1, kx_ft, kx_aI, kx_aL, kx_aR, kx_ln, Nat.reduceAdd, Option.toList, List.cons_append, List.nil_append, cf0_1]
          repeat (simp only [hA, nI_1, ks_eq, ks_ss, show ck_last (nI 1) (F 1) = nI (31) from ck_last1 (F 1), zr]; try dsimp only [kx_wp, kx_step, kx_lI, kx_lL, kx_lA, kx_gl, kx_pI, kx_pL, kx_pR, kx_pA, kx_pV, kx_s1, kx_s2, kx_sl, kx_pre, kx_c2, kx_pl, kx_cmp, kx_oF, kx_eqN, kx_nil, kx_c1, kx_ft, kx_aI, kx_aL, kx_aR, kx_ln, Nat.reduceAdd, Option.toList, List.cons_append, List.nil_append, cf0_1])
          all_goals (repeat' apply And.intro)
          all_goals ((try clear hB hC); first | exact True.intro | rfl | first | exact True.intro | with_reducible rfl | with_reducible assumption | (with_reducible refine vp_in_nI ?_ ?_ <;> first | omega | decide) | exact Nat.le_of_ble_eq_true rfl | (with_reducible refine ck_nzI ?_; simp; done) | (with_reducible refine ck_nzL ?_; simp; done) | (simp only [pk_us, pk_uLs, zc10, ze10, zc22, ze22, ↓reduceIte, not_true_eq_false, not_false_eq_true]; done) | (simp only [zc10, ze10, zc22, ze22, ↓reduceIte, not_true_eq_false, not_false_eq_true]; with_reducible rfl) | skip)
        · intro zc22
          first | exact absurd rfl zc22 | exact absurd zc22 (by decide) | exact absurd (by decide) zc22 | (exfalso; first | exact absurd ((nI_leI (a := 12) (b := 1) (by omega) (by omega)).mp zc10) (by omega) | exact absurd ((nI_ltI (a := e) (b := 31) (by omega) (by omega)).mp zc22) (by omega) | exact absurd ((nI_ltI (a := e) (b := 31) (by omega) (by omega)).mpr (by omega)) zc22) | (exfalso; simp_all; done)
    · refine hB bX0_trueMonth_7 _ _ _ _ _ _ _ kX0_trueMonth_7 ?_
      dsimp only [bX0_trueMonth_7, kx_wp, kx_step, kx_lI, kx_lL, kx_lA, kx_gl, kx_pI, kx_pL, kx_pR, kx_pA, kx_pV, kx_s1, kx_s2, kx_sl, kx_pre, kx_c2, kx_pl, kx_cmp, kx_oF, kx_eqN, kx_nil, kx_c1, kx_ft, kx_aI, kx_aL, kx_aR, kx_ln, Nat.reduceAdd, Option.toList, List.cons_append, List.nil_append, cf0_1]
      repeat (simp only [hA, nI_1, ks_eq, ks_ss, show ck_last (nI 1) (F 1) = nI (31) from ck_last1 (F 1), pk_sub (show 31 ≤ e by omega)]; try dsimp only [kx_wp, kx_step, kx_lI, kx_lL, kx_lA, kx_gl, kx_pI, kx_pL, kx_pR, kx_pA, kx_pV, kx_s1, kx_s2, kx_sl, kx_pre, kx_c2, kx_pl, kx_cmp, kx_oF, kx_eqN, kx_nil, kx_c1, kx_ft, kx_aI, kx_aL, kx_aR, kx_ln, Nat.reduceAdd, Option.toList, List.cons_append, List.nil_append, cf0_1])
      repeat' apply And.intro
      all_goals try (first | with_reducible assumption | (with_reducible refine ck_nzI ?_; simp; done) | (with_reducible refine ck_nzL ?_; simp; done) | (with_reducible refine vp_in_nI ?_ ?_ <;> first | omega | decide) | (with_reducible refine Nat.le_of_ble_eq_true ?_; rfl) | omega)
      · intro zc10
        first | exact absurd rfl zc10 | exact absurd zc10 (by decide) | exact absurd (by decide) zc10 | (exfalso; first | exact absurd ((nI_leI (a := 12) (b := 1) (by omega) (by omega)).mp zc10) (by omega) | exact absurd ((nI_ltI (a := e) (b := 31) (by omega) (by omega)).mp zc22) (by omega) | exact absurd ((nI_ltI (a := e) (b := 31) (by omega) (by omega)).mpr (by omega)) zc22) | (exfalso; simp_all; done)
      · intro zc10
        with_reducible first | have ze10 := Int32.not_le.mp zc10 | have ze10 := zc10
        refine hB bX0_trueMonth_13 _ _ _ _ _ _ _ kX0_trueMonth_13 ?_
        dsimp only [bX0_trueMonth_13, kx_wp, kx_step, kx_lI, kx_lL, kx_lA, kx_gl, kx_pI, kx_pL, kx_pR, kx_pA, kx_pV, kx_s1, kx_s2, kx_sl, kx_pre, kx_c2, kx_pl, kx_cmp, kx_oF, kx_eqN, kx_nil, kx_c1, kx_ft, kx_aI, kx_aL, kx_aR, kx_ln, Nat.reduceAdd, Option.toList, List.cons_append, List.nil_append, cf0_1]
        repeat (simp only [hA, nI_1, ks_eq, ks_ss, show ck_last (nI 1) (F 1) = nI (31) from ck_last1 (F 1), pk_sub (show 31 ≤ e by omega)]; try dsimp only [kx_wp, kx_step, kx_lI, kx_lL, kx_lA, kx_gl, kx_pI, kx_pL, kx_pR, kx_pA, kx_pV, kx_s1, kx_s2, kx_sl, kx_pre, kx_c2, kx_pl, kx_cmp, kx_oF, kx_eqN, kx_nil, kx_c1, kx_ft, kx_aI, kx_aL, kx_aR, kx_ln, Nat.reduceAdd, Option.toList, List.cons_append, List.nil_append, cf0_1])
        repeat' apply And.intro
        all_goals try (first | with_reducible assumption | (with_reducible refine ck_nzI ?_; simp; done) | (with_reducible refine ck_nzL ?_; simp; done) | (with_reducible refine vp_in_nI ?_ ?_ <;> first | omega | decide) | (with_reducible refine Nat.le_of_ble_eq_true ?_; rfl) | omega)
        refine hC.2.1 36 _ _ _ _ _ _ _ _ _ _ _ _ _ _ _ _ _ lX0_36 (ct_X0_daysOf_t l G hM (k := 1) (by decide)) rfl rfl (Nat.le_of_ble_eq_true rfl) (by decide) (by decide) (by omega) (by omega) dX0_trueMonth_19 ?_
        refine hB bX0_trueMonth_22 _ _ _ _ _ _ _ kX0_trueMonth_22 ?_
        dsimp only [bX0_trueMonth_22, kx_wp, kx_step, kx_lI, kx_lL, kx_lA, kx_gl, kx_pI, kx_pL, kx_pR, kx_pA, kx_pV, kx_s1, kx_s2, kx_sl, kx_pre, kx_c2, kx_pl, kx_cmp, kx_oF, kx_eqN, kx_nil, kx_c1, kx_ft, kx_aI, kx_aL, kx_aR, kx_ln, Nat.reduceAdd, Option.toList, List.cons_append, List.nil_append, cf0_1]
        repeat (simp only [hA, nI_1, ks_eq, ks_ss, show ck_last (nI 1) (F 1) = nI (31) from ck_last1 (F 1), pk_sub (show 31 ≤ e by omega)]; try dsimp only [kx_wp, kx_step, kx_lI, kx_lL, kx_lA, kx_gl, kx_pI, kx_pL, kx_pR, kx_pA, kx_pV, kx_s1, kx_s2, kx_sl, kx_pre, kx_c2, kx_pl, kx_cmp, kx_oF, kx_eqN, kx_nil, kx_c1, kx_ft, kx_aI, kx_aL, kx_aR, kx_ln, Nat.reduceAdd, Option.toList, List.cons_append, List.nil_append, cf0_1])
        repeat' apply And.intro
        all_goals try (first | with_reducible assumption | (with_reducible refine ck_nzI ?_; simp; done) | (with_reducible refine ck_nzL ?_; simp; done) | (with_reducible refine vp_in_nI ?_ ?_ <;> first | omega | decide) | (with_reducible refine Nat.le_of_ble_eq_true ?_; rfl) | omega)
        · intro zc22
          first | exact absurd rfl zc22 | exact absurd zc22 (by decide) | exact absurd (by decide) zc22 | (exfalso; first | exact absurd ((nI_leI (a := 12) (b := 1) (by omega) (by omega)).mp zc10) (by omega) | exact absurd ((nI_ltI (a := e) (b := 31) (by omega) (by omega)).mp zc22) (by omega) | exact absurd ((nI_ltI (a := e) (b := 31) (by omega) (by omega)).mpr (by omega)) zc22) | (exfalso; simp_all; done)
        · intro zc22
          with_reducible first | have ze22 := Int32.not_lt.mp zc22 | have ze22 := zc22
          refine hB bX0_trueMonth_25 _ _ _ _ _ _ _ kX0_trueMonth_25 ?_
          dsimp only [bX0_trueMonth_25, kx_wp, kx_step, kx_lI, kx_lL, kx_lA, kx_gl, kx_pI, kx_pL, kx_pR, kx_pA, kx_pV, kx_s1, kx_s2, kx_sl, kx_pre, kx_c2, kx_pl, kx_cmp, kx_oF, kx_eqN, kx_nil, kx_c1, kx_ft, kx_aI, kx_aL, kx_aR, kx_ln, Nat.reduceAdd, Option.toList, List.cons_append, List.nil_append, cf0_1]
          repeat (simp only [hA, nI_1, ks_eq, ks_ss, show ck_last (nI 1) (F 1) = nI (31) from ck_last1 (F 1), pk_sub (show 31 ≤ e by omega)]; try dsimp only [kx_wp, kx_step, kx_lI, kx_lL, kx_lA, kx_gl, kx_pI, kx_pL, kx_pR, kx_pA, kx_pV, kx_s1, kx_s2, kx_sl, kx_pre, kx_c2, kx_pl, kx_cmp, kx_oF, kx_eqN, kx_nil, kx_c1, kx_ft, kx_aI, kx_aL, kx_aR, kx_ln, Nat.reduceAdd, Option.toList, List.cons_append, List.nil_append, cf0_1])
          repeat' apply And.intro
          all_goals try (first | with_reducible assumption | (with_reducible refine ck_nzI ?_; simp; done) | (with_reducible refine ck_nzL ?_; simp; done) | (with_reducible refine vp_in_nI ?_ ?_ <;> first | omega | decide) | (with_reducible refine Nat.le_of_ble_eq_true ?_; rfl) | omega)
          refine hC.2.1 36 _ _ _ _ _ _ _ _ _ _ _ _ _ _ _ _ _ lX0_36 (ct_X0_daysOf_t l G hM (k := 1) (by decide)) rfl rfl (Nat.le_of_ble_eq_true rfl) (by decide) (by decide) (by omega) (by omega) dX0_trueMonth_31 ?_
          refine hB bX0_trueMonth_34 _ _ _ _ _ _ _ kX0_trueMonth_34 ?_
          dsimp only [bX0_trueMonth_34, kx_wp, kx_step, kx_lI, kx_lL, kx_lA, kx_gl, kx_pI, kx_pL, kx_pR, kx_pA, kx_pV, kx_s1, kx_s2, kx_sl, kx_pre, kx_c2, kx_pl, kx_cmp, kx_oF, kx_eqN, kx_nil, kx_c1, kx_ft, kx_aI, kx_aL, kx_aR, kx_ln, Nat.reduceAdd, Option.toList, List.cons_append, List.nil_append, cf0_1]
          repeat (simp only [hA, nI_1, ks_eq, ks_ss, show ck_last (nI 1) (F 1) = nI (31) from ck_last1 (F 1), pk_sub (show 31 ≤ e by omega)]; try dsimp only [kx_wp, kx_step, kx_lI, kx_lL, kx_lA, kx_gl, kx_pI, kx_pL, kx_pR, kx_pA, kx_pV, kx_s1, kx_s2, kx_sl, kx_pre, kx_c2, kx_pl, kx_cmp, kx_oF, kx_eqN, kx_nil, kx_c1, kx_ft, kx_aI, kx_aL, kx_aR, kx_ln, Nat.reduceAdd, Option.toList, List.cons_append, List.nil_append, cf0_1])
          repeat' apply And.intro
          all_goals try (first | with_reducible assumption | (with_reducible refine ck_nzI ?_; simp; done) | (with_reducible refine ck_nzL ?_; simp; done) | (with_reducible refine vp_in_nI ?_ ?_ <;> first | omega | decide) | (with_reducible refine Nat.le_of_ble_eq_true ?_; rfl) | omega)
          exact loop2 (e - (31)) (by omega)
  refine hB bX0_trueMonth_0 _ _ _ _ _ _ _ kX0_trueMonth_0 ?_
  dsimp only [bX0_trueMonth_0, kx_wp, kx_step, kx_lI, kx_lL, kx_lA, kx_gl, kx_pI, kx_pL, kx_pR, kx_pA, kx_pV, kx_s1, kx_s2, kx_sl, kx_pre, kx_c2, kx_pl, kx_cmp, kx_oF, kx_eqN, kx_nil, kx_c1, kx_ft, kx_aI, kx_aL, kx_aR, kx_ln, Nat.reduceAdd, Option.toList, List.cons_append, List.nil_append, cf0_1]
  repeat (simp only [hA, nI_1, ks_eq, ks_ss]; try dsimp only [kx_wp, kx_step, kx_lI, kx_lL, kx_lA, kx_gl, kx_pI, kx_pL, kx_pR, kx_pA, kx_pV, kx_s1, kx_s2, kx_sl, kx_pre, kx_c2, kx_pl, kx_cmp, kx_oF, kx_eqN, kx_nil, kx_c1, kx_ft, kx_aI, kx_aL, kx_aR, kx_ln, Nat.reduceAdd, Option.toList, List.cons_append, List.nil_append, cf0_1])
  repeat' apply And.intro
  all_goals try (first | with_reducible assumption | (with_reducible refine ck_nzI ?_; simp; done) | (with_reducible refine ck_nzL ?_; simp; done) | (with_reducible refine vp_in_nI ?_ ?_ <;> first | omega | decide) | (with_reducible refine Nat.le_of_ble_eq_true ?_; rfl) | omega)
  refine hC.1 33 _ _ _ _ _ _ _ 0 _ _ _ _ _ _ _ _ _ _ _ _ lX0_33 (ct_X0_dayOfYear l G hA h1 hd) ⟨by decide, rfl⟩ (by first | assumption | (simp only [hA, nI_1, ks_eq, ks_ss])) rfl rfl (Nat.le_of_ble_eq_true rfl) (by decide) (by decide) (by omega) (by omega) dX0_trueMonth_1 ?_
  refine hB bX0_trueMonth_4 _ _ _ _ _ _ _ kX0_trueMonth_4 ?_
  dsimp only [bX0_trueMonth_4, kx_wp, kx_step, kx_lI, kx_lL, kx_lA, kx_gl, kx_pI, kx_pL, kx_pR, kx_pA, kx_pV, kx_s1, kx_s2, kx_sl, kx_pre, kx_c2, kx_pl, kx_cmp, kx_oF, kx_eqN, kx_nil, kx_c1, kx_ft, kx_aI, kx_aL, kx_aR, kx_ln, Nat.reduceAdd, Option.toList, List.cons_append, List.nil_append, cf0_1]
  repeat (simp only [hA, nI_1, ks_eq, ks_ss]; try dsimp only [kx_wp, kx_step, kx_lI, kx_lL, kx_lA, kx_gl, kx_pI, kx_pL, kx_pR, kx_pA, kx_pV, kx_s1, kx_s2, kx_sl, kx_pre, kx_c2, kx_pl, kx_cmp, kx_oF, kx_eqN, kx_nil, kx_c1, kx_ft, kx_aI, kx_aL, kx_aR, kx_ln, Nat.reduceAdd, Option.toList, List.cons_append, List.nil_append, cf0_1])
  repeat' apply And.intro
  all_goals try (first | with_reducible assumption | (with_reducible refine ck_nzI ?_; simp; done) | (with_reducible refine ck_nzL ?_; simp; done) | (with_reducible refine vp_in_nI ?_ ?_ <;> first | omega | decide) | (with_reducible refine Nat.le_of_ble_eq_true ?_; rfl) | omega)
  exact loop1 _ rfl

def bX0_trueDate_0 : List kx_O := [(.aload_n 0, 0, 0, 0, .null)]
theorem kX0_trueDate_0 : kx_oks kxL_X0 false cX0_trueDate 0 bX0_trueDate_0 = true := by decide +kernel
def bX0_trueDate_4 : List kx_O := [(.istore_n 1, 1, 0, 0, .null), (.iconst 1, 0, 0, 0, .int 1), (.istore_n 2, 2, 0, 0, .null)]
theorem kX0_trueDate_4 : kx_oks kxL_X0 false cX0_trueDate 4 bX0_trueDate_4 = true := by decide +kernel
def bX0_trueDate_7 : List kx_O := [(.iload_n 2, 2, 0, 0, .null), (.bipush 12, 0, 0, 0, .int 12), (.if_icmp .ge 32, 42, 0, 0, .null)]
theorem kX0_trueDate_7 : kx_oks kxL_X0 false cX0_trueDate 7 bX0_trueDate_7 = true := by decide +kernel
def bX0_trueDate_13 : List kx_O := [(.iload_n 1, 1, 0, 0, .null), (.iload_n 2, 2, 0, 0, .null), (.aload_n 0, 0, 0, 0, .null), (.getfield 15, 0, 1, 0, .null)]
theorem kX0_trueDate_13 : kx_oks kxL_X0 false cX0_trueDate 13 bX0_trueDate_13 = true := by decide +kernel
def bX0_trueDate_22 : List kx_O := [(.if_icmp .lt 20, 42, 0, 0, .null)]
theorem kX0_trueDate_22 : kx_oks kxL_X0 false cX0_trueDate 22 bX0_trueDate_22 = true := by decide +kernel
def bX0_trueDate_25 : List kx_O := [(.iload_n 1, 1, 0, 0, .null), (.iload_n 2, 2, 0, 0, .null), (.aload_n 0, 0, 0, 0, .null), (.getfield 15, 0, 1, 0, .null)]
theorem kX0_trueDate_25 : kx_oks kxL_X0 false cX0_trueDate 25 bX0_trueDate_25 = true := by decide +kernel
def bX0_trueDate_34 : List kx_O := [(.isub, 0, 0, 0, .null), (.istore_n 1, 1, 0, 0, .null), (.iinc 2 1, 2, 0, 0, .int 1), (.goto (-32), 7, 0, 0, .null)]
theorem kX0_trueDate_34 : kx_oks kxL_X0 false cX0_trueDate 34 bX0_trueDate_34 = true := by decide +kernel
def bX0_trueDate_42 : List kx_O := [(.iload_n 1, 1, 0, 0, .null), (.iconst 1, 0, 0, 0, .int 1), (.iadd, 0, 0, 0, .null), (.ireturn, 0, 0, 0, .null)]
theorem kX0_trueDate_42 : kx_oks kxL_X0 false cX0_trueDate 42 bX0_trueDate_42 = true := by decide +kernel
theorem dX0_trueDate_1 : decode cX0_trueDate 1 = .ok (.invokevirtual 33, 3) := by decide +kernel
theorem dX0_trueDate_19 : decode cX0_trueDate 19 = .ok (.invokestatic 36, 3) := by decide +kernel
theorem dX0_trueDate_31 : decode cX0_trueDate 31 = .ok (.invokestatic 36, 3) := by decide +kernel
set_option maxRecDepth 100000 in
set_option maxHeartbeats 4000000 in
theorem ct_X0_trueDate (l : Launch) (G : kx_G) {P : kx_P} {sz : Nat} {F : Nat → Int32} (hA : P 65 = kO 0 (kf cr0 F)) (hM : P 1 = kI 5 12 cj_md) {d : Nat} (h1 : F 0 = nI d) (hd : d ≤ 100000)  : kx_M l G sX0_trueDate 3 0 0 [.ref 65] P sz (some (.int (nI (ck_da (d / 1440) (ck_feb (F 1)))))) P sz := by
  have hf := ck_feb_le (F 1)
  refine kx_mk kx_tab kxLok_X0 (ini := false) [some (.ref 65), none, none] ⟨by decide, rfl, by decide, by decide⟩ (⟨_, rfl⟩) rfl rfl (fun g hB hC => ?_)
  have loop3 : ∀ e : Nat, 31 + ck_feb (F 1) + e = d / 1440 → g 7 [some (.ref 65), some (.int (nI e)), some (.int (3))] [] P sz 0 0 := by
    intro e he
    have zr : ck_da (d / 1440) (ck_feb (F 1)) = e + 1 := by simp only [ck_mo, ck_da, if_neg (show ¬ d / 1440 < 31 by omega), if_neg (show ¬ d / 1440 < 31 + ck_feb (F 1) by omega)] <;> omega
    refine hB bX0_trueDate_7 _ _ _ _ _ _ _ kX0_trueDate_7 ?_
    dsimp only [bX0_trueDate_7, kx_wp, kx_step, kx_lI, kx_lL, kx_lA, kx_gl, kx_pI, kx_pL, kx_pR, kx_pA, kx_pV, kx_s1, kx_s2, kx_sl, kx_pre, kx_c2, kx_pl, kx_cmp, kx_oF, kx_eqN, kx_nil, kx_c1, kx_ft, kx_aI, kx_aL, kx_aR, kx_ln, Nat.reduceAdd, Option.toList, List.cons_append, List.nil_append, cf0_1]
    repeat (simp only [hA, nI_1, ks_eq, ks_ss, show ck_last (nI 3) (F 1) = nI (31) from ck_last3 (F 1), zr]; try dsimp only [kx_wp, kx_step, kx_lI, kx_lL, kx_lA, kx_gl, kx_pI, kx_pL, kx_pR, kx_pA, kx_pV, kx_s1, kx_s2, kx_sl, kx_pre, kx_c2, kx_pl, kx_cmp, kx_oF, kx_eqN, kx_nil, kx_c1, kx_ft, kx_aI, kx_aL, kx_aR, kx_ln, Nat.reduceAdd, Option.toList, List.cons_append, List.nil_append, cf0_1])
    repeat' apply And.intro
    all_goals try (first | with_reducible assumption | (with_reducible refine ck_nzI ?_; simp; done) | (with_reducible refine ck_nzL ?_; simp; done) | (with_reducible refine vp_in_nI ?_ ?_ <;> first | omega | decide) | (with_reducible refine Nat.le_of_ble_eq_true ?_; rfl) | omega)
    · intro zc10
      first | exact absurd rfl zc10 | exact absurd zc10 (by decide) | exact absurd (by decide) zc10 | (exfalso; first | exact absurd ((nI_leI (a := 12) (b := 3) (by omega) (by omega)).mp zc10) (by omega) | exact absurd ((nI_ltI (a := e) (b := 31) (by omega) (by omega)).mp zc22) (by omega) | exact absurd ((nI_ltI (a := e) (b := 31) (by omega) (by omega)).mpr (by omega)) zc22) | (exfalso; simp_all; done)
    · intro zc10
      with_reducible first | have ze10 := Int32.not_le.mp zc10 | have ze10 := zc10
      refine hB bX0_trueDate_13 _ _ _ _ _ _ _ kX0_trueDate_13 ?_
      dsimp only [bX0_trueDate_13, kx_wp, kx_step, kx_lI, kx_lL, kx_lA, kx_gl, kx_pI, kx_pL, kx_pR, kx_pA, kx_pV, kx_s1, kx_s2, kx_sl, kx_pre, kx_c2, kx_pl, kx_cmp, kx_oF, kx_eqN, kx_nil, kx_c1, kx_ft, kx_aI, kx_aL, kx_aR, kx_ln, Nat.reduceAdd, Option.toList, List.cons_append, List.nil_append, cf0_1]
      repeat (simp only [hA, nI_1, ks_eq, ks_ss, show ck_last (nI 3) (F 1) = nI (31) from ck_last3 (F 1), zr]; try dsimp only [kx_wp, kx_step, kx_lI, kx_lL, kx_lA, kx_gl, kx_pI, kx_pL, kx_pR, kx_pA, kx_pV, kx_s1, kx_s2, kx_sl, kx_pre, kx_c2, kx_pl, kx_cmp, kx_oF, kx_eqN, kx_nil, kx_c1, kx_ft, kx_aI, kx_aL, kx_aR, kx_ln, Nat.reduceAdd, Option.toList, List.cons_append, List.nil_append, cf0_1])
      repeat' apply And.intro
      all_goals try (first | with_reducible assumption | (with_reducible refine ck_nzI ?_; simp; done) | (with_reducible refine ck_nzL ?_; simp; done) | (with_reducible refine vp_in_nI ?_ ?_ <;> first | omega | decide) | (with_reducible refine Nat.le_of_ble_eq_true ?_; rfl) | omega)
      refine hC.2.1 36 _ _ _ _ _ _ _ _ _ _ _ _ _ _ _ _ _ lX0_36 (ct_X0_daysOf_t l G hM (k := 3) (by decide)) rfl rfl (Nat.le_of_ble_eq_true rfl) (by decide) (by decide) (by omega) (by omega) dX0_trueDate_19 ?_
      refine hB bX0_trueDate_22 _ _ _ _ _ _ _ kX0_trueDate_22 ?_
      dsimp only [bX0_trueDate_22, kx_wp, kx_step, kx_lI, kx_lL, kx_lA, kx_gl, kx_pI, kx_pL, kx_pR, kx_pA, kx_pV, kx_s1, kx_s2, kx_sl, kx_pre, kx_c2, kx_pl, kx_cmp, kx_oF, kx_eqN, kx_nil, kx_c1, kx_ft, kx_aI, kx_aL, kx_aR, kx_ln, Nat.reduceAdd, Option.toList, List.cons_append, List.nil_append, cf0_1]
      repeat (simp only [hA, nI_1, ks_eq, ks_ss, show ck_last (nI 3) (F 1) = nI (31) from ck_last3 (F 1), zr]; try dsimp only [kx_wp, kx_step, kx_lI, kx_lL, kx_lA, kx_gl, kx_pI, kx_pL, kx_pR, kx_pA, kx_pV, kx_s1, kx_s2, kx_sl, kx_pre, kx_c2, kx_pl, kx_cmp, kx_oF, kx_eqN, kx_nil, kx_c1, kx_ft, kx_aI, kx_aL, kx_aR, kx_ln, Nat.reduceAdd, Option.toList, List.cons_append, List.nil_append, cf0_1])
      repeat' apply And.intro
      all_goals try (first | with_reducible assumption | (with_reducible refine ck_nzI ?_; simp; done) | (with_reducible refine ck_nzL ?_; simp; done) | (with_reducible refine vp_in_nI ?_ ?_ <;> first | omega | decide) | (with_reducible refine Nat.le_of_ble_eq_true ?_; rfl) | omega)
      · intro zc22
        with_reducible first | have ze22 := Int32.not_le.mpr zc22 | have ze22 := zc22
        refine hB bX0_trueDate_42 _ _ _ _ _ _ _ kX0_trueDate_42 ?_
        dsimp only [bX0_trueDate_42, kx_wp, kx_step, kx_lI, kx_lL, kx_lA, kx_gl, kx_pI, kx_pL, kx_pR, kx_pA, kx_pV, kx_s1, kx_s2, kx_sl, kx_pre, kx_c2, kx_pl, kx_cmp, kx_oF, kx_eqN, kx_nil, kx_c1, kx_ft, kx_aI, kx_aL, kx_aR, kx_ln, Nat.reduceAdd, Option.toList, List.cons_append, List.nil_append, cf0_1]
        repeat (simp only [hA, nI_1, ks_eq, ks_ss, show ck_last (nI 3) (F 1) = nI (31) from ck_last3 (F 1), zr]; try dsimp only [kx_wp, kx_step, kx_lI, kx_lL, kx_lA, kx_gl, kx_pI, kx_pL, kx_pR, kx_pA, kx_pV, kx_s1, kx_s2, kx_sl, kx_pre, kx_c2, kx_pl, kx_cmp, kx_oF, kx_eqN, kx_nil, kx_c1, kx_ft, kx_aI, kx_aL, kx_aR, kx_ln, Nat.reduceAdd, Option.toList, List.cons_append, List.nil_append, cf0_1])
        all_goals (repeat' apply And.intro)
        all_goals ((try clear hB hC); first | exact True.intro | rfl | first | exact True.intro | with_reducible rfl | with_reducible assumption | (with_reducible refine vp_in_nI ?_ ?_ <;> first | omega | decide) | exact Nat.le_of_ble_eq_true rfl | (with_reducible refine ck_nzI ?_; simp; done) | (with_reducible refine ck_nzL ?_; simp; done) | (simp only [pk_us, pk_uLs, zc10, ze10, zc22, ze22, ↓reduceIte, not_true_eq_false, not_false_eq_true]; done) | (simp only [zc10, ze10, zc22, ze22, ↓reduceIte, not_true_eq_false, not_false_eq_true]; with_reducible rfl) | skip)
      · intro zc22
        first | exact absurd rfl zc22 | exact absurd zc22 (by decide) | exact absurd (by decide) zc22 | (exfalso; first | exact absurd ((nI_leI (a := 12) (b := 3) (by omega) (by omega)).mp zc10) (by omega) | exact absurd ((nI_ltI (a := e) (b := 31) (by omega) (by omega)).mp zc22) (by omega) | exact absurd ((nI_ltI (a := e) (b := 31) (by omega) (by omega)).mpr (by omega)) zc22) | (exfalso; simp_all; done)
  have loop2 : ∀ e : Nat, 31 + e = d / 1440 → g 7 [some (.ref 65), some (.int (nI e)), some (.int (2))] [] P sz 0 0 := by
    intro e he
    by_cases hlt : e < ck_feb (F 1)
    · have zr : ck_da (d / 1440) (ck_feb (F 1)) = e + 1 := by simp only [ck_mo, ck_da, if_neg (show ¬ d / 1440 < 31 by omega), if_pos (show d / 1440 < 31 + ck_feb (F 1) by omega)] <;> omega
      refine hB bX0_trueDate_7 _ _ _ _ _ _ _ kX0_trueDate_7 ?_
      dsimp only [bX0_trueDate_7, kx_wp, kx_step, kx_lI, kx_lL, kx_lA, kx_gl, kx_pI, kx_pL, kx_pR, kx_pA, kx_pV, kx_s1, kx_s2, kx_sl, kx_pre, kx_c2, kx_pl, kx_cmp, kx_oF, kx_eqN, kx_nil, kx_c1, kx_ft, kx_aI, kx_aL, kx_aR, kx_ln, Nat.reduceAdd, Option.toList, List.cons_append, List.nil_append, cf0_1]
      repeat (simp only [hA, nI_1, ks_eq, ks_ss, show ck_last (nI 2) (F 1) = nI (ck_feb (F 1)) from ck_last2 (F 1), zr]; try dsimp only [kx_wp, kx_step, kx_lI, kx_lL, kx_lA, kx_gl, kx_pI, kx_pL, kx_pR, kx_pA, kx_pV, kx_s1, kx_s2, kx_sl, kx_pre, kx_c2, kx_pl, kx_cmp, kx_oF, kx_eqN, kx_nil, kx_c1, kx_ft, kx_aI, kx_aL, kx_aR, kx_ln, Nat.reduceAdd, Option.toList, List.cons_append, List.nil_append, cf0_1])
      repeat' apply And.intro
      all_goals try (first | with_reducible assumption | (with_reducible refine ck_nzI ?_; simp; done) | (with_reducible refine ck_nzL ?_; simp; done) | (with_reducible refine vp_in_nI ?_ ?_ <;> first | omega | decide) | (with_reducible refine Nat.le_of_ble_eq_true ?_; rfl) | omega)
      · intro zc10
        first | exact absurd rfl zc10 | exact absurd zc10 (by decide) | exact absurd (by decide) zc10 | (exfalso; first | exact absurd ((nI_leI (a := 12) (b := 2) (by omega) (by omega)).mp zc10) (by omega) | exact absurd ((nI_ltI (a := e) (b := ck_feb (F 1)) (by omega) (by omega)).mp zc22) (by omega) | exact absurd ((nI_ltI (a := e) (b := ck_feb (F 1)) (by omega) (by omega)).mpr (by omega)) zc22) | (exfalso; simp_all; done)
      · intro zc10
        with_reducible first | have ze10 := Int32.not_le.mp zc10 | have ze10 := zc10
        refine hB bX0_trueDate_13 _ _ _ _ _ _ _ kX0_trueDate_13 ?_
        dsimp only [bX0_trueDate_13, kx_wp, kx_step, kx_lI, kx_lL, kx_lA, kx_gl, kx_pI, kx_pL, kx_pR, kx_pA, kx_pV, kx_s1, kx_s2, kx_sl, kx_pre, kx_c2, kx_pl, kx_cmp, kx_oF, kx_eqN, kx_nil, kx_c1, kx_ft, kx_aI, kx_aL, kx_aR, kx_ln, Nat.reduceAdd, Option.toList, List.cons_append, List.nil_append, cf0_1]
        repeat (simp only [hA, nI_1, ks_eq, ks_ss, show ck_last (nI 2) (F 1) = nI (ck_feb (F 1)) from ck_last2 (F 1), zr]; try dsimp only [kx_wp, kx_step, kx_lI, kx_lL, kx_lA, kx_gl, kx_pI, kx_pL, kx_pR, kx_pA, kx_pV, kx_s1, kx_s2, kx_sl, kx_pre, kx_c2, kx_pl, kx_cmp, kx_oF, kx_eqN, kx_nil, kx_c1, kx_ft, kx_aI, kx_aL, kx_aR, kx_ln, Nat.reduceAdd, Option.toList, List.cons_append, List.nil_append, cf0_1])
        repeat' apply And.intro
        all_goals try (first | with_reducible assumption | (with_reducible refine ck_nzI ?_; simp; done) | (with_reducible refine ck_nzL ?_; simp; done) | (with_reducible refine vp_in_nI ?_ ?_ <;> first | omega | decide) | (with_reducible refine Nat.le_of_ble_eq_true ?_; rfl) | omega)
        refine hC.2.1 36 _ _ _ _ _ _ _ _ _ _ _ _ _ _ _ _ _ lX0_36 (ct_X0_daysOf_t l G hM (k := 2) (by decide)) rfl rfl (Nat.le_of_ble_eq_true rfl) (by decide) (by decide) (by omega) (by omega) dX0_trueDate_19 ?_
        refine hB bX0_trueDate_22 _ _ _ _ _ _ _ kX0_trueDate_22 ?_
        dsimp only [bX0_trueDate_22, kx_wp, kx_step, kx_lI, kx_lL, kx_lA, kx_gl, kx_pI, kx_pL, kx_pR, kx_pA, kx_pV, kx_s1, kx_s2, kx_sl, kx_pre, kx_c2, kx_pl, kx_cmp, kx_oF, kx_eqN, kx_nil, kx_c1, kx_ft, kx_aI, kx_aL, kx_aR, kx_ln, Nat.reduceAdd, Option.toList, List.cons_append, List.nil_append, cf0_1]
        repeat (simp only [hA, nI_1, ks_eq, ks_ss, show ck_last (nI 2) (F 1) = nI (ck_feb (F 1)) from ck_last2 (F 1), zr]; try dsimp only [kx_wp, kx_step, kx_lI, kx_lL, kx_lA, kx_gl, kx_pI, kx_pL, kx_pR, kx_pA, kx_pV, kx_s1, kx_s2, kx_sl, kx_pre, kx_c2, kx_pl, kx_cmp, kx_oF, kx_eqN, kx_nil, kx_c1, kx_ft, kx_aI, kx_aL, kx_aR, kx_ln, Nat.reduceAdd, Option.toList, List.cons_append, List.nil_append, cf0_1])
        repeat' apply And.intro
        all_goals try (first | with_reducible assumption | (with_reducible refine ck_nzI ?_; simp; done) | (with_reducible refine ck_nzL ?_; simp; done) | (with_reducible refine vp_in_nI ?_ ?_ <;> first | omega | decide) | (with_reducible refine Nat.le_of_ble_eq_true ?_; rfl) | omega)
        · intro zc22
          with_reducible first | have ze22 := Int32.not_le.mpr zc22 | have ze22 := zc22
          refine hB bX0_trueDate_42 _ _ _ _ _ _ _ kX0_trueDate_42 ?_
          dsimp only [bX0_trueDate_42, kx_wp, kx_step, kx_lI, kx_lL, kx_lA, kx_gl, kx_pI, kx_pL, kx_pR, kx_pA, kx_pV, kx_s1, kx_s2, kx_sl, kx_pre, kx_c2, kx_pl, kx_cmp, kx_oF, kx_eqN, kx_nil, kx_c1, kx_ft, kx_aI, kx_aL, kx_aR, kx_ln, Nat.reduceAdd, Option.toList, List.cons_append, List.nil_append, cf0_1]
          repeat (simp only [hA, nI_1, ks_eq, ks_ss, show ck_last (nI 2) (F 1) = nI (ck_feb (F 1)) from ck_last2 (F 1), zr]; try dsimp only [kx_wp, kx_step, kx_lI, kx_lL, kx_lA, kx_gl, kx_pI, kx_pL, kx_pR, kx_pA, kx_pV, kx_s1, kx_s2, kx_sl, kx_pre, kx_c2, kx_pl, kx_cmp, kx_oF, kx_eqN, kx_nil, kx_c1, kx_ft, kx_aI, kx_aL, kx_aR, kx_ln, Nat.reduceAdd, Option.toList, List.cons_append, List.nil_append, cf0_1])
          all_goals (repeat' apply And.intro)
          all_goals ((try clear hB hC); first | exact True.intro | rfl | first | exact True.intro | with_reducible rfl | with_reducible assumption | (with_reducible refine vp_in_nI ?_ ?_ <;> first | omega | decide) | exact Nat.le_of_ble_eq_true rfl | (with_reducible refine ck_nzI ?_; simp; done) | (with_reducible refine ck_nzL ?_; simp; done) | (simp only [pk_us, pk_uLs, zc10, ze10, zc22, ze22, ↓reduceIte, not_true_eq_false, not_false_eq_true]; done) | (simp only [zc10, ze10, zc22, ze22, ↓reduceIte, not_true_eq_false, not_false_eq_true]; with_reducible rfl) | skip)
        · intro zc22
          first | exact absurd rfl zc22 | exact absurd zc22 (by decide) | exact absurd (by decide) zc22 | (exfalso; first | exact absurd ((nI_leI (a := 12) (b := 2) (by omega) (by omega)).mp zc10) (by omega) | exact absurd ((nI_ltI (a := e) (b := ck_feb (F 1)) (by omega) (by omega)).mp zc22) (by omega) | exact absurd ((nI_ltI (a := e) (b := ck_feb (F 1)) (by omega) (by omega)).mpr (by omega)) zc22) | (exfalso; simp_all; done)
    · refine hB bX0_trueDate_7 _ _ _ _ _ _ _ kX0_trueDate_7 ?_
      dsimp only [bX0_trueDate_7, kx_wp, kx_step, kx_lI, kx_lL, kx_lA, kx_gl, kx_pI, kx_pL, kx_pR, kx_pA, kx_pV, kx_s1, kx_s2, kx_sl, kx_pre, kx_c2, kx_pl, kx_cmp, kx_oF, kx_eqN, kx_nil, kx_c1, kx_ft, kx_aI, kx_aL, kx_aR, kx_ln, Nat.reduceAdd, Option.toList, List.cons_append, List.nil_append, cf0_1]
      repeat (simp only [hA, nI_1, ks_eq, ks_ss, show ck_last (nI 2) (F 1) = nI (ck_feb (F 1)) from ck_last2 (F 1), pk_sub (show ck_feb (F 1) ≤ e by omega)]; try dsimp only [kx_wp, kx_step, kx_lI, kx_lL, kx_lA, kx_gl, kx_pI, kx_pL, kx_pR, kx_pA, kx_pV, kx_s1, kx_s2, kx_sl, kx_pre, kx_c2, kx_pl, kx_cmp, kx_oF, kx_eqN, kx_nil, kx_c1, kx_ft, kx_aI, kx_aL, kx_aR, kx_ln, Nat.reduceAdd, Option.toList, List.cons_append, List.nil_append, cf0_1])
      repeat' apply And.intro
      all_goals try (first | with_reducible assumption | (with_reducible refine ck_nzI ?_; simp; done) | (with_reducible refine ck_nzL ?_; simp; done) | (with_reducible refine vp_in_nI ?_ ?_ <;> first | omega | decide) | (with_reducible refine Nat.le_of_ble_eq_true ?_; rfl) | omega)
      · intro zc10
        first | exact absurd rfl zc10 | exact absurd zc10 (by decide) | exact absurd (by decide) zc10 | (exfalso; first | exact absurd ((nI_leI (a := 12) (b := 2) (by omega) (by omega)).mp zc10) (by omega) | exact absurd ((nI_ltI (a := e) (b := ck_feb (F 1)) (by omega) (by omega)).mp zc22) (by omega) | exact absurd ((nI_ltI (a := e) (b := ck_feb (F 1)) (by omega) (by omega)).mpr (by omega)) zc22) | (exfalso; simp_all; done)
      · intro zc10
        with_reducible first | have ze10 := Int32.not_le.mp zc10 | have ze10 := zc10
        refine hB bX0_trueDate_13 _ _ _ _ _ _ _ kX0_trueDate_13 ?_
        dsimp only [bX0_trueDate_13, kx_wp, kx_step, kx_lI, kx_lL, kx_lA, kx_gl, kx_pI, kx_pL, kx_pR, kx_pA, kx_pV, kx_s1, kx_s2, kx_sl, kx_pre, kx_c2, kx_pl, kx_cmp, kx_oF, kx_eqN, kx_nil, kx_c1, kx_ft, kx_aI, kx_aL, kx_aR, kx_ln, Nat.reduceAdd, Option.toList, List.cons_append, List.nil_append, cf0_1]
        repeat (simp only [hA, nI_1, ks_eq, ks_ss, show ck_last (nI 2) (F 1) = nI (ck_feb (F 1)) from ck_last2 (F 1), pk_sub (show ck_feb (F 1) ≤ e by omega)]; try dsimp only [kx_wp, kx_step, kx_lI, kx_lL, kx_lA, kx_gl, kx_pI, kx_pL, kx_pR, kx_pA, kx_pV, kx_s1, kx_s2, kx_sl, kx_pre, kx_c2, kx_pl, kx_cmp, kx_oF, kx_eqN, kx_nil, kx_c1, kx_ft, kx_aI, kx_aL, kx_aR, kx_ln, Nat.reduceAdd, Option.toList, List.cons_append, List.nil_append, cf0_1])
        repeat' apply And.intro
        all_goals try (first | with_reducible assumption | (with_reducible refine ck_nzI ?_; simp; done) | (with_reducible refine ck_nzL ?_; simp; done) | (with_reducible refine vp_in_nI ?_ ?_ <;> first | omega | decide) | (with_reducible refine Nat.le_of_ble_eq_true ?_; rfl) | omega)
        refine hC.2.1 36 _ _ _ _ _ _ _ _ _ _ _ _ _ _ _ _ _ lX0_36 (ct_X0_daysOf_t l G hM (k := 2) (by decide)) rfl rfl (Nat.le_of_ble_eq_true rfl) (by decide) (by decide) (by omega) (by omega) dX0_trueDate_19 ?_
        refine hB bX0_trueDate_22 _ _ _ _ _ _ _ kX0_trueDate_22 ?_
        dsimp only [bX0_trueDate_22, kx_wp, kx_step, kx_lI, kx_lL, kx_lA, kx_gl, kx_pI, kx_pL, kx_pR, kx_pA, kx_pV, kx_s1, kx_s2, kx_sl, kx_pre, kx_c2, kx_pl, kx_cmp, kx_oF, kx_eqN, kx_nil, kx_c1, kx_ft, kx_aI, kx_aL, kx_aR, kx_ln, Nat.reduceAdd, Option.toList, List.cons_append, List.nil_append, cf0_1]
        repeat (simp only [hA, nI_1, ks_eq, ks_ss, show ck_last (nI 2) (F 1) = nI (ck_feb (F 1)) from ck_last2 (F 1), pk_sub (show ck_feb (F 1) ≤ e by omega)]; try dsimp only [kx_wp, kx_step, kx_lI, kx_lL, kx_lA, kx_gl, kx_pI, kx_pL, kx_pR, kx_pA, kx_pV, kx_s1, kx_s2, kx_sl, kx_pre, kx_c2, kx_pl, kx_cmp, kx_oF, kx_eqN, kx_nil, kx_c1, kx_ft, kx_aI, kx_aL, kx_aR, kx_ln, Nat.reduceAdd, Option.toList, List.cons_append, List.nil_append, cf0_1])
        repeat' apply And.intro
        all_goals try (first | with_reducible assumption | (with_reducible refine ck_nzI ?_; simp; done) | (with_reducible refine ck_nzL ?_; simp; done) | (with_reducible refine vp_in_nI ?_ ?_ <;> first | omega | decide) | (with_reducible refine Nat.le_of_ble_eq_true ?_; rfl) | omega)
        · intro zc22
          first | exact absurd rfl zc22 | exact absurd zc22 (by decide) | exact absurd (by decide) zc22 | (exfalso; first | exact absurd ((nI_leI (a := 12) (b := 2) (by omega) (by omega)).mp zc10) (by omega) | exact absurd ((nI_ltI (a := e) (b := ck_feb (F 1)) (by omega) (by omega)).mp zc22) (by omega) | exact absurd ((nI_ltI (a := e) (b := ck_feb (F 1)) (by omega) (by omega)).mpr (by omega)) zc22) | (exfalso; simp_all; done)
        · intro zc22
          with_reducible first | have ze22 := Int32.not_lt.mp zc22 | have ze22 := zc22
          refine hB bX0_trueDate_25 _ _ _ _ _ _ _ kX0_trueDate_25 ?_
          dsimp only [bX0_trueDate_25, kx_wp, kx_step, kx_lI, kx_lL, kx_lA, kx_gl, kx_pI, kx_pL, kx_pR, kx_pA, kx_pV, kx_s1, kx_s2, kx_sl, kx_pre, kx_c2, kx_pl, kx_cmp, kx_oF, kx_eqN, kx_nil, kx_c1, kx_ft, kx_aI, kx_aL, kx_aR, kx_ln, Nat.reduceAdd, Option.toList, List.cons_append, List.nil_append, cf0_1]
          repeat (simp only [hA, nI_1, ks_eq, ks_ss, show ck_last (nI 2) (F 1) = nI (ck_feb (F 1)) from ck_last2 (F 1), pk_sub (show ck_feb (F 1) ≤ e by omega)]; try dsimp only [kx_wp, kx_step, kx_lI, kx_lL, kx_lA, kx_gl, kx_pI, kx_pL, kx_pR, kx_pA, kx_pV, kx_s1, kx_s2, kx_sl, kx_pre, kx_c2, kx_pl, kx_cmp, kx_oF, kx_eqN, kx_nil, kx_c1, kx_ft, kx_aI, kx_aL, kx_aR, kx_ln, Nat.reduceAdd, Option.toList, List.cons_append, List.nil_append, cf0_1])
          repeat' apply And.intro
          all_goals try (first | with_reducible assumption | (with_reducible refine ck_nzI ?_; simp; done) | (with_reducible refine ck_nzL ?_; simp; done) | (with_reducible refine vp_in_nI ?_ ?_ <;> first | omega | decide) | (with_reducible refine Nat.le_of_ble_eq_true ?_; rfl) | omega)
          refine hC.2.1 36 _ _ _ _ _ _ _ _ _ _ _ _ _ _ _ _ _ lX0_36 (ct_X0_daysOf_t l G hM (k := 2) (by decide)) rfl rfl (Nat.le_of_ble_eq_true rfl) (by decide) (by decide) (by omega) (by omega) dX0_trueDate_31 ?_
          refine hB bX0_trueDate_34 _ _ _ _ _ _ _ kX0_trueDate_34 ?_
          dsimp only [bX0_trueDate_34, kx_wp, kx_step, kx_lI, kx_lL, kx_lA, kx_gl, kx_pI, kx_pL, kx_pR, kx_pA, kx_pV, kx_s1, kx_s2, kx_sl, kx_pre, kx_c2, kx_pl, kx_cmp, kx_oF, kx_eqN, kx_nil, kx_c1, kx_ft, kx_aI, kx_aL, kx_aR, kx_ln, Nat.reduceAdd, Option.toList, List.cons_append, List.nil_append, cf0_1]
          repeat (simp only [hA, nI_1, ks_eq, ks_ss, show ck_last (nI 2) (F 1) = nI (ck_feb (F 1)) from ck_last2 (F 1), pk_sub (show ck_feb (F 1) ≤ e by omega)]; try dsimp only [kx_wp, kx_step, kx_lI, kx_lL, kx_lA, kx_gl, kx_pI, kx_pL, kx_pR, kx_pA, kx_pV, kx_s1, kx_s2, kx_sl, kx_pre, kx_c2, kx_pl, kx_cmp, kx_oF, kx_eqN, kx_nil, kx_c1, kx_ft, kx_aI, kx_aL, kx_aR, kx_ln, Nat.reduceAdd, Option.toList, List.cons_append, List.nil_append, cf0_1])
          repeat' apply And.intro
          all_goals try (first | with_reducible assumption | (with_reducible refine ck_nzI ?_; simp; done) | (with_reducible refine ck_nzL ?_; simp; done) | (with_reducible refine vp_in_nI ?_ ?_ <;> first | omega | decide) | (with_reducible refine Nat.le_of_ble_eq_true ?_; rfl) | omega)
          exact loop3 (e - (ck_feb (F 1))) (by omega)
  have loop1 : ∀ e : Nat, e = d / 1440 → g 7 [some (.ref 65), some (.int (nI e)), some (.int (1))] [] P sz 0 0 := by
    intro e he
    by_cases hlt : e < 31
    · have zr : ck_da (d / 1440) (ck_feb (F 1)) = e + 1 := by simp only [ck_mo, ck_da, if_pos (show d / 1440 < 31 by omega)] <;> omega
      refine hB bX0_trueDate_7 _ _ _ _ _ _ _ kX0_trueDate_7 ?_
      dsimp only [bX0_trueDate_7, kx_wp, kx_step, kx_lI, kx_lL, kx_lA, kx_gl, kx_pI, kx_pL, kx_pR, kx_pA, kx_pV, kx_s1, kx_s2, kx_sl, kx_pre, kx_c2, kx_pl, kx_cmp, kx_oF, kx_eqN, kx_nil, kx_c1, kx_ft, kx_aI, kx_aL, kx_aR, kx_ln, Nat.reduceAdd, Option.toList, List.cons_append, List.nil_append, cf0_1]
      repeat (simp only [hA, nI_1, ks_eq, ks_ss, show ck_last (nI 1) (F 1) = nI (31) from ck_last1 (F 1), zr]; try dsimp only [kx_wp, kx_step, kx_lI, kx_lL, kx_lA, kx_gl, kx_pI, kx_pL, kx_pR, kx_pA, kx_pV, kx_s1, kx_s2, kx_sl, kx_pre, kx_c2, kx_pl, kx_cmp, kx_oF, kx_eqN, kx_nil, kx_c1, kx_ft, kx_aI, kx_aL, kx_aR, kx_ln, Nat.reduceAdd, Option.toList, List.cons_append, List.nil_append, cf0_1])
      repeat' apply And.intro
      all_goals try (first | with_reducible assumption | (with_reducible refine ck_nzI ?_; simp; done) | (with_reducible refine ck_nzL ?_; simp; done) | (with_reducible refine vp_in_nI ?_ ?_ <;> first | omega | decide) | (with_reducible refine Nat.le_of_ble_eq_true ?_; rfl) | omega)
      · intro zc10
        first | exact absurd rfl zc10 | exact absurd zc10 (by decide) | exact absurd (by decide) zc10 | (exfalso; first | exact absurd ((nI_leI (a := 12) (b := 1) (by omega) (by omega)).mp zc10) (by omega) | exact absurd ((nI_ltI (a := e) (b := 31) (by omega) (by omega)).mp zc22) (by omega) | exact absurd ((nI_ltI (a := e) (b := 31) (by omega) (by omega)).mpr (by omega)) zc22) | (exfalso; simp_all; done)
      · intro zc10
        with_reducible first | have ze10 := Int32.not_le.mp zc10 | have ze10 := zc10
        refine hB bX0_trueDate_13 _ _ _ _ _ _ _ kX0_trueDate_13 ?_
        dsimp only [bX0_trueDate_13, kx_wp, kx_step, kx_lI, kx_lL, kx_lA, kx_gl, kx_pI, kx_pL, kx_pR, kx_pA, kx_pV, kx_s1, kx_s2, kx_sl, kx_pre, kx_c2, kx_pl, kx_cmp, kx_oF, kx_eqN, kx_nil, kx_c1, kx_ft, kx_aI, kx_aL, kx_aR, kx_ln, Nat.reduceAdd, Option.toList, List.cons_append, List.nil_append, cf0_1]
        repeat (simp only [hA, nI_1, ks_eq, ks_ss, show ck_last (nI 1) (F 1) = nI (31) from ck_last1 (F 1), zr]; try dsimp only [kx_wp, kx_step, kx_lI, kx_lL, kx_lA, kx_gl, kx_pI, kx_pL, kx_pR, kx_pA, kx_pV, kx_s1, kx_s2, kx_sl, kx_pre, kx_c2, kx_pl, kx_cmp, kx_oF, kx_eqN, kx_nil, kx_c1, kx_ft, kx_aI, kx_aL, kx_aR, kx_ln, Nat.reduceAdd, Option.toList, List.cons_append, List.nil_append, cf0_1])
        repeat' apply And.intro
        all_goals try (first | with_reducible assumption | (with_reducible refine ck_nzI ?_; simp; done) | (with_reducible refine ck_nzL ?_; simp; done) | (with_reducible refine vp_in_nI ?_ ?_ <;> first | omega | decide) | (with_reducible refine Nat.le_of_ble_eq_true ?_; rfl) | omega)
        refine hC.2.1 36 _ _ _ _ _ _ _ _ _ _ _ _ _ _ _ _ _ lX0_36 (ct_X0_daysOf_t l G hM (k := 1) (by decide)) rfl rfl (Nat.le_of_ble_eq_true rfl) (by decide) (by decide) (by omega) (by omega) dX0_trueDate_19 ?_
        refine hB bX0_trueDate_22 _ _ _ _ _ _ _ kX0_trueDate_22 ?_
        dsimp only [bX0_trueDate_22, kx_wp, kx_step, kx_lI, kx_lL, kx_lA, kx_gl, kx_pI, kx_pL, kx_pR, kx_pA, kx_pV, kx_s1, kx_s2, kx_sl, kx_pre, kx_c2, kx_pl, kx_cmp, kx_oF, kx_eqN, kx_nil, kx_c1, kx_ft, kx_aI, kx_aL, kx_aR, kx_ln, Nat.reduceAdd, Option.toList, List.cons_append, List.nil_append, cf0_1]
        repeat (simp only [hA, nI_1, ks_eq, ks_ss, show ck_last (nI 1) (F 1) = nI (31) from ck_last1 (F 1), zr]; try dsimp only [kx_wp, kx_step, kx_lI, kx_lL, kx_lA, kx_gl, kx_pI, kx_pL, kx_pR, kx_pA, kx_pV, kx_s1, kx_s2, kx_sl, kx_pre, kx_c2, kx_pl, kx_cmp, kx_oF, kx_eqN, kx_nil, kx_c1, kx_ft, kx_aI, kx_aL, kx_aR, kx_ln, Nat.reduceAdd, Option.toList, List.cons_append, List.nil_append, cf0_1])
        repeat' apply And.intro
        all_goals try (first | with_reducible assumption | (with_reducible refine ck_nzI ?_; simp; done) | (with_reducible refine ck_nzL ?_; simp; done) | (with_reducible refine vp_in_nI ?_ ?_ <;> first | omega | decide) | (with_reducible refine Nat.le_of_ble_eq_true ?_; rfl) | omega)
        · intro zc22
          with_reducible first | have ze22 := Int32.not_le.mpr zc22 | have ze22 := zc22
          refine hB bX0_trueDate_42 _ _ _ _ _ _ _ kX0_trueDate_42 ?_
          dsimp only [bX0_trueDate_42, kx_wp, kx_step, kx_lI, kx_lL, kx_lA, kx_gl, kx_pI, kx_pL, kx_pR, kx_pA, kx_pV, kx_s1, kx_s2, kx_sl, kx_pre, kx_c2, kx_pl, kx_cmp, kx_oF, kx_eqN, kx_nil, kx_c1, kx_ft, kx_aI, kx_aL, kx_aR, kx_ln, Nat.reduceAdd, Option.toList, List.cons_append, List.nil_append, cf0_1]
          repeat (simp only [hA, nI_1, ks_eq, ks_ss, show ck_last (nI 1) (F 1) = nI (31) from ck_last1 (F 1), zr]; try dsimp only [kx_wp, kx_step, kx_lI, kx_lL, kx_lA, kx_gl, kx_pI, kx_pL, kx_pR, kx_pA, kx_pV, kx_s1, kx_s2, kx_sl, kx_pre, kx_c2, kx_pl, kx_cmp, kx_oF, kx_eqN, kx_nil, kx_c1, kx_ft, kx_aI, kx_aL, kx_aR, kx_ln, Nat.reduceAdd, Option.toList, List.cons_append, List.nil_append, cf0_1])
          all_goals (repeat' apply And.intro)
          all_goals ((try clear hB hC); first | exact True.intro | rfl | first | exact True.intro | with_reducible rfl | with_reducible assumption | (with_reducible refine vp_in_nI ?_ ?_ <;> first | omega | decide) | exact Nat.le_of_ble_eq_true rfl | (with_reducible refine ck_nzI ?_; simp; done) | (with_reducible refine ck_nzL ?_; simp; done) | (simp only [pk_us, pk_uLs, zc10, ze10, zc22, ze22, ↓reduceIte, not_true_eq_false, not_false_eq_true]; done) | (simp only [zc10, ze10, zc22, ze22, ↓reduceIte, not_true_eq_false, not_false_eq_true]; with_reducible rfl) | skip)
        · intro zc22
          first | exact absurd rfl zc22 | exact absurd zc22 (by decide) | exact absurd (by decide) zc22 | (exfalso; first | exact absurd ((nI_leI (a := 12) (b := 1) (by omega) (by omega)).mp zc10) (by omega) | exact absurd ((nI_ltI (a := e) (b := 31) (by omega) (by omega)).mp zc22) (by omega) | exact absurd ((nI_ltI (a := e) (b := 31) (by omega) (by omega)).mpr (by omega)) zc22) | (exfalso; simp_all; done)
    · refine hB bX0_trueDate_7 _ _ _ _ _ _ _ kX0_trueDate_7 ?_
      dsimp only [bX0_trueDate_7, kx_wp, kx_step, kx_lI, kx_lL, kx_lA, kx_gl, kx_pI, kx_pL, kx_pR, kx_pA, kx_pV, kx_s1, kx_s2, kx_sl, kx_pre, kx_c2, kx_pl, kx_cmp, kx_oF, kx_eqN, kx_nil, kx_c1, kx_ft, kx_aI, kx_aL, kx_aR, kx_ln, Nat.reduceAdd, Option.toList, List.cons_append, List.nil_append, cf0_1]
      repeat (simp only [hA, nI_1, ks_eq, ks_ss, show ck_last (nI 1) (F 1) = nI (31) from ck_last1 (F 1), pk_sub (show 31 ≤ e by omega)]; try dsimp only [kx_wp, kx_step, kx_lI, kx_lL, kx_lA, kx_gl, kx_pI, kx_pL, kx_pR, kx_pA, kx_pV, kx_s1, kx_s2, kx_sl, kx_pre, kx_c2, kx_pl, kx_cmp, kx_oF, kx_eqN, kx_nil, kx_c1, kx_ft, kx_aI, kx_aL, kx_aR, kx_ln, Nat.reduceAdd, Option.toList, List.cons_append, List.nil_append, cf0_1])
      repeat' apply And.intro
      all_goals try (first | with_reducible assumption | (with_reducible refine ck_nzI ?_; simp; done) | (with_reducible refine ck_nzL ?_; simp; done) | (with_reducible refine vp_in_nI ?_ ?_ <;> first | omega | decide) | (with_reducible refine Nat.le_of_ble_eq_true ?_; rfl) | omega)
      · intro zc10
        first | exact absurd rfl zc10 | exact absurd zc10 (by decide) | exact absurd (by decide) zc10 | (exfalso; first | exact absurd ((nI_leI (a := 12) (b := 1) (by omega) (by omega)).mp zc10) (by omega) | exact absurd ((nI_ltI (a := e) (b := 31) (by omega) (by omega)).mp zc22) (by omega) | exact absurd ((nI_ltI (a := e) (b := 31) (by omega) (by omega)).mpr (by omega)) zc22) | (exfalso; simp_all; done)
      · intro zc10
        with_reducible first | have ze10 := Int32.not_le.mp zc10 | have ze10 := zc10
        refine hB bX0_trueDate_13 _ _ _ _ _ _ _ kX0_trueDate_13 ?_
        dsimp only [bX0_trueDate_13, kx_wp, kx_step, kx_lI, kx_lL, kx_lA, kx_gl, kx_pI, kx_pL, kx_pR, kx_pA, kx_pV, kx_s1, kx_s2, kx_sl, kx_pre, kx_c2, kx_pl, kx_cmp, kx_oF, kx_eqN, kx_nil, kx_c1, kx_ft, kx_aI, kx_aL, kx_aR, kx_ln, Nat.reduceAdd, Option.toList, List.cons_append, List.nil_append, cf0_1]
        repeat (simp only [hA, nI_1, ks_eq, ks_ss, show ck_last (nI 1) (F 1) = nI (31) from ck_last1 (F 1), pk_sub (show 31 ≤ e by omega)]; try dsimp only [kx_wp, kx_step, kx_lI, kx_lL, kx_lA, kx_gl, kx_pI, kx_pL, kx_pR, kx_pA, kx_pV, kx_s1, kx_s2, kx_sl, kx_pre, kx_c2, kx_pl, kx_cmp, kx_oF, kx_eqN, kx_nil, kx_c1, kx_ft, kx_aI, kx_aL, kx_aR, kx_ln, Nat.reduceAdd, Option.toList, List.cons_append, List.nil_append, cf0_1])
        repeat' apply And.intro
        all_goals try (first | with_reducible assumption | (with_reducible refine ck_nzI ?_; simp; done) | (with_reducible refine ck_nzL ?_; simp; done) | (with_reducible refine vp_in_nI ?_ ?_ <;> first | omega | decide) | (with_reducible refine Nat.le_of_ble_eq_true ?_; rfl) | omega)
        refine hC.2.1 36 _ _ _ _ _ _ _ _ _ _ _ _ _ _ _ _ _ lX0_36 (ct_X0_daysOf_t l G hM (k := 1) (by decide)) rfl rfl (Nat.le_of_ble_eq_true rfl) (by decide) (by decide) (by omega) (by omega) dX0_trueDate_19 ?_
        refine hB bX0_trueDate_22 _ _ _ _ _ _ _ kX0_trueDate_22 ?_
        dsimp only [bX0_trueDate_22, kx_wp, kx_step, kx_lI, kx_lL, kx_lA, kx_gl, kx_pI, kx_pL, kx_pR, kx_pA, kx_pV, kx_s1, kx_s2, kx_sl, kx_pre, kx_c2, kx_pl, kx_cmp, kx_oF, kx_eqN, kx_nil, kx_c1, kx_ft, kx_aI, kx_aL, kx_aR, kx_ln, Nat.reduceAdd, Option.toList, List.cons_append, List.nil_append, cf0_1]
        repeat (simp only [hA, nI_1, ks_eq, ks_ss, show ck_last (nI 1) (F 1) = nI (31) from ck_last1 (F 1), pk_sub (show 31 ≤ e by omega)]; try dsimp only [kx_wp, kx_step, kx_lI, kx_lL, kx_lA, kx_gl, kx_pI, kx_pL, kx_pR, kx_pA, kx_pV, kx_s1, kx_s2, kx_sl, kx_pre, kx_c2, kx_pl, kx_cmp, kx_oF, kx_eqN, kx_nil, kx_c1, kx_ft, kx_aI, kx_aL, kx_aR, kx_ln, Nat.reduceAdd, Option.toList, List.cons_append, List.nil_append, cf0_1])
        repeat' apply And.intro
        all_goals try (first | with_reducible assumption | (with_reducible refine ck_nzI ?_; simp; done) | (with_reducible refine ck_nzL ?_; simp; done) | (with_reducible refine vp_in_nI ?_ ?_ <;> first | omega | decide) | (with_reducible refine Nat.le_of_ble_eq_true ?_; rfl) | omega)
        · intro zc22
          first | exact absurd rfl zc22 | exact absurd zc22 (by decide) | exact absurd (by decide) zc22 | (exfalso; first | exact absurd ((nI_leI (a := 12) (b := 1) (by omega) (by omega)).mp zc10) (by omega) | exact absurd ((nI_ltI (a := e) (b := 31) (by omega) (by omega)).mp zc22) (by omega) | exact absurd ((nI_ltI (a := e) (b := 31) (by omega) (by omega)).mpr (by omega)) zc22) | (exfalso; simp_all; done)
        · intro zc22
          with_reducible first | have ze22 := Int32.not_lt.mp zc22 | have ze22 := zc22
          refine hB bX0_trueDate_25 _ _ _ _ _ _ _ kX0_trueDate_25 ?_
          dsimp only [bX0_trueDate_25, kx_wp, kx_step, kx_lI, kx_lL, kx_lA, kx_gl, kx_pI, kx_pL, kx_pR, kx_pA, kx_pV, kx_s1, kx_s2, kx_sl, kx_pre, kx_c2, kx_pl, kx_cmp, kx_oF, kx_eqN, kx_nil, kx_c1, kx_ft, kx_aI, kx_aL, kx_aR, kx_ln, Nat.reduceAdd, Option.toList, List.cons_append, List.nil_append, cf0_1]
          repeat (simp only [hA, nI_1, ks_eq, ks_ss, show ck_last (nI 1) (F 1) = nI (31) from ck_last1 (F 1), pk_sub (show 31 ≤ e by omega)]; try dsimp only [kx_wp, kx_step, kx_lI, kx_lL, kx_lA, kx_gl, kx_pI, kx_pL, kx_pR, kx_pA, kx_pV, kx_s1, kx_s2, kx_sl, kx_pre, kx_c2, kx_pl, kx_cmp, kx_oF, kx_eqN, kx_nil, kx_c1, kx_ft, kx_aI, kx_aL, kx_aR, kx_ln, Nat.reduceAdd, Option.toList, List.cons_append, List.nil_append, cf0_1])
          repeat' apply And.intro
          all_goals try (first | with_reducible assumption | (with_reducible refine ck_nzI ?_; simp; done) | (with_reducible refine ck_nzL ?_; simp; done) | (with_reducible refine vp_in_nI ?_ ?_ <;> first | omega | decide) | (with_reducible refine Nat.le_of_ble_eq_true ?_; rfl) | omega)
          refine hC.2.1 36 _ _ _ _ _ _ _ _ _ _ _ _ _ _ _ _ _ lX0_36 (ct_X0_daysOf_t l G hM (k := 1) (by decide)) rfl rfl (Nat.le_of_ble_eq_true rfl) (by decide) (by decide) (by omega) (by omega) dX0_trueDate_31 ?_
          refine hB bX0_trueDate_34 _ _ _ _ _ _ _ kX0_trueDate_34 ?_
          dsimp only [bX0_trueDate_34, kx_wp, kx_step, kx_lI, kx_lL, kx_lA, kx_gl, kx_pI, kx_pL, kx_pR, kx_pA, kx_pV, kx_s1, kx_s2, kx_sl, kx_pre, kx_c2, kx_pl, kx_cmp, kx_oF, kx_eqN, kx_nil, kx_c1, kx_ft, kx_aI, kx_aL, kx_aR, kx_ln, Nat.reduceAdd, Option.toList, List.cons_append, List.nil_append, cf0_1]
          repeat (simp only [hA, nI_1, ks_eq, ks_ss, show ck_last (nI 1) (F 1) = nI (31) from ck_last1 (F 1), pk_sub (show 31 ≤ e by omega)]; try dsimp only [kx_wp, kx_step, kx_lI, kx_lL, kx_lA, kx_gl, kx_pI, kx_pL, kx_pR, kx_pA, kx_pV, kx_s1, kx_s2, kx_sl, kx_pre, kx_c2, kx_pl, kx_cmp, kx_oF, kx_eqN, kx_nil, kx_c1, kx_ft, kx_aI, kx_aL, kx_aR, kx_ln, Nat.reduceAdd, Option.toList, List.cons_append, List.nil_append, cf0_1])
          repeat' apply And.intro
          all_goals try (first | with_reducible assumption | (with_reducible refine ck_nzI ?_; simp; done) | (with_reducible refine ck_nzL ?_; simp; done) | (with_reducible refine vp_in_nI ?_ ?_ <;> first | omega | decide) | (with_reducible refine Nat.le_of_ble_eq_true ?_; rfl) | omega)
          exact loop2 (e - (31)) (by omega)
  refine hB bX0_trueDate_0 _ _ _ _ _ _ _ kX0_trueDate_0 ?_
  dsimp only [bX0_trueDate_0, kx_wp, kx_step, kx_lI, kx_lL, kx_lA, kx_gl, kx_pI, kx_pL, kx_pR, kx_pA, kx_pV, kx_s1, kx_s2, kx_sl, kx_pre, kx_c2, kx_pl, kx_cmp, kx_oF, kx_eqN, kx_nil, kx_c1, kx_ft, kx_aI, kx_aL, kx_aR, kx_ln, Nat.reduceAdd, Option.toList, List.cons_append, List.nil_append, cf0_1]
  repeat (simp only [hA, nI_1, ks_eq, ks_ss]; try dsimp only [kx_wp, kx_step, kx_lI, kx_lL, kx_lA, kx_gl, kx_pI, kx_pL, kx_pR, kx_pA, kx_pV, kx_s1, kx_s2, kx_sl, kx_pre, kx_c2, kx_pl, kx_cmp, kx_oF, kx_eqN, kx_nil, kx_c1, kx_ft, kx_aI, kx_aL, kx_aR, kx_ln, Nat.reduceAdd, Option.toList, List.cons_append, List.nil_append, cf0_1])
  repeat' apply And.intro
  all_goals try (first | with_reducible assumption | (with_reducible refine ck_nzI ?_; simp; done) | (with_reducible refine ck_nzL ?_; simp; done) | (with_reducible refine vp_in_nI ?_ ?_ <;> first | omega | decide) | (with_reducible refine Nat.le_of_ble_eq_true ?_; rfl) | omega)
  refine hC.1 33 _ _ _ _ _ _ _ 0 _ _ _ _ _ _ _ _ _ _ _ _ lX0_33 (ct_X0_dayOfYear l G hA h1 hd) ⟨by decide, rfl⟩ (by first | assumption | (simp only [hA, nI_1, ks_eq, ks_ss])) rfl rfl (Nat.le_of_ble_eq_true rfl) (by decide) (by decide) (by omega) (by omega) dX0_trueDate_1 ?_
  refine hB bX0_trueDate_4 _ _ _ _ _ _ _ kX0_trueDate_4 ?_
  dsimp only [bX0_trueDate_4, kx_wp, kx_step, kx_lI, kx_lL, kx_lA, kx_gl, kx_pI, kx_pL, kx_pR, kx_pA, kx_pV, kx_s1, kx_s2, kx_sl, kx_pre, kx_c2, kx_pl, kx_cmp, kx_oF, kx_eqN, kx_nil, kx_c1, kx_ft, kx_aI, kx_aL, kx_aR, kx_ln, Nat.reduceAdd, Option.toList, List.cons_append, List.nil_append, cf0_1]
  repeat (simp only [hA, nI_1, ks_eq, ks_ss]; try dsimp only [kx_wp, kx_step, kx_lI, kx_lL, kx_lA, kx_gl, kx_pI, kx_pL, kx_pR, kx_pA, kx_pV, kx_s1, kx_s2, kx_sl, kx_pre, kx_c2, kx_pl, kx_cmp, kx_oF, kx_eqN, kx_nil, kx_c1, kx_ft, kx_aI, kx_aL, kx_aR, kx_ln, Nat.reduceAdd, Option.toList, List.cons_append, List.nil_append, cf0_1])
  repeat' apply And.intro
  all_goals try (first | with_reducible assumption | (with_reducible refine ck_nzI ?_; simp; done) | (with_reducible refine ck_nzL ?_; simp; done) | (with_reducible refine vp_in_nI ?_ ?_ <;> first | omega | decide) | (with_reducible refine Nat.le_of_ble_eq_true ?_; rfl) | omega)
  exact loop1 _ rfl


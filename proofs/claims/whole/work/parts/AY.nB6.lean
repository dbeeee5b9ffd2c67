def bX10_keeper_0 : List kx_O := [(.iload_n 1, 1, 0, 0, .null), (.iload_n 2, 2, 0, 0, .null)]
theorem kX10_keeper_0 : kx_oks kxL_X10 false cX10_keeper 0 bX10_keeper_0 = true := by decide +kernel
def bX10_keeper_8 : List kx_O := [(.aload_n 0, 0, 0, 0, .null), (.getfield 61, 10, 10, 0, .null), (.iload_n 1, 1, 0, 0, .null), (.isub, 0, 0, 0, .null)]
theorem kX10_keeper_8 : kx_oks kxL_X10 false cX10_keeper 8 bX10_keeper_8 = true := by decide +kernel
def bX10_keeper_17 : List kx_O := [(.aload_n 0, 0, 0, 0, .null), (.getfield 64, 10, 11, 0, .null), (.iload_n 2, 2, 0, 0, .null), (.isub, 0, 0, 0, .null)]
theorem kX10_keeper_17 : kx_oks kxL_X10 false cX10_keeper 17 bX10_keeper_17 = true := by decide +kernel
def bX10_keeper_26 : List kx_O := [(.iadd, 0, 0, 0, .null), (.istore_n 3, 3, 0, 0, .null), (.aload_n 0, 0, 0, 0, .null), (.iload_n 1, 1, 0, 0, .null), (.putfield 61, 10, 10, 0, .null), (.aload_n 0, 0, 0, 0, .null), (.iload_n 2, 2, 0, 0, .null), (.putfield 64, 10, 11, 0, .null), (.iload_n 3, 3, 0, 0, .null), (.ireturn, 0, 0, 0, .null)]
theorem kX10_keeper_26 : kx_oks kxL_X10 false cX10_keeper 26 bX10_keeper_26 = true := by decide +kernel
theorem dX10_keeper_2 : decode cX10_keeper 2 = .ok (.invokestatic 111, 3) := by decide +kernel
theorem dX10_keeper_5 : decode cX10_keeper 5 = .ok (.invokestatic 95, 3) := by decide +kernel
theorem dX10_keeper_14 : decode cX10_keeper 14 = .ok (.invokestatic 256, 3) := by decide +kernel
theorem dX10_keeper_23 : decode cX10_keeper 23 = .ok (.invokestatic 256, 3) := by decide +kernel
set_option maxRecDepth 100000 in
set_option maxHeartbeats 4000000 in
theorem ct_X10_keeper_t (l : Launch) (G : kx_G) {P : kx_P} {sz : Nat} {sv : Value} {K : Nat → Int32} (h64 : P 64 = kO 10 (kf (cr10 sv) K)) {x y : Int32} (hip : cx_ip x y = 1)  : kx_M l G sX10_keeper 3 0 0 [.ref 64, .int (x), .int (y)] P sz (some (.int (ck_abs (K 10 - x) + ck_abs (K 11 - y)))) (kx_set P 64 (kO 10 (kf (cr10 sv) (upd (upd K 10 x) 11 y)))) sz := by
  refine kx_mk kx_tab kxLok_X10 (ini := false) [some (.ref 64), some (.int (x)), some (.int (y)), none] ⟨by decide, rfl, by decide, by decide⟩ (⟨_, rfl⟩) rfl rfl (fun g hB hC => ?_)
  refine hB bX10_keeper_0 _ _ _ _ _ _ _ kX10_keeper_0 ?_
  dsimp only [bX10_keeper_0, kx_wp, kx_step, kx_lI, kx_lL, kx_lA, kx_gl, kx_pI, kx_pL, kx_pR, kx_pA, kx_pV, kx_s1, kx_s2, kx_sl, kx_pre, kx_c2, kx_pl, kx_cmp, kx_oF, kx_eqN, kx_nil, kx_c1, kx_ft, kx_aI, kx_aL, kx_aR, kx_ln, Nat.reduceAdd, Option.toList, List.cons_append, List.nil_append, cf10_10, cf10_11]
  repeat (simp only [h64, hip, pk_us, pk_un, ne_eq, Nat.reduceEqDiff, not_false_eq_true, cp10_10, cp10_11, ks_eq, ks_ss]; try dsimp only [kx_wp, kx_step, kx_lI, kx_lL, kx_lA, kx_gl, kx_pI, kx_pL, kx_pR, kx_pA, kx_pV, kx_s1, kx_s2, kx_sl, kx_pre, kx_c2, kx_pl, kx_cmp, kx_oF, kx_eqN, kx_nil, kx_c1, kx_ft, kx_aI, kx_aL, kx_aR, kx_ln, Nat.reduceAdd, Option.toList, List.cons_append, List.nil_append, cf10_10, cf10_11])
  repeat' apply And.intro
  all_goals try (first | with_reducible assumption | (with_reducible refine ck_nzI ?_; simp; done) | (with_reducible refine ck_nzL ?_; simp; done) | (with_reducible refine vp_in_nI ?_ ?_ <;> first | omega | decide) | (with_reducible refine Nat.le_of_ble_eq_true ?_; rfl) | omega | exact Or.inl trivial | exact Or.inr trivial | exact Or.inl rfl | exact Or.inr rfl)
  refine hC.2.1 111 _ _ _ _ _ _ _ _ _ _ _ _ _ _ _ _ _ lX10_111 (ct_X10_isPlace l G) rfl rfl (Nat.le_of_ble_eq_true rfl) (by first | decide | omega) (by decide) (by omega) (by omega) dX10_keeper_2 ?_
  rw [hip]
  refine hC.2.1 95 _ _ _ _ _ _ _ _ _ _ _ _ _ _ _ _ _ lX10_95 (ct_X10_need l G (b := 1) (by decide)) rfl rfl (Nat.le_of_ble_eq_true rfl) (by first | decide | omega) (by decide) (by omega) (by omega) dX10_keeper_5 ?_
  refine hB bX10_keeper_8 _ _ _ _ _ _ _ kX10_keeper_8 ?_
  dsimp only [bX10_keeper_8, kx_wp, kx_step, kx_lI, kx_lL, kx_lA, kx_gl, kx_pI, kx_pL, kx_pR, kx_pA, kx_pV, kx_s1, kx_s2, kx_sl, kx_pre, kx_c2, kx_pl, kx_cmp, kx_oF, kx_eqN, kx_nil, kx_c1, kx_ft, kx_aI, kx_aL, kx_aR, kx_ln, Nat.reduceAdd, Option.toList, List.cons_append, List.nil_append, cf10_10, cf10_11]
  repeat (simp only [h64, hip, pk_us, pk_un, ne_eq, Nat.reduceEqDiff, not_false_eq_true, cp10_10, cp10_11, ks_eq, ks_ss]; try dsimp only [kx_wp, kx_step, kx_lI, kx_lL, kx_lA, kx_gl, kx_pI, kx_pL, kx_pR, kx_pA, kx_pV, kx_s1, kx_s2, kx_sl, kx_pre, kx_c2, kx_pl, kx_cmp, kx_oF, kx_eqN, kx_nil, kx_c1, kx_ft, kx_aI, kx_aL, kx_aR, kx_ln, Nat.reduceAdd, Option.toList, List.cons_append, List.nil_append, cf10_10, cf10_11])
  repeat' apply And.intro
  all_goals try (first | with_reducible assumption | (with_reducible refine ck_nzI ?_; simp; done) | (with_reducible refine ck_nzL ?_; simp; done) | (with_reducible refine vp_in_nI ?_ ?_ <;> first | omega | decide) | (with_reducible refine Nat.le_of_ble_eq_true ?_; rfl) | omega | exact Or.inl trivial | exact Or.inr trivial | exact Or.inl rfl | exact Or.inr rfl)
  refine hC.2.1 256 _ _ _ _ _ _ _ _ _ _ _ _ _ _ _ _ _ lX10_256 (ct_J9_abs_0f7a4 l G) rfl rfl (Nat.le_of_ble_eq_true rfl) (by first | decide | omega) (by decide) (by omega) (by omega) dX10_keeper_14 ?_
  refine hB bX10_keeper_17 _ _ _ _ _ _ _ kX10_keeper_17 ?_
  dsimp only [bX10_keeper_17, kx_wp, kx_step, kx_lI, kx_lL, kx_lA, kx_gl, kx_pI, kx_pL, kx_pR, kx_pA, kx_pV, kx_s1, kx_s2, kx_sl, kx_pre, kx_c2, kx_pl, kx_cmp, kx_oF, kx_eqN, kx_nil, kx_c1, kx_ft, kx_aI, kx_aL, kx_aR, kx_ln, Nat.reduceAdd, Option.toList, List.cons_append, List.nil_append, cf10_10, cf10_11]
  repeat (simp only [h64, hip, pk_us, pk_un, ne_eq, Nat.reduceEqDiff, not_false_eq_true, cp10_10, cp10_11, ks_eq, ks_ss]; try dsimp only [kx_wp, kx_step, kx_lI, kx_lL, kx_lA, kx_gl, kx_pI, kx_pL, kx_pR, kx_pA, kx_pV, kx_s1, kx_s2, kx_sl, kx_pre, kx_c2, kx_pl, kx_cmp, kx_oF, kx_eqN, kx_nil, kx_c1, kx_ft, kx_aI, kx_aL, kx_aR, kx_ln, Nat.reduceAdd, Option.toList, List.cons_append, List.nil_append, cf10_10, cf10_11])
  repeat' apply And.intro
  all_goals try (first | with_reducible assumption | (with_reducible refine ck_nzI ?_; simp; done) | (with_reducible refine ck_nzL ?_; simp; done) | (with_reducible refine vp_in_nI ?_ ?_ <;> first | omega | decide) | (with_reducible refine Nat.le_of_ble_eq_true ?_; rfl) | omega | exact Or.inl trivial | exact Or.inr trivial | exact Or.inl rfl | exact Or.inr rfl)
  refine hC.2.1 256 _ _ _ _ _ _ _ _ _ _ _ _ _ _ _ _ _ lX10_256 (ct_J9_abs_0f7a4 l G) rfl rfl (Nat.le_of_ble_eq_true rfl) (by first | decide | omega) (by decide) (by omega) (by omega) dX10_keeper_23 ?_
  refine hB bX10_keeper_26 _ _ _ _ _ _ _ kX10_keeper_26 ?_
  dsimp only [bX10_keeper_26, kx_wp, kx_step, kx_lI, kx_lL, kx_lA, kx_gl, kx_pI, kx_pL, kx_pR, kx_pA, kx_pV, kx_s1, kx_s2, kx_sl, kx_pre, kx_c2, kx_pl, kx_cmp, kx_oF, kx_eqN, kx_nil, kx_c1, kx_ft, kx_aI, kx_aL, kx_aR, kx_ln, Nat.reduceAdd, Option.toList, List.cons_append, List.nil_append, cf10_10, cf10_11]
  repeat (simp only [h64, hip, pk_us, pk_un, ne_eq, Nat.reduceEqDiff, not_false_eq_true, cp10_10, cp10_11, ks_eq, ks_ss]; try dsimp only [kx_wp, kx_step, kx_lI, kx_lL, kx_lA, kx_gl, kx_pI, kx_pL, kx_pR, kx_pA, kx_pV, kx_s1, kx_s2, kx_sl, kx_pre, kx_c2, kx_pl, kx_cmp, kx_oF, kx_eqN, kx_nil, kx_c1, kx_ft, kx_aI, kx_aL, kx_aR, kx_ln, Nat.reduceAdd, Option.toList, List.cons_append, List.nil_append, cf10_10, cf10_11])
  all_goals (repeat' apply And.intro)
  all_goals ((try clear hB hC); first | exact True.intro | with_reducible rfl | with_reducible assumption | (with_reducible refine vp_in_nI ?_ ?_ <;> first | omega | decide) | exact Nat.le_of_ble_eq_true rfl | (with_reducible refine ck_nzI ?_; simp; done) | (with_reducible refine ck_nzL ?_; simp; done) | (simp only [pk_us, pk_uLs, ↓reduceIte, not_true_eq_false, not_false_eq_true, ck_abs]; done) | (simp only [↓reduceIte, not_true_eq_false, not_false_eq_true, ck_abs]; with_reducible rfl) | omega | skip)

set_option maxRecDepth 100000 in
set_option maxHeartbeats 4000000 in
theorem ct_X10_keeper_b (l : Launch) (G : kx_G) (hst : l.stackTraces = false) {P : kx_P} {sz : Nat} {x y : Int32} (hip : cx_ip x y = 0)  : kx_X l G sX10_keeper 7 [.ref 64, .int (x), .int (y)] P sz "java/lang/IllegalArgumentException" := by
  refine kx_mkx hst kx_tab kxLok_X10 [some (.ref 64), some (.int (x)), some (.int (y)), none] ⟨by decide, rfl, by decide⟩ rfl rfl (fun g hB hC hX hT => ?_)
  refine hB bX10_keeper_0 _ _ _ _ _ _ _ kX10_keeper_0 ?_
  dsimp only [bX10_keeper_0, kx_wp, kx_step, kx_lI, kx_lL, kx_lA, kx_gl, kx_pI, kx_pL, kx_pR, kx_pA, kx_pV, kx_s1, kx_s2, kx_sl, kx_pre, kx_c2, kx_pl, kx_cmp, kx_oF, kx_eqN, kx_nil, kx_c1, kx_ft, kx_aI, kx_aL, kx_aR, kx_ln, Nat.reduceAdd, Option.toList, List.cons_append, List.nil_append, cf10_10, cf10_11]
  repeat (simp only [cp10_10, cp10_11, ks_eq, ks_ss]; try dsimp only [kx_wp, kx_step, kx_lI, kx_lL, kx_lA, kx_gl, kx_pI, kx_pL, kx_pR, kx_pA, kx_pV, kx_s1, kx_s2, kx_sl, kx_pre, kx_c2, kx_pl, kx_cmp, kx_oF, kx_eqN, kx_nil, kx_c1, kx_ft, kx_aI, kx_aL, kx_aR, kx_ln, Nat.reduceAdd, Option.toList, List.cons_append, List.nil_append, cf10_10, cf10_11])
  repeat' apply And.intro
  all_goals try (first | with_reducible assumption | (with_reducible refine ck_nzI ?_; simp; done) | (with_reducible refine ck_nzL ?_; simp; done) | (with_reducible refine vp_in_nI ?_ ?_ <;> first | omega | decide) | (with_reducible refine Nat.le_of_ble_eq_true ?_; rfl) | omega | exact Or.inl trivial | exact Or.inr trivial | exact Or.inl rfl | exact Or.inr rfl)
  refine hC.2.1 111 _ _ _ _ _ _ _ _ _ _ _ _ _ _ _ _ _ lX10_111 (ct_X10_isPlace l G) rfl rfl (Nat.le_of_ble_eq_true rfl) (by first | decide | omega) (by decide) (by omega) (by omega) dX10_keeper_2 ?_
  rw [hip]
  exact hX.2 95 _ _ _ _ _ _ _ _ lX10_95 (ct_X10_need_x l G hst) rfl rfl (Nat.le_of_ble_eq_true rfl) (by first | decide | omega) (by decide) dX10_keeper_5

def bX10_sounding_0 : List kx_O := [(.iload_n 2, 2, 0, 0, .null), (.ifCond .lt 12, 13, 0, 0, .null)]
theorem kX10_sounding_0 : kx_oks kxL_X10 false cX10_sounding 0 bX10_sounding_0 = true := by decide +kernel
def bX10_sounding_4 : List kx_O := [(.iload_n 2, 2, 0, 0, .null), (.iconst 3, 0, 0, 0, .int 3), (.if_icmp .gt 7, 13, 0, 0, .null)]
theorem kX10_sounding_4 : kx_oks kxL_X10 false cX10_sounding 4 bX10_sounding_4 = true := by decide +kernel
def bX10_sounding_9 : List kx_O := [(.iconst 1, 0, 0, 0, .int 1), (.goto 4, 14, 0, 0, .null)]
theorem kX10_sounding_9 : kx_oks kxL_X10 false cX10_sounding 9 bX10_sounding_9 = true := by decide +kernel
def bX10_sounding_13 : List kx_O := [(.iconst 0, 0, 0, 0, .int 0)]
theorem kX10_sounding_13 : kx_oks kxL_X10 false cX10_sounding 13 bX10_sounding_13 = true := by decide +kernel
def bX10_sounding_17 : List kx_O := [(.aload_n 0, 0, 0, 0, .null), (.getfield 57, 10, 9, 0, .null), (.iload_n 1, 1, 0, 0, .null), (.iload_n 2, 2, 0, 0, .null)]
theorem kX10_sounding_17 : kx_oks kxL_X10 false cX10_sounding 17 bX10_sounding_17 = true := by decide +kernel
def bX10_sounding_26 : List kx_O := [(.ireturn, 0, 0, 0, .null)]
theorem kX10_sounding_26 : kx_oks kxL_X10 false cX10_sounding 26 bX10_sounding_26 = true := by decide +kernel
theorem dX10_sounding_14 : decode cX10_sounding 14 = .ok (.invokestatic 95, 3) := by decide +kernel
theorem dX10_sounding_23 : decode cX10_sounding 23 = .ok (.invokevirtual 233, 3) := by decide +kernel
set_option maxRecDepth 100000 in
set_option maxHeartbeats 4000000 in
theorem ct_X10_sounding_n (l : Launch) (G : kx_G) {P : kx_P} {sz : Nat} {sv : Value} {K : Nat → Int32} (h64 : P 64 = kO 10 (kf (cr10 sv) K)) {Fs : Nat → Int32} (hO : P 71 = kO 7 (kf cr7 Fs)) {sd : Nat} (h4 : Fs 4 = nI sd) (hsd : sd < 2 ^ 29) {k w : Int32} (hw1 : 0 ≤ w) (hw2 : w ≤ 3) (hk : ¬ (0 ≤ k ∧ k < nI (min sd 200)))  : kx_M l G sX10_sounding 4 0 0 [.ref 64, .int (k), .int (w)] P sz (some (.int (-1))) P sz := by
  refine kx_mk kx_tab kxLok_X10 (ini := false) [some (.ref 64), some (.int (k)), some (.int (w))] ⟨by decide, rfl, by decide, by decide⟩ (⟨_, rfl⟩) rfl rfl (fun g hB hC => ?_)
  refine hB bX10_sounding_0 _ _ _ _ _ _ _ kX10_sounding_0 ?_
  dsimp only [bX10_sounding_0, kx_wp, kx_step, kx_lI, kx_lL, kx_lA, kx_gl, kx_pI, kx_pL, kx_pR, kx_pA, kx_pV, kx_s1, kx_s2, kx_sl, kx_pre, kx_c2, kx_pl, kx_cmp, kx_oF, kx_eqN, kx_nil, kx_c1, kx_ft, kx_aI, kx_aL, kx_aR, kx_ln, Nat.reduceAdd, Option.toList, List.cons_append, List.nil_append, cf10_9]
  repeat (simp only [h64, hO, ks_eq, ks_ss]; try dsimp only [kx_wp, kx_step, kx_lI, kx_lL, kx_lA, kx_gl, kx_pI, kx_pL, kx_pR, kx_pA, kx_pV, kx_s1, kx_s2, kx_sl, kx_pre, kx_c2, kx_pl, kx_cmp, kx_oF, kx_eqN, kx_nil, kx_c1, kx_ft, kx_aI, kx_aL, kx_aR, kx_ln, Nat.reduceAdd, Option.toList, List.cons_append, List.nil_append, cf10_9])
  repeat' apply And.intro
  all_goals try (first | with_reducible assumption | (with_reducible refine ck_nzI ?_; simp; done) | (with_reducible refine ck_nzL ?_; simp; done) | (with_reducible refine vp_in_nI ?_ ?_ <;> first | omega | decide) | (with_reducible refine Nat.le_of_ble_eq_true ?_; rfl) | omega | exact Or.inl trivial | exact Or.inr trivial | exact Or.inl rfl | exact Or.inr rfl)
  · intro zc1
    first | exact absurd rfl zc1 | exact absurd zc1 (by decide) | exact absurd (by decide) zc1 | (exfalso; first | exact absurd hw1 (Int32.not_le.mpr zc1) | exact absurd hw2 (Int32.not_le.mpr zc6)) | (exfalso; simp_all; done)
  · intro zc1
    with_reducible first | have ze1 := Int32.not_lt.mp zc1 | have ze1 := zc1
    refine hB bX10_sounding_4 _ _ _ _ _ _ _ kX10_sounding_4 ?_
    dsimp only [bX10_sounding_4, kx_wp, kx_step, kx_lI, kx_lL, kx_lA, kx_gl, kx_pI, kx_pL, kx_pR, kx_pA, kx_pV, kx_s1, kx_s2, kx_sl, kx_pre, kx_c2, kx_pl, kx_cmp, kx_oF, kx_eqN, kx_nil, kx_c1, kx_ft, kx_aI, kx_aL, kx_aR, kx_ln, Nat.reduceAdd, Option.toList, List.cons_append, List.nil_append, cf10_9]
    repeat (simp only [h64, hO, ks_eq, ks_ss]; try dsimp only [kx_wp, kx_step, kx_lI, kx_lL, kx_lA, kx_gl, kx_pI, kx_pL, kx_pR, kx_pA, kx_pV, kx_s1, kx_s2, kx_sl, kx_pre, kx_c2, kx_pl, kx_cmp, kx_oF, kx_eqN, kx_nil, kx_c1, kx_ft, kx_aI, kx_aL, kx_aR, kx_ln, Nat.reduceAdd, Option.toList, List.cons_append, List.nil_append, cf10_9])
    repeat' apply And.intro
    all_goals try (first | with_reducible assumption | (with_reducible refine ck_nzI ?_; simp; done) | (with_reducible refine ck_nzL ?_; simp; done) | (with_reducible refine vp_in_nI ?_ ?_ <;> first | omega | decide) | (with_reducible refine Nat.le_of_ble_eq_true ?_; rfl) | omega | exact Or.inl trivial | exact Or.inr trivial | exact Or.inl rfl | exact Or.inr rfl)
    · intro zc6
      first | exact absurd rfl zc6 | exact absurd zc6 (by decide) | exact absurd (by decide) zc6 | (exfalso; first | exact absurd hw1 (Int32.not_le.mpr zc1) | exact absurd hw2 (Int32.not_le.mpr zc6)) | (exfalso; simp_all; done)
    · intro zc6
      with_reducible first | have ze6 := Int32.not_lt.mp zc6 | have ze6 := zc6
      refine hB bX10_sounding_9 _ _ _ _ _ _ _ kX10_sounding_9 ?_
      dsimp only [bX10_sounding_9, kx_wp, kx_step, kx_lI, kx_lL, kx_lA, kx_gl, kx_pI, kx_pL, kx_pR, kx_pA, kx_pV, kx_s1, kx_s2, kx_sl, kx_pre, kx_c2, kx_pl, kx_cmp, kx_oF, kx_eqN, kx_nil, kx_c1, kx_ft, kx_aI, kx_aL, kx_aR, kx_ln, Nat.reduceAdd, Option.toList, List.cons_append, List.nil_append, cf10_9]
      repeat (simp only [h64, hO, ks_eq, ks_ss]; try dsimp only [kx_wp, kx_step, kx_lI, kx_lL, kx_lA, kx_gl, kx_pI, kx_pL, kx_pR, kx_pA, kx_pV, kx_s1, kx_s2, kx_sl, kx_pre, kx_c2, kx_pl, kx_cmp, kx_oF, kx_eqN, kx_nil, kx_c1, kx_ft, kx_aI, kx_aL, kx_aR, kx_ln, Nat.reduceAdd, Option.toList, List.cons_append, List.nil_append, cf10_9])
      repeat' apply And.intro
      all_goals try (first | with_reducible assumption | (with_reducible refine ck_nzI ?_; simp; done) | (with_reducible refine ck_nzL ?_; simp; done) | (with_reducible refine vp_in_nI ?_ ?_ <;> first | omega | decide) | (with_reducible refine Nat.le_of_ble_eq_true ?_; rfl) | omega | exact Or.inl trivial | exact Or.inr trivial | exact Or.inl rfl | exact Or.inr rfl)
      refine hC.2.1 95 _ _ _ _ _ _ _ _ _ _ _ _ _ _ _ _ _ lX10_95 (ct_X10_need l G (b := 1) (by decide)) rfl rfl (Nat.le_of_ble_eq_true rfl) (by first | decide | omega) (by decide) (by omega) (by omega) dX10_sounding_14 ?_
      refine hB bX10_sounding_17 _ _ _ _ _ _ _ kX10_sounding_17 ?_
      dsimp only [bX10_sounding_17, kx_wp, kx_step, kx_lI, kx_lL, kx_lA, kx_gl, kx_pI, kx_pL, kx_pR, kx_pA, kx_pV, kx_s1, kx_s2, kx_sl, kx_pre, kx_c2, kx_pl, kx_cmp, kx_oF, kx_eqN, kx_nil, kx_c1, kx_ft, kx_aI, kx_aL, kx_aR, kx_ln, Nat.reduceAdd, Option.toList, List.cons_append, List.nil_append, cf10_9]
      repeat (simp only [h64, hO, ks_eq, ks_ss]; try dsimp only [kx_wp, kx_step, kx_lI, kx_lL, kx_lA, kx_gl, kx_pI, kx_pL, kx_pR, kx_pA, kx_pV, kx_s1, kx_s2, kx_sl, kx_pre, kx_c2, kx_pl, kx_cmp, kx_oF, kx_eqN, kx_nil, kx_c1, kx_ft, kx_aI, kx_aL, kx_aR, kx_ln, Nat.reduceAdd, Option.toList, List.cons_append, List.nil_append, cf10_9])
      repeat' apply And.intro
      all_goals try (first | with_reducible assumption | (with_reducible refine ck_nzI ?_; simp; done) | (with_reducible refine ck_nzL ?_; simp; done) | (with_reducible refine vp_in_nI ?_ ?_ <;> first | omega | decide) | (with_reducible refine Nat.le_of_ble_eq_true ?_; rfl) | omega | exact Or.inl trivial | exact Or.inr trivial | exact Or.inl rfl | exact Or.inr rfl)
      refine hC.1 233 _ _ _ _ _ _ _ 7 _ _ _ _ _ _ _ _ _ _ _ _ lX10_233 (ct_X7_partOf_n l G hO h4 hsd hk) ⟨by decide, rfl⟩ (by first | exact h64 | exact hO) rfl rfl (Nat.le_of_ble_eq_true rfl) (by first | decide | omega) (by decide) (by omega) (by omega) dX10_sounding_23 ?_
      refine hB bX10_sounding_26 _ _ _ _ _ _ _ kX10_sounding_26 ?_
      dsimp only [bX10_sounding_26, kx_wp, kx_step, kx_lI, kx_lL, kx_lA, kx_gl, kx_pI, kx_pL, kx_pR, kx_pA, kx_pV, kx_s1, kx_s2, kx_sl, kx_pre, kx_c2, kx_pl, kx_cmp, kx_oF, kx_eqN, kx_nil, kx_c1, kx_ft, kx_aI, kx_aL, kx_aR, kx_ln, Nat.reduceAdd, Option.toList, List.cons_append, List.nil_append, cf10_9]
      repeat (simp only [h64, hO, ks_eq, ks_ss]; try dsimp only [kx_wp, kx_step, kx_lI, kx_lL, kx_lA, kx_gl, kx_pI, kx_pL, kx_pR, kx_pA, kx_pV, kx_s1, kx_s2, kx_sl, kx_pre, kx_c2, kx_pl, kx_cmp, kx_oF, kx_eqN, kx_nil, kx_c1, kx_ft, kx_aI, kx_aL, kx_aR, kx_ln, Nat.reduceAdd, Option.toList, List.cons_append, List.nil_append, cf10_9])
      all_goals (repeat' apply And.intro)
      all_goals ((try clear hB hC); first | exact True.intro | with_reducible rfl | with_reducible assumption | (with_reducible refine vp_in_nI ?_ ?_ <;> first | omega | decide) | exact Nat.le_of_ble_eq_true rfl | (with_reducible refine ck_nzI ?_; simp; done) | (with_reducible refine ck_nzL ?_; simp; done) | (simp only [pk_us, pk_uLs, zc1, ze1, zc6, ze6, ↓reduceIte, not_true_eq_false, not_false_eq_true]; done) | (simp only [zc1, ze1, zc6, ze6, ↓reduceIte, not_true_eq_false, not_false_eq_true]; with_reducible rfl) | omega | skip)

set_option maxRecDepth 100000 in
set_option maxHeartbeats 4000000 in
theorem ct_X10_sounding_t (l : Launch) (G : kx_G) {P : kx_P} {sz : Nat} {sv : Value} {K : Nat → Int32} (h64 : P 64 = kO 10 (kf (cr10 sv) K)) {Fs : Nat → Int32} (hO : P 71 = kO 7 (kf cr7 Fs)) {sd : Nat} (h4 : Fs 4 = nI sd) (hsd : sd < 2 ^ 29) {q1 q2 q3 q4 : Nat → Int32} (hS : cx_SR P q1 q2 q3 q4) {k : Nat} {w : Int32} (hw1 : 0 ≤ w) (hw2 : w ≤ 3) (hk : k < sd) (hk2 : k < 200)  : kx_M l G sX10_sounding 4 0 0 [.ref 64, .int (nI k), .int (w)] P sz (some (.int (cx_pt q1 q2 q3 q4 ((sd - 1 - k) % 200) w))) P sz := by
  refine kx_mk kx_tab kxLok_X10 (ini := false) [some (.ref 64), some (.int (nI k)), some (.int (w))] ⟨by decide, rfl, by decide, by decide⟩ (⟨_, rfl⟩) rfl rfl (fun g hB hC => ?_)
  refine hB bX10_sounding_0 _ _ _ _ _ _ _ kX10_sounding_0 ?_
  dsimp only [bX10_sounding_0, kx_wp, kx_step, kx_lI, kx_lL, kx_lA, kx_gl, kx_pI, kx_pL, kx_pR, kx_pA, kx_pV, kx_s1, kx_s2, kx_sl, kx_pre, kx_c2, kx_pl, kx_cmp, kx_oF, kx_eqN, kx_nil, kx_c1, kx_ft, kx_aI, kx_aL, kx_aR, kx_ln, Nat.reduceAdd, Option.toList, List.cons_append, List.nil_append, cf10_9]
  repeat (simp only [h64, hO, ks_eq, ks_ss]; try dsimp only [kx_wp, kx_step, kx_lI, kx_lL, kx_lA, kx_gl, kx_pI, kx_pL, kx_pR, kx_pA, kx_pV, kx_s1, kx_s2, kx_sl, kx_pre, kx_c2, kx_pl, kx_cmp, kx_oF, kx_eqN, kx_nil, kx_c1, kx_ft, kx_aI, kx_aL, kx_aR, kx_ln, Nat.reduceAdd, Option.toList, List.cons_append, List.nil_append, cf10_9])
  repeat' apply And.intro
  all_goals try (first | with_reducible assumption | (with_reducible refine ck_nzI ?_; simp; done) | (with_reducible refine ck_nzL ?_; simp; done) | (with_reducible refine vp_in_nI ?_ ?_ <;> first | omega | decide) | (with_reducible refine Nat.le_of_ble_eq_true ?_; rfl) | omega | exact Or.inl trivial | exact Or.inr trivial | exact Or.inl rfl | exact Or.inr rfl)
  · intro zc1
    first | exact absurd rfl zc1 | exact absurd zc1 (by decide) | exact absurd (by decide) zc1 | (exfalso; first | exact absurd hw1 (Int32.not_le.mpr zc1) | exact absurd hw2 (Int32.not_le.mpr zc6)) | (exfalso; simp_all; done)
  · intro zc1
    with_reducible first | have ze1 := Int32.not_lt.mp zc1 | have ze1 := zc1
    refine hB bX10_sounding_4 _ _ _ _ _ _ _ kX10_sounding_4 ?_
    dsimp only [bX10_sounding_4, kx_wp, kx_step, kx_lI, kx_lL, kx_lA, kx_gl, kx_pI, kx_pL, kx_pR, kx_pA, kx_pV, kx_s1, kx_s2, kx_sl, kx_pre, kx_c2, kx_pl, kx_cmp, kx_oF, kx_eqN, kx_nil, kx_c1, kx_ft, kx_aI, kx_aL, kx_aR, kx_ln, Nat.reduceAdd, Option.toList, List.cons_append, List.nil_append, cf10_9]
    repeat (simp only [h64, hO, ks_eq, ks_ss]; try dsimp only [kx_wp, kx_step, kx_lI, kx_lL, kx_lA, kx_gl, kx_pI, kx_pL, kx_pR, kx_pA, kx_pV, kx_s1, kx_s2, kx_sl, kx_pre, kx_c2, kx_pl, kx_cmp, kx_oF, kx_eqN, kx_nil, kx_c1, kx_ft, kx_aI, kx_aL, kx_aR, kx_ln, Nat.reduceAdd, Option.toList, List.cons_append, List.nil_append, cf10_9])
    repeat' apply And.intro
    all_goals try (first | with_reducible assumption | (with_reducible refine ck_nzI ?_; simp; done) | (with_reducible refine ck_nzL ?_; simp; done) | (with_reducible refine vp_in_nI ?_ ?_ <;> first | omega | decide) | (with_reducible refine Nat.le_of_ble_eq_true ?_; rfl) | omega | exact Or.inl trivial | exact Or.inr trivial | exact Or.inl rfl | exact Or.inr rfl)
    · intro zc6
      first | exact absurd rfl zc6 | exact absurd zc6 (by decide) | exact absurd (by decide) zc6 | (exfalso; first | exact absurd hw1 (Int32.not_le.mpr zc1) | exact absurd hw2 (Int32.not_le.mpr zc6)) | (exfalso; simp_all; done)
    · intro zc6
      with_reducible first | have ze6 := Int32.not_lt.mp zc6 | have ze6 := zc6
      refine hB bX10_sounding_9 _ _ _ _ _ _ _ kX10_sounding_9 ?_
      dsimp only [bX10_sounding_9, kx_wp, kx_step, kx_lI, kx_lL, kx_lA, kx_gl, kx_pI, kx_pL, kx_pR, kx_pA, kx_pV, kx_s1, kx_s2, kx_sl, kx_pre, kx_c2, kx_pl, kx_cmp, kx_oF, kx_eqN, kx_nil, kx_c1, kx_ft, kx_aI, kx_aL, kx_aR, kx_ln, Nat.reduceAdd, Option.toList, List.cons_append, List.nil_append, cf10_9]
      repeat (simp only [h64, hO, ks_eq, ks_ss]; try dsimp only [kx_wp, kx_step, kx_lI, kx_lL, kx_lA, kx_gl, kx_pI, kx_pL, kx_pR, kx_pA, kx_pV, kx_s1, kx_s2, kx_sl, kx_pre, kx_c2, kx_pl, kx_cmp, kx_oF, kx_eqN, kx_nil, kx_c1, kx_ft, kx_aI, kx_aL, kx_aR, kx_ln, Nat.reduceAdd, Option.toList, List.cons_append, List.nil_append, cf10_9])
      repeat' apply And.intro
      all_goals try (first | with_reducible assumption | (with_reducible refine ck_nzI ?_; simp; done) | (with_reducible refine ck_nzL ?_; simp; done) | (with_reducible refine vp_in_nI ?_ ?_ <;> first | omega | decide) | (with_reducible refine Nat.le_of_ble_eq_true ?_; rfl) | omega | exact Or.inl trivial | exact Or.inr trivial | exact Or.inl rfl | exact Or.inr rfl)
      refine hC.2.1 95 _ _ _ _ _ _ _ _ _ _ _ _ _ _ _ _ _ lX10_95 (ct_X10_need l G (b := 1) (by decide)) rfl rfl (Nat.le_of_ble_eq_true rfl) (by first | decide | omega) (by decide) (by omega) (by omega) dX10_sounding_14 ?_
      refine hB bX10_sounding_17 _ _ _ _ _ _ _ kX10_sounding_17 ?_
      dsimp only [bX10_sounding_17, kx_wp, kx_step, kx_lI, kx_lL, kx_lA, kx_gl, kx_pI, kx_pL, kx_pR, kx_pA, kx_pV, kx_s1, kx_s2, kx_sl, kx_pre, kx_c2, kx_pl, kx_cmp, kx_oF, kx_eqN, kx_nil, kx_c1, kx_ft, kx_aI, kx_aL, kx_aR, kx_ln, Nat.reduceAdd, Option.toList, List.cons_append, List.nil_append, cf10_9]
      repeat (simp only [h64, hO, ks_eq, ks_ss]; try dsimp only [kx_wp, kx_step, kx_lI, kx_lL, kx_lA, kx_gl, kx_pI, kx_pL, kx_pR, kx_pA, kx_pV, kx_s1, kx_s2, kx_sl, kx_pre, kx_c2, kx_pl, kx_cmp, kx_oF, kx_eqN, kx_nil, kx_c1, kx_ft, kx_aI, kx_aL, kx_aR, kx_ln, Nat.reduceAdd, Option.toList, List.cons_append, List.nil_append, cf10_9])
      repeat' apply And.intro
      all_goals try (first | with_reducible assumption | (with_reducible refine ck_nzI ?_; simp; done) | (with_reducible refine ck_nzL ?_; simp; done) | (with_reducible refine vp_in_nI ?_ ?_ <;> first | omega | decide) | (with_reducible refine Nat.le_of_ble_eq_true ?_; rfl) | omega | exact Or.inl trivial | exact Or.inr trivial | exact Or.inl rfl | exact Or.inr rfl)
      refine hC.1 233 _ _ _ _ _ _ _ 7 _ _ _ _ _ _ _ _ _ _ _ _ lX10_233 (ct_X7_partOf_t l G hO h4 hsd hS hk hk2) ⟨by decide, rfl⟩ (by first | exact h64 | exact hO) rfl rfl (Nat.le_of_ble_eq_true rfl) (by first | decide | omega) (by decide) (by omega) (by omega) dX10_sounding_23 ?_
      refine hB bX10_sounding_26 _ _ _ _ _ _ _ kX10_sounding_26 ?_
      dsimp only [bX10_sounding_26, kx_wp, kx_step, kx_lI, kx_lL, kx_lA, kx_gl, kx_pI, kx_pL, kx_pR, kx_pA, kx_pV, kx_s1, kx_s2, kx_sl, kx_pre, kx_c2, kx_pl, kx_cmp, kx_oF, kx_eqN, kx_nil, kx_c1, kx_ft, kx_aI, kx_aL, kx_aR, kx_ln, Nat.reduceAdd, Option.toList, List.cons_append, List.nil_append, cf10_9]
      repeat (simp only [h64, hO, ks_eq, ks_ss]; try dsimp only [kx_wp, kx_step, kx_lI, kx_lL, kx_lA, kx_gl, kx_pI, kx_pL, kx_pR, kx_pA, kx_pV, kx_s1, kx_s2, kx_sl, kx_pre, kx_c2, kx_pl, kx_cmp, kx_oF, kx_eqN, kx_nil, kx_c1, kx_ft, kx_aI, kx_aL, kx_aR, kx_ln, Nat.reduceAdd, Option.toList, List.cons_append, List.nil_append, cf10_9])
      all_goals (repeat' apply And.intro)
      all_goals ((try clear hB hC); first | exact True.intro | with_reducible rfl | with_reducible assumption | (with_reducible refine vp_in_nI ?_ ?_ <;> first | omega | decide) | exact Nat.le_of_ble_eq_true rfl | (with_reducible refine ck_nzI ?_; simp; done) | (with_reducible refine ck_nzL ?_; simp; done) | (simp only [pk_us, pk_uLs, zc1, ze1, zc6, ze6, ↓reduceIte, not_true_eq_false, not_false_eq_true]; done) | (simp only [zc1, ze1, zc6, ze6, ↓reduceIte, not_true_eq_false, not_false_eq_true]; with_reducible rfl) | omega | skip)

set_option maxRecDepth 100000 in
set_option maxHeartbeats 4000000 in
theorem ct_X10_sounding_b (l : Launch) (G : kx_G) (hst : l.stackTraces = false) {P : kx_P} {sz : Nat} {sv : Value} {K : Nat → Int32} (h64 : P 64 = kO 10 (kf (cr10 sv) K)) {k w : Int32} (hw : ¬ (0 ≤ w ∧ w ≤ 3))  : kx_X l G sX10_sounding 7 [.ref 64, .int (k), .int (w)] P sz "java/lang/IllegalArgumentException" := by
  refine kx_mkx hst kx_tab kxLok_X10 [some (.ref 64), some (.int (k)), some (.int (w))] ⟨by decide, rfl, by decide⟩ rfl rfl (fun g hB hC hX hT => ?_)
  refine hB bX10_sounding_0 _ _ _ _ _ _ _ kX10_sounding_0 ?_
  dsimp only [bX10_sounding_0, kx_wp, kx_step, kx_lI, kx_lL, kx_lA, kx_gl, kx_pI, kx_pL, kx_pR, kx_pA, kx_pV, kx_s1, kx_s2, kx_sl, kx_pre, kx_c2, kx_pl, kx_cmp, kx_oF, kx_eqN, kx_nil, kx_c1, kx_ft, kx_aI, kx_aL, kx_aR, kx_ln, Nat.reduceAdd, Option.toList, List.cons_append, List.nil_append, cf10_9]
  repeat (simp only [h64, ks_eq, ks_ss]; try dsimp only [kx_wp, kx_step, kx_lI, kx_lL, kx_lA, kx_gl, kx_pI, kx_pL, kx_pR, kx_pA, kx_pV, kx_s1, kx_s2, kx_sl, kx_pre, kx_c2, kx_pl, kx_cmp, kx_oF, kx_eqN, kx_nil, kx_c1, kx_ft, kx_aI, kx_aL, kx_aR, kx_ln, Nat.reduceAdd, Option.toList, List.cons_append, List.nil_append, cf10_9])
  repeat' apply And.intro
  all_goals try (first | with_reducible assumption | (with_reducible refine ck_nzI ?_; simp; done) | (with_reducible refine ck_nzL ?_; simp; done) | (with_reducible refine vp_in_nI ?_ ?_ <;> first | omega | decide) | (with_reducible refine Nat.le_of_ble_eq_true ?_; rfl) | omega | exact Or.inl trivial | exact Or.inr trivial | exact Or.inl rfl | exact Or.inr rfl)
  · intro zc1
    with_reducible first | have ze1 := Int32.not_le.mpr zc1 | have ze1 := zc1
    refine hB bX10_sounding_13 _ _ _ _ _ _ _ kX10_sounding_13 ?_
    dsimp only [bX10_sounding_13, kx_wp, kx_step, kx_lI, kx_lL, kx_lA, kx_gl, kx_pI, kx_pL, kx_pR, kx_pA, kx_pV, kx_s1, kx_s2, kx_sl, kx_pre, kx_c2, kx_pl, kx_cmp, kx_oF, kx_eqN, kx_nil, kx_c1, kx_ft, kx_aI, kx_aL, kx_aR, kx_ln, Nat.reduceAdd, Option.toList, List.cons_append, List.nil_append, cf10_9]
    repeat (simp only [h64, ks_eq, ks_ss]; try dsimp only [kx_wp, kx_step, kx_lI, kx_lL, kx_lA, kx_gl, kx_pI, kx_pL, kx_pR, kx_pA, kx_pV, kx_s1, kx_s2, kx_sl, kx_pre, kx_c2, kx_pl, kx_cmp, kx_oF, kx_eqN, kx_nil, kx_c1, kx_ft, kx_aI, kx_aL, kx_aR, kx_ln, Nat.reduceAdd, Option.toList, List.cons_append, List.nil_append, cf10_9])
    repeat' apply And.intro
    all_goals try (first | with_reducible assumption | (with_reducible refine ck_nzI ?_; simp; done) | (with_reducible refine ck_nzL ?_; simp; done) | (with_reducible refine vp_in_nI ?_ ?_ <;> first | omega | decide) | (with_reducible refine Nat.le_of_ble_eq_true ?_; rfl) | omega | exact Or.inl trivial | exact Or.inr trivial | exact Or.inl rfl | exact Or.inr rfl)
    exact hX.2 95 _ _ _ _ _ _ _ _ lX10_95 (ct_X10_need_x l G hst) rfl rfl (Nat.le_of_ble_eq_true rfl) (by first | decide | omega) (by decide) dX10_sounding_14
  · intro zc1
    with_reducible first | have ze1 := Int32.not_lt.mp zc1 | have ze1 := zc1
    refine hB bX10_sounding_4 _ _ _ _ _ _ _ kX10_sounding_4 ?_
    dsimp only [bX10_sounding_4, kx_wp, kx_step, kx_lI, kx_lL, kx_lA, kx_gl, kx_pI, kx_pL, kx_pR, kx_pA, kx_pV, kx_s1, kx_s2, kx_sl, kx_pre, kx_c2, kx_pl, kx_cmp, kx_oF, kx_eqN, kx_nil, kx_c1, kx_ft, kx_aI, kx_aL, kx_aR, kx_ln, Nat.reduceAdd, Option.toList, List.cons_append, List.nil_append, cf10_9]
    repeat (simp only [h64, ks_eq, ks_ss]; try dsimp only [kx_wp, kx_step, kx_lI, kx_lL, kx_lA, kx_gl, kx_pI, kx_pL, kx_pR, kx_pA, kx_pV, kx_s1, kx_s2, kx_sl, kx_pre, kx_c2, kx_pl, kx_cmp, kx_oF, kx_eqN, kx_nil, kx_c1, kx_ft, kx_aI, kx_aL, kx_aR, kx_ln, Nat.reduceAdd, Option.toList, List.cons_append, List.nil_append, cf10_9])
    repeat' apply And.intro
    all_goals try (first | with_reducible assumption | (with_reducible refine ck_nzI ?_; simp; done) | (with_reducible refine ck_nzL ?_; simp; done) | (with_reducible refine vp_in_nI ?_ ?_ <;> first | omega | decide) | (with_reducible refine Nat.le_of_ble_eq_true ?_; rfl) | omega | exact Or.inl trivial | exact Or.inr trivial | exact Or.inl rfl | exact Or.inr rfl)
    · intro zc6
      with_reducible first | have ze6 := Int32.not_le.mpr zc6 | have ze6 := zc6
      refine hB bX10_sounding_13 _ _ _ _ _ _ _ kX10_sounding_13 ?_
      dsimp only [bX10_sounding_13, kx_wp, kx_step, kx_lI, kx_lL, kx_lA, kx_gl, kx_pI, kx_pL, kx_pR, kx_pA, kx_pV, kx_s1, kx_s2, kx_sl, kx_pre, kx_c2, kx_pl, kx_cmp, kx_oF, kx_eqN, kx_nil, kx_c1, kx_ft, kx_aI, kx_aL, kx_aR, kx_ln, Nat.reduceAdd, Option.toList, List.cons_append, List.nil_append, cf10_9]
      repeat (simp only [h64, ks_eq, ks_ss]; try dsimp only [kx_wp, kx_step, kx_lI, kx_lL, kx_lA, kx_gl, kx_pI, kx_pL, kx_pR, kx_pA, kx_pV, kx_s1, kx_s2, kx_sl, kx_pre, kx_c2, kx_pl, kx_cmp, kx_oF, kx_eqN, kx_nil, kx_c1, kx_ft, kx_aI, kx_aL, kx_aR, kx_ln, Nat.reduceAdd, Option.toList, List.cons_append, List.nil_append, cf10_9])
      repeat' apply And.intro
      all_goals try (first | with_reducible assumption | (with_reducible refine ck_nzI ?_; simp; done) | (with_reducible refine ck_nzL ?_; simp; done) | (with_reducible refine vp_in_nI ?_ ?_ <;> first | omega | decide) | (with_reducible refine Nat.le_of_ble_eq_true ?_; rfl) | omega | exact Or.inl trivial | exact Or.inr trivial | exact Or.inl rfl | exact Or.inr rfl)
      exact hX.2 95 _ _ _ _ _ _ _ _ lX10_95 (ct_X10_need_x l G hst) rfl rfl (Nat.le_of_ble_eq_true rfl) (by first | decide | omega) (by decide) dX10_sounding_14
    · intro zc6
      with_reducible first | have ze6 := Int32.not_lt.mp zc6 | have ze6 := zc6
      exact absurd ⟨ze1, ze6⟩ hw

def bX10_read_0 : List kx_O := [(.aload_n 0, 0, 0, 0, .null), (.iload_n 1, 1, 0, 0, .null)]
theorem kX10_read_0 : kx_oks kxL_X10 false cX10_read 0 bX10_read_0 = true := by decide +kernel
def bX10_read_5 : List kx_O := [(.pop, 0, 0, 0, .null), (.iload_n 2, 2, 0, 0, .null), (.ifCond .lt 32, 39, 0, 0, .null)]
theorem kX10_read_5 : kx_oks kxL_X10 false cX10_read 5 bX10_read_5 = true := by decide +kernel
def bX10_read_10 : List kx_O := [(.iload_n 2, 2, 0, 0, .null), (.aload_n 0, 0, 0, 0, .null), (.getfield 12, 10, 0, 0, .null), (.getfield 129, 0, 0, 0, .null), (.if_icmp .gt 21, 39, 0, 0, .null)]
theorem kX10_read_10 : kx_oks kxL_X10 false cX10_read 10 bX10_read_10 = true := by decide +kernel
def bX10_read_21 : List kx_O := [(.iload_n 3, 3, 0, 0, .null), (.ldc_w 289, 0, 0, 0, .int (-100000000)), (.if_icmp .lt 14, 39, 0, 0, .null)]
theorem kX10_read_21 : kx_oks kxL_X10 false cX10_read 21 bX10_read_21 = true := by decide +kernel
def bX10_read_28 : List kx_O := [(.iload_n 3, 3, 0, 0, .null), (.ldc_w 290, 0, 0, 0, .int (100000000)), (.if_icmp .gt 7, 39, 0, 0, .null)]
theorem kX10_read_28 : kx_oks kxL_X10 false cX10_read 28 bX10_read_28 = true := by decide +kernel
def bX10_read_35 : List kx_O := [(.iconst 1, 0, 0, 0, .int 1), (.goto 4, 40, 0, 0, .null)]
theorem kX10_read_35 : kx_oks kxL_X10 false cX10_read 35 bX10_read_35 = true := by decide +kernel
def bX10_read_39 : List kx_O := [(.iconst 0, 0, 0, 0, .int 0)]
theorem kX10_read_39 : kx_oks kxL_X10 false cX10_read 39 bX10_read_39 = true := by decide +kernel
def bX10_read_43 : List kx_O := [(.aload_n 0, 0, 0, 0, .null), (.getfield 84, 10, 14, 0, .null), (.iload_n 1, 1, 0, 0, .null), (.iload_n 2, 2, 0, 0, .null), (.iload_n 3, 3, 0, 0, .null), (.aload_n 0, 0, 0, 0, .null), (.getfield 12, 10, 0, 0, .null), (.getfield 129, 0, 0, 0, .null)]
theorem kX10_read_43 : kx_oks kxL_X10 false cX10_read 43 bX10_read_43 = true := by decide +kernel
def bX10_read_60 : List kx_O := [(.ireturn, 0, 0, 0, .null)]
theorem kX10_read_60 : kx_oks kxL_X10 false cX10_read 60 bX10_read_60 = true := by decide +kernel
theorem dX10_read_2 : decode cX10_read 2 = .ok (.invokevirtual 138, 3) := by decide +kernel
theorem dX10_read_40 : decode cX10_read 40 = .ok (.invokestatic 95, 3) := by decide +kernel
theorem dX10_read_57 : decode cX10_read 57 = .ok (.invokevirtual 291, 3) := by decide +kernel
set_option maxRecDepth 100000 in
set_option maxHeartbeats 4000000 in
theorem ct_X10_read_n (l : Launch) (G : kx_G) {P : kx_P} {sz : Nat} {sv : Value} {K : Nat → Int32} (h64 : P 64 = kO 10 (kf (cr10 sv) K)) {cl : Nat} {cn : Nat → Nat} (h69 : P 69 = kR 8 (fun i => if i < cl then some (cn i) else none)) (h7 : K 7 = nI cl) (hcl : cl ≤ 8) {c : Nat} (hc : c < cl) {Al : Nat → Int32} (hA : P 65 = kO 0 (kf cr0 Al)) {Fr rc rm re rt : Nat → Int32} (hR : P 84 = kO 5 (kf cr5 Fr)) (h85 : P 85 = kI 0 100 rc) (h86 : P 86 = kI 0 100 rm) (h87 : P 87 = kI 0 100 re) (h88 : P 88 = kI 0 100 rt) {i e : Int32} (hi1 : 0 ≤ i) (hi2 : i ≤ Al 0) (he1 : -100000000 ≤ e) (he2 : e ≤ 100000000) (h4 : Fr 4 = 100)  : kx_M l G sX10_read 3 0 0 [.ref 64, .int (nI c), .int (i), .int (e)] P sz (some (.int (-1))) P sz := by
  refine kx_mk kx_tab kxLok_X10 (ini := false) [some (.ref 64), some (.int (nI c)), some (.int (i)), some (.int (e))] ⟨by decide, rfl, by decide, by decide⟩ (⟨_, rfl⟩) rfl rfl (fun g hB hC => ?_)
  refine hB bX10_read_0 _ _ _ _ _ _ _ kX10_read_0 ?_
  dsimp only [bX10_read_0, kx_wp, kx_step, kx_lI, kx_lL, kx_lA, kx_gl, kx_pI, kx_pL, kx_pR, kx_pA, kx_pV, kx_s1, kx_s2, kx_sl, kx_pre, kx_c2, kx_pl, kx_cmp, kx_oF, kx_eqN, kx_nil, kx_c1, kx_ft, kx_aI, kx_aL, kx_aR, kx_ln, Nat.reduceAdd, Option.toList, List.cons_append, List.nil_append, cf10_0, cf0_0, cf10_14]
  repeat (simp only [h64, hA, hR, ks_eq, ks_ss]; try dsimp only [kx_wp, kx_step, kx_lI, kx_lL, kx_lA, kx_gl, kx_pI, kx_pL, kx_pR, kx_pA, kx_pV, kx_s1, kx_s2, kx_sl, kx_pre, kx_c2, kx_pl, kx_cmp, kx_oF, kx_eqN, kx_nil, kx_c1, kx_ft, kx_aI, kx_aL, kx_aR, kx_ln, Nat.reduceAdd, Option.toList, List.cons_append, List.nil_append, cf10_0, cf0_0, cf10_14])
  repeat' apply And.intro
  all_goals try (first | with_reducible assumption | (with_reducible refine ck_nzI ?_; simp; done) | (with_reducible refine ck_nzL ?_; simp; done) | (with_reducible refine vp_in_nI ?_ ?_ <;> first | omega | decide) | (with_reducible refine Nat.le_of_ble_eq_true ?_; rfl) | omega | exact Or.inl trivial | exact Or.inr trivial | exact Or.inl rfl | exact Or.inr rfl)
  refine hC.1 138 _ _ _ _ _ _ _ 10 _ _ _ _ _ _ _ _ _ _ _ _ lX10_138 (ct_X10_theClock l G h64 h69 h7 hcl hc) ⟨by decide, rfl⟩ (h64) rfl rfl (Nat.le_of_ble_eq_true rfl) (by first | decide | omega) (by decide) (by omega) (by omega) dX10_read_2 ?_
  refine hB bX10_read_5 _ _ _ _ _ _ _ kX10_read_5 ?_
  dsimp only [bX10_read_5, kx_wp, kx_step, kx_lI, kx_lL, kx_lA, kx_gl, kx_pI, kx_pL, kx_pR, kx_pA, kx_pV, kx_s1, kx_s2, kx_sl, kx_pre, kx_c2, kx_pl, kx_cmp, kx_oF, kx_eqN, kx_nil, kx_c1, kx_ft, kx_aI, kx_aL, kx_aR, kx_ln, Nat.reduceAdd, Option.toList, List.cons_append, List.nil_append, cf10_0, cf0_0, cf10_14]
  repeat (simp only [h64, hA, hR, ks_eq, ks_ss]; try dsimp only [kx_wp, kx_step, kx_lI, kx_lL, kx_lA, kx_gl, kx_pI, kx_pL, kx_pR, kx_pA, kx_pV, kx_s1, kx_s2, kx_sl, kx_pre, kx_c2, kx_pl, kx_cmp, kx_oF, kx_eqN, kx_nil, kx_c1, kx_ft, kx_aI, kx_aL, kx_aR, kx_ln, Nat.reduceAdd, Option.toList, List.cons_append, List.nil_append, cf10_0, cf0_0, cf10_14])
  repeat' apply And.intro
  all_goals try (first | with_reducible assumption | (with_reducible refine ck_nzI ?_; simp; done) | (with_reducible refine ck_nzL ?_; simp; done) | (with_reducible refine vp_in_nI ?_ ?_ <;> first | omega | decide) | (with_reducible refine Nat.le_of_ble_eq_true ?_; rfl) | omega | exact Or.inl trivial | exact Or.inr trivial | exact Or.inl rfl | exact Or.inr rfl)
  · intro zc7
    first | exact absurd rfl zc7 | exact absurd zc7 (by decide) | exact absurd (by decide) zc7 | (exfalso; first | exact absurd hi1 (Int32.not_le.mpr zc7) | exact absurd hi2 (Int32.not_le.mpr zc18) | exact absurd he1 (Int32.not_le.mpr zc25) | exact absurd he2 (Int32.not_le.mpr zc32)) | (exfalso; simp_all; done)
  · intro zc7
    with_reducible first | have ze7 := Int32.not_lt.mp zc7 | have ze7 := zc7
    refine hB bX10_read_10 _ _ _ _ _ _ _ kX10_read_10 ?_
    dsimp only [bX10_read_10, kx_wp, kx_step, kx_lI, kx_lL, kx_lA, kx_gl, kx_pI, kx_pL, kx_pR, kx_pA, kx_pV, kx_s1, kx_s2, kx_sl, kx_pre, kx_c2, kx_pl, kx_cmp, kx_oF, kx_eqN, kx_nil, kx_c1, kx_ft, kx_aI, kx_aL, kx_aR, kx_ln, Nat.reduceAdd, Option.toList, List.cons_append, List.nil_append, cf10_0, cf0_0, cf10_14]
    repeat (simp only [h64, hA, hR, ks_eq, ks_ss]; try dsimp only [kx_wp, kx_step, kx_lI, kx_lL, kx_lA, kx_gl, kx_pI, kx_pL, kx_pR, kx_pA, kx_pV, kx_s1, kx_s2, kx_sl, kx_pre, kx_c2, kx_pl, kx_cmp, kx_oF, kx_eqN, kx_nil, kx_c1, kx_ft, kx_aI, kx_aL, kx_aR, kx_ln, Nat.reduceAdd, Option.toList, List.cons_append, List.nil_append, cf10_0, cf0_0, cf10_14])
    repeat' apply And.intro
    all_goals try (first | with_reducible assumption | (with_reducible refine ck_nzI ?_; simp; done) | (with_reducible refine ck_nzL ?_; simp; done) | (with_reducible refine vp_in_nI ?_ ?_ <;> first | omega | decide) | (with_reducible refine Nat.le_of_ble_eq_true ?_; rfl) | omega | exact Or.inl trivial | exact Or.inr trivial | exact Or.inl rfl | exact Or.inr rfl)
    · intro zc18
      first | exact absurd rfl zc18 | exact absurd zc18 (by decide) | exact absurd (by decide) zc18 | (exfalso; first | exact absurd hi1 (Int32.not_le.mpr zc7) | exact absurd hi2 (Int32.not_le.mpr zc18) | exact absurd he1 (Int32.not_le.mpr zc25) | exact absurd he2 (Int32.not_le.mpr zc32)) | (exfalso; simp_all; done)
    · intro zc18
      with_reducible first | have ze18 := Int32.not_lt.mp zc18 | have ze18 := zc18
      refine hB bX10_read_21 _ _ _ _ _ _ _ kX10_read_21 ?_
      dsimp only [bX10_read_21, kx_wp, kx_step, kx_lI, kx_lL, kx_lA, kx_gl, kx_pI, kx_pL, kx_pR, kx_pA, kx_pV, kx_s1, kx_s2, kx_sl, kx_pre, kx_c2, kx_pl, kx_cmp, kx_oF, kx_eqN, kx_nil, kx_c1, kx_ft, kx_aI, kx_aL, kx_aR, kx_ln, Nat.reduceAdd, Option.toList, List.cons_append, List.nil_append, cf10_0, cf0_0, cf10_14]
      repeat (simp only [h64, hA, hR, ks_eq, ks_ss]; try dsimp only [kx_wp, kx_step, kx_lI, kx_lL, kx_lA, kx_gl, kx_pI, kx_pL, kx_pR, kx_pA, kx_pV, kx_s1, kx_s2, kx_sl, kx_pre, kx_c2, kx_pl, kx_cmp, kx_oF, kx_eqN, kx_nil, kx_c1, kx_ft, kx_aI, kx_aL, kx_aR, kx_ln, Nat.reduceAdd, Option.toList, List.cons_append, List.nil_append, cf10_0, cf0_0, cf10_14])
      repeat' apply And.intro
      all_goals try (first | with_reducible assumption | (with_reducible refine ck_nzI ?_; simp; done) | (with_reducible refine ck_nzL ?_; simp; done) | (with_reducible refine vp_in_nI ?_ ?_ <;> first | omega | decide) | (with_reducible refine Nat.le_of_ble_eq_true ?_; rfl) | omega | exact Or.inl trivial | exact Or.inr trivial | exact Or.inl rfl | exact Or.inr rfl)
      · intro zc25
        first | exact absurd rfl zc25 | exact absurd zc25 (by decide) | exact absurd (by decide) zc25 | (exfalso; first | exact absurd hi1 (Int32.not_le.mpr zc7) | exact absurd hi2 (Int32.not_le.mpr zc18) | exact absurd he1 (Int32.not_le.mpr zc25) | exact absurd he2 (Int32.not_le.mpr zc32)) | (exfalso; simp_all; done)
      · intro zc25
        with_reducible first | have ze25 := Int32.not_lt.mp zc25 | have ze25 := zc25
        refine hB bX10_read_28 _ _ _ _ _ _ _ kX10_read_28 ?_
        dsimp only [bX10_read_28, kx_wp, kx_step, kx_lI, kx_lL, kx_lA, kx_gl, kx_pI, kx_pL, kx_pR, kx_pA, kx_pV, kx_s1, kx_s2, kx_sl, kx_pre, kx_c2, kx_pl, kx_cmp, kx_oF, kx_eqN, kx_nil, kx_c1, kx_ft, kx_aI, kx_aL, kx_aR, kx_ln, Nat.reduceAdd, Option.toList, List.cons_append, List.nil_append, cf10_0, cf0_0, cf10_14]
        repeat (simp only [h64, hA, hR, ks_eq, ks_ss]; try dsimp only [kx_wp, kx_step, kx_lI, kx_lL, kx_lA, kx_gl, kx_pI, kx_pL, kx_pR, kx_pA, kx_pV, kx_s1, kx_s2, kx_sl, kx_pre, kx_c2, kx_pl, kx_cmp, kx_oF, kx_eqN, kx_nil, kx_c1, kx_ft, kx_aI, kx_aL, kx_aR, kx_ln, Nat.reduceAdd, Option.toList, List.cons_append, List.nil_append, cf10_0, cf0_0, cf10_14])
        repeat' apply And.intro
        all_goals try (first | with_reducible assumption | (with_reducible refine ck_nzI ?_; simp; done) | (with_reducible refine ck_nzL ?_; simp; done) | (with_reducible refine vp_in_nI ?_ ?_ <;> first | omega | decide) | (with_reducible refine Nat.le_of_ble_eq_true ?_; rfl) | omega | exact Or.inl trivial | exact Or.inr trivial | exact Or.inl rfl | exact Or.inr rfl)
        · intro zc32
          first | exact absurd rfl zc32 | exact absurd zc32 (by decide) | exact absurd (by decide) zc32 | (exfalso; first | exact absurd hi1 (Int32.not_le.mpr zc7) | exact absurd hi2 (Int32.not_le.mpr zc18) | exact absurd he1 (Int32.not_le.mpr zc25) | exact absurd he2 (Int32.not_le.mpr zc32)) | (exfalso; simp_all; done)
        · intro zc32
          with_reducible first | have ze32 := Int32.not_lt.mp zc32 | have ze32 := zc32
          refine hB bX10_read_35 _ _ _ _ _ _ _ kX10_read_35 ?_
          dsimp only [bX10_read_35, kx_wp, kx_step, kx_lI, kx_lL, kx_lA, kx_gl, kx_pI, kx_pL, kx_pR, kx_pA, kx_pV, kx_s1, kx_s2, kx_sl, kx_pre, kx_c2, kx_pl, kx_cmp, kx_oF, kx_eqN, kx_nil, kx_c1, kx_ft, kx_aI, kx_aL, kx_aR, kx_ln, Nat.reduceAdd, Option.toList, List.cons_append, List.nil_append, cf10_0, cf0_0, cf10_14]
          repeat (simp only [h64, hA, hR, ks_eq, ks_ss]; try dsimp only [kx_wp, kx_step, kx_lI, kx_lL, kx_lA, kx_gl, kx_pI, kx_pL, kx_pR, kx_pA, kx_pV, kx_s1, kx_s2, kx_sl, kx_pre, kx_c2, kx_pl, kx_cmp, kx_oF, kx_eqN, kx_nil, kx_c1, kx_ft, kx_aI, kx_aL, kx_aR, kx_ln, Nat.reduceAdd, Option.toList, List.cons_append, List.nil_append, cf10_0, cf0_0, cf10_14])
          repeat' apply And.intro
          all_goals try (first | with_reducible assumption | (with_reducible refine ck_nzI ?_; simp; done) | (with_reducible refine ck_nzL ?_; simp; done) | (with_reducible refine vp_in_nI ?_ ?_ <;> first | omega | decide) | (with_reducible refine Nat.le_of_ble_eq_true ?_; rfl) | omega | exact Or.inl trivial | exact Or.inr trivial | exact Or.inl rfl | exact Or.inr rfl)
          refine hC.2.1 95 _ _ _ _ _ _ _ _ _ _ _ _ _ _ _ _ _ lX10_95 (ct_X10_need l G (b := 1) (by decide)) rfl rfl (Nat.le_of_ble_eq_true rfl) (by first | decide | omega) (by decide) (by omega) (by omega) dX10_read_40 ?_
          refine hB bX10_read_43 _ _ _ _ _ _ _ kX10_read_43 ?_
          dsimp only [bX10_read_43, kx_wp, kx_step, kx_lI, kx_lL, kx_lA, kx_gl, kx_pI, kx_pL, kx_pR, kx_pA, kx_pV, kx_s1, kx_s2, kx_sl, kx_pre, kx_c2, kx_pl, kx_cmp, kx_oF, kx_eqN, kx_nil, kx_c1, kx_ft, kx_aI, kx_aL, kx_aR, kx_ln, Nat.reduceAdd, Option.toList, List.cons_append, List.nil_append, cf10_0, cf0_0, cf10_14]
          repeat (simp only [h64, hA, hR, ks_eq, ks_ss]; try dsimp only [kx_wp, kx_step, kx_lI, kx_lL, kx_lA, kx_gl, kx_pI, kx_pL, kx_pR, kx_pA, kx_pV, kx_s1, kx_s2, kx_sl, kx_pre, kx_c2, kx_pl, kx_cmp, kx_oF, kx_eqN, kx_nil, kx_c1, kx_ft, kx_aI, kx_aL, kx_aR, kx_ln, Nat.reduceAdd, Option.toList, List.cons_append, List.nil_append, cf10_0, cf0_0, cf10_14])
          repeat' apply And.intro
          all_goals try (first | with_reducible assumption | (with_reducible refine ck_nzI ?_; simp; done) | (with_reducible refine ck_nzL ?_; simp; done) | (with_reducible refine vp_in_nI ?_ ?_ <;> first | omega | decide) | (with_reducible refine Nat.le_of_ble_eq_true ?_; rfl) | omega | exact Or.inl trivial | exact Or.inr trivial | exact Or.inl rfl | exact Or.inr rfl)
          refine hC.1 291 _ _ _ _ _ _ _ 5 _ _ _ _ _ _ _ _ _ _ _ _ lX10_291 (ct_X5_add_n l G hR h85 h86 h87 h88 h4) ⟨by decide, rfl⟩ (by first | exact h64 | exact hR) rfl rfl (Nat.le_of_ble_eq_true rfl) (by first | decide | omega) (by decide) (by omega) (by omega) dX10_read_57 ?_
          refine hB bX10_read_60 _ _ _ _ _ _ _ kX10_read_60 ?_
          dsimp only [bX10_read_60, kx_wp, kx_step, kx_lI, kx_lL, kx_lA, kx_gl, kx_pI, kx_pL, kx_pR, kx_pA, kx_pV, kx_s1, kx_s2, kx_sl, kx_pre, kx_c2, kx_pl, kx_cmp, kx_oF, kx_eqN, kx_nil, kx_c1, kx_ft, kx_aI, kx_aL, kx_aR, kx_ln, Nat.reduceAdd, Option.toList, List.cons_append, List.nil_append, cf10_0, cf0_0, cf10_14]
          repeat (simp only [h64, hA, hR, ks_eq, ks_ss]; try dsimp only [kx_wp, kx_step, kx_lI, kx_lL, kx_lA, kx_gl, kx_pI, kx_pL, kx_pR, kx_pA, kx_pV, kx_s1, kx_s2, kx_sl, kx_pre, kx_c2, kx_pl, kx_cmp, kx_oF, kx_eqN, kx_nil, kx_c1, kx_ft, kx_aI, kx_aL, kx_aR, kx_ln, Nat.reduceAdd, Option.toList, List.cons_append, List.nil_append, cf10_0, cf0_0, cf10_14])
          all_goals (repeat' apply And.intro)
          all_goals ((try clear hB hC); first | exact True.intro | with_reducible rfl | with_reducible assumption | (with_reducible refine vp_in_nI ?_ ?_ <;> first | omega | decide) | exact Nat.le_of_ble_eq_true rfl | (with_reducible refine ck_nzI ?_; simp; done) | (with_reducible refine ck_nzL ?_; simp; done) | (simp only [pk_us, pk_uLs, zc7, ze7, zc18, ze18, zc25, ze25, zc32, ze32, ↓reduceIte, not_true_eq_false, not_false_eq_true]; done) | (simp only [zc7, ze7, zc18, ze18, zc25, ze25, zc32, ze32, ↓reduceIte, not_true_eq_false, not_false_eq_true]; with_reducible rfl) | omega | skip)

set_option maxRecDepth 100000 in
set_option maxHeartbeats 4000000 in
theorem ct_X10_read_t (l : Launch) (G : kx_G) {P : kx_P} {sz : Nat} {sv : Value} {K : Nat → Int32} (h64 : P 64 = kO 10 (kf (cr10 sv) K)) {cl : Nat} {cn : Nat → Nat} (h69 : P 69 = kR 8 (fun i => if i < cl then some (cn i) else none)) (h7 : K 7 = nI cl) (hcl : cl ≤ 8) {c : Nat} (hc : c < cl) {Al : Nat → Int32} (hA : P 65 = kO 0 (kf cr0 Al)) {Fr rc rm re rt : Nat → Int32} (hR : P 84 = kO 5 (kf cr5 Fr)) (h85 : P 85 = kI 0 100 rc) (h86 : P 86 = kI 0 100 rm) (h87 : P 87 = kI 0 100 re) (h88 : P 88 = kI 0 100 rt) {i e : Int32} (hi1 : 0 ≤ i) (hi2 : i ≤ Al 0) (he1 : -100000000 ≤ e) (he2 : e ≤ 100000000) {n : Nat} (h4 : Fr 4 = nI n) (hn : n < 100)  : kx_M l G sX10_read 3 0 0 [.ref 64, .int (nI c), .int (i), .int (e)] P sz (some (.int (nI (n + 1)))) (kx_set (kx_set (kx_set (kx_set (kx_set P 85 (kI 0 100 (upd rc n (nI c)))) 86 (kI 0 100 (upd rm n i))) 87 (kI 0 100 (upd re n e))) 88 (kI 0 100 (upd rt n (Al 0)))) 84 (kO 5 (kf cr5 (upd Fr 4 (nI (n + 1)))))) sz := by
  refine kx_mk kx_tab kxLok_X10 (ini := false) [some (.ref 64), some (.int (nI c)), some (.int (i)), some (.int (e))] ⟨by decide, rfl, by decide, by decide⟩ (⟨_, rfl⟩) rfl rfl (fun g hB hC => ?_)
  refine hB bX10_read_0 _ _ _ _ _ _ _ kX10_read_0 ?_
  dsimp only [bX10_read_0, kx_wp, kx_step, kx_lI, kx_lL, kx_lA, kx_gl, kx_pI, kx_pL, kx_pR, kx_pA, kx_pV, kx_s1, kx_s2, kx_sl, kx_pre, kx_c2, kx_pl, kx_cmp, kx_oF, kx_eqN, kx_nil, kx_c1, kx_ft, kx_aI, kx_aL, kx_aR, kx_ln, Nat.reduceAdd, Option.toList, List.cons_append, List.nil_append, cf10_0, cf0_0, cf10_14]
  repeat (simp only [h64, hA, hR, ks_eq, ks_ss]; try dsimp only [kx_wp, kx_step, kx_lI, kx_lL, kx_lA, kx_gl, kx_pI, kx_pL, kx_pR, kx_pA, kx_pV, kx_s1, kx_s2, kx_sl, kx_pre, kx_c2, kx_pl, kx_cmp, kx_oF, kx_eqN, kx_nil, kx_c1, kx_ft, kx_aI, kx_aL, kx_aR, kx_ln, Nat.reduceAdd, Option.toList, List.cons_append, List.nil_append, cf10_0, cf0_0, cf10_14])
  repeat' apply And.intro
  all_goals try (first | with_reducible assumption | (with_reducible refine ck_nzI ?_; simp; done) | (with_reducible refine ck_nzL ?_; simp; done) | (with_reducible refine vp_in_nI ?_ ?_ <;> first | omega | decide) | (with_reducible refine Nat.le_of_ble_eq_true ?_; rfl) | omega | exact Or.inl trivial | exact Or.inr trivial | exact Or.inl rfl | exact Or.inr rfl)
  refine hC.1 138 _ _ _ _ _ _ _ 10 _ _ _ _ _ _ _ _ _ _ _ _ lX10_138 (ct_X10_theClock l G h64 h69 h7 hcl hc) ⟨by decide, rfl⟩ (h64) rfl rfl (Nat.le_of_ble_eq_true rfl) (by first | decide | omega) (by decide) (by omega) (by omega) dX10_read_2 ?_
  refine hB bX10_read_5 _ _ _ _ _ _ _ kX10_read_5 ?_
  dsimp only [bX10_read_5, kx_wp, kx_step, kx_lI, kx_lL, kx_lA, kx_gl, kx_pI, kx_pL, kx_pR, kx_pA, kx_pV, kx_s1, kx_s2, kx_sl, kx_pre, kx_c2, kx_pl, kx_cmp, kx_oF, kx_eqN, kx_nil, kx_c1, kx_ft, kx_aI, kx_aL, kx_aR, kx_ln, Nat.reduceAdd, Option.toList, List.cons_append, List.nil_append, cf10_0, cf0_0, cf10_14]
  repeat (simp only [h64, hA, hR, ks_eq, ks_ss]; try dsimp only [kx_wp, kx_step, kx_lI, kx_lL, kx_lA, kx_gl, kx_pI, kx_pL, kx_pR, kx_pA, kx_pV, kx_s1, kx_s2, kx_sl, kx_pre, kx_c2, kx_pl, kx_cmp, kx_oF, kx_eqN, kx_nil, kx_c1, kx_ft, kx_aI, kx_aL, kx_aR, kx_ln, Nat.reduceAdd, Option.toList, List.cons_append, List.nil_append, cf10_0, cf0_0, cf10_14])
  repeat' apply And.intro
  all_goals try (first | with_reducible assumption | (with_reducible refine ck_nzI ?_; simp; done) | (with_reducible refine ck_nzL ?_; simp; done) | (with_reducible refine vp_in_nI ?_ ?_ <;> first | omega | decide) | (with_reducible refine Nat.le_of_ble_eq_true ?_; rfl) | omega | exact Or.inl trivial | exact Or.inr trivial | exact Or.inl rfl | exact Or.inr rfl)
  · intro zc7
    first | exact absurd rfl zc7 | exact absurd zc7 (by decide) | exact absurd (by decide) zc7 | (exfalso; first | exact absurd hi1 (Int32.not_le.mpr zc7) | exact absurd hi2 (Int32.not_le.mpr zc18) | exact absurd he1 (Int32.not_le.mpr zc25) | exact absurd he2 (Int32.not_le.mpr zc32)) | (exfalso; simp_all; done)
  · intro zc7
    with_reducible first | have ze7 := Int32.not_lt.mp zc7 | have ze7 := zc7
    refine hB bX10_read_10 _ _ _ _ _ _ _ kX10_read_10 ?_
    dsimp only [bX10_read_10, kx_wp, kx_step, kx_lI, kx_lL, kx_lA, kx_gl, kx_pI, kx_pL, kx_pR, kx_pA, kx_pV, kx_s1, kx_s2, kx_sl, kx_pre, kx_c2, kx_pl, kx_cmp, kx_oF, kx_eqN, kx_nil, kx_c1, kx_ft, kx_aI, kx_aL, kx_aR, kx_ln, Nat.reduceAdd, Option.toList, List.cons_append, List.nil_append, cf10_0, cf0_0, cf10_14]
    repeat (simp only [h64, hA, hR, ks_eq, ks_ss]; try dsimp only [kx_wp, kx_step, kx_lI, kx_lL, kx_lA, kx_gl, kx_pI, kx_pL, kx_pR, kx_pA, kx_pV, kx_s1, kx_s2, kx_sl, kx_pre, kx_c2, kx_pl, kx_cmp, kx_oF, kx_eqN, kx_nil, kx_c1, kx_ft, kx_aI, kx_aL, kx_aR, kx_ln, Nat.reduceAdd, Option.toList, List.cons_append, List.nil_append, cf10_0, cf0_0, cf10_14])
    repeat' apply And.intro
    all_goals try (first | with_reducible assumption | (with_reducible refine ck_nzI ?_; simp; done) | (with_reducible refine ck_nzL ?_; simp; done) | (with_reducible refine vp_in_nI ?_ ?_ <;> first | omega | decide) | (with_reducible refine Nat.le_of_ble_eq_true ?_; rfl) | omega | exact Or.inl trivial | exact Or.inr trivial | exact Or.inl rfl | exact Or.inr rfl)
    · intro zc18
      first | exact absurd rfl zc18 | exact absurd zc18 (by decide) | exact absurd (by decide) zc18 | (exfalso; first | exact absurd hi1 (Int32.not_le.mpr zc7) | exact absurd hi2 (Int32.not_le.mpr zc18) | exact absurd he1 (Int32.not_le.mpr zc25) | exact absurd he2 (Int32.not_le.mpr zc32)) | (exfalso; simp_all; done)
    · intro zc18
      with_reducible first | have ze18 := Int32.not_lt.mp zc18 | have ze18 := zc18
      refine hB bX10_read_21 _ _ _ _ _ _ _ kX10_read_21 ?_
      dsimp only [bX10_read_21, kx_wp, kx_step, kx_lI, kx_lL, kx_lA, kx_gl, kx_pI, kx_pL, kx_pR, kx_pA, kx_pV, kx_s1, kx_s2, kx_sl, kx_pre, kx_c2, kx_pl, kx_cmp, kx_oF, kx_eqN, kx_nil, kx_c1, kx_ft, kx_aI, kx_aL, kx_aR, kx_ln, Nat.reduceAdd, Option.toList, List.cons_append, List.nil_append, cf10_0, cf0_0, cf10_14]
      repeat (simp only [h64, hA, hR, ks_eq, ks_ss]; try dsimp only [kx_wp, kx_step, kx_lI, kx_lL, kx_lA, kx_gl, kx_pI, kx_pL, kx_pR, kx_pA, kx_pV, kx_s1, kx_s2, kx_sl, kx_pre, kx_c2, kx_pl, kx_cmp, kx_oF, kx_eqN, kx_nil, kx_c1, kx_ft, kx_aI, kx_aL, kx_aR, kx_ln, Nat.reduceAdd, Option.toList, List.cons_append, List.nil_append, cf10_0, cf0_0, cf10_14])
      repeat' apply And.intro
      all_goals try (first | with_reducible assumption | (with_reducible refine ck_nzI ?_; simp; done) | (with_reducible refine ck_nzL ?_; simp; done) | (with_reducible refine vp_in_nI ?_ ?_ <;> first | omega | decide) | (with_reducible refine Nat.le_of_ble_eq_true ?_; rfl) | omega | exact Or.inl trivial | exact Or.inr trivial | exact Or.inl rfl | exact Or.inr rfl)
      · intro zc25
        first | exact absurd rfl zc25 | exact absurd zc25 (by decide) | exact absurd (by decide) zc25 | (exfalso; first | exact absurd hi1 (Int32.not_le.mpr zc7) | exact absurd hi2 (Int32.not_le.mpr zc18) | exact absurd he1 (Int32.not_le.mpr zc25) | exact absurd he2 (Int32.not_le.mpr zc32)) | (exfalso; simp_all; done)
      · intro zc25
        with_reducible first | have ze25 := Int32.not_lt.mp zc25 | have ze25 := zc25
        refine hB bX10_read_28 _ _ _ _ _ _ _ kX10_read_28 ?_
        dsimp only [bX10_read_28, kx_wp, kx_step, kx_lI, kx_lL, kx_lA, kx_gl, kx_pI, kx_pL, kx_pR, kx_pA, kx_pV, kx_s1, kx_s2, kx_sl, kx_pre, kx_c2, kx_pl, kx_cmp, kx_oF, kx_eqN, kx_nil, kx_c1, kx_ft, kx_aI, kx_aL, kx_aR, kx_ln, Nat.reduceAdd, Option.toList, List.cons_append, List.nil_append, cf10_0, cf0_0, cf10_14]
        repeat (simp only [h64, hA, hR, ks_eq, ks_ss]; try dsimp only [kx_wp, kx_step, kx_lI, kx_lL, kx_lA, kx_gl, kx_pI, kx_pL, kx_pR, kx_pA, kx_pV, kx_s1, kx_s2, kx_sl, kx_pre, kx_c2, kx_pl, kx_cmp, kx_oF, kx_eqN, kx_nil, kx_c1, kx_ft, kx_aI, kx_aL, kx_aR, kx_ln, Nat.reduceAdd, Option.toList, List.cons_append, List.nil_append, cf10_0, cf0_0, cf10_14])
        repeat' apply And.intro
        all_goals try (first | with_reducible assumption | (with_reducible refine ck_nzI ?_; simp; done) | (with_reducible refine ck_nzL ?_; simp; done) | (with_reducible refine vp_in_nI ?_ ?_ <;> first | omega | decide) | (with_reducible refine Nat.le_of_ble_eq_true ?_; rfl) | omega | exact Or.inl trivial | exact Or.inr trivial | exact Or.inl rfl | exact Or.inr rfl)
        · intro zc32
          first | exact absurd rfl zc32 | exact absurd zc32 (by decide) | exact absurd (by decide) zc32 | (exfalso; first | exact absurd hi1 (Int32.not_le.mpr zc7) | exact absurd hi2 (Int32.not_le.mpr zc18) | exact absurd he1 (Int32.not_le.mpr zc25) | exact absurd he2 (Int32.not_le.mpr zc32)) | (exfalso; simp_all; done)
        · intro zc32
          with_reducible first | have ze32 := Int32.not_lt.mp zc32 | have ze32 := zc32
          refine hB bX10_read_35 _ _ _ _ _ _ _ kX10_read_35 ?_
          dsimp only [bX10_read_35, kx_wp, kx_step, kx_lI, kx_lL, kx_lA, kx_gl, kx_pI, kx_pL, kx_pR, kx_pA, kx_pV, kx_s1, kx_s2, kx_sl, kx_pre, kx_c2, kx_pl, kx_cmp, kx_oF, kx_eqN, kx_nil, kx_c1, kx_ft, kx_aI, kx_aL, kx_aR, kx_ln, Nat.reduceAdd, Option.toList, List.cons_append, List.nil_append, cf10_0, cf0_0, cf10_14]
          repeat (simp only [h64, hA, hR, ks_eq, ks_ss]; try dsimp only [kx_wp, kx_step, kx_lI, kx_lL, kx_lA, kx_gl, kx_pI, kx_pL, kx_pR, kx_pA, kx_pV, kx_s1, kx_s2, kx_sl, kx_pre, kx_c2, kx_pl, kx_cmp, kx_oF, kx_eqN, kx_nil, kx_c1, kx_ft, kx_aI, kx_aL, kx_aR, kx_ln, Nat.reduceAdd, Option.toList, List.cons_append, List.nil_append, cf10_0, cf0_0, cf10_14])
          repeat' apply And.intro
          all_goals try (first | with_reducible assumption | (with_reducible refine ck_nzI ?_; simp; done) | (with_reducible refine ck_nzL ?_; simp; done) | (with_reducible refine vp_in_nI ?_ ?_ <;> first | omega | decide) | (with_reducible refine Nat.le_of_ble_eq_true ?_; rfl) | omega | exact Or.inl trivial | exact Or.inr trivial | exact Or.inl rfl | exact Or.inr rfl)
          refine hC.2.1 95 _ _ _ _ _ _ _ _ _ _ _ _ _ _ _ _ _ lX10_95 (ct_X10_need l G (b := 1) (by decide)) rfl rfl (Nat.le_of_ble_eq_true rfl) (by first | decide | omega) (by decide) (by omega) (by omega) dX10_read_40 ?_
          refine hB bX10_read_43 _ _ _ _ _ _ _ kX10_read_43 ?_
          dsimp only [bX10_read_43, kx_wp, kx_step, kx_lI, kx_lL, kx_lA, kx_gl, kx_pI, kx_pL, kx_pR, kx_pA, kx_pV, kx_s1, kx_s2, kx_sl, kx_pre, kx_c2, kx_pl, kx_cmp, kx_oF, kx_eqN, kx_nil, kx_c1, kx_ft, kx_aI, kx_aL, kx_aR, kx_ln, Nat.reduceAdd, Option.toList, List.cons_append, List.nil_append, cf10_0, cf0_0, cf10_14]
          repeat (simp only [h64, hA, hR, ks_eq, ks_ss]; try dsimp only [kx_wp, kx_step, kx_lI, kx_lL, kx_lA, kx_gl, kx_pI, kx_pL, kx_pR, kx_pA, kx_pV, kx_s1, kx_s2, kx_sl, kx_pre, kx_c2, kx_pl, kx_cmp, kx_oF, kx_eqN, kx_nil, kx_c1, kx_ft, kx_aI, kx_aL, kx_aR, kx_ln, Nat.reduceAdd, Option.toList, List.cons_append, List.nil_append, cf10_0, cf0_0, cf10_14])
          repeat' apply And.intro
          all_goals try (first | with_reducible assumption | (with_reducible refine ck_nzI ?_; simp; done) | (with_reducible refine ck_nzL ?_; simp; done) | (with_reducible refine vp_in_nI ?_ ?_ <;> first | omega | decide) | (with_reducible refine Nat.le_of_ble_eq_true ?_; rfl) | omega | exact Or.inl trivial | exact Or.inr trivial | exact Or.inl rfl | exact Or.inr rfl)
          refine hC.1 291 _ _ _ _ _ _ _ 5 _ _ _ _ _ _ _ _ _ _ _ _ lX10_291 (ct_X5_add_t l G hR h85 h86 h87 h88 h4 hn) ⟨by decide, rfl⟩ (by first | exact h64 | exact hR) rfl rfl (Nat.le_of_ble_eq_true rfl) (by first | decide | omega) (by decide) (by omega) (by omega) dX10_read_57 ?_
          refine hB bX10_read_60 _ _ _ _ _ _ _ kX10_read_60 ?_
          dsimp only [bX10_read_60, kx_wp, kx_step, kx_lI, kx_lL, kx_lA, kx_gl, kx_pI, kx_pL, kx_pR, kx_pA, kx_pV, kx_s1, kx_s2, kx_sl, kx_pre, kx_c2, kx_pl, kx_cmp, kx_oF, kx_eqN, kx_nil, kx_c1, kx_ft, kx_aI, kx_aL, kx_aR, kx_ln, Nat.reduceAdd, Option.toList, List.cons_append, List.nil_append, cf10_0, cf0_0, cf10_14]
          repeat (simp only [h64, hA, hR, ks_eq, ks_ss]; try dsimp only [kx_wp, kx_step, kx_lI, kx_lL, kx_lA, kx_gl, kx_pI, kx_pL, kx_pR, kx_pA, kx_pV, kx_s1, kx_s2, kx_sl, kx_pre, kx_c2, kx_pl, kx_cmp, kx_oF, kx_eqN, kx_nil, kx_c1, kx_ft, kx_aI, kx_aL, kx_aR, kx_ln, Nat.reduceAdd, Option.toList, List.cons_append, List.nil_append, cf10_0, cf0_0, cf10_14])
          all_goals (repeat' apply And.intro)
          all_goals ((try clear hB hC); first | exact True.intro | with_reducible rfl | with_reducible assumption | (with_reducible refine vp_in_nI ?_ ?_ <;> first | omega | decide) | exact Nat.le_of_ble_eq_true rfl | (with_reducible refine ck_nzI ?_; simp; done) | (with_reducible refine ck_nzL ?_; simp; done) | (simp only [pk_us, pk_uLs, zc7, ze7, zc18, ze18, zc25, ze25, zc32, ze32, ↓reduceIte, not_true_eq_false, not_false_eq_true]; done) | (simp only [zc7, ze7, zc18, ze18, zc25, ze25, zc32, ze32, ↓reduceIte, not_true_eq_false, not_false_eq_true]; with_reducible rfl) | omega | skip)

set_option maxRecDepth 100000 in
set_option maxHeartbeats 4000000 in
theorem ct_X10_read_b (l : Launch) (G : kx_G) (hst : l.stackTraces = false) {P : kx_P} {sz : Nat} {sv : Value} {K : Nat → Int32} (h64 : P 64 = kO 10 (kf (cr10 sv) K)) {cl : Nat} {cn : Nat → Nat} (h69 : P 69 = kR 8 (fun i => if i < cl then some (cn i) else none)) (h7 : K 7 = nI cl) (hcl : cl ≤ 8) {c : Nat} (hc : c < cl) {Al : Nat → Int32} (hA : P 65 = kO 0 (kf cr0 Al)) {i e : Int32} (hb : ¬ (0 ≤ i ∧ i ≤ Al 0 ∧ -100000000 ≤ e ∧ e ≤ 100000000))  : kx_X l G sX10_read 7 [.ref 64, .int (nI c), .int (i), .int (e)] P sz "java/lang/IllegalArgumentException" := by
  refine kx_mkx hst kx_tab kxLok_X10 [some (.ref 64), some (.int (nI c)), some (.int (i)), some (.int (e))] ⟨by decide, rfl, by decide⟩ rfl rfl (fun g hB hC hX hT => ?_)
  refine hB bX10_read_0 _ _ _ _ _ _ _ kX10_read_0 ?_
  dsimp only [bX10_read_0, kx_wp, kx_step, kx_lI, kx_lL, kx_lA, kx_gl, kx_pI, kx_pL, kx_pR, kx_pA, kx_pV, kx_s1, kx_s2, kx_sl, kx_pre, kx_c2, kx_pl, kx_cmp, kx_oF, kx_eqN, kx_nil, kx_c1, kx_ft, kx_aI, kx_aL, kx_aR, kx_ln, Nat.reduceAdd, Option.toList, List.cons_append, List.nil_append, cf10_0, cf0_0, cf10_14]
  repeat (simp only [h64, hA, ks_eq, ks_ss]; try dsimp only [kx_wp, kx_step, kx_lI, kx_lL, kx_lA, kx_gl, kx_pI, kx_pL, kx_pR, kx_pA, kx_pV, kx_s1, kx_s2, kx_sl, kx_pre, kx_c2, kx_pl, kx_cmp, kx_oF, kx_eqN, kx_nil, kx_c1, kx_ft, kx_aI, kx_aL, kx_aR, kx_ln, Nat.reduceAdd, Option.toList, List.cons_append, List.nil_append, cf10_0, cf0_0, cf10_14])
  repeat' apply And.intro
  all_goals try (first | with_reducible assumption | (with_reducible refine ck_nzI ?_; simp; done) | (with_reducible refine ck_nzL ?_; simp; done) | (with_reducible refine vp_in_nI ?_ ?_ <;> first | omega | decide) | (with_reducible refine Nat.le_of_ble_eq_true ?_; rfl) | omega | exact Or.inl trivial | exact Or.inr trivial | exact Or.inl rfl | exact Or.inr rfl)
  refine hC.1 138 _ _ _ _ _ _ _ 10 _ _ _ _ _ _ _ _ _ _ _ _ lX10_138 (ct_X10_theClock l G h64 h69 h7 hcl hc) ⟨by decide, rfl⟩ (h64) rfl rfl (Nat.le_of_ble_eq_true rfl) (by first | decide | omega) (by decide) (by omega) (by omega) dX10_read_2 ?_
  refine hB bX10_read_5 _ _ _ _ _ _ _ kX10_read_5 ?_
  dsimp only [bX10_read_5, kx_wp, kx_step, kx_lI, kx_lL, kx_lA, kx_gl, kx_pI, kx_pL, kx_pR, kx_pA, kx_pV, kx_s1, kx_s2, kx_sl, kx_pre, kx_c2, kx_pl, kx_cmp, kx_oF, kx_eqN, kx_nil, kx_c1, kx_ft, kx_aI, kx_aL, kx_aR, kx_ln, Nat.reduceAdd, Option.toList, List.cons_append, List.nil_append, cf10_0, cf0_0, cf10_14]
  repeat (simp only [h64, hA, ks_eq, ks_ss]; try dsimp only [kx_wp, kx_step, kx_lI, kx_lL, kx_lA, kx_gl, kx_pI, kx_pL, kx_pR, kx_pA, kx_pV, kx_s1, kx_s2, kx_sl, kx_pre, kx_c2, kx_pl, kx_cmp, kx_oF, kx_eqN, kx_nil, kx_c1, kx_ft, kx_aI, kx_aL, kx_aR, kx_ln, Nat.reduceAdd, Option.toList, List.cons_append, List.nil_append, cf10_0, cf0_0, cf10_14])
  repeat' apply And.intro
  all_goals try (first | with_reducible assumption | (with_reducible refine ck_nzI ?_; simp; done) | (with_reducible refine ck_nzL ?_; simp; done) | (with_reducible refine vp_in_nI ?_ ?_ <;> first | omega | decide) | (with_reducible refine Nat.le_of_ble_eq_true ?_; rfl) | omega | exact Or.inl trivial | exact Or.inr trivial | exact Or.inl rfl | exact Or.inr rfl)
  · intro zc7
    with_reducible first | have ze7 := Int32.not_le.mpr zc7 | have ze7 := zc7
    refine hB bX10_read_39 _ _ _ _ _ _ _ kX10_read_39 ?_
    dsimp only [bX10_read_39, kx_wp, kx_step, kx_lI, kx_lL, kx_lA, kx_gl, kx_pI, kx_pL, kx_pR, kx_pA, kx_pV, kx_s1, kx_s2, kx_sl, kx_pre, kx_c2, kx_pl, kx_cmp, kx_oF, kx_eqN, kx_nil, kx_c1, kx_ft, kx_aI, kx_aL, kx_aR, kx_ln, Nat.reduceAdd, Option.toList, List.cons_append, List.nil_append, cf10_0, cf0_0, cf10_14]
    repeat (simp only [h64, hA, ks_eq, ks_ss]; try dsimp only [kx_wp, kx_step, kx_lI, kx_lL, kx_lA, kx_gl, kx_pI, kx_pL, kx_pR, kx_pA, kx_pV, kx_s1, kx_s2, kx_sl, kx_pre, kx_c2, kx_pl, kx_cmp, kx_oF, kx_eqN, kx_nil, kx_c1, kx_ft, kx_aI, kx_aL, kx_aR, kx_ln, Nat.reduceAdd, Option.toList, List.cons_append, List.nil_append, cf10_0, cf0_0, cf10_14])
    repeat' apply And.intro
    all_goals try (first | with_reducible assumption | (with_reducible refine ck_nzI ?_; simp; done) | (with_reducible refine ck_nzL ?_; simp; done) | (with_reducible refine vp_in_nI ?_ ?_ <;> first | omega | decide) | (with_reducible refine Nat.le_of_ble_eq_true ?_; rfl) | omega | exact Or.inl trivial | exact Or.inr trivial | exact Or.inl rfl | exact Or.inr rfl)
    exact hX.2 95 _ _ _ _ _ _ _ _ lX10_95 (ct_X10_need_x l G hst) rfl rfl (Nat.le_of_ble_eq_true rfl) (by first | decide | omega) (by decide) dX10_read_40
  · intro zc7
    with_reducible first | have ze7 := Int32.not_lt.mp zc7 | have ze7 := zc7
    refine hB bX10_read_10 _ _ _ _ _ _ _ kX10_read_10 ?_
    dsimp only [bX10_read_10, kx_wp, kx_step, kx_lI, kx_lL, kx_lA, kx_gl, kx_pI, kx_pL, kx_pR, kx_pA, kx_pV, kx_s1, kx_s2, kx_sl, kx_pre, kx_c2, kx_pl, kx_cmp, kx_oF, kx_eqN, kx_nil, kx_c1, kx_ft, kx_aI, kx_aL, kx_aR, kx_ln, Nat.reduceAdd, Option.toList, List.cons_append, List.nil_append, cf10_0, cf0_0, cf10_14]
    repeat (simp only [h64, hA, ks_eq, ks_ss]; try dsimp only [kx_wp, kx_step, kx_lI, kx_lL, kx_lA, kx_gl, kx_pI, kx_pL, kx_pR, kx_pA, kx_pV, kx_s1, kx_s2, kx_sl, kx_pre, kx_c2, kx_pl, kx_cmp, kx_oF, kx_eqN, kx_nil, kx_c1, kx_ft, kx_aI, kx_aL, kx_aR, kx_ln, Nat.reduceAdd, Option.toList, List.cons_append, List.nil_append, cf10_0, cf0_0, cf10_14])
    repeat' apply And.intro
    all_goals try (first | with_reducible assumption | (with_reducible refine ck_nzI ?_; simp; done) | (with_reducible refine ck_nzL ?_; simp; done) | (with_reducible refine vp_in_nI ?_ ?_ <;> first | omega | decide) | (with_reducible refine Nat.le_of_ble_eq_true ?_; rfl) | omega | exact Or.inl trivial | exact Or.inr trivial | exact Or.inl rfl | exact Or.inr rfl)
    · intro zc18
      with_reducible first | have ze18 := Int32.not_le.mpr zc18 | have ze18 := zc18
      refine hB bX10_read_39 _ _ _ _ _ _ _ kX10_read_39 ?_
      dsimp only [bX10_read_39, kx_wp, kx_step, kx_lI, kx_lL, kx_lA, kx_gl, kx_pI, kx_pL, kx_pR, kx_pA, kx_pV, kx_s1, kx_s2, kx_sl, kx_pre, kx_c2, kx_pl, kx_cmp, kx_oF, kx_eqN, kx_nil, kx_c1, kx_ft, kx_aI, kx_aL, kx_aR, kx_ln, Nat.reduceAdd, Option.toList, List.cons_append, List.nil_append, cf10_0, cf0_0, cf10_14]
      repeat (simp only [h64, hA, ks_eq, ks_ss]; try dsimp only [kx_wp, kx_step, kx_lI, kx_lL, kx_lA, kx_gl, kx_pI, kx_pL, kx_pR, kx_pA, kx_pV, kx_s1, kx_s2, kx_sl, kx_pre, kx_c2, kx_pl, kx_cmp, kx_oF, kx_eqN, kx_nil, kx_c1, kx_ft, kx_aI, kx_aL, kx_aR, kx_ln, Nat.reduceAdd, Option.toList, List.cons_append, List.nil_append, cf10_0, cf0_0, cf10_14])
      repeat' apply And.intro
      all_goals try (first | with_reducible assumption | (with_reducible refine ck_nzI ?_; simp; done) | (with_reducible refine ck_nzL ?_; simp; done) | (with_reducible refine vp_in_nI ?_ ?_ <;> first | omega | decide) | (with_reducible refine Nat.le_of_ble_eq_true ?_; rfl) | omega | exact Or.inl trivial | exact Or.inr trivial | exact Or.inl rfl | exact Or.inr rfl)
      exact hX.2 95 _ _ _ _ _ _ _ _ lX10_95 (ct_X10_need_x l G hst) rfl rfl (Nat.le_of_ble_eq_true rfl) (by first | decide | omega) (by decide) dX10_read_40
    · intro zc18
      with_reducible first | have ze18 := Int32.not_lt.mp zc18 | have ze18 := zc18
      refine hB bX10_read_21 _ _ _ _ _ _ _ kX10_read_21 ?_
      dsimp only [bX10_read_21, kx_wp, kx_step, kx_lI, kx_lL, kx_lA, kx_gl, kx_pI, kx_pL, kx_pR, kx_pA, kx_pV, kx_s1, kx_s2, kx_sl, kx_pre, kx_c2, kx_pl, kx_cmp, kx_oF, kx_eqN, kx_nil, kx_c1, kx_ft, kx_aI, kx_aL, kx_aR, kx_ln, Nat.reduceAdd, Option.toList, List.cons_append, List.nil_append, cf10_0, cf0_0, cf10_14]
      repeat (simp only [h64, hA, ks_eq, ks_ss]; try dsimp only [kx_wp, kx_step, kx_lI, kx_lL, kx_lA, kx_gl, kx_pI, kx_pL, kx_pR, kx_pA, kx_pV, kx_s1, kx_s2, kx_sl, kx_pre, kx_c2, kx_pl, kx_cmp, kx_oF, kx_eqN, kx_nil, kx_c1, kx_ft, kx_aI, kx_aL, kx_aR, kx_ln, Nat.reduceAdd, Option.toList, List.cons_append, List.nil_append, cf10_0, cf0_0, cf10_14])
      repeat' apply And.intro
      all_goals try (first | with_reducible assumption | (with_reducible refine ck_nzI ?_; simp; done) | (with_reducible refine ck_nzL ?_; simp; done) | (with_reducible refine vp_in_nI ?_ ?_ <;> first | omega | decide) | (with_reducible refine Nat.le_of_ble_eq_true ?_; rfl) | omega | exact Or.inl trivial | exact Or.inr trivial | exact Or.inl rfl | exact Or.inr rfl)
      · intro zc25
        with_reducible first | have ze25 := Int32.not_le.mpr zc25 | have ze25 := zc25
        refine hB bX10_read_39 _ _ _ _ _ _ _ kX10_read_39 ?_
        dsimp only [bX10_read_39, kx_wp, kx_step, kx_lI, kx_lL, kx_lA, kx_gl, kx_pI, kx_pL, kx_pR, kx_pA, kx_pV, kx_s1, kx_s2, kx_sl, kx_pre, kx_c2, kx_pl, kx_cmp, kx_oF, kx_eqN, kx_nil, kx_c1, kx_ft, kx_aI, kx_aL, kx_aR, kx_ln, Nat.reduceAdd, Option.toList, List.cons_append, List.nil_append, cf10_0, cf0_0, cf10_14]
        repeat (simp only [h64, hA, ks_eq, ks_ss]; try dsimp only [kx_wp, kx_step, kx_lI, kx_lL, kx_lA, kx_gl, kx_pI, kx_pL, kx_pR, kx_pA, kx_pV, kx_s1, kx_s2, kx_sl, kx_pre, kx_c2, kx_pl, kx_cmp, kx_oF, kx_eqN, kx_nil, kx_c1, kx_ft, kx_aI, kx_aL, kx_aR, kx_ln, Nat.reduceAdd, Option.toList, List.cons_append, List.nil_append, cf10_0, cf0_0, cf10_14])
        repeat' apply And.intro
        all_goals try (first | with_reducible assumption | (with_reducible refine ck_nzI ?_; simp; done) | (with_reducible refine ck_nzL ?_; simp; done) | (with_reducible refine vp_in_nI ?_ ?_ <;> first | omega | decide) | (with_reducible refine Nat.le_of_ble_eq_true ?_; rfl) | omega | exact Or.inl trivial | exact Or.inr trivial | exact Or.inl rfl | exact Or.inr rfl)
        exact hX.2 95 _ _ _ _ _ _ _ _ lX10_95 (ct_X10_need_x l G hst) rfl rfl (Nat.le_of_ble_eq_true rfl) (by first | decide | omega) (by decide) dX10_read_40
      · intro zc25
        with_reducible first | have ze25 := Int32.not_lt.mp zc25 | have ze25 := zc25
        refine hB bX10_read_28 _ _ _ _ _ _ _ kX10_read_28 ?_
        dsimp only [bX10_read_28, kx_wp, kx_step, kx_lI, kx_lL, kx_lA, kx_gl, kx_pI, kx_pL, kx_pR, kx_pA, kx_pV, kx_s1, kx_s2, kx_sl, kx_pre, kx_c2, kx_pl, kx_cmp, kx_oF, kx_eqN, kx_nil, kx_c1, kx_ft, kx_aI, kx_aL, kx_aR, kx_ln, Nat.reduceAdd, Option.toList, List.cons_append, List.nil_append, cf10_0, cf0_0, cf10_14]
        repeat (simp only [h64, hA, ks_eq, ks_ss]; try dsimp only [kx_wp, kx_step, kx_lI, kx_lL, kx_lA, kx_gl, kx_pI, kx_pL, kx_pR, kx_pA, kx_pV, kx_s1, kx_s2, kx_sl, kx_pre, kx_c2, kx_pl, kx_cmp, kx_oF, kx_eqN, kx_nil, kx_c1, kx_ft, kx_aI, kx_aL, kx_aR, kx_ln, Nat.reduceAdd, Option.toList, List.cons_append, List.nil_append, cf10_0, cf0_0, cf10_14])
        repeat' apply And.intro
        all_goals try (first | with_reducible assumption | (with_reducible refine ck_nzI ?_; simp; done) | (with_reducible refine ck_nzL ?_; simp; done) | (with_reducible refine vp_in_nI ?_ ?_ <;> first | omega | decide) | (with_reducible refine Nat.le_of_ble_eq_true ?_; rfl) | omega | exact Or.inl trivial | exact Or.inr trivial | exact Or.inl rfl | exact Or.inr rfl)
        · intro zc32
          with_reducible first | have ze32 := Int32.not_le.mpr zc32 | have ze32 := zc32
          refine hB bX10_read_39 _ _ _ _ _ _ _ kX10_read_39 ?_
          dsimp only [bX10_read_39, kx_wp, kx_step, kx_lI, kx_lL, kx_lA, kx_gl, kx_pI, kx_pL, kx_pR, kx_pA, kx_pV, kx_s1, kx_s2, kx_sl, kx_pre, kx_c2, kx_pl, kx_cmp, kx_oF, kx_eqN, kx_nil, kx_c1, kx_ft, kx_aI, kx_aL, kx_aR, kx_ln, Nat.reduceAdd, Option.toList, List.cons_append, List.nil_append, cf10_0, cf0_0, cf10_14]
          repeat (simp only [h64, hA, ks_eq, ks_ss]; try dsimp only [kx_wp, kx_step, kx_lI, kx_lL, kx_lA, kx_gl, kx_pI, kx_pL, kx_pR, kx_pA, kx_pV, kx_s1, kx_s2, kx_sl, kx_pre, kx_c2, kx_pl, kx_cmp, kx_oF, kx_eqN, kx_nil, kx_c1, kx_ft, kx_aI, kx_aL, kx_aR, kx_ln, Nat.reduceAdd, Option.toList, List.cons_append, List.nil_append, cf10_0, cf0_0, cf10_14])
          repeat' apply And.intro
          all_goals try (first | with_reducible assumption | (with_reducible refine ck_nzI ?_; simp; done) | (with_reducible refine ck_nzL ?_; simp; done) | (with_reducible refine vp_in_nI ?_ ?_ <;> first | omega | decide) | (with_reducible refine Nat.le_of_ble_eq_true ?_; rfl) | omega | exact Or.inl trivial | exact Or.inr trivial | exact Or.inl rfl | exact Or.inr rfl)
          exact hX.2 95 _ _ _ _ _ _ _ _ lX10_95 (ct_X10_need_x l G hst) rfl rfl (Nat.le_of_ble_eq_true rfl) (by first | decide | omega) (by decide) dX10_read_40
        · intro zc32
          with_reducible first | have ze32 := Int32.not_lt.mp zc32 | have ze32 := zc32
          exact absurd ⟨ze7, ze18, ze25, ze32⟩ hb

set_option maxRecDepth 100000 in
set_option maxHeartbeats 4000000 in
theorem ct_X10_read_f (l : Launch) (G : kx_G) (hst : l.stackTraces = false) {P : kx_P} {sz : Nat} {sv : Value} {K : Nat → Int32} (h64 : P 64 = kO 10 (kf (cr10 sv) K)) {i e : Int32} {x : Int32} (hx : x < 0 ∨ K 7 ≤ x)  : kx_X l G sX10_read 7 [.ref 64, .int (x), .int (i), .int (e)] P sz "java/util/NoSuchElementException" := by
  refine kx_mkx hst kx_tab kxLok_X10 [some (.ref 64), some (.int (x)), some (.int (i)), some (.int (e))] ⟨by decide, rfl, by decide⟩ rfl rfl (fun g hB hC hX hT => ?_)
  refine hB bX10_read_0 _ _ _ _ _ _ _ kX10_read_0 ?_
  dsimp only [bX10_read_0, kx_wp, kx_step, kx_lI, kx_lL, kx_lA, kx_gl, kx_pI, kx_pL, kx_pR, kx_pA, kx_pV, kx_s1, kx_s2, kx_sl, kx_pre, kx_c2, kx_pl, kx_cmp, kx_oF, kx_eqN, kx_nil, kx_c1, kx_ft, kx_aI, kx_aL, kx_aR, kx_ln, Nat.reduceAdd, Option.toList, List.cons_append, List.nil_append, cf10_0, cf0_0, cf10_14]
  repeat (simp only [ks_eq, ks_ss]; try dsimp only [kx_wp, kx_step, kx_lI, kx_lL, kx_lA, kx_gl, kx_pI, kx_pL, kx_pR, kx_pA, kx_pV, kx_s1, kx_s2, kx_sl, kx_pre, kx_c2, kx_pl, kx_cmp, kx_oF, kx_eqN, kx_nil, kx_c1, kx_ft, kx_aI, kx_aL, kx_aR, kx_ln, Nat.reduceAdd, Option.toList, List.cons_append, List.nil_append, cf10_0, cf0_0, cf10_14])
  repeat' apply And.intro
  all_goals try (first | with_reducible assumption | (with_reducible refine ck_nzI ?_; simp; done) | (with_reducible refine ck_nzL ?_; simp; done) | (with_reducible refine vp_in_nI ?_ ?_ <;> first | omega | decide) | (with_reducible refine Nat.le_of_ble_eq_true ?_; rfl) | omega | exact Or.inl trivial | exact Or.inr trivial | exact Or.inl rfl | exact Or.inr rfl)
  exact hX.1 138 _ _ _ _ _ 10 _ _ _ _ _ lX10_138 (ct_X10_theClock_x l G hst h64 hx) ⟨by decide, rfl⟩ (h64) rfl rfl (Nat.le_of_ble_eq_true rfl) (by first | decide | omega) (by decide) dX10_read_2

def bX10_law_0 : List kx_O := [(.aload_n 0, 0, 0, 0, .null), (.iload_n 1, 1, 0, 0, .null)]
theorem kX10_law_0 : kx_oks kxL_X10 false cX10_law 0 bX10_law_0 = true := by decide +kernel
def bX10_law_5 : List kx_O := [(.pop, 0, 0, 0, .null), (.iload_n 2, 2, 0, 0, .null)]
theorem kX10_law_5 : kx_oks kxL_X10 false cX10_law 5 bX10_law_5 = true := by decide +kernel
def bX10_law_13 : List kx_O := [(.aload_n 0, 0, 0, 0, .null), (.getfield 91, 10, 15, 0, .null), (.iload_n 1, 1, 0, 0, .null), (.iload_n 2, 2, 0, 0, .null), (.aload_n 0, 0, 0, 0, .null), (.getfield 12, 10, 0, 0, .null), (.getfield 129, 0, 0, 0, .null)]
theorem kX10_law_13 : kx_oks kxL_X10 false cX10_law 13 bX10_law_13 = true := by decide +kernel
def bX10_law_29 : List kx_O := [(.ireturn, 0, 0, 0, .null)]
theorem kX10_law_29 : kx_oks kxL_X10 false cX10_law 29 bX10_law_29 = true := by decide +kernel
theorem dX10_law_2 : decode cX10_law 2 = .ok (.invokevirtual 138, 3) := by decide +kernel
theorem dX10_law_7 : decode cX10_law 7 = .ok (.invokestatic 236, 3) := by decide +kernel
theorem dX10_law_10 : decode cX10_law 10 = .ok (.invokestatic 95, 3) := by decide +kernel
theorem dX10_law_26 : decode cX10_law 26 = .ok (.invokevirtual 317, 3) := by decide +kernel
set_option maxRecDepth 100000 in
set_option maxHeartbeats 4000000 in
theorem ct_X10_law_n (l : Launch) (G : kx_G) {P : kx_P} {sz : Nat} {sv : Value} {K : Nat → Int32} (h64 : P 64 = kO 10 (kf (cr10 sv) K)) {cl : Nat} {cn : Nat → Nat} (h69 : P 69 = kR 8 (fun i => if i < cl then some (cn i) else none)) (h7 : K 7 = nI cl) (hcl : cl ≤ 8) {c : Nat} (hc : c < cl) {Al : Nat → Int32} (hA : P 65 = kO 0 (kf cr0 Al)) {Fl la lb lt : Nat → Int32} (hL : P 89 = kO 3 (kf cr3 Fl)) (h90 : P 90 = kI 0 40 la) (h91 : P 91 = kI 0 40 lb) (h92 : P 92 = kI 0 40 lt) {i : Int32} (him : cx_im i = 1) (h3 : Fl 3 = 40)  : kx_M l G sX10_law 3 0 0 [.ref 64, .int (nI c), .int (i)] P sz (some (.int (-1))) P sz := by
  refine kx_mk kx_tab kxLok_X10 (ini := false) [some (.ref 64), some (.int (nI c)), some (.int (i))] ⟨by decide, rfl, by decide, by decide⟩ (⟨_, rfl⟩) rfl rfl (fun g hB hC => ?_)
  refine hB bX10_law_0 _ _ _ _ _ _ _ kX10_law_0 ?_
  dsimp only [bX10_law_0, kx_wp, kx_step, kx_lI, kx_lL, kx_lA, kx_gl, kx_pI, kx_pL, kx_pR, kx_pA, kx_pV, kx_s1, kx_s2, kx_sl, kx_pre, kx_c2, kx_pl, kx_cmp, kx_oF, kx_eqN, kx_nil, kx_c1, kx_ft, kx_aI, kx_aL, kx_aR, kx_ln, Nat.reduceAdd, Option.toList, List.cons_append, List.nil_append, cf10_15, cf10_0, cf0_0]
  repeat (simp only [h64, hA, hL, him, ks_eq, ks_ss]; try dsimp only [kx_wp, kx_step, kx_lI, kx_lL, kx_lA, kx_gl, kx_pI, kx_pL, kx_pR, kx_pA, kx_pV, kx_s1, kx_s2, kx_sl, kx_pre, kx_c2, kx_pl, kx_cmp, kx_oF, kx_eqN, kx_nil, kx_c1, kx_ft, kx_aI, kx_aL, kx_aR, kx_ln, Nat.reduceAdd, Option.toList, List.cons_append, List.nil_append, cf10_15, cf10_0, cf0_0])
  repeat' apply And.intro
  all_goals try (first | with_reducible assumption | (with_reducible refine ck_nzI ?_; simp; done) | (with_reducible refine ck_nzL ?_; simp; done) | (with_reducible refine vp_in_nI ?_ ?_ <;> first | omega | decide) | (with_reducible refine Nat.le_of_ble_eq_true ?_; rfl) | omega | exact Or.inl trivial | exact Or.inr trivial | exact Or.inl rfl | exact Or.inr rfl)
  refine hC.1 138 _ _ _ _ _ _ _ 10 _ _ _ _ _ _ _ _ _ _ _ _ lX10_138 (ct_X10_theClock l G h64 h69 h7 hcl hc) ⟨by decide, rfl⟩ (h64) rfl rfl (Nat.le_of_ble_eq_true rfl) (by first | decide | omega) (by decide) (by omega) (by omega) dX10_law_2 ?_
  refine hB bX10_law_5 _ _ _ _ _ _ _ kX10_law_5 ?_
  dsimp only [bX10_law_5, kx_wp, kx_step, kx_lI, kx_lL, kx_lA, kx_gl, kx_pI, kx_pL, kx_pR, kx_pA, kx_pV, kx_s1, kx_s2, kx_sl, kx_pre, kx_c2, kx_pl, kx_cmp, kx_oF, kx_eqN, kx_nil, kx_c1, kx_ft, kx_aI, kx_aL, kx_aR, kx_ln, Nat.reduceAdd, Option.toList, List.cons_append, List.nil_append, cf10_15, cf10_0, cf0_0]
  repeat (simp only [h64, hA, hL, him, ks_eq, ks_ss]; try dsimp only [kx_wp, kx_step, kx_lI, kx_lL, kx_lA, kx_gl, kx_pI, kx_pL, kx_pR, kx_pA, kx_pV, kx_s1, kx_s2, kx_sl, kx_pre, kx_c2, kx_pl, kx_cmp, kx_oF, kx_eqN, kx_nil, kx_c1, kx_ft, kx_aI, kx_aL, kx_aR, kx_ln, Nat.reduceAdd, Option.toList, List.cons_append, List.nil_append, cf10_15, cf10_0, cf0_0])
  repeat' apply And.intro
  all_goals try (first | with_reducible assumption | (with_reducible refine ck_nzI ?_; simp; done) | (with_reducible refine ck_nzL ?_; simp; done) | (with_reducible refine vp_in_nI ?_ ?_ <;> first | omega | decide) | (with_reducible refine Nat.le_of_ble_eq_true ?_; rfl) | omega | exact Or.inl trivial | exact Or.inr trivial | exact Or.inl rfl | exact Or.inr rfl)
  refine hC.2.1 236 _ _ _ _ _ _ _ _ _ _ _ _ _ _ _ _ _ lX10_236 (ct_X10_isMinute l G) rfl rfl (Nat.le_of_ble_eq_true rfl) (by first | decide | omega) (by decide) (by omega) (by omega) dX10_law_7 ?_
  rw [him]
  refine hC.2.1 95 _ _ _ _ _ _ _ _ _ _ _ _ _ _ _ _ _ lX10_95 (ct_X10_need l G (b := 1) (by decide)) rfl rfl (Nat.le_of_ble_eq_true rfl) (by first | decide | omega) (by decide) (by omega) (by omega) dX10_law_10 ?_
  refine hB bX10_law_13 _ _ _ _ _ _ _ kX10_law_13 ?_
  dsimp only [bX10_law_13, kx_wp, kx_step, kx_lI, kx_lL, kx_lA, kx_gl, kx_pI, kx_pL, kx_pR, kx_pA, kx_pV, kx_s1, kx_s2, kx_sl, kx_pre, kx_c2, kx_pl, kx_cmp, kx_oF, kx_eqN, kx_nil, kx_c1, kx_ft, kx_aI, kx_aL, kx_aR, kx_ln, Nat.reduceAdd, Option.toList, List.cons_append, List.nil_append, cf10_15, cf10_0, cf0_0]
  repeat (simp only [h64, hA, hL, him, ks_eq, ks_ss]; try dsimp only [kx_wp, kx_step, kx_lI, kx_lL, kx_lA, kx_gl, kx_pI, kx_pL, kx_pR, kx_pA, kx_pV, kx_s1, kx_s2, kx_sl, kx_pre, kx_c2, kx_pl, kx_cmp, kx_oF, kx_eqN, kx_nil, kx_c1, kx_ft, kx_aI, kx_aL, kx_aR, kx_ln, Nat.reduceAdd, Option.toList, List.cons_append, List.nil_append, cf10_15, cf10_0, cf0_0])
  repeat' apply And.intro
  all_goals try (first | with_reducible assumption | (with_reducible refine ck_nzI ?_; simp; done) | (with_reducible refine ck_nzL ?_; simp; done) | (with_reducible refine vp_in_nI ?_ ?_ <;> first | omega | decide) | (with_reducible refine Nat.le_of_ble_eq_true ?_; rfl) | omega | exact Or.inl trivial | exact Or.inr trivial | exact Or.inl rfl | exact Or.inr rfl)
  refine hC.1 317 _ _ _ _ _ _ _ 3 _ _ _ _ _ _ _ _ _ _ _ _ lX10_317 (ct_X3_add_n l G hL h90 h91 h92 h3) ⟨by decide, rfl⟩ (by first | exact h64 | exact hL) rfl rfl (Nat.le_of_ble_eq_true rfl) (by first | decide | omega) (by decide) (by omega) (by omega) dX10_law_26 ?_
  refine hB bX10_law_29 _ _ _ _ _ _ _ kX10_law_29 ?_
  dsimp only [bX10_law_29, kx_wp, kx_step, kx_lI, kx_lL, kx_lA, kx_gl, kx_pI, kx_pL, kx_pR, kx_pA, kx_pV, kx_s1, kx_s2, kx_sl, kx_pre, kx_c2, kx_pl, kx_cmp, kx_oF, kx_eqN, kx_nil, kx_c1, kx_ft, kx_aI, kx_aL, kx_aR, kx_ln, Nat.reduceAdd, Option.toList, List.cons_append, List.nil_append, cf10_15, cf10_0, cf0_0]
  repeat (simp only [h64, hA, hL, him, ks_eq, ks_ss]; try dsimp only [kx_wp, kx_step, kx_lI, kx_lL, kx_lA, kx_gl, kx_pI, kx_pL, kx_pR, kx_pA, kx_pV, kx_s1, kx_s2, kx_sl, kx_pre, kx_c2, kx_pl, kx_cmp, kx_oF, kx_eqN, kx_nil, kx_c1, kx_ft, kx_aI, kx_aL, kx_aR, kx_ln, Nat.reduceAdd, Option.toList, List.cons_append, List.nil_append, cf10_15, cf10_0, cf0_0])
  all_goals (repeat' apply And.intro)
  all_goals ((try clear hB hC); first | exact True.intro | with_reducible rfl | with_reducible assumption | (with_reducible refine vp_in_nI ?_ ?_ <;> first | omega | decide) | exact Nat.le_of_ble_eq_true rfl | (with_reducible refine ck_nzI ?_; simp; done) | (with_reducible refine ck_nzL ?_; simp; done) | (simp only [pk_us, pk_uLs, ↓reduceIte, not_true_eq_false, not_false_eq_true]; done) | (simp only [↓reduceIte, not_true_eq_false, not_false_eq_true]; with_reducible rfl) | omega | skip)

set_option maxRecDepth 100000 in
set_option maxHeartbeats 4000000 in
theorem ct_X10_law_t (l : Launch) (G : kx_G) {P : kx_P} {sz : Nat} {sv : Value} {K : Nat → Int32} (h64 : P 64 = kO 10 (kf (cr10 sv) K)) {cl : Nat} {cn : Nat → Nat} (h69 : P 69 = kR 8 (fun i => if i < cl then some (cn i) else none)) (h7 : K 7 = nI cl) (hcl : cl ≤ 8) {c : Nat} (hc : c < cl) {Al : Nat → Int32} (hA : P 65 = kO 0 (kf cr0 Al)) {Fl la lb lt : Nat → Int32} (hL : P 89 = kO 3 (kf cr3 Fl)) (h90 : P 90 = kI 0 40 la) (h91 : P 91 = kI 0 40 lb) (h92 : P 92 = kI 0 40 lt) {i : Int32} (him : cx_im i = 1) {n : Nat} (h3 : Fl 3 = nI n) (hn : n < 40)  : kx_M l G sX10_law 3 0 0 [.ref 64, .int (nI c), .int (i)] P sz (some (.int (nI (n + 1)))) (kx_set (kx_set (kx_set (kx_set P 90 (kI 0 40 (upd la n (nI c)))) 91 (kI 0 40 (upd lb n i))) 92 (kI 0 40 (upd lt n (Al 0)))) 89 (kO 3 (kf cr3 (upd Fl 3 (nI (n + 1)))))) sz := by
  refine kx_mk kx_tab kxLok_X10 (ini := false) [some (.ref 64), some (.int (nI c)), some (.int (i))] ⟨by decide, rfl, by decide, by decide⟩ (⟨_, rfl⟩) rfl rfl (fun g hB hC => ?_)
  refine hB bX10_law_0 _ _ _ _ _ _ _ kX10_law_0 ?_
  dsimp only [bX10_law_0, kx_wp, kx_step, kx_lI, kx_lL, kx_lA, kx_gl, kx_pI, kx_pL, kx_pR, kx_pA, kx_pV, kx_s1, kx_s2, kx_sl, kx_pre, kx_c2, kx_pl, kx_cmp, kx_oF, kx_eqN, kx_nil, kx_c1, kx_ft, kx_aI, kx_aL, kx_aR, kx_ln, Nat.reduceAdd, Option.toList, List.cons_append, List.nil_append, cf10_15, cf10_0, cf0_0]
  repeat (simp only [h64, hA, hL, him, ks_eq, ks_ss]; try dsimp only [kx_wp, kx_step, kx_lI, kx_lL, kx_lA, kx_gl, kx_pI, kx_pL, kx_pR, kx_pA, kx_pV, kx_s1, kx_s2, kx_sl, kx_pre, kx_c2, kx_pl, kx_cmp, kx_oF, kx_eqN, kx_nil, kx_c1, kx_ft, kx_aI, kx_aL, kx_aR, kx_ln, Nat.reduceAdd, Option.toList, List.cons_append, List.nil_append, cf10_15, cf10_0, cf0_0])
  repeat' apply And.intro
  all_goals try (first | with_reducible assumption | (with_reducible refine ck_nzI ?_; simp; done) | (with_reducible refine ck_nzL ?_; simp; done) | (with_reducible refine vp_in_nI ?_ ?_ <;> first | omega | decide) | (with_reducible refine Nat.le_of_ble_eq_true ?_; rfl) | omega | exact Or.inl trivial | exact Or.inr trivial | exact Or.inl rfl | exact Or.inr rfl)
  refine hC.1 138 _ _ _ _ _ _ _ 10 _ _ _ _ _ _ _ _ _ _ _ _ lX10_138 (ct_X10_theClock l G h64 h69 h7 hcl hc) ⟨by decide, rfl⟩ (h64) rfl rfl (Nat.le_of_ble_eq_true rfl) (by first | decide | omega) (by decide) (by omega) (by omega) dX10_law_2 ?_
  refine hB bX10_law_5 _ _ _ _ _ _ _ kX10_law_5 ?_
  dsimp only [bX10_law_5, kx_wp, kx_step, kx_lI, kx_lL, kx_lA, kx_gl, kx_pI, kx_pL, kx_pR, kx_pA, kx_pV, kx_s1, kx_s2, kx_sl, kx_pre, kx_c2, kx_pl, kx_cmp, kx_oF, kx_eqN, kx_nil, kx_c1, kx_ft, kx_aI, kx_aL, kx_aR, kx_ln, Nat.reduceAdd, Option.toList, List.cons_append, List.nil_append, cf10_15, cf10_0, cf0_0]
  repeat (simp only [h64, hA, hL, him, ks_eq, ks_ss]; try dsimp only [kx_wp, kx_step, kx_lI, kx_lL, kx_lA, kx_gl, kx_pI, kx_pL, kx_pR, kx_pA, kx_pV, kx_s1, kx_s2, kx_sl, kx_pre, kx_c2, kx_pl, kx_cmp, kx_oF, kx_eqN, kx_nil, kx_c1, kx_ft, kx_aI, kx_aL, kx_aR, kx_ln, Nat.reduceAdd, Option.toList, List.cons_append, List.nil_append, cf10_15, cf10_0, cf0_0])
  repeat' apply And.intro
  all_goals try (first | with_reducible assumption | (with_reducible refine ck_nzI ?_; simp; done) | (with_reducible refine ck_nzL ?_; simp; done) | (with_reducible refine vp_in_nI ?_ ?_ <;> first | omega | decide) | (with_reducible refine Nat.le_of_ble_eq_true ?_; rfl) | omega | exact Or.inl trivial | exact Or.inr trivial | exact Or.inl rfl | exact Or.inr rfl)
  refine hC.2.1 236 _ _ _ _ _ _ _ _ _ _ _ _ _ _ _ _ _ lX10_236 (ct_X10_isMinute l G) rfl rfl (Nat.le_of_ble_eq_true rfl) (by first | decide | omega) (by decide) (by omega) (by omega) dX10_law_7 ?_
  rw [him]
  refine hC.2.1 95 _ _ _ _ _ _ _ _ _ _ _ _ _ _ _ _ _ lX10_95 (ct_X10_need l G (b := 1) (by decide)) rfl rfl (Nat.le_of_ble_eq_true rfl) (by first | decide | omega) (by decide) (by omega) (by omega) dX10_law_10 ?_
  refine hB bX10_law_13 _ _ _ _ _ _ _ kX10_law_13 ?_
  dsimp only [bX10_law_13, kx_wp, kx_step, kx_lI, kx_lL, kx_lA, kx_gl, kx_pI, kx_pL, kx_pR, kx_pA, kx_pV, kx_s1, kx_s2, kx_sl, kx_pre, kx_c2, kx_pl, kx_cmp, kx_oF, kx_eqN, kx_nil, kx_c1, kx_ft, kx_aI, kx_aL, kx_aR, kx_ln, Nat.reduceAdd, Option.toList, List.cons_append, List.nil_append, cf10_15, cf10_0, cf0_0]
  repeat (simp only [h64, hA, hL, him, ks_eq, ks_ss]; try dsimp only [kx_wp, kx_step, kx_lI, kx_lL, kx_lA, kx_gl, kx_pI, kx_pL, kx_pR, kx_pA, kx_pV, kx_s1, kx_s2, kx_sl, kx_pre, kx_c2, kx_pl, kx_cmp, kx_oF, kx_eqN, kx_nil, kx_c1, kx_ft, kx_aI, kx_aL, kx_aR, kx_ln, Nat.reduceAdd, Option.toList, List.cons_append, List.nil_append, cf10_15, cf10_0, cf0_0])
  repeat' apply And.intro
  all_goals try (first | with_reducible assumption | (with_reducible refine ck_nzI ?_; simp; done) | (with_reducible refine ck_nzL ?_; simp; done) | (with_reducible refine vp_in_nI ?_ ?_ <;> first | omega | decide) | (with_reducible refine Nat.le_of_ble_eq_true ?_; rfl) | omega | exact Or.inl trivial | exact Or.inr trivial | exact Or.inl rfl | exact Or.inr rfl)
  refine hC.1 317 _ _ _ _ _ _ _ 3 _ _ _ _ _ _ _ _ _ _ _ _ lX10_317 (ct_X3_add_t l G hL h90 h91 h92 h3 hn) ⟨by decide, rfl⟩ (by first | exact h64 | exact hL) rfl rfl (Nat.le_of_ble_eq_true rfl) (by first | decide | omega) (by decide) (by omega) (by omega) dX10_law_26 ?_
  refine hB bX10_law_29 _ _ _ _ _ _ _ kX10_law_29 ?_
  dsimp only [bX10_law_29, kx_wp, kx_step, kx_lI, kx_lL, kx_lA, kx_gl, kx_pI, kx_pL, kx_pR, kx_pA, kx_pV, kx_s1, kx_s2, kx_sl, kx_pre, kx_c2, kx_pl, kx_cmp, kx_oF, kx_eqN, kx_nil, kx_c1, kx_ft, kx_aI, kx_aL, kx_aR, kx_ln, Nat.reduceAdd, Option.toList, List.cons_append, List.nil_append, cf10_15, cf10_0, cf0_0]
  repeat (simp only [h64, hA, hL, him, ks_eq, ks_ss]; try dsimp only [kx_wp, kx_step, kx_lI, kx_lL, kx_lA, kx_gl, kx_pI, kx_pL, kx_pR, kx_pA, kx_pV, kx_s1, kx_s2, kx_sl, kx_pre, kx_c2, kx_pl, kx_cmp, kx_oF, kx_eqN, kx_nil, kx_c1, kx_ft, kx_aI, kx_aL, kx_aR, kx_ln, Nat.reduceAdd, Option.toList, List.cons_append, List.nil_append, cf10_15, cf10_0, cf0_0])
  all_goals (repeat' apply And.intro)
  all_goals ((try clear hB hC); first | exact True.intro | with_reducible rfl | with_reducible assumption | (with_reducible refine vp_in_nI ?_ ?_ <;> first | omega | decide) | exact Nat.le_of_ble_eq_true rfl | (with_reducible refine ck_nzI ?_; simp; done) | (with_reducible refine ck_nzL ?_; simp; done) | (simp only [pk_us, pk_uLs, ↓reduceIte, not_true_eq_false, not_false_eq_true]; done) | (simp only [↓reduceIte, not_true_eq_false, not_false_eq_true]; with_reducible rfl) | omega | skip)

set_option maxRecDepth 100000 in
set_option maxHeartbeats 4000000 in
theorem ct_X10_law_b (l : Launch) (G : kx_G) (hst : l.stackTraces = false) {P : kx_P} {sz : Nat} {sv : Value} {K : Nat → Int32} (h64 : P 64 = kO 10 (kf (cr10 sv) K)) {cl : Nat} {cn : Nat → Nat} (h69 : P 69 = kR 8 (fun i => if i < cl then some (cn i) else none)) (h7 : K 7 = nI cl) (hcl : cl ≤ 8) {c : Nat} (hc : c < cl) {i : Int32} (him : cx_im i = 0)  : kx_X l G sX10_law 7 [.ref 64, .int (nI c), .int (i)] P sz "java/lang/IllegalArgumentException" := by
  refine kx_mkx hst kx_tab kxLok_X10 [some (.ref 64), some (.int (nI c)), some (.int (i))] ⟨by decide, rfl, by decide⟩ rfl rfl (fun g hB hC hX hT => ?_)
  refine hB bX10_law_0 _ _ _ _ _ _ _ kX10_law_0 ?_
  dsimp only [bX10_law_0, kx_wp, kx_step, kx_lI, kx_lL, kx_lA, kx_gl, kx_pI, kx_pL, kx_pR, kx_pA, kx_pV, kx_s1, kx_s2, kx_sl, kx_pre, kx_c2, kx_pl, kx_cmp, kx_oF, kx_eqN, kx_nil, kx_c1, kx_ft, kx_aI, kx_aL, kx_aR, kx_ln, Nat.reduceAdd, Option.toList, List.cons_append, List.nil_append, cf10_15, cf10_0, cf0_0]
  repeat (simp only [h64, him, ks_eq, ks_ss]; try dsimp only [kx_wp, kx_step, kx_lI, kx_lL, kx_lA, kx_gl, kx_pI, kx_pL, kx_pR, kx_pA, kx_pV, kx_s1, kx_s2, kx_sl, kx_pre, kx_c2, kx_pl, kx_cmp, kx_oF, kx_eqN, kx_nil, kx_c1, kx_ft, kx_aI, kx_aL, kx_aR, kx_ln, Nat.reduceAdd, Option.toList, List.cons_append, List.nil_append, cf10_15, cf10_0, cf0_0])
  repeat' apply And.intro
  all_goals try (first | with_reducible assumption | (with_reducible refine ck_nzI ?_; simp; done) | (with_reducible refine ck_nzL ?_; simp; done) | (with_reducible refine vp_in_nI ?_ ?_ <;> first | omega | decide) | (with_reducible refine Nat.le_of_ble_eq_true ?_; rfl) | omega | exact Or.inl trivial | exact Or.inr trivial | exact Or.inl rfl | exact Or.inr rfl)
  refine hC.1 138 _ _ _ _ _ _ _ 10 _ _ _ _ _ _ _ _ _ _ _ _ lX10_138 (ct_X10_theClock l G h64 h69 h7 hcl hc) ⟨by decide, rfl⟩ (h64) rfl rfl (Nat.le_of_ble_eq_true rfl) (by first | decide | omega) (by decide) (by omega) (by omega) dX10_law_2 ?_
  refine hB bX10_law_5 _ _ _ _ _ _ _ kX10_law_5 ?_
  dsimp only [bX10_law_5, kx_wp, kx_step, kx_lI, kx_lL, kx_lA, kx_gl, kx_pI, kx_pL, kx_pR, kx_pA, kx_pV, kx_s1, kx_s2, kx_sl, kx_pre, kx_c2, kx_pl, kx_cmp, kx_oF, kx_eqN, kx_nil, kx_c1, kx_ft, kx_aI, kx_aL, kx_aR, kx_ln, Nat.reduceAdd, Option.toList, List.cons_append, List.nil_append, cf10_15, cf10_0, cf0_0]
  repeat (simp only [h64, him, ks_eq, ks_ss]; try dsimp only [kx_wp, kx_step, kx_lI, kx_lL, kx_lA, kx_gl, kx_pI, kx_pL, kx_pR, kx_pA, kx_pV, kx_s1, kx_s2, kx_sl, kx_pre, kx_c2, kx_pl, kx_cmp, kx_oF, kx_eqN, kx_nil, kx_c1, kx_ft, kx_aI, kx_aL, kx_aR, kx_ln, Nat.reduceAdd, Option.toList, List.cons_append, List.nil_append, cf10_15, cf10_0, cf0_0])
  repeat' apply And.intro
  all_goals try (first | with_reducible assumption | (with_reducible refine ck_nzI ?_; simp; done) | (with_reducible refine ck_nzL ?_; simp; done) | (with_reducible refine vp_in_nI ?_ ?_ <;> first | omega | decide) | (with_reducible refine Nat.le_of_ble_eq_true ?_; rfl) | omega | exact Or.inl trivial | exact Or.inr trivial | exact Or.inl rfl | exact Or.inr rfl)
  refine hC.2.1 236 _ _ _ _ _ _ _ _ _ _ _ _ _ _ _ _ _ lX10_236 (ct_X10_isMinute l G) rfl rfl (Nat.le_of_ble_eq_true rfl) (by first | decide | omega) (by decide) (by omega) (by omega) dX10_law_7 ?_
  rw [him]
  exact hX.2 95 _ _ _ _ _ _ _ _ lX10_95 (ct_X10_need_x l G hst) rfl rfl (Nat.le_of_ble_eq_true rfl) (by first | decide | omega) (by decide) dX10_law_10

set_option maxRecDepth 100000 in
set_option maxHeartbeats 4000000 in
theorem ct_X10_law_f (l : Launch) (G : kx_G) (hst : l.stackTraces = false) {P : kx_P} {sz : Nat} {sv : Value} {K : Nat → Int32} (h64 : P 64 = kO 10 (kf (cr10 sv) K)) {i : Int32} {x : Int32} (hx : x < 0 ∨ K 7 ≤ x)  : kx_X l G sX10_law 7 [.ref 64, .int (x), .int (i)] P sz "java/util/NoSuchElementException" := by
  refine kx_mkx hst kx_tab kxLok_X10 [some (.ref 64), some (.int (x)), some (.int (i))] ⟨by decide, rfl, by decide⟩ rfl rfl (fun g hB hC hX hT => ?_)
  refine hB bX10_law_0 _ _ _ _ _ _ _ kX10_law_0 ?_
  dsimp only [bX10_law_0, kx_wp, kx_step, kx_lI, kx_lL, kx_lA, kx_gl, kx_pI, kx_pL, kx_pR, kx_pA, kx_pV, kx_s1, kx_s2, kx_sl, kx_pre, kx_c2, kx_pl, kx_cmp, kx_oF, kx_eqN, kx_nil, kx_c1, kx_ft, kx_aI, kx_aL, kx_aR, kx_ln, Nat.reduceAdd, Option.toList, List.cons_append, List.nil_append, cf10_15, cf10_0, cf0_0]
  repeat (simp only [ks_eq, ks_ss]; try dsimp only [kx_wp, kx_step, kx_lI, kx_lL, kx_lA, kx_gl, kx_pI, kx_pL, kx_pR, kx_pA, kx_pV, kx_s1, kx_s2, kx_sl, kx_pre, kx_c2, kx_pl, kx_cmp, kx_oF, kx_eqN, kx_nil, kx_c1, kx_ft, kx_aI, kx_aL, kx_aR, kx_ln, Nat.reduceAdd, Option.toList, List.cons_append, List.nil_append, cf10_15, cf10_0, cf0_0])
  repeat' apply And.intro
  all_goals try (first | with_reducible assumption | (with_reducible refine ck_nzI ?_; simp; done) | (with_reducible refine ck_nzL ?_; simp; done) | (with_reducible refine vp_in_nI ?_ ?_ <;> first | omega | decide) | (with_reducible refine Nat.le_of_ble_eq_true ?_; rfl) | omega | exact Or.inl trivial | exact Or.inr trivial | exact Or.inl rfl | exact Or.inr rfl)
  exact hX.1 138 _ _ _ _ _ 10 _ _ _ _ _ lX10_138 (ct_X10_theClock_x l G hst h64 hx) ⟨by decide, rfl⟩ (h64) rfl rfl (Nat.le_of_ble_eq_true rfl) (by first | decide | omega) (by decide) dX10_law_2

def bX10_lawful_0 : List kx_O := [(.aload_n 0, 0, 0, 0, .null), (.getfield 91, 10, 15, 0, .null), (.iload_n 1, 1, 0, 0, .null), (.iload_n 2, 2, 0, 0, .null)]
theorem kX10_lawful_0 : kx_oks kxL_X10 false cX10_lawful 0 bX10_lawful_0 = true := by decide +kernel
def bX10_lawful_9 : List kx_O := [(.ireturn, 0, 0, 0, .null)]
theorem kX10_lawful_9 : kx_oks kxL_X10 false cX10_lawful 9 bX10_lawful_9 = true := by decide +kernel
theorem dX10_lawful_6 : decode cX10_lawful 6 = .ok (.invokevirtual 320, 3) := by decide +kernel
set_option maxRecDepth 100000 in
set_option maxHeartbeats 4000000 in
theorem ct_X10_lawful_t (l : Launch) (G : kx_G) {P : kx_P} {sz : Nat} {sv : Value} {K : Nat → Int32} (h64 : P 64 = kO 10 (kf (cr10 sv) K)) {Fl la lb lt : Nat → Int32} (hL : P 89 = kO 3 (kf cr3 Fl)) (h90 : P 90 = kI 0 40 la) (h91 : P 91 = kI 0 40 lb) (h92 : P 92 = kI 0 40 lt) {i t : Int32} {n : Nat} (h3 : Fl 3 = nI n) (hn : n ≤ 40)  : kx_M l G sX10_lawful 2 0 0 [.ref 64, .int (i), .int (t)] P sz (some (.int ((cx_lw la lb lt i t n).1))) P sz := by
  refine kx_mk kx_tab kxLok_X10 (ini := false) [some (.ref 64), some (.int (i)), some (.int (t))] ⟨by decide, rfl, by decide, by decide⟩ (⟨_, rfl⟩) rfl rfl (fun g hB hC => ?_)
  refine hB bX10_lawful_0 _ _ _ _ _ _ _ kX10_lawful_0 ?_
  dsimp only [bX10_lawful_0, kx_wp, kx_step, kx_lI, kx_lL, kx_lA, kx_gl, kx_pI, kx_pL, kx_pR, kx_pA, kx_pV, kx_s1, kx_s2, kx_sl, kx_pre, kx_c2, kx_pl, kx_cmp, kx_oF, kx_eqN, kx_nil, kx_c1, kx_ft, kx_aI, kx_aL, kx_aR, kx_ln, Nat.reduceAdd, Option.toList, List.cons_append, List.nil_append, cf10_15]
  repeat (simp only [h64, hL, ks_eq, ks_ss]; try dsimp only [kx_wp, kx_step, kx_lI, kx_lL, kx_lA, kx_gl, kx_pI, kx_pL, kx_pR, kx_pA, kx_pV, kx_s1, kx_s2, kx_sl, kx_pre, kx_c2, kx_pl, kx_cmp, kx_oF, kx_eqN, kx_nil, kx_c1, kx_ft, kx_aI, kx_aL, kx_aR, kx_ln, Nat.reduceAdd, Option.toList, List.cons_append, List.nil_append, cf10_15])
  repeat' apply And.intro
  all_goals try (first | with_reducible assumption | (with_reducible refine ck_nzI ?_; simp; done) | (with_reducible refine ck_nzL ?_; simp; done) | (with_reducible refine vp_in_nI ?_ ?_ <;> first | omega | decide) | (with_reducible refine Nat.le_of_ble_eq_true ?_; rfl) | omega | exact Or.inl trivial | exact Or.inr trivial | exact Or.inl rfl | exact Or.inr rfl)
  refine hC.1 320 _ _ _ _ _ _ _ 3 _ _ _ _ _ _ _ _ _ _ _ _ lX10_320 (ct_X3_clockAt l G hL h90 h91 h92 h3 hn) ⟨by decide, rfl⟩ (by first | exact h64 | exact hL) rfl rfl (Nat.le_of_ble_eq_true rfl) (by first | decide | omega) (by decide) (by omega) (by omega) dX10_lawful_6 ?_
  refine hB bX10_lawful_9 _ _ _ _ _ _ _ kX10_lawful_9 ?_
  dsimp only [bX10_lawful_9, kx_wp, kx_step, kx_lI, kx_lL, kx_lA, kx_gl, kx_pI, kx_pL, kx_pR, kx_pA, kx_pV, kx_s1, kx_s2, kx_sl, kx_pre, kx_c2, kx_pl, kx_cmp, kx_oF, kx_eqN, kx_nil, kx_c1, kx_ft, kx_aI, kx_aL, kx_aR, kx_ln, Nat.reduceAdd, Option.toList, List.cons_append, List.nil_append, cf10_15]
  repeat (simp only [h64, hL, ks_eq, ks_ss]; try dsimp only [kx_wp, kx_step, kx_lI, kx_lL, kx_lA, kx_gl, kx_pI, kx_pL, kx_pR, kx_pA, kx_pV, kx_s1, kx_s2, kx_sl, kx_pre, kx_c2, kx_pl, kx_cmp, kx_oF, kx_eqN, kx_nil, kx_c1, kx_ft, kx_aI, kx_aL, kx_aR, kx_ln, Nat.reduceAdd, Option.toList, List.cons_append, List.nil_append, cf10_15])
  all_goals (repeat' apply And.intro)
  all_goals ((try clear hB hC); first | exact True.intro | with_reducible rfl | with_reducible assumption | (with_reducible refine vp_in_nI ?_ ?_ <;> first | omega | decide) | exact Nat.le_of_ble_eq_true rfl | (with_reducible refine ck_nzI ?_; simp; done) | (with_reducible refine ck_nzL ?_; simp; done) | (simp only [pk_us, pk_uLs, ↓reduceIte, not_true_eq_false, not_false_eq_true]; done) | (simp only [↓reduceIte, not_true_eq_false, not_false_eq_true]; with_reducible rfl) | omega | skip)

def bX10_kept_0 : List kx_O := [(.aload_n 0, 0, 0, 0, .null), (.iload_n 1, 1, 0, 0, .null)]
theorem kX10_kept_0 : kx_oks kxL_X10 false cX10_kept 0 bX10_kept_0 = true := by decide +kernel
def bX10_kept_5 : List kx_O := [(.iload_n 2, 2, 0, 0, .null)]
theorem kX10_kept_5 : kx_oks kxL_X10 false cX10_kept 5 bX10_kept_5 = true := by decide +kernel
def bX10_kept_9 : List kx_O := [(.ireturn, 0, 0, 0, .null)]
theorem kX10_kept_9 : kx_oks kxL_X10 false cX10_kept 9 bX10_kept_9 = true := by decide +kernel
theorem dX10_kept_2 : decode cX10_kept 2 = .ok (.invokevirtual 138, 3) := by decide +kernel
theorem dX10_kept_6 : decode cX10_kept 6 = .ok (.invokevirtual 323, 3) := by decide +kernel
set_option maxRecDepth 100000 in
set_option maxHeartbeats 4000000 in
theorem ct_X10_kept_n (l : Launch) (G : kx_G) {P : kx_P} {sz : Nat} {sv : Value} {K : Nat → Int32} (h64 : P 64 = kO 10 (kf (cr10 sv) K)) {cl : Nat} {cn : Nat → Nat} (h69 : P 69 = kR 8 (fun i => if i < cl then some (cn i) else none)) (h7 : K 7 = nI cl) (hcl : cl ≤ 8) {c : Nat} (hc : c < cl) {k : Nat} {C Kp : Nat → Int32} {wv : Value} {d : Int64} (hq : P (cn c) = kO 1 (kf (cr1 wv d (.ref k)) C)) (hk : P k = kI 0 1667 Kp) {x : Int32} (hx : x < 0 ∨ Int32.ofNat 1667 ≤ x)  : kx_M l G sX10_kept 3 0 0 [.ref 64, .int (nI c), .int (x)] P sz (some (.int (-1))) P sz := by
  refine kx_mk kx_tab kxLok_X10 (ini := false) [some (.ref 64), some (.int (nI c)), some (.int (x))] ⟨by decide, rfl, by decide, by decide⟩ (⟨_, rfl⟩) rfl rfl (fun g hB hC => ?_)
  refine hB bX10_kept_0 _ _ _ _ _ _ _ kX10_kept_0 ?_
  dsimp only [bX10_kept_0, kx_wp, kx_step, kx_lI, kx_lL, kx_lA, kx_gl, kx_pI, kx_pL, kx_pR, kx_pA, kx_pV, kx_s1, kx_s2, kx_sl, kx_pre, kx_c2, kx_pl, kx_cmp, kx_oF, kx_eqN, kx_nil, kx_c1, kx_ft, kx_aI, kx_aL, kx_aR, kx_ln, Nat.reduceAdd, Option.toList, List.cons_append, List.nil_append]
  repeat (simp only [h64, ks_eq, ks_ss]; try dsimp only [kx_wp, kx_step, kx_lI, kx_lL, kx_lA, kx_gl, kx_pI, kx_pL, kx_pR, kx_pA, kx_pV, kx_s1, kx_s2, kx_sl, kx_pre, kx_c2, kx_pl, kx_cmp, kx_oF, kx_eqN, kx_nil, kx_c1, kx_ft, kx_aI, kx_aL, kx_aR, kx_ln, Nat.reduceAdd, Option.toList, List.cons_append, List.nil_append])
  repeat' apply And.intro
  all_goals try (first | with_reducible assumption | (with_reducible refine ck_nzI ?_; simp; done) | (with_reducible refine ck_nzL ?_; simp; done) | (with_reducible refine vp_in_nI ?_ ?_ <;> first | omega | decide) | (with_reducible refine Nat.le_of_ble_eq_true ?_; rfl) | omega | exact Or.inl trivial | exact Or.inr trivial | exact Or.inl rfl | exact Or.inr rfl)
  refine hC.1 138 _ _ _ _ _ _ _ 10 _ _ _ _ _ _ _ _ _ _ _ _ lX10_138 (ct_X10_theClock l G h64 h69 h7 hcl hc) ⟨by decide, rfl⟩ (h64) rfl rfl (Nat.le_of_ble_eq_true rfl) (by first | decide | omega) (by decide) (by omega) (by omega) dX10_kept_2 ?_
  refine hB bX10_kept_5 _ _ _ _ _ _ _ kX10_kept_5 ?_
  dsimp only [bX10_kept_5, kx_wp, kx_step, kx_lI, kx_lL, kx_lA, kx_gl, kx_pI, kx_pL, kx_pR, kx_pA, kx_pV, kx_s1, kx_s2, kx_sl, kx_pre, kx_c2, kx_pl, kx_cmp, kx_oF, kx_eqN, kx_nil, kx_c1, kx_ft, kx_aI, kx_aL, kx_aR, kx_ln, Nat.reduceAdd, Option.toList, List.cons_append, List.nil_append]
  repeat (simp only [h64, ks_eq, ks_ss]; try dsimp only [kx_wp, kx_step, kx_lI, kx_lL, kx_lA, kx_gl, kx_pI, kx_pL, kx_pR, kx_pA, kx_pV, kx_s1, kx_s2, kx_sl, kx_pre, kx_c2, kx_pl, kx_cmp, kx_oF, kx_eqN, kx_nil, kx_c1, kx_ft, kx_aI, kx_aL, kx_aR, kx_ln, Nat.reduceAdd, Option.toList, List.cons_append, List.nil_append])
  repeat' apply And.intro
  all_goals try (first | with_reducible assumption | (with_reducible refine ck_nzI ?_; simp; done) | (with_reducible refine ck_nzL ?_; simp; done) | (with_reducible refine vp_in_nI ?_ ?_ <;> first | omega | decide) | (with_reducible refine Nat.le_of_ble_eq_true ?_; rfl) | omega | exact Or.inl trivial | exact Or.inr trivial | exact Or.inl rfl | exact Or.inr rfl)
  refine hC.1 323 _ _ _ _ _ _ _ 1 _ _ _ _ _ _ _ _ _ _ _ _ lX10_323 (ct_X1_shownIn_n l G hq hk hx) ⟨by decide, rfl⟩ (hq) rfl rfl (Nat.le_of_ble_eq_true rfl) (by first | decide | omega) (by decide) (by omega) (by omega) dX10_kept_6 ?_
  refine hB bX10_kept_9 _ _ _ _ _ _ _ kX10_kept_9 ?_
  dsimp only [bX10_kept_9, kx_wp, kx_step, kx_lI, kx_lL, kx_lA, kx_gl, kx_pI, kx_pL, kx_pR, kx_pA, kx_pV, kx_s1, kx_s2, kx_sl, kx_pre, kx_c2, kx_pl, kx_cmp, kx_oF, kx_eqN, kx_nil, kx_c1, kx_ft, kx_aI, kx_aL, kx_aR, kx_ln, Nat.reduceAdd, Option.toList, List.cons_append, List.nil_append]
  repeat (simp only [h64, ks_eq, ks_ss]; try dsimp only [kx_wp, kx_step, kx_lI, kx_lL, kx_lA, kx_gl, kx_pI, kx_pL, kx_pR, kx_pA, kx_pV, kx_s1, kx_s2, kx_sl, kx_pre, kx_c2, kx_pl, kx_cmp, kx_oF, kx_eqN, kx_nil, kx_c1, kx_ft, kx_aI, kx_aL, kx_aR, kx_ln, Nat.reduceAdd, Option.toList, List.cons_append, List.nil_append])
  all_goals (repeat' apply And.intro)
  all_goals ((try clear hB hC); first | exact True.intro | with_reducible rfl | with_reducible assumption | (with_reducible refine vp_in_nI ?_ ?_ <;> first | omega | decide) | exact Nat.le_of_ble_eq_true rfl | (with_reducible refine ck_nzI ?_; simp; done) | (with_reducible refine ck_nzL ?_; simp; done) | (simp only [pk_us, pk_uLs, ↓reduceIte, not_true_eq_false, not_false_eq_true]; done) | (simp only [↓reduceIte, not_true_eq_false, not_false_eq_true]; with_reducible rfl) | omega | skip)

set_option maxRecDepth 100000 in
set_option maxHeartbeats 4000000 in
theorem ct_X10_kept_t (l : Launch) (G : kx_G) {P : kx_P} {sz : Nat} {sv : Value} {K : Nat → Int32} (h64 : P 64 = kO 10 (kf (cr10 sv) K)) {cl : Nat} {cn : Nat → Nat} (h69 : P 69 = kR 8 (fun i => if i < cl then some (cn i) else none)) (h7 : K 7 = nI cl) (hcl : cl ≤ 8) {c : Nat} (hc : c < cl) {k : Nat} {C Kp : Nat → Int32} {wv : Value} {d : Int64} (hq : P (cn c) = kO 1 (kf (cr1 wv d (.ref k)) C)) (hk : P k = kI 0 1667 Kp) {x : Nat} (hx : x < 1667)  : kx_M l G sX10_kept 3 0 0 [.ref 64, .int (nI c), .int (nI x)] P sz (some (.int (Kp x))) P sz := by
  refine kx_mk kx_tab kxLok_X10 (ini := false) [some (.ref 64), some (.int (nI c)), some (.int (nI x))] ⟨by decide, rfl, by decide, by decide⟩ (⟨_, rfl⟩) rfl rfl (fun g hB hC => ?_)
  refine hB bX10_kept_0 _ _ _ _ _ _ _ kX10_kept_0 ?_
  dsimp only [bX10_kept_0, kx_wp, kx_step, kx_lI, kx_lL, kx_lA, kx_gl, kx_pI, kx_pL, kx_pR, kx_pA, kx_pV, kx_s1, kx_s2, kx_sl, kx_pre, kx_c2, kx_pl, kx_cmp, kx_oF, kx_eqN, kx_nil, kx_c1, kx_ft, kx_aI, kx_aL, kx_aR, kx_ln, Nat.reduceAdd, Option.toList, List.cons_append, List.nil_append]
  repeat (simp only [h64, ks_eq, ks_ss]; try dsimp only [kx_wp, kx_step, kx_lI, kx_lL, kx_lA, kx_gl, kx_pI, kx_pL, kx_pR, kx_pA, kx_pV, kx_s1, kx_s2, kx_sl, kx_pre, kx_c2, kx_pl, kx_cmp, kx_oF, kx_eqN, kx_nil, kx_c1, kx_ft, kx_aI, kx_aL, kx_aR, kx_ln, Nat.reduceAdd, Option.toList, List.cons_append, List.nil_append])
  repeat' apply And.intro
  all_goals try (first | with_reducible assumption | (with_reducible refine ck_nzI ?_; simp; done) | (with_reducible refine ck_nzL ?_; simp; done) | (with_reducible refine vp_in_nI ?_ ?_ <;> first | omega | decide) | (with_reducible refine Nat.le_of_ble_eq_true ?_; rfl) | omega | exact Or.inl trivial | exact Or.inr trivial | exact Or.inl rfl | exact Or.inr rfl)
  refine hC.1 138 _ _ _ _ _ _ _ 10 _ _ _ _ _ _ _ _ _ _ _ _ lX10_138 (ct_X10_theClock l G h64 h69 h7 hcl hc) ⟨by decide, rfl⟩ (h64) rfl rfl (Nat.le_of_ble_eq_true rfl) (by first | decide | omega) (by decide) (by omega) (by omega) dX10_kept_2 ?_
  refine hB bX10_kept_5 _ _ _ _ _ _ _ kX10_kept_5 ?_
  dsimp only [bX10_kept_5, kx_wp, kx_step, kx_lI, kx_lL, kx_lA, kx_gl, kx_pI, kx_pL, kx_pR, kx_pA, kx_pV, kx_s1, kx_s2, kx_sl, kx_pre, kx_c2, kx_pl, kx_cmp, kx_oF, kx_eqN, kx_nil, kx_c1, kx_ft, kx_aI, kx_aL, kx_aR, kx_ln, Nat.reduceAdd, Option.toList, List.cons_append, List.nil_append]
  repeat (simp only [h64, ks_eq, ks_ss]; try dsimp only [kx_wp, kx_step, kx_lI, kx_lL, kx_lA, kx_gl, kx_pI, kx_pL, kx_pR, kx_pA, kx_pV, kx_s1, kx_s2, kx_sl, kx_pre, kx_c2, kx_pl, kx_cmp, kx_oF, kx_eqN, kx_nil, kx_c1, kx_ft, kx_aI, kx_aL, kx_aR, kx_ln, Nat.reduceAdd, Option.toList, List.cons_append, List.nil_append])
  repeat' apply And.intro
  all_goals try (first | with_reducible assumption | (with_reducible refine ck_nzI ?_; simp; done) | (with_reducible refine ck_nzL ?_; simp; done) | (with_reducible refine vp_in_nI ?_ ?_ <;> first | omega | decide) | (with_reducible refine Nat.le_of_ble_eq_true ?_; rfl) | omega | exact Or.inl trivial | exact Or.inr trivial | exact Or.inl rfl | exact Or.inr rfl)
  refine hC.1 323 _ _ _ _ _ _ _ 1 _ _ _ _ _ _ _ _ _ _ _ _ lX10_323 (ct_X1_shownIn_t l G hq hk hx) ⟨by decide, rfl⟩ (hq) rfl rfl (Nat.le_of_ble_eq_true rfl) (by first | decide | omega) (by decide) (by omega) (by omega) dX10_kept_6 ?_
  refine hB bX10_kept_9 _ _ _ _ _ _ _ kX10_kept_9 ?_
  dsimp only [bX10_kept_9, kx_wp, kx_step, kx_lI, kx_lL, kx_lA, kx_gl, kx_pI, kx_pL, kx_pR, kx_pA, kx_pV, kx_s1, kx_s2, kx_sl, kx_pre, kx_c2, kx_pl, kx_cmp, kx_oF, kx_eqN, kx_nil, kx_c1, kx_ft, kx_aI, kx_aL, kx_aR, kx_ln, Nat.reduceAdd, Option.toList, List.cons_append, List.nil_append]
  repeat (simp only [h64, ks_eq, ks_ss]; try dsimp only [kx_wp, kx_step, kx_lI, kx_lL, kx_lA, kx_gl, kx_pI, kx_pL, kx_pR, kx_pA, kx_pV, kx_s1, kx_s2, kx_sl, kx_pre, kx_c2, kx_pl, kx_cmp, kx_oF, kx_eqN, kx_nil, kx_c1, kx_ft, kx_aI, kx_aL, kx_aR, kx_ln, Nat.reduceAdd, Option.toList, List.cons_append, List.nil_append])
  all_goals (repeat' apply And.intro)
  all_goals ((try clear hB hC); first | exact True.intro | with_reducible rfl | with_reducible assumption | (with_reducible refine vp_in_nI ?_ ?_ <;> first | omega | decide) | exact Nat.le_of_ble_eq_true rfl | (with_reducible refine ck_nzI ?_; simp; done) | (with_reducible refine ck_nzL ?_; simp; done) | (simp only [pk_us, pk_uLs, ↓reduceIte, not_true_eq_false, not_false_eq_true]; done) | (simp only [↓reduceIte, not_true_eq_false, not_false_eq_true]; with_reducible rfl) | omega | skip)

set_option maxRecDepth 100000 in
set_option maxHeartbeats 4000000 in
theorem ct_X10_kept_f (l : Launch) (G : kx_G) (hst : l.stackTraces = false) {P : kx_P} {sz : Nat} {sv : Value} {K : Nat → Int32} (h64 : P 64 = kO 10 (kf (cr10 sv) K)) {y : Int32} {x : Int32} (hx : x < 0 ∨ K 7 ≤ x)  : kx_X l G sX10_kept 7 [.ref 64, .int (x), .int (y)] P sz "java/util/NoSuchElementException" := by
  refine kx_mkx hst kx_tab kxLok_X10 [some (.ref 64), some (.int (x)), some (.int (y))] ⟨by decide, rfl, by decide⟩ rfl rfl (fun g hB hC hX hT => ?_)
  refine hB bX10_kept_0 _ _ _ _ _ _ _ kX10_kept_0 ?_
  dsimp only [bX10_kept_0, kx_wp, kx_step, kx_lI, kx_lL, kx_lA, kx_gl, kx_pI, kx_pL, kx_pR, kx_pA, kx_pV, kx_s1, kx_s2, kx_sl, kx_pre, kx_c2, kx_pl, kx_cmp, kx_oF, kx_eqN, kx_nil, kx_c1, kx_ft, kx_aI, kx_aL, kx_aR, kx_ln, Nat.reduceAdd, Option.toList, List.cons_append, List.nil_append]
  repeat (simp only [ks_eq, ks_ss]; try dsimp only [kx_wp, kx_step, kx_lI, kx_lL, kx_lA, kx_gl, kx_pI, kx_pL, kx_pR, kx_pA, kx_pV, kx_s1, kx_s2, kx_sl, kx_pre, kx_c2, kx_pl, kx_cmp, kx_oF, kx_eqN, kx_nil, kx_c1, kx_ft, kx_aI, kx_aL, kx_aR, kx_ln, Nat.reduceAdd, Option.toList, List.cons_append, List.nil_append])
  repeat' apply And.intro
  all_goals try (first | with_reducible assumption | (with_reducible refine ck_nzI ?_; simp; done) | (with_reducible refine ck_nzL ?_; simp; done) | (with_reducible refine vp_in_nI ?_ ?_ <;> first | omega | decide) | (with_reducible refine Nat.le_of_ble_eq_true ?_; rfl) | omega | exact Or.inl trivial | exact Or.inr trivial | exact Or.inl rfl | exact Or.inr rfl)
  exact hX.1 138 _ _ _ _ _ 10 _ _ _ _ _ lX10_138 (ct_X10_theClock_x l G hst h64 hx) ⟨by decide, rfl⟩ (h64) rfl rfl (Nat.le_of_ble_eq_true rfl) (by first | decide | omega) (by decide) dX10_kept_2

def bX10_reckoned_0 : List kx_O := [(.aload_n 0, 0, 0, 0, .null), (.iload_n 1, 1, 0, 0, .null)]
theorem kX10_reckoned_0 : kx_oks kxL_X10 false cX10_reckoned 0 bX10_reckoned_0 = true := by decide +kernel
def bX10_reckoned_5 : List kx_O := [(.pop, 0, 0, 0, .null), (.iload_n 2, 2, 0, 0, .null)]
theorem kX10_reckoned_5 : kx_oks kxL_X10 false cX10_reckoned 5 bX10_reckoned_5 = true := by decide +kernel
def bX10_reckoned_13 : List kx_O := [(.aload_n 0, 0, 0, 0, .null), (.getfield 84, 10, 14, 0, .null), (.iload_n 1, 1, 0, 0, .null), (.iload_n 3, 3, 0, 0, .null)]
theorem kX10_reckoned_13 : kx_oks kxL_X10 false cX10_reckoned 13 bX10_reckoned_13 = true := by decide +kernel
def bX10_reckoned_22 : List kx_O := [(.aload_n 0, 0, 0, 0, .null), (.getfield 84, 10, 14, 0, .null), (.iload_n 2, 2, 0, 0, .null)]
theorem kX10_reckoned_22 : kx_oks kxL_X10 false cX10_reckoned 22 bX10_reckoned_22 = true := by decide +kernel
def bX10_reckoned_30 : List kx_O := [(.lreturn, 0, 0, 0, .null)]
theorem kX10_reckoned_30 : kx_oks kxL_X10 false cX10_reckoned 30 bX10_reckoned_30 = true := by decide +kernel
theorem dX10_reckoned_2 : decode cX10_reckoned 2 = .ok (.invokevirtual 138, 3) := by decide +kernel
theorem dX10_reckoned_7 : decode cX10_reckoned 7 = .ok (.invokestatic 236, 3) := by decide +kernel
theorem dX10_reckoned_10 : decode cX10_reckoned 10 = .ok (.invokestatic 95, 3) := by decide +kernel
theorem dX10_reckoned_19 : decode cX10_reckoned 19 = .ok (.invokevirtual 295, 3) := by decide +kernel
theorem dX10_reckoned_27 : decode cX10_reckoned 27 = .ok (.invokevirtual 298, 3) := by decide +kernel
set_option maxRecDepth 100000 in
set_option maxHeartbeats 4000000 in
theorem ct_X10_reckoned_t (l : Launch) (G : kx_G) {P : kx_P} {sz : Nat} {sv : Value} {K : Nat → Int32} (h64 : P 64 = kO 10 (kf (cr10 sv) K)) {cl : Nat} {cn : Nat → Nat} (h69 : P 69 = kR 8 (fun i => if i < cl then some (cn i) else none)) (h7 : K 7 = nI cl) (hcl : cl ≤ 8) {c : Nat} (hc : c < cl) {Fr rc rm re rt : Nat → Int32} (hR : P 84 = kO 5 (kf cr5 Fr)) (h85 : P 85 = kI 0 100 rc) (h86 : P 86 = kI 0 100 rm) (h87 : P 87 = kI 0 100 re) (h88 : P 88 = kI 0 100 rt) {n : Nat} (h4 : Fr 4 = nI n) (hn : n ≤ 100) {t : Int32} {i : Int32} (him : cx_im i = 1)  : kx_M l G sX10_reckoned 4 0 0 [.ref 64, .int (nI c), .int (i), .int (t)] P sz (some (.long (cx_ea (cx_rc Fr rc rm re rt (nI c) t n) i))) (kx_set P 84 (kO 5 (kf cr5 (cx_rc Fr rc rm re rt (nI c) t n)))) sz := by
  refine kx_mk kx_tab kxLok_X10 (ini := false) [some (.ref 64), some (.int (nI c)), some (.int (i)), some (.int (t))] ⟨by decide, rfl, by decide, by decide⟩ (⟨_, rfl⟩) rfl rfl (fun g hB hC => ?_)
  refine hB bX10_reckoned_0 _ _ _ _ _ _ _ kX10_reckoned_0 ?_
  dsimp only [bX10_reckoned_0, kx_wp, kx_step, kx_lI, kx_lL, kx_lA, kx_gl, kx_pI, kx_pL, kx_pR, kx_pA, kx_pV, kx_s1, kx_s2, kx_sl, kx_pre, kx_c2, kx_pl, kx_cmp, kx_oF, kx_eqN, kx_nil, kx_c1, kx_ft, kx_aI, kx_aL, kx_aR, kx_ln, Nat.reduceAdd, Option.toList, List.cons_append, List.nil_append, cf10_14]
  repeat (simp only [h64, him, ks_ne (show ¬ (64 : Nat) = 84 by decide), ks_eq, ks_ss]; try dsimp only [kx_wp, kx_step, kx_lI, kx_lL, kx_lA, kx_gl, kx_pI, kx_pL, kx_pR, kx_pA, kx_pV, kx_s1, kx_s2, kx_sl, kx_pre, kx_c2, kx_pl, kx_cmp, kx_oF, kx_eqN, kx_nil, kx_c1, kx_ft, kx_aI, kx_aL, kx_aR, kx_ln, Nat.reduceAdd, Option.toList, List.cons_append, List.nil_append, cf10_14])
  repeat' apply And.intro
  all_goals try (first | with_reducible assumption | (with_reducible refine ck_nzI ?_; simp; done) | (with_reducible refine ck_nzL ?_; simp; done) | (with_reducible refine vp_in_nI ?_ ?_ <;> first | omega | decide) | (with_reducible refine Nat.le_of_ble_eq_true ?_; rfl) | omega | exact Or.inl trivial | exact Or.inr trivial | exact Or.inl rfl | exact Or.inr rfl)
  refine hC.1 138 _ _ _ _ _ _ _ 10 _ _ _ _ _ _ _ _ _ _ _ _ lX10_138 (ct_X10_theClock l G h64 h69 h7 hcl hc) ⟨by decide, rfl⟩ (h64) rfl rfl (Nat.le_of_ble_eq_true rfl) (by first | decide | omega) (by decide) (by omega) (by omega) dX10_reckoned_2 ?_
  refine hB bX10_reckoned_5 _ _ _ _ _ _ _ kX10_reckoned_5 ?_
  dsimp only [bX10_reckoned_5, kx_wp, kx_step, kx_lI, kx_lL, kx_lA, kx_gl, kx_pI, kx_pL, kx_pR, kx_pA, kx_pV, kx_s1, kx_s2, kx_sl, kx_pre, kx_c2, kx_pl, kx_cmp, kx_oF, kx_eqN, kx_nil, kx_c1, kx_ft, kx_aI, kx_aL, kx_aR, kx_ln, Nat.reduceAdd, Option.toList, List.cons_append, List.nil_append, cf10_14]
  repeat (simp only [h64, him, ks_ne (show ¬ (64 : Nat) = 84 by decide), ks_eq, ks_ss]; try dsimp only [kx_wp, kx_step, kx_lI, kx_lL, kx_lA, kx_gl, kx_pI, kx_pL, kx_pR, kx_pA, kx_pV, kx_s1, kx_s2, kx_sl, kx_pre, kx_c2, kx_pl, kx_cmp, kx_oF, kx_eqN, kx_nil, kx_c1, kx_ft, kx_aI, kx_aL, kx_aR, kx_ln, Nat.reduceAdd, Option.toList, List.cons_append, List.nil_append, cf10_14])
  repeat' apply And.intro
  all_goals try (first | with_reducible assumption | (with_reducible refine ck_nzI ?_; simp; done) | (with_reducible refine ck_nzL ?_; simp; done) | (with_reducible refine vp_in_nI ?_ ?_ <;> first | omega | decide) | (with_reducible refine Nat.le_of_ble_eq_true ?_; rfl) | omega | exact Or.inl trivial | exact Or.inr trivial | exact Or.inl rfl | exact Or.inr rfl)
  refine hC.2.1 236 _ _ _ _ _ _ _ _ _ _ _ _ _ _ _ _ _ lX10_236 (ct_X10_isMinute l G) rfl rfl (Nat.le_of_ble_eq_true rfl) (by first | decide | omega) (by decide) (by omega) (by omega) dX10_reckoned_7 ?_
  rw [him]
  refine hC.2.1 95 _ _ _ _ _ _ _ _ _ _ _ _ _ _ _ _ _ lX10_95 (ct_X10_need l G (b := 1) (by decide)) rfl rfl (Nat.le_of_ble_eq_true rfl) (by first | decide | omega) (by decide) (by omega) (by omega) dX10_reckoned_10 ?_
  refine hB bX10_reckoned_13 _ _ _ _ _ _ _ kX10_reckoned_13 ?_
  dsimp only [bX10_reckoned_13, kx_wp, kx_step, kx_lI, kx_lL, kx_lA, kx_gl, kx_pI, kx_pL, kx_pR, kx_pA, kx_pV, kx_s1, kx_s2, kx_sl, kx_pre, kx_c2, kx_pl, kx_cmp, kx_oF, kx_eqN, kx_nil, kx_c1, kx_ft, kx_aI, kx_aL, kx_aR, kx_ln, Nat.reduceAdd, Option.toList, List.cons_append, List.nil_append, cf10_14]
  repeat (simp only [h64, him, ks_ne (show ¬ (64 : Nat) = 84 by decide), ks_eq, ks_ss]; try dsimp only [kx_wp, kx_step, kx_lI, kx_lL, kx_lA, kx_gl, kx_pI, kx_pL, kx_pR, kx_pA, kx_pV, kx_s1, kx_s2, kx_sl, kx_pre, kx_c2, kx_pl, kx_cmp, kx_oF, kx_eqN, kx_nil, kx_c1, kx_ft, kx_aI, kx_aL, kx_aR, kx_ln, Nat.reduceAdd, Option.toList, List.cons_append, List.nil_append, cf10_14])
  repeat' apply And.intro
  all_goals try (first | with_reducible assumption | (with_reducible refine ck_nzI ?_; simp; done) | (with_reducible refine ck_nzL ?_; simp; done) | (with_reducible refine vp_in_nI ?_ ?_ <;> first | omega | decide) | (with_reducible refine Nat.le_of_ble_eq_true ?_; rfl) | omega | exact Or.inl trivial | exact Or.inr trivial | exact Or.inl rfl | exact Or.inr rfl)
  refine hC.1 295 _ _ _ _ _ _ _ 5 _ _ _ _ _ _ _ _ _ _ _ _ lX10_295 (ct_X5_recall l G hR h85 h86 h87 h88 h4 hn) ⟨by decide, rfl⟩ (hR) rfl rfl (Nat.le_of_ble_eq_true rfl) (by first | decide | omega) (by decide) (by omega) (by omega) dX10_reckoned_19 ?_
  refine hB bX10_reckoned_22 _ _ _ _ _ _ _ kX10_reckoned_22 ?_
  dsimp only [bX10_reckoned_22, kx_wp, kx_step, kx_lI, kx_lL, kx_lA, kx_gl, kx_pI, kx_pL, kx_pR, kx_pA, kx_pV, kx_s1, kx_s2, kx_sl, kx_pre, kx_c2, kx_pl, kx_cmp, kx_oF, kx_eqN, kx_nil, kx_c1, kx_ft, kx_aI, kx_aL, kx_aR, kx_ln, Nat.reduceAdd, Option.toList, List.cons_append, List.nil_append, cf10_14]
  repeat (simp only [h64, him, ks_ne (show ¬ (64 : Nat) = 84 by decide), ks_eq, ks_ss]; try dsimp only [kx_wp, kx_step, kx_lI, kx_lL, kx_lA, kx_gl, kx_pI, kx_pL, kx_pR, kx_pA, kx_pV, kx_s1, kx_s2, kx_sl, kx_pre, kx_c2, kx_pl, kx_cmp, kx_oF, kx_eqN, kx_nil, kx_c1, kx_ft, kx_aI, kx_aL, kx_aR, kx_ln, Nat.reduceAdd, Option.toList, List.cons_append, List.nil_append, cf10_14])
  repeat' apply And.intro
  all_goals try (first | with_reducible assumption | (with_reducible refine ck_nzI ?_; simp; done) | (with_reducible refine ck_nzL ?_; simp; done) | (with_reducible refine vp_in_nI ?_ ?_ <;> first | omega | decide) | (with_reducible refine Nat.le_of_ble_eq_true ?_; rfl) | omega | exact Or.inl trivial | exact Or.inr trivial | exact Or.inl rfl | exact Or.inr rfl)
  refine hC.1 298 _ _ _ _ _ _ _ 5 _ _ _ _ _ _ _ _ _ _ _ _ lX10_298 (ct_X5_errorAt l G (F := (cx_rc Fr rc rm re rt (nI c) t n)) (ks_eq _ _ _)) ⟨by decide, rfl⟩ (by first | exact h64 | exact ks_eq _ _ _) rfl rfl (Nat.le_of_ble_eq_true rfl) (by first | decide | omega) (by decide) (by omega) (by omega) dX10_reckoned_27 ?_
  refine hB bX10_reckoned_30 _ _ _ _ _ _ _ kX10_reckoned_30 ?_
  dsimp only [bX10_reckoned_30, kx_wp, kx_step, kx_lI, kx_lL, kx_lA, kx_gl, kx_pI, kx_pL, kx_pR, kx_pA, kx_pV, kx_s1, kx_s2, kx_sl, kx_pre, kx_c2, kx_pl, kx_cmp, kx_oF, kx_eqN, kx_nil, kx_c1, kx_ft, kx_aI, kx_aL, kx_aR, kx_ln, Nat.reduceAdd, Option.toList, List.cons_append, List.nil_append, cf10_14]
  repeat (simp only [h64, him, ks_ne (show ¬ (64 : Nat) = 84 by decide), ks_eq, ks_ss]; try dsimp only [kx_wp, kx_step, kx_lI, kx_lL, kx_lA, kx_gl, kx_pI, kx_pL, kx_pR, kx_pA, kx_pV, kx_s1, kx_s2, kx_sl, kx_pre, kx_c2, kx_pl, kx_cmp, kx_oF, kx_eqN, kx_nil, kx_c1, kx_ft, kx_aI, kx_aL, kx_aR, kx_ln, Nat.reduceAdd, Option.toList, List.cons_append, List.nil_append, cf10_14])
  all_goals (repeat' apply And.intro)
  all_goals ((try clear hB hC); first | exact True.intro | with_reducible rfl | with_reducible assumption | (with_reducible refine vp_in_nI ?_ ?_ <;> first | omega | decide) | exact Nat.le_of_ble_eq_true rfl | (with_reducible refine ck_nzI ?_; simp; done) | (with_reducible refine ck_nzL ?_; simp; done) | (simp only [pk_us, pk_uLs, ↓reduceIte, not_true_eq_false, not_false_eq_true]; done) | (simp only [↓reduceIte, not_true_eq_false, not_false_eq_true]; with_reducible rfl) | omega | skip)

set_option maxRecDepth 100000 in
set_option maxHeartbeats 4000000 in
theorem ct_X10_reckoned_b (l : Launch) (G : kx_G) (hst : l.stackTraces = false) {P : kx_P} {sz : Nat} {sv : Value} {K : Nat → Int32} (h64 : P 64 = kO 10 (kf (cr10 sv) K)) {cl : Nat} {cn : Nat → Nat} (h69 : P 69 = kR 8 (fun i => if i < cl then some (cn i) else none)) (h7 : K 7 = nI cl) (hcl : cl ≤ 8) {c : Nat} (hc : c < cl) {i t : Int32} (him : cx_im i = 0)  : kx_X l G sX10_reckoned 7 [.ref 64, .int (nI c), .int (i), .int (t)] P sz "java/lang/IllegalArgumentException" := by
  refine kx_mkx hst kx_tab kxLok_X10 [some (.ref 64), some (.int (nI c)), some (.int (i)), some (.int (t))] ⟨by decide, rfl, by decide⟩ rfl rfl (fun g hB hC hX hT => ?_)
  refine hB bX10_reckoned_0 _ _ _ _ _ _ _ kX10_reckoned_0 ?_
  dsimp only [bX10_reckoned_0, kx_wp, kx_step, kx_lI, kx_lL, kx_lA, kx_gl, kx_pI, kx_pL, kx_pR, kx_pA, kx_pV, kx_s1, kx_s2, kx_sl, kx_pre, kx_c2, kx_pl, kx_cmp, kx_oF, kx_eqN, kx_nil, kx_c1, kx_ft, kx_aI, kx_aL, kx_aR, kx_ln, Nat.reduceAdd, Option.toList, List.cons_append, List.nil_append, cf10_14]
  repeat (simp only [h64, him, ks_eq, ks_ss]; try dsimp only [kx_wp, kx_step, kx_lI, kx_lL, kx_lA, kx_gl, kx_pI, kx_pL, kx_pR, kx_pA, kx_pV, kx_s1, kx_s2, kx_sl, kx_pre, kx_c2, kx_pl, kx_cmp, kx_oF, kx_eqN, kx_nil, kx_c1, kx_ft, kx_aI, kx_aL, kx_aR, kx_ln, Nat.reduceAdd, Option.toList, List.cons_append, List.nil_append, cf10_14])
  repeat' apply And.intro
  all_goals try (first | with_reducible assumption | (with_reducible refine ck_nzI ?_; simp; done) | (with_reducible refine ck_nzL ?_; simp; done) | (with_reducible refine vp_in_nI ?_ ?_ <;> first | omega | decide) | (with_reducible refine Nat.le_of_ble_eq_true ?_; rfl) | omega | exact Or.inl trivial | exact Or.inr trivial | exact Or.inl rfl | exact Or.inr rfl)
  refine hC.1 138 _ _ _ _ _ _ _ 10 _ _ _ _ _ _ _ _ _ _ _ _ lX10_138 (ct_X10_theClock l G h64 h69 h7 hcl hc) ⟨by decide, rfl⟩ (h64) rfl rfl (Nat.le_of_ble_eq_true rfl) (by first | decide | omega) (by decide) (by omega) (by omega) dX10_reckoned_2 ?_
  refine hB bX10_reckoned_5 _ _ _ _ _ _ _ kX10_reckoned_5 ?_
  dsimp only [bX10_reckoned_5, kx_wp, kx_step, kx_lI, kx_lL, kx_lA, kx_gl, kx_pI, kx_pL, kx_pR, kx_pA, kx_pV, kx_s1, kx_s2, kx_sl, kx_pre, kx_c2, kx_pl, kx_cmp, kx_oF, kx_eqN, kx_nil, kx_c1, kx_ft, kx_aI, kx_aL, kx_aR, kx_ln, Nat.reduceAdd, Option.toList, List.cons_append, List.nil_append, cf10_14]
  repeat (simp only [h64, him, ks_eq, ks_ss]; try dsimp only [kx_wp, kx_step, kx_lI, kx_lL, kx_lA, kx_gl, kx_pI, kx_pL, kx_pR, kx_pA, kx_pV, kx_s1, kx_s2, kx_sl, kx_pre, kx_c2, kx_pl, kx_cmp, kx_oF, kx_eqN, kx_nil, kx_c1, kx_ft, kx_aI, kx_aL, kx_aR, kx_ln, Nat.reduceAdd, Option.toList, List.cons_append, List.nil_append, cf10_14])
  repeat' apply And.intro
  all_goals try (first | with_reducible assumption | (with_reducible refine ck_nzI ?_; simp; done) | (with_reducible refine ck_nzL ?_; simp; done) | (with_reducible refine vp_in_nI ?_ ?_ <;> first | omega | decide) | (with_reducible refine Nat.le_of_ble_eq_true ?_; rfl) | omega | exact Or.inl trivial | exact Or.inr trivial | exact Or.inl rfl | exact Or.inr rfl)
  refine hC.2.1 236 _ _ _ _ _ _ _ _ _ _ _ _ _ _ _ _ _ lX10_236 (ct_X10_isMinute l G) rfl rfl (Nat.le_of_ble_eq_true rfl) (by first | decide | omega) (by decide) (by omega) (by omega) dX10_reckoned_7 ?_
  rw [him]
  exact hX.2 95 _ _ _ _ _ _ _ _ lX10_95 (ct_X10_need_x l G hst) rfl rfl (Nat.le_of_ble_eq_true rfl) (by first | decide | omega) (by decide) dX10_reckoned_10

set_option maxRecDepth 100000 in
set_option maxHeartbeats 4000000 in
theorem ct_X10_reckoned_f (l : Launch) (G : kx_G) (hst : l.stackTraces = false) {P : kx_P} {sz : Nat} {sv : Value} {K : Nat → Int32} (h64 : P 64 = kO 10 (kf (cr10 sv) K)) {i t : Int32} {x : Int32} (hx : x < 0 ∨ K 7 ≤ x)  : kx_X l G sX10_reckoned 7 [.ref 64, .int (x), .int (i), .int (t)] P sz "java/util/NoSuchElementException" := by
  refine kx_mkx hst kx_tab kxLok_X10 [some (.ref 64), some (.int (x)), some (.int (i)), some (.int (t))] ⟨by decide, rfl, by decide⟩ rfl rfl (fun g hB hC hX hT => ?_)
  refine hB bX10_reckoned_0 _ _ _ _ _ _ _ kX10_reckoned_0 ?_
  dsimp only [bX10_reckoned_0, kx_wp, kx_step, kx_lI, kx_lL, kx_lA, kx_gl, kx_pI, kx_pL, kx_pR, kx_pA, kx_pV, kx_s1, kx_s2, kx_sl, kx_pre, kx_c2, kx_pl, kx_cmp, kx_oF, kx_eqN, kx_nil, kx_c1, kx_ft, kx_aI, kx_aL, kx_aR, kx_ln, Nat.reduceAdd, Option.toList, List.cons_append, List.nil_append, cf10_14]
  repeat (simp only [ks_eq, ks_ss]; try dsimp only [kx_wp, kx_step, kx_lI, kx_lL, kx_lA, kx_gl, kx_pI, kx_pL, kx_pR, kx_pA, kx_pV, kx_s1, kx_s2, kx_sl, kx_pre, kx_c2, kx_pl, kx_cmp, kx_oF, kx_eqN, kx_nil, kx_c1, kx_ft, kx_aI, kx_aL, kx_aR, kx_ln, Nat.reduceAdd, Option.toList, List.cons_append, List.nil_append, cf10_14])
  repeat' apply And.intro
  all_goals try (first | with_reducible assumption | (with_reducible refine ck_nzI ?_; simp; done) | (with_reducible refine ck_nzL ?_; simp; done) | (with_reducible refine vp_in_nI ?_ ?_ <;> first | omega | decide) | (with_reducible refine Nat.le_of_ble_eq_true ?_; rfl) | omega | exact Or.inl trivial | exact Or.inr trivial | exact Or.inl rfl | exact Or.inr rfl)
  exact hX.1 138 _ _ _ _ _ 10 _ _ _ _ _ lX10_138 (ct_X10_theClock_x l G hst h64 hx) ⟨by decide, rfl⟩ (h64) rfl rfl (Nat.le_of_ble_eq_true rfl) (by first | decide | omega) (by decide) dX10_reckoned_2

def bX10_speed_0 : List kx_O := [(.aload_n 0, 0, 0, 0, .null), (.iload_n 1, 1, 0, 0, .null)]
theorem kX10_speed_0 : kx_oks kxL_X10 false cX10_speed 0 bX10_speed_0 = true := by decide +kernel
def bX10_speed_5 : List kx_O := [(.pop, 0, 0, 0, .null), (.aload_n 0, 0, 0, 0, .null), (.getfield 84, 10, 14, 0, .null), (.iload_n 1, 1, 0, 0, .null), (.iload_n 2, 2, 0, 0, .null)]
theorem kX10_speed_5 : kx_oks kxL_X10 false cX10_speed 5 bX10_speed_5 = true := by decide +kernel
def bX10_speed_15 : List kx_O := [(.aload_n 0, 0, 0, 0, .null), (.getfield 84, 10, 14, 0, .null)]
theorem kX10_speed_15 : kx_oks kxL_X10 false cX10_speed 15 bX10_speed_15 = true := by decide +kernel
def bX10_speed_22 : List kx_O := [(.lreturn, 0, 0, 0, .null)]
theorem kX10_speed_22 : kx_oks kxL_X10 false cX10_speed 22 bX10_speed_22 = true := by decide +kernel
theorem dX10_speed_2 : decode cX10_speed 2 = .ok (.invokevirtual 138, 3) := by decide +kernel
theorem dX10_speed_12 : decode cX10_speed 12 = .ok (.invokevirtual 295, 3) := by decide +kernel
theorem dX10_speed_19 : decode cX10_speed 19 = .ok (.invokevirtual 302, 3) := by decide +kernel
set_option maxRecDepth 100000 in
set_option maxHeartbeats 4000000 in
theorem ct_X10_speed_t (l : Launch) (G : kx_G) {P : kx_P} {sz : Nat} {sv : Value} {K : Nat → Int32} (h64 : P 64 = kO 10 (kf (cr10 sv) K)) {cl : Nat} {cn : Nat → Nat} (h69 : P 69 = kR 8 (fun i => if i < cl then some (cn i) else none)) (h7 : K 7 = nI cl) (hcl : cl ≤ 8) {c : Nat} (hc : c < cl) {Fr rc rm re rt : Nat → Int32} (hR : P 84 = kO 5 (kf cr5 Fr)) (h85 : P 85 = kI 0 100 rc) (h86 : P 86 = kI 0 100 rm) (h87 : P 87 = kI 0 100 re) (h88 : P 88 = kI 0 100 rt) {n : Nat} (h4 : Fr 4 = nI n) (hn : n ≤ 100) {t : Int32}  : kx_M l G sX10_speed 4 0 0 [.ref 64, .int (nI c), .int (t)] P sz (some (.long (cx_rr (cx_rc Fr rc rm re rt (nI c) t n)))) (kx_set P 84 (kO 5 (kf cr5 (cx_rc Fr rc rm re rt (nI c) t n)))) sz := by
  refine kx_mk kx_tab kxLok_X10 (ini := false) [some (.ref 64), some (.int (nI c)), some (.int (t))] ⟨by decide, rfl, by decide, by decide⟩ (⟨_, rfl⟩) rfl rfl (fun g hB hC => ?_)
  refine hB bX10_speed_0 _ _ _ _ _ _ _ kX10_speed_0 ?_
  dsimp only [bX10_speed_0, kx_wp, kx_step, kx_lI, kx_lL, kx_lA, kx_gl, kx_pI, kx_pL, kx_pR, kx_pA, kx_pV, kx_s1, kx_s2, kx_sl, kx_pre, kx_c2, kx_pl, kx_cmp, kx_oF, kx_eqN, kx_nil, kx_c1, kx_ft, kx_aI, kx_aL, kx_aR, kx_ln, Nat.reduceAdd, Option.toList, List.cons_append, List.nil_append, cf10_14]
  repeat (simp only [h64, ks_ne (show ¬ (64 : Nat) = 84 by decide), ks_eq, ks_ss]; try dsimp only [kx_wp, kx_step, kx_lI, kx_lL, kx_lA, kx_gl, kx_pI, kx_pL, kx_pR, kx_pA, kx_pV, kx_s1, kx_s2, kx_sl, kx_pre, kx_c2, kx_pl, kx_cmp, kx_oF, kx_eqN, kx_nil, kx_c1, kx_ft, kx_aI, kx_aL, kx_aR, kx_ln, Nat.reduceAdd, Option.toList, List.cons_append, List.nil_append, cf10_14])
  repeat' apply And.intro
  all_goals try (first | with_reducible assumption | (with_reducible refine ck_nzI ?_; simp; done) | (with_reducible refine ck_nzL ?_; simp; done) | (with_reducible refine vp_in_nI ?_ ?_ <;> first | omega | decide) | (with_reducible refine Nat.le_of_ble_eq_true ?_; rfl) | omega | exact Or.inl trivial | exact Or.inr trivial | exact Or.inl rfl | exact Or.inr rfl)
  refine hC.1 138 _ _ _ _ _ _ _ 10 _ _ _ _ _ _ _ _ _ _ _ _ lX10_138 (ct_X10_theClock l G h64 h69 h7 hcl hc) ⟨by decide, rfl⟩ (h64) rfl rfl (Nat.le_of_ble_eq_true rfl) (by first | decide | omega) (by decide) (by omega) (by omega) dX10_speed_2 ?_
  refine hB bX10_speed_5 _ _ _ _ _ _ _ kX10_speed_5 ?_
  dsimp only [bX10_speed_5, kx_wp, kx_step, kx_lI, kx_lL, kx_lA, kx_gl, kx_pI, kx_pL, kx_pR, kx_pA, kx_pV, kx_s1, kx_s2, kx_sl, kx_pre, kx_c2, kx_pl, kx_cmp, kx_oF, kx_eqN, kx_nil, kx_c1, kx_ft, kx_aI, kx_aL, kx_aR, kx_ln, Nat.reduceAdd, Option.toList, List.cons_append, List.nil_append, cf10_14]
  repeat (simp only [h64, ks_ne (show ¬ (64 : Nat) = 84 by decide), ks_eq, ks_ss]; try dsimp only [kx_wp, kx_step, kx_lI, kx_lL, kx_lA, kx_gl, kx_pI, kx_pL, kx_pR, kx_pA, kx_pV, kx_s1, kx_s2, kx_sl, kx_pre, kx_c2, kx_pl, kx_cmp, kx_oF, kx_eqN, kx_nil, kx_c1, kx_ft, kx_aI, kx_aL, kx_aR, kx_ln, Nat.reduceAdd, Option.toList, List.cons_append, List.nil_append, cf10_14])
  repeat' apply And.intro
  all_goals try (first | with_reducible assumption | (with_reducible refine ck_nzI ?_; simp; done) | (with_reducible refine ck_nzL ?_; simp; done) | (with_reducible refine vp_in_nI ?_ ?_ <;> first | omega | decide) | (with_reducible refine Nat.le_of_ble_eq_true ?_; rfl) | omega | exact Or.inl trivial | exact Or.inr trivial | exact Or.inl rfl | exact Or.inr rfl)
  refine hC.1 295 _ _ _ _ _ _ _ 5 _ _ _ _ _ _ _ _ _ _ _ _ lX10_295 (ct_X5_recall l G hR h85 h86 h87 h88 h4 hn) ⟨by decide, rfl⟩ (hR) rfl rfl (Nat.le_of_ble_eq_true rfl) (by first | decide | omega) (by decide) (by omega) (by omega) dX10_speed_12 ?_
  refine hB bX10_speed_15 _ _ _ _ _ _ _ kX10_speed_15 ?_
  dsimp only [bX10_speed_15, kx_wp, kx_step, kx_lI, kx_lL, kx_lA, kx_gl, kx_pI, kx_pL, kx_pR, kx_pA, kx_pV, kx_s1, kx_s2, kx_sl, kx_pre, kx_c2, kx_pl, kx_cmp, kx_oF, kx_eqN, kx_nil, kx_c1, kx_ft, kx_aI, kx_aL, kx_aR, kx_ln, Nat.reduceAdd, Option.toList, List.cons_append, List.nil_append, cf10_14]
  repeat (simp only [h64, ks_ne (show ¬ (64 : Nat) = 84 by decide), ks_eq, ks_ss]; try dsimp only [kx_wp, kx_step, kx_lI, kx_lL, kx_lA, kx_gl, kx_pI, kx_pL, kx_pR, kx_pA, kx_pV, kx_s1, kx_s2, kx_sl, kx_pre, kx_c2, kx_pl, kx_cmp, kx_oF, kx_eqN, kx_nil, kx_c1, kx_ft, kx_aI, kx_aL, kx_aR, kx_ln, Nat.reduceAdd, Option.toList, List.cons_append, List.nil_append, cf10_14])
  repeat' apply And.intro
  all_goals try (first | with_reducible assumption | (with_reducible refine ck_nzI ?_; simp; done) | (with_reducible refine ck_nzL ?_; simp; done) | (with_reducible refine vp_in_nI ?_ ?_ <;> first | omega | decide) | (with_reducible refine Nat.le_of_ble_eq_true ?_; rfl) | omega | exact Or.inl trivial | exact Or.inr trivial | exact Or.inl rfl | exact Or.inr rfl)
  refine hC.1 302 _ _ _ _ _ _ _ 5 _ _ _ _ _ _ _ _ _ _ _ _ lX10_302 (ct_X5_rateReckoned l G (F := (cx_rc Fr rc rm re rt (nI c) t n)) (ks_eq _ _ _)) ⟨by decide, rfl⟩ (by first | exact h64 | exact ks_eq _ _ _) rfl rfl (Nat.le_of_ble_eq_true rfl) (by first | decide | omega) (by decide) (by omega) (by omega) dX10_speed_19 ?_
  refine hB bX10_speed_22 _ _ _ _ _ _ _ kX10_speed_22 ?_
  dsimp only [bX10_speed_22, kx_wp, kx_step, kx_lI, kx_lL, kx_lA, kx_gl, kx_pI, kx_pL, kx_pR, kx_pA, kx_pV, kx_s1, kx_s2, kx_sl, kx_pre, kx_c2, kx_pl, kx_cmp, kx_oF, kx_eqN, kx_nil, kx_c1, kx_ft, kx_aI, kx_aL, kx_aR, kx_ln, Nat.reduceAdd, Option.toList, List.cons_append, List.nil_append, cf10_14]
  repeat (simp only [h64, ks_ne (show ¬ (64 : Nat) = 84 by decide), ks_eq, ks_ss]; try dsimp only [kx_wp, kx_step, kx_lI, kx_lL, kx_lA, kx_gl, kx_pI, kx_pL, kx_pR, kx_pA, kx_pV, kx_s1, kx_s2, kx_sl, kx_pre, kx_c2, kx_pl, kx_cmp, kx_oF, kx_eqN, kx_nil, kx_c1, kx_ft, kx_aI, kx_aL, kx_aR, kx_ln, Nat.reduceAdd, Option.toList, List.cons_append, List.nil_append, cf10_14])
  all_goals (repeat' apply And.intro)
  all_goals ((try clear hB hC); first | exact True.intro | with_reducible rfl | with_reducible assumption | (with_reducible refine vp_in_nI ?_ ?_ <;> first | omega | decide) | exact Nat.le_of_ble_eq_true rfl | (with_reducible refine ck_nzI ?_; simp; done) | (with_reducible refine ck_nzL ?_; simp; done) | (simp only [pk_us, pk_uLs, ↓reduceIte, not_true_eq_false, not_false_eq_true]; done) | (simp only [↓reduceIte, not_true_eq_false, not_false_eq_true]; with_reducible rfl) | omega | skip)

set_option maxRecDepth 100000 in
set_option maxHeartbeats 4000000 in
theorem ct_X10_speed_f (l : Launch) (G : kx_G) (hst : l.stackTraces = false) {P : kx_P} {sz : Nat} {sv : Value} {K : Nat → Int32} (h64 : P 64 = kO 10 (kf (cr10 sv) K)) {t : Int32} {x : Int32} (hx : x < 0 ∨ K 7 ≤ x)  : kx_X l G sX10_speed 7 [.ref 64, .int (x), .int (t)] P sz "java/util/NoSuchElementException" := by
  refine kx_mkx hst kx_tab kxLok_X10 [some (.ref 64), some (.int (x)), some (.int (t))] ⟨by decide, rfl, by decide⟩ rfl rfl (fun g hB hC hX hT => ?_)
  refine hB bX10_speed_0 _ _ _ _ _ _ _ kX10_speed_0 ?_
  dsimp only [bX10_speed_0, kx_wp, kx_step, kx_lI, kx_lL, kx_lA, kx_gl, kx_pI, kx_pL, kx_pR, kx_pA, kx_pV, kx_s1, kx_s2, kx_sl, kx_pre, kx_c2, kx_pl, kx_cmp, kx_oF, kx_eqN, kx_nil, kx_c1, kx_ft, kx_aI, kx_aL, kx_aR, kx_ln, Nat.reduceAdd, Option.toList, List.cons_append, List.nil_append, cf10_14]
  repeat (simp only [ks_eq, ks_ss]; try dsimp only [kx_wp, kx_step, kx_lI, kx_lL, kx_lA, kx_gl, kx_pI, kx_pL, kx_pR, kx_pA, kx_pV, kx_s1, kx_s2, kx_sl, kx_pre, kx_c2, kx_pl, kx_cmp, kx_oF, kx_eqN, kx_nil, kx_c1, kx_ft, kx_aI, kx_aL, kx_aR, kx_ln, Nat.reduceAdd, Option.toList, List.cons_append, List.nil_append, cf10_14])
  repeat' apply And.intro
  all_goals try (first | with_reducible assumption | (with_reducible refine ck_nzI ?_; simp; done) | (with_reducible refine ck_nzL ?_; simp; done) | (with_reducible refine vp_in_nI ?_ ?_ <;> first | omega | decide) | (with_reducible refine Nat.le_of_ble_eq_true ?_; rfl) | omega | exact Or.inl trivial | exact Or.inr trivial | exact Or.inl rfl | exact Or.inr rfl)
  exact hX.1 138 _ _ _ _ _ 10 _ _ _ _ _ lX10_138 (ct_X10_theClock_x l G hst h64 hx) ⟨by decide, rfl⟩ (h64) rfl rfl (Nat.le_of_ble_eq_true rfl) (by first | decide | omega) (by decide) dX10_speed_2

def bX10_beyond_0 : List kx_O := [(.aload_n 0, 0, 0, 0, .null), (.iload_n 1, 1, 0, 0, .null)]
theorem kX10_beyond_0 : kx_oks kxL_X10 false cX10_beyond 0 bX10_beyond_0 = true := by decide +kernel
def bX10_beyond_5 : List kx_O := [(.pop, 0, 0, 0, .null), (.iload_n 2, 2, 0, 0, .null), (.ifCond .lt 14, 21, 0, 0, .null)]
theorem kX10_beyond_5 : kx_oks kxL_X10 false cX10_beyond 5 bX10_beyond_5 = true := by decide +kernel
def bX10_beyond_10 : List kx_O := [(.iload_n 2, 2, 0, 0, .null), (.ldc_w 290, 0, 0, 0, .int (100000000)), (.if_icmp .gt 7, 21, 0, 0, .null)]
theorem kX10_beyond_10 : kx_oks kxL_X10 false cX10_beyond 10 bX10_beyond_10 = true := by decide +kernel
def bX10_beyond_17 : List kx_O := [(.iconst 1, 0, 0, 0, .int 1), (.goto 4, 22, 0, 0, .null)]
theorem kX10_beyond_17 : kx_oks kxL_X10 false cX10_beyond 17 bX10_beyond_17 = true := by decide +kernel
def bX10_beyond_21 : List kx_O := [(.iconst 0, 0, 0, 0, .int 0)]
theorem kX10_beyond_21 : kx_oks kxL_X10 false cX10_beyond 21 bX10_beyond_21 = true := by decide +kernel
def bX10_beyond_25 : List kx_O := [(.aload_n 0, 0, 0, 0, .null), (.getfield 84, 10, 14, 0, .null), (.iload_n 1, 1, 0, 0, .null), (.iload_n 3, 3, 0, 0, .null)]
theorem kX10_beyond_25 : kx_oks kxL_X10 false cX10_beyond 25 bX10_beyond_25 = true := by decide +kernel
def bX10_beyond_34 : List kx_O := [(.aload_n 0, 0, 0, 0, .null), (.getfield 84, 10, 14, 0, .null), (.iload_n 2, 2, 0, 0, .null)]
theorem kX10_beyond_34 : kx_oks kxL_X10 false cX10_beyond 34 bX10_beyond_34 = true := by decide +kernel
def bX10_beyond_42 : List kx_O := [(.ireturn, 0, 0, 0, .null)]
theorem kX10_beyond_42 : kx_oks kxL_X10 false cX10_beyond 42 bX10_beyond_42 = true := by decide +kernel
theorem dX10_beyond_2 : decode cX10_beyond 2 = .ok (.invokevirtual 138, 3) := by decide +kernel
theorem dX10_beyond_22 : decode cX10_beyond 22 = .ok (.invokestatic 95, 3) := by decide +kernel
theorem dX10_beyond_31 : decode cX10_beyond 31 = .ok (.invokevirtual 295, 3) := by decide +kernel
theorem dX10_beyond_39 : decode cX10_beyond 39 = .ok (.invokevirtual 314, 3) := by decide +kernel
set_option maxRecDepth 100000 in
set_option maxHeartbeats 4000000 in
theorem ct_X10_beyond_t (l : Launch) (G : kx_G) {P : kx_P} {sz : Nat} {sv : Value} {K : Nat → Int32} (h64 : P 64 = kO 10 (kf (cr10 sv) K)) {cl : Nat} {cn : Nat → Nat} (h69 : P 69 = kR 8 (fun i => if i < cl then some (cn i) else none)) (h7 : K 7 = nI cl) (hcl : cl ≤ 8) {c : Nat} (hc : c < cl) {Fr rc rm re rt : Nat → Int32} (hR : P 84 = kO 5 (kf cr5 Fr)) (h85 : P 85 = kI 0 100 rc) (h86 : P 86 = kI 0 100 rm) (h87 : P 87 = kI 0 100 re) (h88 : P 88 = kI 0 100 rt) {n : Nat} (h4 : Fr 4 = nI n) (hn : n ≤ 100) {t : Int32} {v : Int32} (hv1 : 0 ≤ v) (hv2 : v ≤ 100000000)  : kx_M l G sX10_beyond 5 0 0 [.ref 64, .int (nI c), .int (v), .int (t)] P sz (some (.int (cx_fb (cx_rc Fr rc rm re rt (nI c) t n) v))) (kx_set P 84 (kO 5 (kf cr5 (cx_rc Fr rc rm re rt (nI c) t n)))) sz := by
  refine kx_mk kx_tab kxLok_X10 (ini := false) [some (.ref 64), some (.int (nI c)), some (.int (v)), some (.int (t))] ⟨by decide, rfl, by decide, by decide⟩ (⟨_, rfl⟩) rfl rfl (fun g hB hC => ?_)
  refine hB bX10_beyond_0 _ _ _ _ _ _ _ kX10_beyond_0 ?_
  dsimp only [bX10_beyond_0, kx_wp, kx_step, kx_lI, kx_lL, kx_lA, kx_gl, kx_pI, kx_pL, kx_pR, kx_pA, kx_pV, kx_s1, kx_s2, kx_sl, kx_pre, kx_c2, kx_pl, kx_cmp, kx_oF, kx_eqN, kx_nil, kx_c1, kx_ft, kx_aI, kx_aL, kx_aR, kx_ln, Nat.reduceAdd, Option.toList, List.cons_append, List.nil_append, cf10_14]
  repeat (simp only [h64, ks_ne (show ¬ (64 : Nat) = 84 by decide), ks_eq, ks_ss]; try dsimp only [kx_wp, kx_step, kx_lI, kx_lL, kx_lA, kx_gl, kx_pI, kx_pL, kx_pR, kx_pA, kx_pV, kx_s1, kx_s2, kx_sl, kx_pre, kx_c2, kx_pl, kx_cmp, kx_oF, kx_eqN, kx_nil, kx_c1, kx_ft, kx_aI, kx_aL, kx_aR, kx_ln, Nat.reduceAdd, Option.toList, List.cons_append, List.nil_append, cf10_14])
  repeat' apply And.intro
  all_goals try (first | with_reducible assumption | (with_reducible refine ck_nzI ?_; simp; done) | (with_reducible refine ck_nzL ?_; simp; done) | (with_reducible refine vp_in_nI ?_ ?_ <;> first | omega | decide) | (with_reducible refine Nat.le_of_ble_eq_true ?_; rfl) | omega | exact Or.inl trivial | exact Or.inr trivial | exact Or.inl rfl | exact Or.inr rfl)
  refine hC.1 138 _ _ _ _ _ _ _ 10 _ _ _ _ _ _ _ _ _ _ _ _ lX10_138 (ct_X10_theClock l G h64 h69 h7 hcl hc) ⟨by decide, rfl⟩ (h64) rfl rfl (Nat.le_of_ble_eq_true rfl) (by first | decide | omega) (by decide) (by omega) (by omega) dX10_beyond_2 ?_
  refine hB bX10_beyond_5 _ _ _ _ _ _ _ kX10_beyond_5 ?_
  dsimp only [bX10_beyond_5, kx_wp, kx_step, kx_lI, kx_lL, kx_lA, kx_gl, kx_pI, kx_pL, kx_pR, kx_pA, kx_pV, kx_s1, kx_s2, kx_sl, kx_pre, kx_c2, kx_pl, kx_cmp, kx_oF, kx_eqN, kx_nil, kx_c1, kx_ft, kx_aI, kx_aL, kx_aR, kx_ln, Nat.reduceAdd, Option.toList, List.cons_append, List.nil_append, cf10_14]
  repeat (simp only [h64, ks_ne (show ¬ (64 : Nat) = 84 by decide), ks_eq, ks_ss]; try dsimp only [kx_wp, kx_step, kx_lI, kx_lL, kx_lA, kx_gl, kx_pI, kx_pL, kx_pR, kx_pA, kx_pV, kx_s1, kx_s2, kx_sl, kx_pre, kx_c2, kx_pl, kx_cmp, kx_oF, kx_eqN, kx_nil, kx_c1, kx_ft, kx_aI, kx_aL, kx_aR, kx_ln, Nat.reduceAdd, Option.toList, List.cons_append, List.nil_append, cf10_14])
  repeat' apply And.intro
  all_goals try (first | with_reducible assumption | (with_reducible refine ck_nzI ?_; simp; done) | (with_reducible refine ck_nzL ?_; simp; done) | (with_reducible refine vp_in_nI ?_ ?_ <;> first | omega | decide) | (with_reducible refine Nat.le_of_ble_eq_true ?_; rfl) | omega | exact Or.inl trivial | exact Or.inr trivial | exact Or.inl rfl | exact Or.inr rfl)
  · intro zc7
    first | exact absurd rfl zc7 | exact absurd zc7 (by decide) | exact absurd (by decide) zc7 | (exfalso; first | exact absurd hv1 (Int32.not_le.mpr zc7) | exact absurd hv2 (Int32.not_le.mpr zc14)) | (exfalso; simp_all; done)
  · intro zc7
    with_reducible first | have ze7 := Int32.not_lt.mp zc7 | have ze7 := zc7
    refine hB bX10_beyond_10 _ _ _ _ _ _ _ kX10_beyond_10 ?_
    dsimp only [bX10_beyond_10, kx_wp, kx_step, kx_lI, kx_lL, kx_lA, kx_gl, kx_pI, kx_pL, kx_pR, kx_pA, kx_pV, kx_s1, kx_s2, kx_sl, kx_pre, kx_c2, kx_pl, kx_cmp, kx_oF, kx_eqN, kx_nil, kx_c1, kx_ft, kx_aI, kx_aL, kx_aR, kx_ln, Nat.reduceAdd, Option.toList, List.cons_append, List.nil_append, cf10_14]
    repeat (simp only [h64, ks_ne (show ¬ (64 : Nat) = 84 by decide), ks_eq, ks_ss]; try dsimp only [kx_wp, kx_step, kx_lI, kx_lL, kx_lA, kx_gl, kx_pI, kx_pL, kx_pR, kx_pA, kx_pV, kx_s1, kx_s2, kx_sl, kx_pre, kx_c2, kx_pl, kx_cmp, kx_oF, kx_eqN, kx_nil, kx_c1, kx_ft, kx_aI, kx_aL, kx_aR, kx_ln, Nat.reduceAdd, Option.toList, List.cons_append, List.nil_append, cf10_14])
    repeat' apply And.intro
    all_goals try (first | with_reducible assumption | (with_reducible refine ck_nzI ?_; simp; done) | (with_reducible refine ck_nzL ?_; simp; done) | (with_reducible refine vp_in_nI ?_ ?_ <;> first | omega | decide) | (with_reducible refine Nat.le_of_ble_eq_true ?_; rfl) | omega | exact Or.inl trivial | exact Or.inr trivial | exact Or.inl rfl | exact Or.inr rfl)
    · intro zc14
      first | exact absurd rfl zc14 | exact absurd zc14 (by decide) | exact absurd (by decide) zc14 | (exfalso; first | exact absurd hv1 (Int32.not_le.mpr zc7) | exact absurd hv2 (Int32.not_le.mpr zc14)) | (exfalso; simp_all; done)
    · intro zc14
      with_reducible first | have ze14 := Int32.not_lt.mp zc14 | have ze14 := zc14
      refine hB bX10_beyond_17 _ _ _ _ _ _ _ kX10_beyond_17 ?_
      dsimp only [bX10_beyond_17, kx_wp, kx_step, kx_lI, kx_lL, kx_lA, kx_gl, kx_pI, kx_pL, kx_pR, kx_pA, kx_pV, kx_s1, kx_s2, kx_sl, kx_pre, kx_c2, kx_pl, kx_cmp, kx_oF, kx_eqN, kx_nil, kx_c1, kx_ft, kx_aI, kx_aL, kx_aR, kx_ln, Nat.reduceAdd, Option.toList, List.cons_append, List.nil_append, cf10_14]
      repeat (simp only [h64, ks_ne (show ¬ (64 : Nat) = 84 by decide), ks_eq, ks_ss]; try dsimp only [kx_wp, kx_step, kx_lI, kx_lL, kx_lA, kx_gl, kx_pI, kx_pL, kx_pR, kx_pA, kx_pV, kx_s1, kx_s2, kx_sl, kx_pre, kx_c2, kx_pl, kx_cmp, kx_oF, kx_eqN, kx_nil, kx_c1, kx_ft, kx_aI, kx_aL, kx_aR, kx_ln, Nat.reduceAdd, Option.toList, List.cons_append, List.nil_append, cf10_14])
      repeat' apply And.intro
      all_goals try (first | with_reducible assumption | (with_reducible refine ck_nzI ?_; simp; done) | (with_reducible refine ck_nzL ?_; simp; done) | (with_reducible refine vp_in_nI ?_ ?_ <;> first | omega | decide) | (with_reducible refine Nat.le_of_ble_eq_true ?_; rfl) | omega | exact Or.inl trivial | exact Or.inr trivial | exact Or.inl rfl | exact Or.inr rfl)
      refine hC.2.1 95 _ _ _ _ _ _ _ _ _ _ _ _ _ _ _ _ _ lX10_95 (ct_X10_need l G (b := 1) (by decide)) rfl rfl (Nat.le_of_ble_eq_true rfl) (by first | decide | omega) (by decide) (by omega) (by omega) dX10_beyond_22 ?_
      refine hB bX10_beyond_25 _ _ _ _ _ _ _ kX10_beyond_25 ?_
      dsimp only [bX10_beyond_25, kx_wp, kx_step, kx_lI, kx_lL, kx_lA, kx_gl, kx_pI, kx_pL, kx_pR, kx_pA, kx_pV, kx_s1, kx_s2, kx_sl, kx_pre, kx_c2, kx_pl, kx_cmp, kx_oF, kx_eqN, kx_nil, kx_c1, kx_ft, kx_aI, kx_aL, kx_aR, kx_ln, Nat.reduceAdd, Option.toList, List.cons_append, List.nil_append, cf10_14]
      repeat (simp only [h64, ks_ne (show ¬ (64 : Nat) = 84 by decide), ks_eq, ks_ss]; try dsimp only [kx_wp, kx_step, kx_lI, kx_lL, kx_lA, kx_gl, kx_pI, kx_pL, kx_pR, kx_pA, kx_pV, kx_s1, kx_s2, kx_sl, kx_pre, kx_c2, kx_pl, kx_cmp, kx_oF, kx_eqN, kx_nil, kx_c1, kx_ft, kx_aI, kx_aL, kx_aR, kx_ln, Nat.reduceAdd, Option.toList, List.cons_append, List.nil_append, cf10_14])
      repeat' apply And.intro
      all_goals try (first | with_reducible assumption | (with_reducible refine ck_nzI ?_; simp; done) | (with_reducible refine ck_nzL ?_; simp; done) | (with_reducible refine vp_in_nI ?_ ?_ <;> first | omega | decide) | (with_reducible refine Nat.le_of_ble_eq_true ?_; rfl) | omega | exact Or.inl trivial | exact Or.inr trivial | exact Or.inl rfl | exact Or.inr rfl)
      refine hC.1 295 _ _ _ _ _ _ _ 5 _ _ _ _ _ _ _ _ _ _ _ _ lX10_295 (ct_X5_recall l G hR h85 h86 h87 h88 h4 hn) ⟨by decide, rfl⟩ (hR) rfl rfl (Nat.le_of_ble_eq_true rfl) (by first | decide | omega) (by decide) (by omega) (by omega) dX10_beyond_31 ?_
      refine hB bX10_beyond_34 _ _ _ _ _ _ _ kX10_beyond_34 ?_
      dsimp only [bX10_beyond_34, kx_wp, kx_step, kx_lI, kx_lL, kx_lA, kx_gl, kx_pI, kx_pL, kx_pR, kx_pA, kx_pV, kx_s1, kx_s2, kx_sl, kx_pre, kx_c2, kx_pl, kx_cmp, kx_oF, kx_eqN, kx_nil, kx_c1, kx_ft, kx_aI, kx_aL, kx_aR, kx_ln, Nat.reduceAdd, Option.toList, List.cons_append, List.nil_append, cf10_14]
      repeat (simp only [h64, ks_ne (show ¬ (64 : Nat) = 84 by decide), ks_eq, ks_ss]; try dsimp only [kx_wp, kx_step, kx_lI, kx_lL, kx_lA, kx_gl, kx_pI, kx_pL, kx_pR, kx_pA, kx_pV, kx_s1, kx_s2, kx_sl, kx_pre, kx_c2, kx_pl, kx_cmp, kx_oF, kx_eqN, kx_nil, kx_c1, kx_ft, kx_aI, kx_aL, kx_aR, kx_ln, Nat.reduceAdd, Option.toList, List.cons_append, List.nil_append, cf10_14])
      repeat' apply And.intro
      all_goals try (first | with_reducible assumption | (with_reducible refine ck_nzI ?_; simp; done) | (with_reducible refine ck_nzL ?_; simp; done) | (with_reducible refine vp_in_nI ?_ ?_ <;> first | omega | decide) | (with_reducible refine Nat.le_of_ble_eq_true ?_; rfl) | omega | exact Or.inl trivial | exact Or.inr trivial | exact Or.inl rfl | exact Or.inr rfl)
      refine hC.1 314 _ _ _ _ _ _ _ 5 _ _ _ _ _ _ _ _ _ _ _ _ lX10_314 (ct_X5_firstBeyond l G (F := (cx_rc Fr rc rm re rt (nI c) t n)) (ks_eq _ _ _)) ⟨by decide, rfl⟩ (by first | exact h64 | exact ks_eq _ _ _) rfl rfl (Nat.le_of_ble_eq_true rfl) (by first | decide | omega) (by decide) (by omega) (by omega) dX10_beyond_39 ?_
      refine hB bX10_beyond_42 _ _ _ _ _ _ _ kX10_beyond_42 ?_
      dsimp only [bX10_beyond_42, kx_wp, kx_step, kx_lI, kx_lL, kx_lA, kx_gl, kx_pI, kx_pL, kx_pR, kx_pA, kx_pV, kx_s1, kx_s2, kx_sl, kx_pre, kx_c2, kx_pl, kx_cmp, kx_oF, kx_eqN, kx_nil, kx_c1, kx_ft, kx_aI, kx_aL, kx_aR, kx_ln, Nat.reduceAdd, Option.toList, List.cons_append, List.nil_append, cf10_14]
      repeat (simp only [h64, ks_ne (show ¬ (64 : Nat) = 84 by decide), ks_eq, ks_ss]; try dsimp only [kx_wp, kx_step, kx_lI, kx_lL, kx_lA, kx_gl, kx_pI, kx_pL, kx_pR, kx_pA, kx_pV, kx_s1, kx_s2, kx_sl, kx_pre, kx_c2, kx_pl, kx_cmp, kx_oF, kx_eqN, kx_nil, kx_c1, kx_ft, kx_aI, kx_aL, kx_aR, kx_ln, Nat.reduceAdd, Option.toList, List.cons_append, List.nil_append, cf10_14])
      all_goals (repeat' apply And.intro)
      all_goals ((try clear hB hC); first | exact True.intro | with_reducible rfl | with_reducible assumption | (with_reducible refine vp_in_nI ?_ ?_ <;> first | omega | decide) | exact Nat.le_of_ble_eq_true rfl | (with_reducible refine ck_nzI ?_; simp; done) | (with_reducible refine ck_nzL ?_; simp; done) | (simp only [pk_us, pk_uLs, zc7, ze7, zc14, ze14, ↓reduceIte, not_true_eq_false, not_false_eq_true]; done) | (simp only [zc7, ze7, zc14, ze14, ↓reduceIte, not_true_eq_false, not_false_eq_true]; with_reducible rfl) | omega | skip)

set_option maxRecDepth 100000 in
set_option maxHeartbeats 4000000 in
theorem ct_X10_beyond_b (l : Launch) (G : kx_G) (hst : l.stackTraces = false) {P : kx_P} {sz : Nat} {sv : Value} {K : Nat → Int32} (h64 : P 64 = kO 10 (kf (cr10 sv) K)) {cl : Nat} {cn : Nat → Nat} (h69 : P 69 = kR 8 (fun i => if i < cl then some (cn i) else none)) (h7 : K 7 = nI cl) (hcl : cl ≤ 8) {c : Nat} (hc : c < cl) {v t : Int32} (hv : ¬ (0 ≤ v ∧ v ≤ 100000000))  : kx_X l G sX10_beyond 7 [.ref 64, .int (nI c), .int (v), .int (t)] P sz "java/lang/IllegalArgumentException" := by
  refine kx_mkx hst kx_tab kxLok_X10 [some (.ref 64), some (.int (nI c)), some (.int (v)), some (.int (t))] ⟨by decide, rfl, by decide⟩ rfl rfl (fun g hB hC hX hT => ?_)
  refine hB bX10_beyond_0 _ _ _ _ _ _ _ kX10_beyond_0 ?_
  dsimp only [bX10_beyond_0, kx_wp, kx_step, kx_lI, kx_lL, kx_lA, kx_gl, kx_pI, kx_pL, kx_pR, kx_pA, kx_pV, kx_s1, kx_s2, kx_sl, kx_pre, kx_c2, kx_pl, kx_cmp, kx_oF, kx_eqN, kx_nil, kx_c1, kx_ft, kx_aI, kx_aL, kx_aR, kx_ln, Nat.reduceAdd, Option.toList, List.cons_append, List.nil_append, cf10_14]
  repeat (simp only [h64, ks_eq, ks_ss]; try dsimp only [kx_wp, kx_step, kx_lI, kx_lL, kx_lA, kx_gl, kx_pI, kx_pL, kx_pR, kx_pA, kx_pV, kx_s1, kx_s2, kx_sl, kx_pre, kx_c2, kx_pl, kx_cmp, kx_oF, kx_eqN, kx_nil, kx_c1, kx_ft, kx_aI, kx_aL, kx_aR, kx_ln, Nat.reduceAdd, Option.toList, List.cons_append, List.nil_append, cf10_14])
  repeat' apply And.intro
  all_goals try (first | with_reducible assumption | (with_reducible refine ck_nzI ?_; simp; done) | (with_reducible refine ck_nzL ?_; simp; done) | (with_reducible refine vp_in_nI ?_ ?_ <;> first | omega | decide) | (with_reducible refine Nat.le_of_ble_eq_true ?_; rfl) | omega | exact Or.inl trivial | exact Or.inr trivial | exact Or.inl rfl | exact Or.inr rfl)
  refine hC.1 138 _ _ _ _ _ _ _ 10 _ _ _ _ _ _ _ _ _ _ _ _ lX10_138 (ct_X10_theClock l G h64 h69 h7 hcl hc) ⟨by decide, rfl⟩ (h64) rfl rfl (Nat.le_of_ble_eq_true rfl) (by first | decide | omega) (by decide) (by omega) (by omega) dX10_beyond_2 ?_
  refine hB bX10_beyond_5 _ _ _ _ _ _ _ kX10_beyond_5 ?_
  dsimp only [bX10_beyond_5, kx_wp, kx_step, kx_lI, kx_lL, kx_lA, kx_gl, kx_pI, kx_pL, kx_pR, kx_pA, kx_pV, kx_s1, kx_s2, kx_sl, kx_pre, kx_c2, kx_pl, kx_cmp, kx_oF, kx_eqN, kx_nil, kx_c1, kx_ft, kx_aI, kx_aL, kx_aR, kx_ln, Nat.reduceAdd, Option.toList, List.cons_append, List.nil_append, cf10_14]
  repeat (simp only [h64, ks_eq, ks_ss]; try dsimp only [kx_wp, kx_step, kx_lI, kx_lL, kx_lA, kx_gl, kx_pI, kx_pL, kx_pR, kx_pA, kx_pV, kx_s1, kx_s2, kx_sl, kx_pre, kx_c2, kx_pl, kx_cmp, kx_oF, kx_eqN, kx_nil, kx_c1, kx_ft, kx_aI, kx_aL, kx_aR, kx_ln, Nat.reduceAdd, Option.toList, List.cons_append, List.nil_append, cf10_14])
  repeat' apply And.intro
  all_goals try (first | with_reducible assumption | (with_reducible refine ck_nzI ?_; simp; done) | (with_reducible refine ck_nzL ?_; simp; done) | (with_reducible refine vp_in_nI ?_ ?_ <;> first | omega | decide) | (with_reducible refine Nat.le_of_ble_eq_true ?_; rfl) | omega | exact Or.inl trivial | exact Or.inr trivial | exact Or.inl rfl | exact Or.inr rfl)
  · intro zc7
    with_reducible first | have ze7 := Int32.not_le.mpr zc7 | have ze7 := zc7
    refine hB bX10_beyond_21 _ _ _ _ _ _ _ kX10_beyond_21 ?_
    dsimp only [bX10_beyond_21, kx_wp, kx_step, kx_lI, kx_lL, kx_lA, kx_gl, kx_pI, kx_pL, kx_pR, kx_pA, kx_pV, kx_s1, kx_s2, kx_sl, kx_pre, kx_c2, kx_pl, kx_cmp, kx_oF, kx_eqN, kx_nil, kx_c1, kx_ft, kx_aI, kx_aL, kx_aR, kx_ln, Nat.reduceAdd, Option.toList, List.cons_append, List.nil_append, cf10_14]
    repeat (simp only [h64, ks_eq, ks_ss]; try dsimp only [kx_wp, kx_step, kx_lI, kx_lL, kx_lA, kx_gl, kx_pI, kx_pL, kx_pR, kx_pA, kx_pV, kx_s1, kx_s2, kx_sl, kx_pre, kx_c2, kx_pl, kx_cmp, kx_oF, kx_eqN, kx_nil, kx_c1, kx_ft, kx_aI, kx_aL, kx_aR, kx_ln, Nat.reduceAdd, Option.toList, List.cons_append, List.nil_append, cf10_14])
    repeat' apply And.intro
    all_goals try (first | with_reducible assumption | (with_reducible refine ck_nzI ?_; simp; done) | (with_reducible refine ck_nzL ?_; simp; done) | (with_reducible refine vp_in_nI ?_ ?_ <;> first | omega | decide) | (with_reducible refine Nat.le_of_ble_eq_true ?_; rfl) | omega | exact Or.inl trivial | exact Or.inr trivial | exact Or.inl rfl | exact Or.inr rfl)
    exact hX.2 95 _ _ _ _ _ _ _ _ lX10_95 (ct_X10_need_x l G hst) rfl rfl (Nat.le_of_ble_eq_true rfl) (by first | decide | omega) (by decide) dX10_beyond_22
  · intro zc7
    with_reducible first | have ze7 := Int32.not_lt.mp zc7 | have ze7 := zc7
    refine hB bX10_beyond_10 _ _ _ _ _ _ _ kX10_beyond_10 ?_
    dsimp only [bX10_beyond_10, kx_wp, kx_step, kx_lI, kx_lL, kx_lA, kx_gl, kx_pI, kx_pL, kx_pR, kx_pA, kx_pV, kx_s1, kx_s2, kx_sl, kx_pre, kx_c2, kx_pl, kx_cmp, kx_oF, kx_eqN, kx_nil, kx_c1, kx_ft, kx_aI, kx_aL, kx_aR, kx_ln, Nat.reduceAdd, Option.toList, List.cons_append, List.nil_append, cf10_14]
    repeat (simp only [h64, ks_eq, ks_ss]; try dsimp only [kx_wp, kx_step, kx_lI, kx_lL, kx_lA, kx_gl, kx_pI, kx_pL, kx_pR, kx_pA, kx_pV, kx_s1, kx_s2, kx_sl, kx_pre, kx_c2, kx_pl, kx_cmp, kx_oF, kx_eqN, kx_nil, kx_c1, kx_ft, kx_aI, kx_aL, kx_aR, kx_ln, Nat.reduceAdd, Option.toList, List.cons_append, List.nil_append, cf10_14])
    repeat' apply And.intro
    all_goals try (first | with_reducible assumption | (with_reducible refine ck_nzI ?_; simp; done) | (with_reducible refine ck_nzL ?_; simp; done) | (with_reducible refine vp_in_nI ?_ ?_ <;> first | omega | decide) | (with_reducible refine Nat.le_of_ble_eq_true ?_; rfl) | omega | exact Or.inl trivial | exact Or.inr trivial | exact Or.inl rfl | exact Or.inr rfl)
    · intro zc14
      with_reducible first | have ze14 := Int32.not_le.mpr zc14 | have ze14 := zc14
      refine hB bX10_beyond_21 _ _ _ _ _ _ _ kX10_beyond_21 ?_
      dsimp only [bX10_beyond_21, kx_wp, kx_step, kx_lI, kx_lL, kx_lA, kx_gl, kx_pI, kx_pL, kx_pR, kx_pA, kx_pV, kx_s1, kx_s2, kx_sl, kx_pre, kx_c2, kx_pl, kx_cmp, kx_oF, kx_eqN, kx_nil, kx_c1, kx_ft, kx_aI, kx_aL, kx_aR, kx_ln, Nat.reduceAdd, Option.toList, List.cons_append, List.nil_append, cf10_14]
      repeat (simp only [h64, ks_eq, ks_ss]; try dsimp only [kx_wp, kx_step, kx_lI, kx_lL, kx_lA, kx_gl, kx_pI, kx_pL, kx_pR, kx_pA, kx_pV, kx_s1, kx_s2, kx_sl, kx_pre, kx_c2, kx_pl, kx_cmp, kx_oF, kx_eqN, kx_nil, kx_c1, kx_ft, kx_aI, kx_aL, kx_aR, kx_ln, Nat.reduceAdd, Option.toList, List.cons_append, List.nil_append, cf10_14])
      repeat' apply And.intro
      all_goals try (first | with_reducible assumption | (with_reducible refine ck_nzI ?_; simp; done) | (with_reducible refine ck_nzL ?_; simp; done) | (with_reducible refine vp_in_nI ?_ ?_ <;> first | omega | decide) | (with_reducible refine Nat.le_of_ble_eq_true ?_; rfl) | omega | exact Or.inl trivial | exact Or.inr trivial | exact Or.inl rfl | exact Or.inr rfl)
      exact hX.2 95 _ _ _ _ _ _ _ _ lX10_95 (ct_X10_need_x l G hst) rfl rfl (Nat.le_of_ble_eq_true rfl) (by first | decide | omega) (by decide) dX10_beyond_22
    · intro zc14
      with_reducible first | have ze14 := Int32.not_lt.mp zc14 | have ze14 := zc14
      exact absurd ⟨ze7, ze14⟩ hv

set_option maxRecDepth 100000 in
set_option maxHeartbeats 4000000 in
theorem ct_X10_beyond_f (l : Launch) (G : kx_G) (hst : l.stackTraces = false) {P : kx_P} {sz : Nat} {sv : Value} {K : Nat → Int32} (h64 : P 64 = kO 10 (kf (cr10 sv) K)) {v t : Int32} {x : Int32} (hx : x < 0 ∨ K 7 ≤ x)  : kx_X l G sX10_beyond 7 [.ref 64, .int (x), .int (v), .int (t)] P sz "java/util/NoSuchElementException" := by
  refine kx_mkx hst kx_tab kxLok_X10 [some (.ref 64), some (.int (x)), some (.int (v)), some (.int (t))] ⟨by decide, rfl, by decide⟩ rfl rfl (fun g hB hC hX hT => ?_)
  refine hB bX10_beyond_0 _ _ _ _ _ _ _ kX10_beyond_0 ?_
  dsimp only [bX10_beyond_0, kx_wp, kx_step, kx_lI, kx_lL, kx_lA, kx_gl, kx_pI, kx_pL, kx_pR, kx_pA, kx_pV, kx_s1, kx_s2, kx_sl, kx_pre, kx_c2, kx_pl, kx_cmp, kx_oF, kx_eqN, kx_nil, kx_c1, kx_ft, kx_aI, kx_aL, kx_aR, kx_ln, Nat.reduceAdd, Option.toList, List.cons_append, List.nil_append, cf10_14]
  repeat (simp only [ks_eq, ks_ss]; try dsimp only [kx_wp, kx_step, kx_lI, kx_lL, kx_lA, kx_gl, kx_pI, kx_pL, kx_pR, kx_pA, kx_pV, kx_s1, kx_s2, kx_sl, kx_pre, kx_c2, kx_pl, kx_cmp, kx_oF, kx_eqN, kx_nil, kx_c1, kx_ft, kx_aI, kx_aL, kx_aR, kx_ln, Nat.reduceAdd, Option.toList, List.cons_append, List.nil_append, cf10_14])
  repeat' apply And.intro
  all_goals try (first | with_reducible assumption | (with_reducible refine ck_nzI ?_; simp; done) | (with_reducible refine ck_nzL ?_; simp; done) | (with_reducible refine vp_in_nI ?_ ?_ <;> first | omega | decide) | (with_reducible refine Nat.le_of_ble_eq_true ?_; rfl) | omega | exact Or.inl trivial | exact Or.inr trivial | exact Or.inl rfl | exact Or.inr rfl)
  exact hX.1 138 _ _ _ _ _ 10 _ _ _ _ _ lX10_138 (ct_X10_theClock_x l G hst h64 hx) ⟨by decide, rfl⟩ (h64) rfl rfl (Nat.le_of_ble_eq_true rfl) (by first | decide | omega) (by decide) dX10_beyond_2

def bX10_count_0 : List kx_O := [(.iload_n 1, 1, 0, 0, .null), (.tableswitch 117 0 8 #[51, 59, 64, 72, 80, 88, 96, 101, 109], 118, 51, 0, .null)]
theorem kX10_count_0 : kx_oks kxL_X10 false cX10_count 0 bX10_count_0 = true := by decide +kernel
def bX10_count_52 : List kx_O := [(.aload_n 0, 0, 0, 0, .null), (.getfield 12, 10, 0, 0, .null), (.getfield 129, 0, 0, 0, .null), (.ireturn, 0, 0, 0, .null)]
theorem kX10_count_52 : kx_oks kxL_X10 false cX10_count 52 bX10_count_52 = true := by decide +kernel
def bX10_count_60 : List kx_O := [(.aload_n 0, 0, 0, 0, .null), (.getfield 44, 10, 7, 0, .null), (.ireturn, 0, 0, 0, .null)]
theorem kX10_count_60 : kx_oks kxL_X10 false cX10_count 60 bX10_count_60 = true := by decide +kernel
def bX10_count_65 : List kx_O := [(.aload_n 0, 0, 0, 0, .null), (.getfield 12, 10, 0, 0, .null), (.getfield 337, 0, 3, 0, .null), (.ireturn, 0, 0, 0, .null)]
theorem kX10_count_65 : kx_oks kxL_X10 false cX10_count 65 bX10_count_65 = true := by decide +kernel
def bX10_count_73 : List kx_O := [(.aload_n 0, 0, 0, 0, .null), (.getfield 84, 10, 14, 0, .null), (.getfield 340, 5, 4, 0, .null), (.ireturn, 0, 0, 0, .null)]
theorem kX10_count_73 : kx_oks kxL_X10 false cX10_count 73 bX10_count_73 = true := by decide +kernel
def bX10_count_81 : List kx_O := [(.aload_n 0, 0, 0, 0, .null), (.getfield 91, 10, 15, 0, .null), (.getfield 343, 3, 3, 0, .null), (.ireturn, 0, 0, 0, .null)]
theorem kX10_count_81 : kx_oks kxL_X10 false cX10_count 81 bX10_count_81 = true := by decide +kernel
def bX10_count_89 : List kx_O := [(.aload_n 0, 0, 0, 0, .null), (.getfield 57, 10, 9, 0, .null), (.getfield 344, 7, 4, 0, .null), (.ireturn, 0, 0, 0, .null)]
theorem kX10_count_89 : kx_oks kxL_X10 false cX10_count 89 bX10_count_89 = true := by decide +kernel
def bX10_count_97 : List kx_O := [(.aload_n 0, 0, 0, 0, .null), (.getfield 20, 10, 2, 0, .null), (.ireturn, 0, 0, 0, .null)]
theorem kX10_count_97 : kx_oks kxL_X10 false cX10_count 97 bX10_count_97 = true := by decide +kernel
def bX10_count_102 : List kx_O := [(.aload_n 0, 0, 0, 0, .null), (.getfield 12, 10, 0, 0, .null)]
theorem kX10_count_102 : kx_oks kxL_X10 false cX10_count 102 bX10_count_102 = true := by decide +kernel
def bX10_count_109 : List kx_O := [(.ireturn, 0, 0, 0, .null)]
theorem kX10_count_109 : kx_oks kxL_X10 false cX10_count 109 bX10_count_109 = true := by decide +kernel
def bX10_count_110 : List kx_O := [(.aload_n 0, 0, 0, 0, .null), (.getfield 12, 10, 0, 0, .null)]
theorem kX10_count_110 : kx_oks kxL_X10 false cX10_count 110 bX10_count_110 = true := by decide +kernel
def bX10_count_117 : List kx_O := [(.ireturn, 0, 0, 0, .null)]
theorem kX10_count_117 : kx_oks kxL_X10 false cX10_count 117 bX10_count_117 = true := by decide +kernel
def bX10_count_118 : List kx_O := [(.iconst (-1), 0, 0, 0, .int (-1)), (.ireturn, 0, 0, 0, .null)]
theorem kX10_count_118 : kx_oks kxL_X10 false cX10_count 118 bX10_count_118 = true := by decide +kernel
theorem dX10_count_106 : decode cX10_count 106 = .ok (.invokevirtual 347, 3) := by decide +kernel
theorem dX10_count_114 : decode cX10_count 114 = .ok (.invokevirtual 350, 3) := by decide +kernel
set_option maxRecDepth 100000 in
set_option maxHeartbeats 4000000 in
theorem ct_X10_count_0 (l : Launch) (G : kx_G) {P : kx_P} {sz : Nat} {sv : Value} {K : Nat → Int32} (h64 : P 64 = kO 10 (kf (cr10 sv) K)) {Al : Nat → Int32} (hA : P 65 = kO 0 (kf cr0 Al)) {Fr rc rm re rt : Nat → Int32} (hR : P 84 = kO 5 (kf cr5 Fr)) (h85 : P 85 = kI 0 100 rc) (h86 : P 86 = kI 0 100 rm) (h87 : P 87 = kI 0 100 re) (h88 : P 88 = kI 0 100 rt) {Fl la lb lt : Nat → Int32} (hL : P 89 = kO 3 (kf cr3 Fl)) (h90 : P 90 = kI 0 40 la) (h91 : P 91 = kI 0 40 lb) (h92 : P 92 = kI 0 40 lt) {Fs : Nat → Int32} (hO : P 71 = kO 7 (kf cr7 Fs)) {sd : Nat} (h4 : Fs 4 = nI sd) (hsd : sd < 2 ^ 29) (hM : P 1 = kI 5 12 cj_md) {d : Nat} (h0 : Al 0 = nI d) (hd : d ≤ 100000)  : kx_M l G sX10_count 4 0 0 [.ref 64, .int (0)] P sz (some (.int (Al 0))) P sz := by
  refine kx_mk kx_tab kxLok_X10 (ini := false) [some (.ref 64), some (.int (0))] ⟨by decide, rfl, by decide, by decide⟩ (⟨_, rfl⟩) rfl rfl (fun g hB hC => ?_)
  refine hB bX10_count_0 _ _ _ _ _ _ _ kX10_count_0 ?_
  dsimp only [bX10_count_0, kx_wp, kx_step, kx_lI, kx_lL, kx_lA, kx_gl, kx_pI, kx_pL, kx_pR, kx_pA, kx_pV, kx_s1, kx_s2, kx_sl, kx_pre, kx_c2, kx_pl, kx_cmp, kx_oF, kx_eqN, kx_nil, kx_c1, kx_ft, kx_aI, kx_aL, kx_aR, kx_ln, Nat.reduceAdd, Option.toList, List.cons_append, List.nil_append, cf10_0, cf0_0, cf10_7, cf0_3, cf10_14, cf5_4, cf10_15, cf3_3, cf10_9, cf7_4, cf10_2]
  repeat (simp only [h64, hA, hR, hL, hO, ks_eq, ks_ss]; try dsimp only [kx_wp, kx_step, kx_lI, kx_lL, kx_lA, kx_gl, kx_pI, kx_pL, kx_pR, kx_pA, kx_pV, kx_s1, kx_s2, kx_sl, kx_pre, kx_c2, kx_pl, kx_cmp, kx_oF, kx_eqN, kx_nil, kx_c1, kx_ft, kx_aI, kx_aL, kx_aR, kx_ln, Nat.reduceAdd, Option.toList, List.cons_append, List.nil_append, cf10_0, cf0_0, cf10_7, cf0_3, cf10_14, cf5_4, cf10_15, cf3_3, cf10_9, cf7_4, cf10_2])
  repeat' apply And.intro
  all_goals try (first | with_reducible assumption | (with_reducible refine ck_nzI ?_; simp; done) | (with_reducible refine ck_nzL ?_; simp; done) | (with_reducible refine vp_in_nI ?_ ?_ <;> first | omega | decide) | (with_reducible refine Nat.le_of_ble_eq_true ?_; rfl) | omega | exact Or.inl trivial | exact Or.inr trivial | exact Or.inl rfl | exact Or.inr rfl)
  · exact fun zc1 => absurd zc1 (by decide)
  refine kx_sw (ws := [52, 60, 65, 73, 81, 89, 97, 102, 110]) rfl ?_
  dsimp only [kx_swl]
  refine ⟨fun zc1_0 => ?_, fun zc1_1 => absurd zc1_1 (by decide), fun zc1_2 => absurd zc1_2 (by decide), fun zc1_3 => absurd zc1_3 (by decide), fun zc1_4 => absurd zc1_4 (by decide), fun zc1_5 => absurd zc1_5 (by decide), fun zc1_6 => absurd zc1_6 (by decide), fun zc1_7 => absurd zc1_7 (by decide), fun zc1_8 => absurd zc1_8 (by decide), trivial⟩
  refine hB bX10_count_52 _ _ _ _ _ _ _ kX10_count_52 ?_
  dsimp only [bX10_count_52, kx_wp, kx_step, kx_lI, kx_lL, kx_lA, kx_gl, kx_pI, kx_pL, kx_pR, kx_pA, kx_pV, kx_s1, kx_s2, kx_sl, kx_pre, kx_c2, kx_pl, kx_cmp, kx_oF, kx_eqN, kx_nil, kx_c1, kx_ft, kx_aI, kx_aL, kx_aR, kx_ln, Nat.reduceAdd, Option.toList, List.cons_append, List.nil_append, cf10_0, cf0_0, cf10_7, cf0_3, cf10_14, cf5_4, cf10_15, cf3_3, cf10_9, cf7_4, cf10_2]
  repeat (simp only [h64, hA, hR, hL, hO, ks_eq, ks_ss]; try dsimp only [kx_wp, kx_step, kx_lI, kx_lL, kx_lA, kx_gl, kx_pI, kx_pL, kx_pR, kx_pA, kx_pV, kx_s1, kx_s2, kx_sl, kx_pre, kx_c2, kx_pl, kx_cmp, kx_oF, kx_eqN, kx_nil, kx_c1, kx_ft, kx_aI, kx_aL, kx_aR, kx_ln, Nat.reduceAdd, Option.toList, List.cons_append, List.nil_append, cf10_0, cf0_0, cf10_7, cf0_3, cf10_14, cf5_4, cf10_15, cf3_3, cf10_9, cf7_4, cf10_2])
  all_goals (repeat' apply And.intro)
  all_goals ((try clear hB hC); first | exact True.intro | with_reducible rfl | with_reducible assumption | (with_reducible refine vp_in_nI ?_ ?_ <;> first | omega | decide) | exact Nat.le_of_ble_eq_true rfl | (with_reducible refine ck_nzI ?_; simp; done) | (with_reducible refine ck_nzL ?_; simp; done) | (simp only [pk_us, pk_uLs, ↓reduceIte, not_true_eq_false, not_false_eq_true]; done) | (simp only [↓reduceIte, not_true_eq_false, not_false_eq_true]; with_reducible rfl) | omega | skip)

set_option maxRecDepth 100000 in
set_option maxHeartbeats 4000000 in
theorem ct_X10_count_1 (l : Launch) (G : kx_G) {P : kx_P} {sz : Nat} {sv : Value} {K : Nat → Int32} (h64 : P 64 = kO 10 (kf (cr10 sv) K)) {Al : Nat → Int32} (hA : P 65 = kO 0 (kf cr0 Al)) {Fr rc rm re rt : Nat → Int32} (hR : P 84 = kO 5 (kf cr5 Fr)) (h85 : P 85 = kI 0 100 rc) (h86 : P 86 = kI 0 100 rm) (h87 : P 87 = kI 0 100 re) (h88 : P 88 = kI 0 100 rt) {Fl la lb lt : Nat → Int32} (hL : P 89 = kO 3 (kf cr3 Fl)) (h90 : P 90 = kI 0 40 la) (h91 : P 91 = kI 0 40 lb) (h92 : P 92 = kI 0 40 lt) {Fs : Nat → Int32} (hO : P 71 = kO 7 (kf cr7 Fs)) {sd : Nat} (h4 : Fs 4 = nI sd) (hsd : sd < 2 ^ 29) (hM : P 1 = kI 5 12 cj_md) {d : Nat} (h0 : Al 0 = nI d) (hd : d ≤ 100000)  : kx_M l G sX10_count 4 0 0 [.ref 64, .int (1)] P sz (some (.int (K 7))) P sz := by
  refine kx_mk kx_tab kxLok_X10 (ini := false) [some (.ref 64), some (.int (1))] ⟨by decide, rfl, by decide, by decide⟩ (⟨_, rfl⟩) rfl rfl (fun g hB hC => ?_)
  refine hB bX10_count_0 _ _ _ _ _ _ _ kX10_count_0 ?_
  dsimp only [bX10_count_0, kx_wp, kx_step, kx_lI, kx_lL, kx_lA, kx_gl, kx_pI, kx_pL, kx_pR, kx_pA, kx_pV, kx_s1, kx_s2, kx_sl, kx_pre, kx_c2, kx_pl, kx_cmp, kx_oF, kx_eqN, kx_nil, kx_c1, kx_ft, kx_aI, kx_aL, kx_aR, kx_ln, Nat.reduceAdd, Option.toList, List.cons_append, List.nil_append, cf10_0, cf0_0, cf10_7, cf0_3, cf10_14, cf5_4, cf10_15, cf3_3, cf10_9, cf7_4, cf10_2]
  repeat (simp only [h64, hA, hR, hL, hO, ks_eq, ks_ss]; try dsimp only [kx_wp, kx_step, kx_lI, kx_lL, kx_lA, kx_gl, kx_pI, kx_pL, kx_pR, kx_pA, kx_pV, kx_s1, kx_s2, kx_sl, kx_pre, kx_c2, kx_pl, kx_cmp, kx_oF, kx_eqN, kx_nil, kx_c1, kx_ft, kx_aI, kx_aL, kx_aR, kx_ln, Nat.reduceAdd, Option.toList, List.cons_append, List.nil_append, cf10_0, cf0_0, cf10_7, cf0_3, cf10_14, cf5_4, cf10_15, cf3_3, cf10_9, cf7_4, cf10_2])
  repeat' apply And.intro
  all_goals try (first | with_reducible assumption | (with_reducible refine ck_nzI ?_; simp; done) | (with_reducible refine ck_nzL ?_; simp; done) | (with_reducible refine vp_in_nI ?_ ?_ <;> first | omega | decide) | (with_reducible refine Nat.le_of_ble_eq_true ?_; rfl) | omega | exact Or.inl trivial | exact Or.inr trivial | exact Or.inl rfl | exact Or.inr rfl)
  · exact fun zc1 => absurd zc1 (by decide)
  refine kx_sw (ws := [52, 60, 65, 73, 81, 89, 97, 102, 110]) rfl ?_
  dsimp only [kx_swl]
  refine ⟨fun zc1_0 => absurd zc1_0 (by decide), fun zc1_1 => ?_, fun zc1_2 => absurd zc1_2 (by decide), fun zc1_3 => absurd zc1_3 (by decide), fun zc1_4 => absurd zc1_4 (by decide), fun zc1_5 => absurd zc1_5 (by decide), fun zc1_6 => absurd zc1_6 (by decide), fun zc1_7 => absurd zc1_7 (by decide), fun zc1_8 => absurd zc1_8 (by decide), trivial⟩
  refine hB bX10_count_60 _ _ _ _ _ _ _ kX10_count_60 ?_
  dsimp only [bX10_count_60, kx_wp, kx_step, kx_lI, kx_lL, kx_lA, kx_gl, kx_pI, kx_pL, kx_pR, kx_pA, kx_pV, kx_s1, kx_s2, kx_sl, kx_pre, kx_c2, kx_pl, kx_cmp, kx_oF, kx_eqN, kx_nil, kx_c1, kx_ft, kx_aI, kx_aL, kx_aR, kx_ln, Nat.reduceAdd, Option.toList, List.cons_append, List.nil_append, cf10_0, cf0_0, cf10_7, cf0_3, cf10_14, cf5_4, cf10_15, cf3_3, cf10_9, cf7_4, cf10_2]
  repeat (simp only [h64, hA, hR, hL, hO, ks_eq, ks_ss]; try dsimp only [kx_wp, kx_step, kx_lI, kx_lL, kx_lA, kx_gl, kx_pI, kx_pL, kx_pR, kx_pA, kx_pV, kx_s1, kx_s2, kx_sl, kx_pre, kx_c2, kx_pl, kx_cmp, kx_oF, kx_eqN, kx_nil, kx_c1, kx_ft, kx_aI, kx_aL, kx_aR, kx_ln, Nat.reduceAdd, Option.toList, List.cons_append, List.nil_append, cf10_0, cf0_0, cf10_7, cf0_3, cf10_14, cf5_4, cf10_15, cf3_3, cf10_9, cf7_4, cf10_2])
  all_goals (repeat' apply And.intro)
  all_goals ((try clear hB hC); first | exact True.intro | with_reducible rfl | with_reducible assumption | (with_reducible refine vp_in_nI ?_ ?_ <;> first | omega | decide) | exact Nat.le_of_ble_eq_true rfl | (with_reducible refine ck_nzI ?_; simp; done) | (with_reducible refine ck_nzL ?_; simp; done) | (simp only [pk_us, pk_uLs, ↓reduceIte, not_true_eq_false, not_false_eq_true]; done) | (simp only [↓reduceIte, not_true_eq_false, not_false_eq_true]; with_reducible rfl) | omega | skip)

set_option maxRecDepth 100000 in
set_option maxHeartbeats 4000000 in
theorem ct_X10_count_2 (l : Launch) (G : kx_G) {P : kx_P} {sz : Nat} {sv : Value} {K : Nat → Int32} (h64 : P 64 = kO 10 (kf (cr10 sv) K)) {Al : Nat → Int32} (hA : P 65 = kO 0 (kf cr0 Al)) {Fr rc rm re rt : Nat → Int32} (hR : P 84 = kO 5 (kf cr5 Fr)) (h85 : P 85 = kI 0 100 rc) (h86 : P 86 = kI 0 100 rm) (h87 : P 87 = kI 0 100 re) (h88 : P 88 = kI 0 100 rt) {Fl la lb lt : Nat → Int32} (hL : P 89 = kO 3 (kf cr3 Fl)) (h90 : P 90 = kI 0 40 la) (h91 : P 91 = kI 0 40 lb) (h92 : P 92 = kI 0 40 lt) {Fs : Nat → Int32} (hO : P 71 = kO 7 (kf cr7 Fs)) {sd : Nat} (h4 : Fs 4 = nI sd) (hsd : sd < 2 ^ 29) (hM : P 1 = kI 5 12 cj_md) {d : Nat} (h0 : Al 0 = nI d) (hd : d ≤ 100000)  : kx_M l G sX10_count 4 0 0 [.ref 64, .int (2)] P sz (some (.int (Al 3))) P sz := by
  refine kx_mk kx_tab kxLok_X10 (ini := false) [some (.ref 64), some (.int (2))] ⟨by decide, rfl, by decide, by decide⟩ (⟨_, rfl⟩) rfl rfl (fun g hB hC => ?_)
  refine hB bX10_count_0 _ _ _ _ _ _ _ kX10_count_0 ?_
  dsimp only [bX10_count_0, kx_wp, kx_step, kx_lI, kx_lL, kx_lA, kx_gl, kx_pI, kx_pL, kx_pR, kx_pA, kx_pV, kx_s1, kx_s2, kx_sl, kx_pre, kx_c2, kx_pl, kx_cmp, kx_oF, kx_eqN, kx_nil, kx_c1, kx_ft, kx_aI, kx_aL, kx_aR, kx_ln, Nat.reduceAdd, Option.toList, List.cons_append, List.nil_append, cf10_0, cf0_0, cf10_7, cf0_3, cf10_14, cf5_4, cf10_15, cf3_3, cf10_9, cf7_4, cf10_2]
  repeat (simp only [h64, hA, hR, hL, hO, ks_eq, ks_ss]; try dsimp only [kx_wp, kx_step, kx_lI, kx_lL, kx_lA, kx_gl, kx_pI, kx_pL, kx_pR, kx_pA, kx_pV, kx_s1, kx_s2, kx_sl, kx_pre, kx_c2, kx_pl, kx_cmp, kx_oF, kx_eqN, kx_nil, kx_c1, kx_ft, kx_aI, kx_aL, kx_aR, kx_ln, Nat.reduceAdd, Option.toList, List.cons_append, List.nil_append, cf10_0, cf0_0, cf10_7, cf0_3, cf10_14, cf5_4, cf10_15, cf3_3, cf10_9, cf7_4, cf10_2])
  repeat' apply And.intro
  all_goals try (first | with_reducible assumption | (with_reducible refine ck_nzI ?_; simp; done) | (with_reducible refine ck_nzL ?_; simp; done) | (with_reducible refine vp_in_nI ?_ ?_ <;> first | omega | decide) | (with_reducible refine Nat.le_of_ble_eq_true ?_; rfl) | omega | exact Or.inl trivial | exact Or.inr trivial | exact Or.inl rfl | exact Or.inr rfl)
  · exact fun zc1 => absurd zc1 (by decide)
  refine kx_sw (ws := [52, 60, 65, 73, 81, 89, 97, 102, 110]) rfl ?_
  dsimp only [kx_swl]
  refine ⟨fun zc1_0 => absurd zc1_0 (by decide), fun zc1_1 => absurd zc1_1 (by decide), fun zc1_2 => ?_, fun zc1_3 => absurd zc1_3 (by decide), fun zc1_4 => absurd zc1_4 (by decide), fun zc1_5 => absurd zc1_5 (by decide), fun zc1_6 => absurd zc1_6 (by decide), fun zc1_7 => absurd zc1_7 (by decide), fun zc1_8 => absurd zc1_8 (by decide), trivial⟩
  refine hB bX10_count_65 _ _ _ _ _ _ _ kX10_count_65 ?_
  dsimp only [bX10_count_65, kx_wp, kx_step, kx_lI, kx_lL, kx_lA, kx_gl, kx_pI, kx_pL, kx_pR, kx_pA, kx_pV, kx_s1, kx_s2, kx_sl, kx_pre, kx_c2, kx_pl, kx_cmp, kx_oF, kx_eqN, kx_nil, kx_c1, kx_ft, kx_aI, kx_aL, kx_aR, kx_ln, Nat.reduceAdd, Option.toList, List.cons_append, List.nil_append, cf10_0, cf0_0, cf10_7, cf0_3, cf10_14, cf5_4, cf10_15, cf3_3, cf10_9, cf7_4, cf10_2]
  repeat (simp only [h64, hA, hR, hL, hO, ks_eq, ks_ss]; try dsimp only [kx_wp, kx_step, kx_lI, kx_lL, kx_lA, kx_gl, kx_pI, kx_pL, kx_pR, kx_pA, kx_pV, kx_s1, kx_s2, kx_sl, kx_pre, kx_c2, kx_pl, kx_cmp, kx_oF, kx_eqN, kx_nil, kx_c1, kx_ft, kx_aI, kx_aL, kx_aR, kx_ln, Nat.reduceAdd, Option.toList, List.cons_append, List.nil_append, cf10_0, cf0_0, cf10_7, cf0_3, cf10_14, cf5_4, cf10_15, cf3_3, cf10_9, cf7_4, cf10_2])
  all_goals (repeat' apply And.intro)
  all_goals ((try clear hB hC); first | exact True.intro | with_reducible rfl | with_reducible assumption | (with_reducible refine vp_in_nI ?_ ?_ <;> first | omega | decide) | exact Nat.le_of_ble_eq_true rfl | (with_reducible refine ck_nzI ?_; simp; done) | (with_reducible refine ck_nzL ?_; simp; done) | (simp only [pk_us, pk_uLs, ↓reduceIte, not_true_eq_false, not_false_eq_true]; done) | (simp only [↓reduceIte, not_true_eq_false, not_false_eq_true]; with_reducible rfl) | omega | skip)

set_option maxRecDepth 100000 in
set_option maxHeartbeats 4000000 in
theorem ct_X10_count_3 (l : Launch) (G : kx_G) {P : kx_P} {sz : Nat} {sv : Value} {K : Nat → Int32} (h64 : P 64 = kO 10 (kf (cr10 sv) K)) {Al : Nat → Int32} (hA : P 65 = kO 0 (kf cr0 Al)) {Fr rc rm re rt : Nat → Int32} (hR : P 84 = kO 5 (kf cr5 Fr)) (h85 : P 85 = kI 0 100 rc) (h86 : P 86 = kI 0 100 rm) (h87 : P 87 = kI 0 100 re) (h88 : P 88 = kI 0 100 rt) {Fl la lb lt : Nat → Int32} (hL : P 89 = kO 3 (kf cr3 Fl)) (h90 : P 90 = kI 0 40 la) (h91 : P 91 = kI 0 40 lb) (h92 : P 92 = kI 0 40 lt) {Fs : Nat → Int32} (hO : P 71 = kO 7 (kf cr7 Fs)) {sd : Nat} (h4 : Fs 4 = nI sd) (hsd : sd < 2 ^ 29) (hM : P 1 = kI 5 12 cj_md) {d : Nat} (h0 : Al 0 = nI d) (hd : d ≤ 100000)  : kx_M l G sX10_count 4 0 0 [.ref 64, .int (3)] P sz (some (.int (Fr 4))) P sz := by
  refine kx_mk kx_tab kxLok_X10 (ini := false) [some (.ref 64), some (.int (3))] ⟨by decide, rfl, by decide, by decide⟩ (⟨_, rfl⟩) rfl rfl (fun g hB hC => ?_)
  refine hB bX10_count_0 _ _ _ _ _ _ _ kX10_count_0 ?_
  dsimp only [bX10_count_0, kx_wp, kx_step, kx_lI, kx_lL, kx_lA, kx_gl, kx_pI, kx_pL, kx_pR, kx_pA, kx_pV, kx_s1, kx_s2, kx_sl, kx_pre, kx_c2, kx_pl, kx_cmp, kx_oF, kx_eqN, kx_nil, kx_c1, kx_ft, kx_aI, kx_aL, kx_aR, kx_ln, Nat.reduceAdd, Option.toList, List.cons_append, List.nil_append, cf10_0, cf0_0, cf10_7, cf0_3, cf10_14, cf5_4, cf10_15, cf3_3, cf10_9, cf7_4, cf10_2]
  repeat (simp only [h64, hA, hR, hL, hO, ks_eq, ks_ss]; try dsimp only [kx_wp, kx_step, kx_lI, kx_lL, kx_lA, kx_gl, kx_pI, kx_pL, kx_pR, kx_pA, kx_pV, kx_s1, kx_s2, kx_sl, kx_pre, kx_c2, kx_pl, kx_cmp, kx_oF, kx_eqN, kx_nil, kx_c1, kx_ft, kx_aI, kx_aL, kx_aR, kx_ln, Nat.reduceAdd, Option.toList, List.cons_append, List.nil_append, cf10_0, cf0_0, cf10_7, cf0_3, cf10_14, cf5_4, cf10_15, cf3_3, cf10_9, cf7_4, cf10_2])
  repeat' apply And.intro
  all_goals try (first | with_reducible assumption | (with_reducible refine ck_nzI ?_; simp; done) | (with_reducible refine ck_nzL ?_; simp; done) | (with_reducible refine vp_in_nI ?_ ?_ <;> first | omega | decide) | (with_reducible refine Nat.le_of_ble_eq_true ?_; rfl) | omega | exact Or.inl trivial | exact Or.inr trivial | exact Or.inl rfl | exact Or.inr rfl)
  · exact fun zc1 => absurd zc1 (by decide)
  refine kx_sw (ws := [52, 60, 65, 73, 81, 89, 97, 102, 110]) rfl ?_
  dsimp only [kx_swl]
  refine ⟨fun zc1_0 => absurd zc1_0 (by decide), fun zc1_1 => absurd zc1_1 (by decide), fun zc1_2 => absurd zc1_2 (by decide), fun zc1_3 => ?_, fun zc1_4 => absurd zc1_4 (by decide), fun zc1_5 => absurd zc1_5 (by decide), fun zc1_6 => absurd zc1_6 (by decide), fun zc1_7 => absurd zc1_7 (by decide), fun zc1_8 => absurd zc1_8 (by decide), trivial⟩
  refine hB bX10_count_73 _ _ _ _ _ _ _ kX10_count_73 ?_
  dsimp only [bX10_count_73, kx_wp, kx_step, kx_lI, kx_lL, kx_lA, kx_gl, kx_pI, kx_pL, kx_pR, kx_pA, kx_pV, kx_s1, kx_s2, kx_sl, kx_pre, kx_c2, kx_pl, kx_cmp, kx_oF, kx_eqN, kx_nil, kx_c1, kx_ft, kx_aI, kx_aL, kx_aR, kx_ln, Nat.reduceAdd, Option.toList, List.cons_append, List.nil_append, cf10_0, cf0_0, cf10_7, cf0_3, cf10_14, cf5_4, cf10_15, cf3_3, cf10_9, cf7_4, cf10_2]
  repeat (simp only [h64, hA, hR, hL, hO, ks_eq, ks_ss]; try dsimp only [kx_wp, kx_step, kx_lI, kx_lL, kx_lA, kx_gl, kx_pI, kx_pL, kx_pR, kx_pA, kx_pV, kx_s1, kx_s2, kx_sl, kx_pre, kx_c2, kx_pl, kx_cmp, kx_oF, kx_eqN, kx_nil, kx_c1, kx_ft, kx_aI, kx_aL, kx_aR, kx_ln, Nat.reduceAdd, Option.toList, List.cons_append, List.nil_append, cf10_0, cf0_0, cf10_7, cf0_3, cf10_14, cf5_4, cf10_15, cf3_3, cf10_9, cf7_4, cf10_2])
  all_goals (repeat' apply And.intro)
  all_goals ((try clear hB hC); first | exact True.intro | with_reducible rfl | with_reducible assumption | (with_reducible refine vp_in_nI ?_ ?_ <;> first | omega | decide) | exact Nat.le_of_ble_eq_true rfl | (with_reducible refine ck_nzI ?_; simp; done) | (with_reducible refine ck_nzL ?_; simp; done) | (simp only [pk_us, pk_uLs, ↓reduceIte, not_true_eq_false, not_false_eq_true]; done) | (simp only [↓reduceIte, not_true_eq_false, not_false_eq_true]; with_reducible rfl) | omega | skip)

set_option maxRecDepth 100000 in
set_option maxHeartbeats 4000000 in
theorem ct_X10_count_4 (l : Launch) (G : kx_G) {P : kx_P} {sz : Nat} {sv : Value} {K : Nat → Int32} (h64 : P 64 = kO 10 (kf (cr10 sv) K)) {Al : Nat → Int32} (hA : P 65 = kO 0 (kf cr0 Al)) {Fr rc rm re rt : Nat → Int32} (hR : P 84 = kO 5 (kf cr5 Fr)) (h85 : P 85 = kI 0 100 rc) (h86 : P 86 = kI 0 100 rm) (h87 : P 87 = kI 0 100 re) (h88 : P 88 = kI 0 100 rt) {Fl la lb lt : Nat → Int32} (hL : P 89 = kO 3 (kf cr3 Fl)) (h90 : P 90 = kI 0 40 la) (h91 : P 91 = kI 0 40 lb) (h92 : P 92 = kI 0 40 lt) {Fs : Nat → Int32} (hO : P 71 = kO 7 (kf cr7 Fs)) {sd : Nat} (h4 : Fs 4 = nI sd) (hsd : sd < 2 ^ 29) (hM : P 1 = kI 5 12 cj_md) {d : Nat} (h0 : Al 0 = nI d) (hd : d ≤ 100000)  : kx_M l G sX10_count 4 0 0 [.ref 64, .int (4)] P sz (some (.int (Fl 3))) P sz := by
  refine kx_mk kx_tab kxLok_X10 (ini := false) [some (.ref 64), some (.int (4))] ⟨by decide, rfl, by decide, by decide⟩ (⟨_, rfl⟩) rfl rfl (fun g hB hC => ?_)
  refine hB bX10_count_0 _ _ _ _ _ _ _ kX10_count_0 ?_
  dsimp only [bX10_count_0, kx_wp, kx_step, kx_lI, kx_lL, kx_lA, kx_gl, kx_pI, kx_pL, kx_pR, kx_pA, kx_pV, kx_s1, kx_s2, kx_sl, kx_pre, kx_c2, kx_pl, kx_cmp, kx_oF, kx_eqN, kx_nil, kx_c1, kx_ft, kx_aI, kx_aL, kx_aR, kx_ln, Nat.reduceAdd, Option.toList, List.cons_append, List.nil_append, cf10_0, cf0_0, cf10_7, cf0_3, cf10_14, cf5_4, cf10_15, cf3_3, cf10_9, cf7_4, cf10_2]
  repeat (simp only [h64, hA, hR, hL, hO, ks_eq, ks_ss]; try dsimp only [kx_wp, kx_step, kx_lI, kx_lL, kx_lA, kx_gl, kx_pI, kx_pL, kx_pR, kx_pA, kx_pV, kx_s1, kx_s2, kx_sl, kx_pre, kx_c2, kx_pl, kx_cmp, kx_oF, kx_eqN, kx_nil, kx_c1, kx_ft, kx_aI, kx_aL, kx_aR, kx_ln, Nat.reduceAdd, Option.toList, List.cons_append, List.nil_append, cf10_0, cf0_0, cf10_7, cf0_3, cf10_14, cf5_4, cf10_15, cf3_3, cf10_9, cf7_4, cf10_2])
  repeat' apply And.intro
  all_goals try (first | with_reducible assumption | (with_reducible refine ck_nzI ?_; simp; done) | (with_reducible refine ck_nzL ?_; simp; done) | (with_reducible refine vp_in_nI ?_ ?_ <;> first | omega | decide) | (with_reducible refine Nat.le_of_ble_eq_true ?_; rfl) | omega | exact Or.inl trivial | exact Or.inr trivial | exact Or.inl rfl | exact Or.inr rfl)
  · exact fun zc1 => absurd zc1 (by decide)
  refine kx_sw (ws := [52, 60, 65, 73, 81, 89, 97, 102, 110]) rfl ?_
  dsimp only [kx_swl]
  refine ⟨fun zc1_0 => absurd zc1_0 (by decide), fun zc1_1 => absurd zc1_1 (by decide), fun zc1_2 => absurd zc1_2 (by decide), fun zc1_3 => absurd zc1_3 (by decide), fun zc1_4 => ?_, fun zc1_5 => absurd zc1_5 (by decide), fun zc1_6 => absurd zc1_6 (by decide), fun zc1_7 => absurd zc1_7 (by decide), fun zc1_8 => absurd zc1_8 (by decide), trivial⟩
  refine hB bX10_count_81 _ _ _ _ _ _ _ kX10_count_81 ?_
  dsimp only [bX10_count_81, kx_wp, kx_step, kx_lI, kx_lL, kx_lA, kx_gl, kx_pI, kx_pL, kx_pR, kx_pA, kx_pV, kx_s1, kx_s2, kx_sl, kx_pre, kx_c2, kx_pl, kx_cmp, kx_oF, kx_eqN, kx_nil, kx_c1, kx_ft, kx_aI, kx_aL, kx_aR, kx_ln, Nat.reduceAdd, Option.toList, List.cons_append, List.nil_append, cf10_0, cf0_0, cf10_7, cf0_3, cf10_14, cf5_4, cf10_15, cf3_3, cf10_9, cf7_4, cf10_2]
  repeat (simp only [h64, hA, hR, hL, hO, ks_eq, ks_ss]; try dsimp only [kx_wp, kx_step, kx_lI, kx_lL, kx_lA, kx_gl, kx_pI, kx_pL, kx_pR, kx_pA, kx_pV, kx_s1, kx_s2, kx_sl, kx_pre, kx_c2, kx_pl, kx_cmp, kx_oF, kx_eqN, kx_nil, kx_c1, kx_ft, kx_aI, kx_aL, kx_aR, kx_ln, Nat.reduceAdd, Option.toList, List.cons_append, List.nil_append, cf10_0, cf0_0, cf10_7, cf0_3, cf10_14, cf5_4, cf10_15, cf3_3, cf10_9, cf7_4, cf10_2])
  all_goals (repeat' apply And.intro)
  all_goals ((try clear hB hC); first | exact True.intro | with_reducible rfl | with_reducible assumption | (with_reducible refine vp_in_nI ?_ ?_ <;> first | omega | decide) | exact Nat.le_of_ble_eq_true rfl | (with_reducible refine ck_nzI ?_; simp; done) | (with_reducible refine ck_nzL ?_; simp; done) | (simp only [pk_us, pk_uLs, ↓reduceIte, not_true_eq_false, not_false_eq_true]; done) | (simp only [↓reduceIte, not_true_eq_false, not_false_eq_true]; with_reducible rfl) | omega | skip)

set_option maxRecDepth 100000 in
set_option maxHeartbeats 4000000 in
theorem ct_X10_count_5 (l : Launch) (G : kx_G) {P : kx_P} {sz : Nat} {sv : Value} {K : Nat → Int32} (h64 : P 64 = kO 10 (kf (cr10 sv) K)) {Al : Nat → Int32} (hA : P 65 = kO 0 (kf cr0 Al)) {Fr rc rm re rt : Nat → Int32} (hR : P 84 = kO 5 (kf cr5 Fr)) (h85 : P 85 = kI 0 100 rc) (h86 : P 86 = kI 0 100 rm) (h87 : P 87 = kI 0 100 re) (h88 : P 88 = kI 0 100 rt) {Fl la lb lt : Nat → Int32} (hL : P 89 = kO 3 (kf cr3 Fl)) (h90 : P 90 = kI 0 40 la) (h91 : P 91 = kI 0 40 lb) (h92 : P 92 = kI 0 40 lt) {Fs : Nat → Int32} (hO : P 71 = kO 7 (kf cr7 Fs)) {sd : Nat} (h4 : Fs 4 = nI sd) (hsd : sd < 2 ^ 29) (hM : P 1 = kI 5 12 cj_md) {d : Nat} (h0 : Al 0 = nI d) (hd : d ≤ 100000)  : kx_M l G sX10_count 4 0 0 [.ref 64, .int (5)] P sz (some (.int (Fs 4))) P sz := by
  refine kx_mk kx_tab kxLok_X10 (ini := false) [some (.ref 64), some (.int (5))] ⟨by decide, rfl, by decide, by decide⟩ (⟨_, rfl⟩) rfl rfl (fun g hB hC => ?_)
  refine hB bX10_count_0 _ _ _ _ _ _ _ kX10_count_0 ?_
  dsimp only [bX10_count_0, kx_wp, kx_step, kx_lI, kx_lL, kx_lA, kx_gl, kx_pI, kx_pL, kx_pR, kx_pA, kx_pV, kx_s1, kx_s2, kx_sl, kx_pre, kx_c2, kx_pl, kx_cmp, kx_oF, kx_eqN, kx_nil, kx_c1, kx_ft, kx_aI, kx_aL, kx_aR, kx_ln, Nat.reduceAdd, Option.toList, List.cons_append, List.nil_append, cf10_0, cf0_0, cf10_7, cf0_3, cf10_14, cf5_4, cf10_15, cf3_3, cf10_9, cf7_4, cf10_2]
  repeat (simp only [h64, hA, hR, hL, hO, ks_eq, ks_ss]; try dsimp only [kx_wp, kx_step, kx_lI, kx_lL, kx_lA, kx_gl, kx_pI, kx_pL, kx_pR, kx_pA, kx_pV, kx_s1, kx_s2, kx_sl, kx_pre, kx_c2, kx_pl, kx_cmp, kx_oF, kx_eqN, kx_nil, kx_c1, kx_ft, kx_aI, kx_aL, kx_aR, kx_ln, Nat.reduceAdd, Option.toList, List.cons_append, List.nil_append, cf10_0, cf0_0, cf10_7, cf0_3, cf10_14, cf5_4, cf10_15, cf3_3, cf10_9, cf7_4, cf10_2])
  repeat' apply And.intro
  all_goals try (first | with_reducible assumption | (with_reducible refine ck_nzI ?_; simp; done) | (with_reducible refine ck_nzL ?_; simp; done) | (with_reducible refine vp_in_nI ?_ ?_ <;> first | omega | decide) | (with_reducible refine Nat.le_of_ble_eq_true ?_; rfl) | omega | exact Or.inl trivial | exact Or.inr trivial | exact Or.inl rfl | exact Or.inr rfl)
  · exact fun zc1 => absurd zc1 (by decide)
  refine kx_sw (ws := [52, 60, 65, 73, 81, 89, 97, 102, 110]) rfl ?_
  dsimp only [kx_swl]
  refine ⟨fun zc1_0 => absurd zc1_0 (by decide), fun zc1_1 => absurd zc1_1 (by decide), fun zc1_2 => absurd zc1_2 (by decide), fun zc1_3 => absurd zc1_3 (by decide), fun zc1_4 => absurd zc1_4 (by decide), fun zc1_5 => ?_, fun zc1_6 => absurd zc1_6 (by decide), fun zc1_7 => absurd zc1_7 (by decide), fun zc1_8 => absurd zc1_8 (by decide), trivial⟩
  refine hB bX10_count_89 _ _ _ _ _ _ _ kX10_count_89 ?_
  dsimp only [bX10_count_89, kx_wp, kx_step, kx_lI, kx_lL, kx_lA, kx_gl, kx_pI, kx_pL, kx_pR, kx_pA, kx_pV, kx_s1, kx_s2, kx_sl, kx_pre, kx_c2, kx_pl, kx_cmp, kx_oF, kx_eqN, kx_nil, kx_c1, kx_ft, kx_aI, kx_aL, kx_aR, kx_ln, Nat.reduceAdd, Option.toList, List.cons_append, List.nil_append, cf10_0, cf0_0, cf10_7, cf0_3, cf10_14, cf5_4, cf10_15, cf3_3, cf10_9, cf7_4, cf10_2]
  repeat (simp only [h64, hA, hR, hL, hO, ks_eq, ks_ss]; try dsimp only [kx_wp, kx_step, kx_lI, kx_lL, kx_lA, kx_gl, kx_pI, kx_pL, kx_pR, kx_pA, kx_pV, kx_s1, kx_s2, kx_sl, kx_pre, kx_c2, kx_pl, kx_cmp, kx_oF, kx_eqN, kx_nil, kx_c1, kx_ft, kx_aI, kx_aL, kx_aR, kx_ln, Nat.reduceAdd, Option.toList, List.cons_append, List.nil_append, cf10_0, cf0_0, cf10_7, cf0_3, cf10_14, cf5_4, cf10_15, cf3_3, cf10_9, cf7_4, cf10_2])
  all_goals (repeat' apply And.intro)
  all_goals ((try clear hB hC); first | exact True.intro | with_reducible rfl | with_reducible assumption | (with_reducible refine vp_in_nI ?_ ?_ <;> first | omega | decide) | exact Nat.le_of_ble_eq_true rfl | (with_reducible refine ck_nzI ?_; simp; done) | (with_reducible refine ck_nzL ?_; simp; done) | (simp only [pk_us, pk_uLs, ↓reduceIte, not_true_eq_false, not_false_eq_true]; done) | (simp only [↓reduceIte, not_true_eq_false, not_false_eq_true]; with_reducible rfl) | omega | skip)

set_option maxRecDepth 100000 in
set_option maxHeartbeats 4000000 in
theorem ct_X10_count_6 (l : Launch) (G : kx_G) {P : kx_P} {sz : Nat} {sv : Value} {K : Nat → Int32} (h64 : P 64 = kO 10 (kf (cr10 sv) K)) {Al : Nat → Int32} (hA : P 65 = kO 0 (kf cr0 Al)) {Fr rc rm re rt : Nat → Int32} (hR : P 84 = kO 5 (kf cr5 Fr)) (h85 : P 85 = kI 0 100 rc) (h86 : P 86 = kI 0 100 rm) (h87 : P 87 = kI 0 100 re) (h88 : P 88 = kI 0 100 rt) {Fl la lb lt : Nat → Int32} (hL : P 89 = kO 3 (kf cr3 Fl)) (h90 : P 90 = kI 0 40 la) (h91 : P 91 = kI 0 40 lb) (h92 : P 92 = kI 0 40 lt) {Fs : Nat → Int32} (hO : P 71 = kO 7 (kf cr7 Fs)) {sd : Nat} (h4 : Fs 4 = nI sd) (hsd : sd < 2 ^ 29) (hM : P 1 = kI 5 12 cj_md) {d : Nat} (h0 : Al 0 = nI d) (hd : d ≤ 100000)  : kx_M l G sX10_count 4 0 0 [.ref 64, .int (6)] P sz (some (.int (K 2))) P sz := by
  refine kx_mk kx_tab kxLok_X10 (ini := false) [some (.ref 64), some (.int (6))] ⟨by decide, rfl, by decide, by decide⟩ (⟨_, rfl⟩) rfl rfl (fun g hB hC => ?_)
  refine hB bX10_count_0 _ _ _ _ _ _ _ kX10_count_0 ?_
  dsimp only [bX10_count_0, kx_wp, kx_step, kx_lI, kx_lL, kx_lA, kx_gl, kx_pI, kx_pL, kx_pR, kx_pA, kx_pV, kx_s1, kx_s2, kx_sl, kx_pre, kx_c2, kx_pl, kx_cmp, kx_oF, kx_eqN, kx_nil, kx_c1, kx_ft, kx_aI, kx_aL, kx_aR, kx_ln, Nat.reduceAdd, Option.toList, List.cons_append, List.nil_append, cf10_0, cf0_0, cf10_7, cf0_3, cf10_14, cf5_4, cf10_15, cf3_3, cf10_9, cf7_4, cf10_2]
  repeat (simp only [h64, hA, hR, hL, hO, ks_eq, ks_ss]; try dsimp only [kx_wp, kx_step, kx_lI, kx_lL, kx_lA, kx_gl, kx_pI, kx_pL, kx_pR, kx_pA, kx_pV, kx_s1, kx_s2, kx_sl, kx_pre, kx_c2, kx_pl, kx_cmp, kx_oF, kx_eqN, kx_nil, kx_c1, kx_ft, kx_aI, kx_aL, kx_aR, kx_ln, Nat.reduceAdd, Option.toList, List.cons_append, List.nil_append, cf10_0, cf0_0, cf10_7, cf0_3, cf10_14, cf5_4, cf10_15, cf3_3, cf10_9, cf7_4, cf10_2])
  repeat' apply And.intro
  all_goals try (first | with_reducible assumption | (with_reducible refine ck_nzI ?_; simp; done) | (with_reducible refine ck_nzL ?_; simp; done) | (with_reducible refine vp_in_nI ?_ ?_ <;> first | omega | decide) | (with_reducible refine Nat.le_of_ble_eq_true ?_; rfl) | omega | exact Or.inl trivial | exact Or.inr trivial | exact Or.inl rfl | exact Or.inr rfl)
  · exact fun zc1 => absurd zc1 (by decide)
  refine kx_sw (ws := [52, 60, 65, 73, 81, 89, 97, 102, 110]) rfl ?_
  dsimp only [kx_swl]
  refine ⟨fun zc1_0 => absurd zc1_0 (by decide), fun zc1_1 => absurd zc1_1 (by decide), fun zc1_2 => absurd zc1_2 (by decide), fun zc1_3 => absurd zc1_3 (by decide), fun zc1_4 => absurd zc1_4 (by decide), fun zc1_5 => absurd zc1_5 (by decide), fun zc1_6 => ?_, fun zc1_7 => absurd zc1_7 (by decide), fun zc1_8 => absurd zc1_8 (by decide), trivial⟩
  refine hB bX10_count_97 _ _ _ _ _ _ _ kX10_count_97 ?_
  dsimp only [bX10_count_97, kx_wp, kx_step, kx_lI, kx_lL, kx_lA, kx_gl, kx_pI, kx_pL, kx_pR, kx_pA, kx_pV, kx_s1, kx_s2, kx_sl, kx_pre, kx_c2, kx_pl, kx_cmp, kx_oF, kx_eqN, kx_nil, kx_c1, kx_ft, kx_aI, kx_aL, kx_aR, kx_ln, Nat.reduceAdd, Option.toList, List.cons_append, List.nil_append, cf10_0, cf0_0, cf10_7, cf0_3, cf10_14, cf5_4, cf10_15, cf3_3, cf10_9, cf7_4, cf10_2]
  repeat (simp only [h64, hA, hR, hL, hO, ks_eq, ks_ss]; try dsimp only [kx_wp, kx_step, kx_lI, kx_lL, kx_lA, kx_gl, kx_pI, kx_pL, kx_pR, kx_pA, kx_pV, kx_s1, kx_s2, kx_sl, kx_pre, kx_c2, kx_pl, kx_cmp, kx_oF, kx_eqN, kx_nil, kx_c1, kx_ft, kx_aI, kx_aL, kx_aR, kx_ln, Nat.reduceAdd, Option.toList, List.cons_append, List.nil_append, cf10_0, cf0_0, cf10_7, cf0_3, cf10_14, cf5_4, cf10_15, cf3_3, cf10_9, cf7_4, cf10_2])
  all_goals (repeat' apply And.intro)
  all_goals ((try clear hB hC); first | exact True.intro | with_reducible rfl | with_reducible assumption | (with_reducible refine vp_in_nI ?_ ?_ <;> first | omega | decide) | exact Nat.le_of_ble_eq_true rfl | (with_reducible refine ck_nzI ?_; simp; done) | (with_reducible refine ck_nzL ?_; simp; done) | (simp only [pk_us, pk_uLs, ↓reduceIte, not_true_eq_false, not_false_eq_true]; done) | (simp only [↓reduceIte, not_true_eq_false, not_false_eq_true]; with_reducible rfl) | omega | skip)

set_option maxRecDepth 100000 in
set_option maxHeartbeats 4000000 in
theorem ct_X10_count_7 (l : Launch) (G : kx_G) {P : kx_P} {sz : Nat} {sv : Value} {K : Nat → Int32} (h64 : P 64 = kO 10 (kf (cr10 sv) K)) {Al : Nat → Int32} (hA : P 65 = kO 0 (kf cr0 Al)) {Fr rc rm re rt : Nat → Int32} (hR : P 84 = kO 5 (kf cr5 Fr)) (h85 : P 85 = kI 0 100 rc) (h86 : P 86 = kI 0 100 rm) (h87 : P 87 = kI 0 100 re) (h88 : P 88 = kI 0 100 rt) {Fl la lb lt : Nat → Int32} (hL : P 89 = kO 3 (kf cr3 Fl)) (h90 : P 90 = kI 0 40 la) (h91 : P 91 = kI 0 40 lb) (h92 : P 92 = kI 0 40 lt) {Fs : Nat → Int32} (hO : P 71 = kO 7 (kf cr7 Fs)) {sd : Nat} (h4 : Fs 4 = nI sd) (hsd : sd < 2 ^ 29) (hM : P 1 = kI 5 12 cj_md) {d : Nat} (h0 : Al 0 = nI d) (hd : d ≤ 100000)  : kx_M l G sX10_count 4 0 0 [.ref 64, .int (7)] P sz (some (.int (nI (ck_da (d / 1440) (ck_feb (Al 1)))))) P sz := by
  refine kx_mk kx_tab kxLok_X10 (ini := false) [some (.ref 64), some (.int (7))] ⟨by decide, rfl, by decide, by decide⟩ (⟨_, rfl⟩) rfl rfl (fun g hB hC => ?_)
  refine hB bX10_count_0 _ _ _ _ _ _ _ kX10_count_0 ?_
  dsimp only [bX10_count_0, kx_wp, kx_step, kx_lI, kx_lL, kx_lA, kx_gl, kx_pI, kx_pL, kx_pR, kx_pA, kx_pV, kx_s1, kx_s2, kx_sl, kx_pre, kx_c2, kx_pl, kx_cmp, kx_oF, kx_eqN, kx_nil, kx_c1, kx_ft, kx_aI, kx_aL, kx_aR, kx_ln, Nat.reduceAdd, Option.toList, List.cons_append, List.nil_append, cf10_0, cf0_0, cf10_7, cf0_3, cf10_14, cf5_4, cf10_15, cf3_3, cf10_9, cf7_4, cf10_2]
  repeat (simp only [h64, hA, hR, hL, hO, ks_eq, ks_ss]; try dsimp only [kx_wp, kx_step, kx_lI, kx_lL, kx_lA, kx_gl, kx_pI, kx_pL, kx_pR, kx_pA, kx_pV, kx_s1, kx_s2, kx_sl, kx_pre, kx_c2, kx_pl, kx_cmp, kx_oF, kx_eqN, kx_nil, kx_c1, kx_ft, kx_aI, kx_aL, kx_aR, kx_ln, Nat.reduceAdd, Option.toList, List.cons_append, List.nil_append, cf10_0, cf0_0, cf10_7, cf0_3, cf10_14, cf5_4, cf10_15, cf3_3, cf10_9, cf7_4, cf10_2])
  repeat' apply And.intro
  all_goals try (first | with_reducible assumption | (with_reducible refine ck_nzI ?_; simp; done) | (with_reducible refine ck_nzL ?_; simp; done) | (with_reducible refine vp_in_nI ?_ ?_ <;> first | omega | decide) | (with_reducible refine Nat.le_of_ble_eq_true ?_; rfl) | omega | exact Or.inl trivial | exact Or.inr trivial | exact Or.inl rfl | exact Or.inr rfl)
  · exact fun zc1 => absurd zc1 (by decide)
  refine kx_sw (ws := [52, 60, 65, 73, 81, 89, 97, 102, 110]) rfl ?_
  dsimp only [kx_swl]
  refine ⟨fun zc1_0 => absurd zc1_0 (by decide), fun zc1_1 => absurd zc1_1 (by decide), fun zc1_2 => absurd zc1_2 (by decide), fun zc1_3 => absurd zc1_3 (by decide), fun zc1_4 => absurd zc1_4 (by decide), fun zc1_5 => absurd zc1_5 (by decide), fun zc1_6 => absurd zc1_6 (by decide), fun zc1_7 => ?_, fun zc1_8 => absurd zc1_8 (by decide), trivial⟩
  refine hB bX10_count_102 _ _ _ _ _ _ _ kX10_count_102 ?_
  dsimp only [bX10_count_102, kx_wp, kx_step, kx_lI, kx_lL, kx_lA, kx_gl, kx_pI, kx_pL, kx_pR, kx_pA, kx_pV, kx_s1, kx_s2, kx_sl, kx_pre, kx_c2, kx_pl, kx_cmp, kx_oF, kx_eqN, kx_nil, kx_c1, kx_ft, kx_aI, kx_aL, kx_aR, kx_ln, Nat.reduceAdd, Option.toList, List.cons_append, List.nil_append, cf10_0, cf0_0, cf10_7, cf0_3, cf10_14, cf5_4, cf10_15, cf3_3, cf10_9, cf7_4, cf10_2]
  repeat (simp only [h64, hA, hR, hL, hO, ks_eq, ks_ss]; try dsimp only [kx_wp, kx_step, kx_lI, kx_lL, kx_lA, kx_gl, kx_pI, kx_pL, kx_pR, kx_pA, kx_pV, kx_s1, kx_s2, kx_sl, kx_pre, kx_c2, kx_pl, kx_cmp, kx_oF, kx_eqN, kx_nil, kx_c1, kx_ft, kx_aI, kx_aL, kx_aR, kx_ln, Nat.reduceAdd, Option.toList, List.cons_append, List.nil_append, cf10_0, cf0_0, cf10_7, cf0_3, cf10_14, cf5_4, cf10_15, cf3_3, cf10_9, cf7_4, cf10_2])
  repeat' apply And.intro
  all_goals try (first | with_reducible assumption | (with_reducible refine ck_nzI ?_; simp; done) | (with_reducible refine ck_nzL ?_; simp; done) | (with_reducible refine vp_in_nI ?_ ?_ <;> first | omega | decide) | (with_reducible refine Nat.le_of_ble_eq_true ?_; rfl) | omega | exact Or.inl trivial | exact Or.inr trivial | exact Or.inl rfl | exact Or.inr rfl)
  refine hC.1 347 _ _ _ _ _ _ _ 0 _ _ _ _ _ _ _ _ _ _ _ _ lX10_347 (ct_X0_trueDate l G hA hM h0 hd) ⟨by decide, rfl⟩ (by first | exact h64 | exact hA) rfl rfl (Nat.le_of_ble_eq_true rfl) (by first | decide | omega) (by decide) (by omega) (by omega) dX10_count_106 ?_
  refine hB bX10_count_109 _ _ _ _ _ _ _ kX10_count_109 ?_
  dsimp only [bX10_count_109, kx_wp, kx_step, kx_lI, kx_lL, kx_lA, kx_gl, kx_pI, kx_pL, kx_pR, kx_pA, kx_pV, kx_s1, kx_s2, kx_sl, kx_pre, kx_c2, kx_pl, kx_cmp, kx_oF, kx_eqN, kx_nil, kx_c1, kx_ft, kx_aI, kx_aL, kx_aR, kx_ln, Nat.reduceAdd, Option.toList, List.cons_append, List.nil_append, cf10_0, cf0_0, cf10_7, cf0_3, cf10_14, cf5_4, cf10_15, cf3_3, cf10_9, cf7_4, cf10_2]
  repeat (simp only [h64, hA, hR, hL, hO, ks_eq, ks_ss]; try dsimp only [kx_wp, kx_step, kx_lI, kx_lL, kx_lA, kx_gl, kx_pI, kx_pL, kx_pR, kx_pA, kx_pV, kx_s1, kx_s2, kx_sl, kx_pre, kx_c2, kx_pl, kx_cmp, kx_oF, kx_eqN, kx_nil, kx_c1, kx_ft, kx_aI, kx_aL, kx_aR, kx_ln, Nat.reduceAdd, Option.toList, List.cons_append, List.nil_append, cf10_0, cf0_0, cf10_7, cf0_3, cf10_14, cf5_4, cf10_15, cf3_3, cf10_9, cf7_4, cf10_2])
  all_goals (repeat' apply And.intro)
  all_goals ((try clear hB hC); first | exact True.intro | with_reducible rfl | with_reducible assumption | (with_reducible refine vp_in_nI ?_ ?_ <;> first | omega | decide) | exact Nat.le_of_ble_eq_true rfl | (with_reducible refine ck_nzI ?_; simp; done) | (with_reducible refine ck_nzL ?_; simp; done) | (simp only [pk_us, pk_uLs, ↓reduceIte, not_true_eq_false, not_false_eq_true]; done) | (simp only [↓reduceIte, not_true_eq_false, not_false_eq_true]; with_reducible rfl) | omega | skip)

set_option maxRecDepth 100000 in
set_option maxHeartbeats 4000000 in
theorem ct_X10_count_8 (l : Launch) (G : kx_G) {P : kx_P} {sz : Nat} {sv : Value} {K : Nat → Int32} (h64 : P 64 = kO 10 (kf (cr10 sv) K)) {Al : Nat → Int32} (hA : P 65 = kO 0 (kf cr0 Al)) {Fr rc rm re rt : Nat → Int32} (hR : P 84 = kO 5 (kf cr5 Fr)) (h85 : P 85 = kI 0 100 rc) (h86 : P 86 = kI 0 100 rm) (h87 : P 87 = kI 0 100 re) (h88 : P 88 = kI 0 100 rt) {Fl la lb lt : Nat → Int32} (hL : P 89 = kO 3 (kf cr3 Fl)) (h90 : P 90 = kI 0 40 la) (h91 : P 91 = kI 0 40 lb) (h92 : P 92 = kI 0 40 lt) {Fs : Nat → Int32} (hO : P 71 = kO 7 (kf cr7 Fs)) {sd : Nat} (h4 : Fs 4 = nI sd) (hsd : sd < 2 ^ 29) (hM : P 1 = kI 5 12 cj_md) {d : Nat} (h0 : Al 0 = nI d) (hd : d ≤ 100000)  : kx_M l G sX10_count 4 0 0 [.ref 64, .int (8)] P sz (some (.int (nI (ck_mo (d / 1440) (ck_feb (Al 1)))))) P sz := by
  refine kx_mk kx_tab kxLok_X10 (ini := false) [some (.ref 64), some (.int (8))] ⟨by decide, rfl, by decide, by decide⟩ (⟨_, rfl⟩) rfl rfl (fun g hB hC => ?_)
  refine hB bX10_count_0 _ _ _ _ _ _ _ kX10_count_0 ?_
  dsimp only [bX10_count_0, kx_wp, kx_step, kx_lI, kx_lL, kx_lA, kx_gl, kx_pI, kx_pL, kx_pR, kx_pA, kx_pV, kx_s1, kx_s2, kx_sl, kx_pre, kx_c2, kx_pl, kx_cmp, kx_oF, kx_eqN, kx_nil, kx_c1, kx_ft, kx_aI, kx_aL, kx_aR, kx_ln, Nat.reduceAdd, Option.toList, List.cons_append, List.nil_append, cf10_0, cf0_0, cf10_7, cf0_3, cf10_14, cf5_4, cf10_15, cf3_3, cf10_9, cf7_4, cf10_2]
  repeat (simp only [h64, hA, hR, hL, hO, ks_eq, ks_ss]; try dsimp only [kx_wp, kx_step, kx_lI, kx_lL, kx_lA, kx_gl, kx_pI, kx_pL, kx_pR, kx_pA, kx_pV, kx_s1, kx_s2, kx_sl, kx_pre, kx_c2, kx_pl, kx_cmp, kx_oF, kx_eqN, kx_nil, kx_c1, kx_ft, kx_aI, kx_aL, kx_aR, kx_ln, Nat.reduceAdd, Option.toList, List.cons_append, List.nil_append, cf10_0, cf0_0, cf10_7, cf0_3, cf10_14, cf5_4, cf10_15, cf3_3, cf10_9, cf7_4, cf10_2])
  repeat' apply And.intro
  all_goals try (first | with_reducible assumption | (with_reducible refine ck_nzI ?_; simp; done) | (with_reducible refine ck_nzL ?_; simp; done) | (with_reducible refine vp_in_nI ?_ ?_ <;> first | omega | decide) | (with_reducible refine Nat.le_of_ble_eq_true ?_; rfl) | omega | exact Or.inl trivial | exact Or.inr trivial | exact Or.inl rfl | exact Or.inr rfl)
  · exact fun zc1 => absurd zc1 (by decide)
  refine kx_sw (ws := [52, 60, 65, 73, 81, 89, 97, 102, 110]) rfl ?_
  dsimp only [kx_swl]
  refine ⟨fun zc1_0 => absurd zc1_0 (by decide), fun zc1_1 => absurd zc1_1 (by decide), fun zc1_2 => absurd zc1_2 (by decide), fun zc1_3 => absurd zc1_3 (by decide), fun zc1_4 => absurd zc1_4 (by decide), fun zc1_5 => absurd zc1_5 (by decide), fun zc1_6 => absurd zc1_6 (by decide), fun zc1_7 => absurd zc1_7 (by decide), fun zc1_8 => ?_, trivial⟩
  refine hB bX10_count_110 _ _ _ _ _ _ _ kX10_count_110 ?_
  dsimp only [bX10_count_110, kx_wp, kx_step, kx_lI, kx_lL, kx_lA, kx_gl, kx_pI, kx_pL, kx_pR, kx_pA, kx_pV, kx_s1, kx_s2, kx_sl, kx_pre, kx_c2, kx_pl, kx_cmp, kx_oF, kx_eqN, kx_nil, kx_c1, kx_ft, kx_aI, kx_aL, kx_aR, kx_ln, Nat.reduceAdd, Option.toList, List.cons_append, List.nil_append, cf10_0, cf0_0, cf10_7, cf0_3, cf10_14, cf5_4, cf10_15, cf3_3, cf10_9, cf7_4, cf10_2]
  repeat (simp only [h64, hA, hR, hL, hO, ks_eq, ks_ss]; try dsimp only [kx_wp, kx_step, kx_lI, kx_lL, kx_lA, kx_gl, kx_pI, kx_pL, kx_pR, kx_pA, kx_pV, kx_s1, kx_s2, kx_sl, kx_pre, kx_c2, kx_pl, kx_cmp, kx_oF, kx_eqN, kx_nil, kx_c1, kx_ft, kx_aI, kx_aL, kx_aR, kx_ln, Nat.reduceAdd, Option.toList, List.cons_append, List.nil_append, cf10_0, cf0_0, cf10_7, cf0_3, cf10_14, cf5_4, cf10_15, cf3_3, cf10_9, cf7_4, cf10_2])
  repeat' apply And.intro
  all_goals try (first | with_reducible assumption | (with_reducible refine ck_nzI ?_; simp; done) | (with_reducible refine ck_nzL ?_; simp; done) | (with_reducible refine vp_in_nI ?_ ?_ <;> first | omega | decide) | (with_reducible refine Nat.le_of_ble_eq_true ?_; rfl) | omega | exact Or.inl trivial | exact Or.inr trivial | exact Or.inl rfl | exact Or.inr rfl)
  refine hC.1 350 _ _ _ _ _ _ _ 0 _ _ _ _ _ _ _ _ _ _ _ _ lX10_350 (ct_X0_trueMonth l G hA hM h0 hd) ⟨by decide, rfl⟩ (by first | exact h64 | exact hA) rfl rfl (Nat.le_of_ble_eq_true rfl) (by first | decide | omega) (by decide) (by omega) (by omega) dX10_count_114 ?_
  refine hB bX10_count_117 _ _ _ _ _ _ _ kX10_count_117 ?_
  dsimp only [bX10_count_117, kx_wp, kx_step, kx_lI, kx_lL, kx_lA, kx_gl, kx_pI, kx_pL, kx_pR, kx_pA, kx_pV, kx_s1, kx_s2, kx_sl, kx_pre, kx_c2, kx_pl, kx_cmp, kx_oF, kx_eqN, kx_nil, kx_c1, kx_ft, kx_aI, kx_aL, kx_aR, kx_ln, Nat.reduceAdd, Option.toList, List.cons_append, List.nil_append, cf10_0, cf0_0, cf10_7, cf0_3, cf10_14, cf5_4, cf10_15, cf3_3, cf10_9, cf7_4, cf10_2]
  repeat (simp only [h64, hA, hR, hL, hO, ks_eq, ks_ss]; try dsimp only [kx_wp, kx_step, kx_lI, kx_lL, kx_lA, kx_gl, kx_pI, kx_pL, kx_pR, kx_pA, kx_pV, kx_s1, kx_s2, kx_sl, kx_pre, kx_c2, kx_pl, kx_cmp, kx_oF, kx_eqN, kx_nil, kx_c1, kx_ft, kx_aI, kx_aL, kx_aR, kx_ln, Nat.reduceAdd, Option.toList, List.cons_append, List.nil_append, cf10_0, cf0_0, cf10_7, cf0_3, cf10_14, cf5_4, cf10_15, cf3_3, cf10_9, cf7_4, cf10_2])
  all_goals (repeat' apply And.intro)
  all_goals ((try clear hB hC); first | exact True.intro | with_reducible rfl | with_reducible assumption | (with_reducible refine vp_in_nI ?_ ?_ <;> first | omega | decide) | exact Nat.le_of_ble_eq_true rfl | (with_reducible refine ck_nzI ?_; simp; done) | (with_reducible refine ck_nzL ?_; simp; done) | (simp only [pk_us, pk_uLs, ↓reduceIte, not_true_eq_false, not_false_eq_true]; done) | (simp only [↓reduceIte, not_true_eq_false, not_false_eq_true]; with_reducible rfl) | omega | skip)

set_option maxRecDepth 100000 in
set_option maxHeartbeats 4000000 in
theorem ct_X10_count_o (l : Launch) (G : kx_G) {P : kx_P} {sz : Nat} {w : Int32} (hw : ¬ w = 0 ∧ ¬ w = 1 ∧ ¬ w = 2 ∧ ¬ w = 3 ∧ ¬ w = 4 ∧ ¬ w = 5 ∧ ¬ w = 6 ∧ ¬ w = 7 ∧ ¬ w = 8)  : kx_M l G sX10_count 1 0 0 [.ref 64, .int (w)] P sz (some (.int (-1))) P sz := by
  refine kx_mk kx_tab kxLok_X10 (ini := false) [some (.ref 64), some (.int (w))] ⟨by decide, rfl, by decide, by decide⟩ (⟨_, rfl⟩) rfl rfl (fun g hB hC => ?_)
  refine hB bX10_count_0 _ _ _ _ _ _ _ kX10_count_0 ?_
  dsimp only [bX10_count_0, kx_wp, kx_step, kx_lI, kx_lL, kx_lA, kx_gl, kx_pI, kx_pL, kx_pR, kx_pA, kx_pV, kx_s1, kx_s2, kx_sl, kx_pre, kx_c2, kx_pl, kx_cmp, kx_oF, kx_eqN, kx_nil, kx_c1, kx_ft, kx_aI, kx_aL, kx_aR, kx_ln, Nat.reduceAdd, Option.toList, List.cons_append, List.nil_append, cf10_0, cf0_0, cf10_7, cf0_3, cf10_14, cf5_4, cf10_15, cf3_3, cf10_9, cf7_4, cf10_2]
  repeat (simp only [ks_eq, ks_ss]; try dsimp only [kx_wp, kx_step, kx_lI, kx_lL, kx_lA, kx_gl, kx_pI, kx_pL, kx_pR, kx_pA, kx_pV, kx_s1, kx_s2, kx_sl, kx_pre, kx_c2, kx_pl, kx_cmp, kx_oF, kx_eqN, kx_nil, kx_c1, kx_ft, kx_aI, kx_aL, kx_aR, kx_ln, Nat.reduceAdd, Option.toList, List.cons_append, List.nil_append, cf10_0, cf0_0, cf10_7, cf0_3, cf10_14, cf5_4, cf10_15, cf3_3, cf10_9, cf7_4, cf10_2])
  repeat' apply And.intro
  all_goals try (first | with_reducible assumption | (with_reducible refine ck_nzI ?_; simp; done) | (with_reducible refine ck_nzL ?_; simp; done) | (with_reducible refine vp_in_nI ?_ ?_ <;> first | omega | decide) | (with_reducible refine Nat.le_of_ble_eq_true ?_; rfl) | omega | exact Or.inl trivial | exact Or.inr trivial | exact Or.inl rfl | exact Or.inr rfl)
  · intro zc1
    have zn1_0 : ¬ w = 0 := fun h => by rw [h] at zc1; exact absurd zc1 (by decide)
    have zn1_1 : ¬ w = 1 := fun h => by rw [h] at zc1; exact absurd zc1 (by decide)
    have zn1_2 : ¬ w = 2 := fun h => by rw [h] at zc1; exact absurd zc1 (by decide)
    have zn1_3 : ¬ w = 3 := fun h => by rw [h] at zc1; exact absurd zc1 (by decide)
    have zn1_4 : ¬ w = 4 := fun h => by rw [h] at zc1; exact absurd zc1 (by decide)
    have zn1_5 : ¬ w = 5 := fun h => by rw [h] at zc1; exact absurd zc1 (by decide)
    have zn1_6 : ¬ w = 6 := fun h => by rw [h] at zc1; exact absurd zc1 (by decide)
    have zn1_7 : ¬ w = 7 := fun h => by rw [h] at zc1; exact absurd zc1 (by decide)
    have zn1_8 : ¬ w = 8 := fun h => by rw [h] at zc1; exact absurd zc1 (by decide)
    refine hB bX10_count_118 _ _ _ _ _ _ _ kX10_count_118 ?_
    dsimp only [bX10_count_118, kx_wp, kx_step, kx_lI, kx_lL, kx_lA, kx_gl, kx_pI, kx_pL, kx_pR, kx_pA, kx_pV, kx_s1, kx_s2, kx_sl, kx_pre, kx_c2, kx_pl, kx_cmp, kx_oF, kx_eqN, kx_nil, kx_c1, kx_ft, kx_aI, kx_aL, kx_aR, kx_ln, Nat.reduceAdd, Option.toList, List.cons_append, List.nil_append, cf10_0, cf0_0, cf10_7, cf0_3, cf10_14, cf5_4, cf10_15, cf3_3, cf10_9, cf7_4, cf10_2]
    repeat (simp only [ks_eq, ks_ss]; try dsimp only [kx_wp, kx_step, kx_lI, kx_lL, kx_lA, kx_gl, kx_pI, kx_pL, kx_pR, kx_pA, kx_pV, kx_s1, kx_s2, kx_sl, kx_pre, kx_c2, kx_pl, kx_cmp, kx_oF, kx_eqN, kx_nil, kx_c1, kx_ft, kx_aI, kx_aL, kx_aR, kx_ln, Nat.reduceAdd, Option.toList, List.cons_append, List.nil_append, cf10_0, cf0_0, cf10_7, cf0_3, cf10_14, cf5_4, cf10_15, cf3_3, cf10_9, cf7_4, cf10_2])
    all_goals (repeat' apply And.intro)
    all_goals ((try clear hB hC); first | exact True.intro | with_reducible rfl | with_reducible assumption | (with_reducible refine vp_in_nI ?_ ?_ <;> first | omega | decide) | exact Nat.le_of_ble_eq_true rfl | (with_reducible refine ck_nzI ?_; simp; done) | (with_reducible refine ck_nzL ?_; simp; done) | (simp only [pk_us, pk_uLs, zn1_0, zn1_1, zn1_2, zn1_3, zn1_4, zn1_5, zn1_6, zn1_7, zn1_8, ↓reduceIte, not_true_eq_false, not_false_eq_true]; done) | (simp only [zn1_0, zn1_1, zn1_2, zn1_3, zn1_4, zn1_5, zn1_6, zn1_7, zn1_8, ↓reduceIte, not_true_eq_false, not_false_eq_true]; with_reducible rfl) | omega | skip)
  refine kx_sw (ws := [52, 60, 65, 73, 81, 89, 97, 102, 110]) rfl ?_
  dsimp only [kx_swl]
  refine ⟨fun zc1_0 => ?_, fun zc1_1 => ?_, fun zc1_2 => ?_, fun zc1_3 => ?_, fun zc1_4 => ?_, fun zc1_5 => ?_, fun zc1_6 => ?_, fun zc1_7 => ?_, fun zc1_8 => ?_, trivial⟩
  · have ze1_0 : w = 0 := Int32.toInt_inj.mp (zc1_0.trans (by decide))
    have zn1_1 : ¬ w = 1 := by rw [ze1_0]; decide
    have zn1_2 : ¬ w = 2 := by rw [ze1_0]; decide
    have zn1_3 : ¬ w = 3 := by rw [ze1_0]; decide
    have zn1_4 : ¬ w = 4 := by rw [ze1_0]; decide
    have zn1_5 : ¬ w = 5 := by rw [ze1_0]; decide
    have zn1_6 : ¬ w = 6 := by rw [ze1_0]; decide
    have zn1_7 : ¬ w = 7 := by rw [ze1_0]; decide
    have zn1_8 : ¬ w = 8 := by rw [ze1_0]; decide
    exact absurd ze1_0 hw.1
  · have ze1_1 : w = 1 := Int32.toInt_inj.mp (zc1_1.trans (by decide))
    have zn1_0 : ¬ w = 0 := by rw [ze1_1]; decide
    have zn1_2 : ¬ w = 2 := by rw [ze1_1]; decide
    have zn1_3 : ¬ w = 3 := by rw [ze1_1]; decide
    have zn1_4 : ¬ w = 4 := by rw [ze1_1]; decide
    have zn1_5 : ¬ w = 5 := by rw [ze1_1]; decide
    have zn1_6 : ¬ w = 6 := by rw [ze1_1]; decide
    have zn1_7 : ¬ w = 7 := by rw [ze1_1]; decide
    have zn1_8 : ¬ w = 8 := by rw [ze1_1]; decide
    exact absurd ze1_1 hw.2.1
  · have ze1_2 : w = 2 := Int32.toInt_inj.mp (zc1_2.trans (by decide))
    have zn1_0 : ¬ w = 0 := by rw [ze1_2]; decide
    have zn1_1 : ¬ w = 1 := by rw [ze1_2]; decide
    have zn1_3 : ¬ w = 3 := by rw [ze1_2]; decide
    have zn1_4 : ¬ w = 4 := by rw [ze1_2]; decide
    have zn1_5 : ¬ w = 5 := by rw [ze1_2]; decide
    have zn1_6 : ¬ w = 6 := by rw [ze1_2]; decide
    have zn1_7 : ¬ w = 7 := by rw [ze1_2]; decide
    have zn1_8 : ¬ w = 8 := by rw [ze1_2]; decide
    exact absurd ze1_2 hw.2.2.1
  · have ze1_3 : w = 3 := Int32.toInt_inj.mp (zc1_3.trans (by decide))
    have zn1_0 : ¬ w = 0 := by rw [ze1_3]; decide
    have zn1_1 : ¬ w = 1 := by rw [ze1_3]; decide
    have zn1_2 : ¬ w = 2 := by rw [ze1_3]; decide
    have zn1_4 : ¬ w = 4 := by rw [ze1_3]; decide
    have zn1_5 : ¬ w = 5 := by rw [ze1_3]; decide
    have zn1_6 : ¬ w = 6 := by rw [ze1_3]; decide
    have zn1_7 : ¬ w = 7 := by rw [ze1_3]; decide
    have zn1_8 : ¬ w = 8 := by rw [ze1_3]; decide
    exact absurd ze1_3 hw.2.2.2.1
  · have ze1_4 : w = 4 := Int32.toInt_inj.mp (zc1_4.trans (by decide))
    have zn1_0 : ¬ w = 0 := by rw [ze1_4]; decide
    have zn1_1 : ¬ w = 1 := by rw [ze1_4]; decide
    have zn1_2 : ¬ w = 2 := by rw [ze1_4]; decide
    have zn1_3 : ¬ w = 3 := by rw [ze1_4]; decide
    have zn1_5 : ¬ w = 5 := by rw [ze1_4]; decide
    have zn1_6 : ¬ w = 6 := by rw [ze1_4]; decide
    have zn1_7 : ¬ w = 7 := by rw [ze1_4]; decide
    have zn1_8 : ¬ w = 8 := by rw [ze1_4]; decide
    exact absurd ze1_4 hw.2.2.2.2.1
  · have ze1_5 : w = 5 := Int32.toInt_inj.mp (zc1_5.trans (by decide))
    have zn1_0 : ¬ w = 0 := by rw [ze1_5]; decide
    have zn1_1 : ¬ w = 1 := by rw [ze1_5]; decide
    have zn1_2 : ¬ w = 2 := by rw [ze1_5]; decide
    have zn1_3 : ¬ w = 3 := by rw [ze1_5]; decide
    have zn1_4 : ¬ w = 4 := by rw [ze1_5]; decide
    have zn1_6 : ¬ w = 6 := by rw [ze1_5]; decide
    have zn1_7 : ¬ w = 7 := by rw [ze1_5]; decide
    have zn1_8 : ¬ w = 8 := by rw [ze1_5]; decide
    exact absurd ze1_5 hw.2.2.2.2.2.1
  · have ze1_6 : w = 6 := Int32.toInt_inj.mp (zc1_6.trans (by decide))
    have zn1_0 : ¬ w = 0 := by rw [ze1_6]; decide
    have zn1_1 : ¬ w = 1 := by rw [ze1_6]; decide
    have zn1_2 : ¬ w = 2 := by rw [ze1_6]; decide
    have zn1_3 : ¬ w = 3 := by rw [ze1_6]; decide
    have zn1_4 : ¬ w = 4 := by rw [ze1_6]; decide
    have zn1_5 : ¬ w = 5 := by rw [ze1_6]; decide
    have zn1_7 : ¬ w = 7 := by rw [ze1_6]; decide
    have zn1_8 : ¬ w = 8 := by rw [ze1_6]; decide
    exact absurd ze1_6 hw.2.2.2.2.2.2.1
  · have ze1_7 : w = 7 := Int32.toInt_inj.mp (zc1_7.trans (by decide))
    have zn1_0 : ¬ w = 0 := by rw [ze1_7]; decide
    have zn1_1 : ¬ w = 1 := by rw [ze1_7]; decide
    have zn1_2 : ¬ w = 2 := by rw [ze1_7]; decide
    have zn1_3 : ¬ w = 3 := by rw [ze1_7]; decide
    have zn1_4 : ¬ w = 4 := by rw [ze1_7]; decide
    have zn1_5 : ¬ w = 5 := by rw [ze1_7]; decide
    have zn1_6 : ¬ w = 6 := by rw [ze1_7]; decide
    have zn1_8 : ¬ w = 8 := by rw [ze1_7]; decide
    exact absurd ze1_7 hw.2.2.2.2.2.2.2.1
  · have ze1_8 : w = 8 := Int32.toInt_inj.mp (zc1_8.trans (by decide))
    have zn1_0 : ¬ w = 0 := by rw [ze1_8]; decide
    have zn1_1 : ¬ w = 1 := by rw [ze1_8]; decide
    have zn1_2 : ¬ w = 2 := by rw [ze1_8]; decide
    have zn1_3 : ¬ w = 3 := by rw [ze1_8]; decide
    have zn1_4 : ¬ w = 4 := by rw [ze1_8]; decide
    have zn1_5 : ¬ w = 5 := by rw [ze1_8]; decide
    have zn1_6 : ¬ w = 6 := by rw [ze1_8]; decide
    have zn1_7 : ¬ w = 7 := by rw [ze1_8]; decide
    exact absurd ze1_8 hw.2.2.2.2.2.2.2.2


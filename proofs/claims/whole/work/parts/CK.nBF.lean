def bX10_leaveUnread_0 : List kx_O := [(.aload_n 0, 0, 0, 0, .null), (.iconst 0, 0, 0, 0, .int 0), (.putfield 20, 10, 2, 0, .null), (.aload_n 0, 0, 0, 0, .null), (.iconst (-1), 0, 0, 0, .int (-1)), (.putfield 35, 10, 5, 0, .null), (.return_, 0, 0, 0, .null)]
theorem kX10_leaveUnread_0 : kx_oks kxL_X10 false cX10_leaveUnread 0 bX10_leaveUnread_0 = true := by decide +kernel
set_option maxRecDepth 100000 in
set_option maxHeartbeats 4000000 in
theorem ct_X10_leaveUnread (l : Launch) (G : kx_G) {P : kx_P} {sz : Nat} {sv : Value} {K : Nat → Int32} (h64 : P 64 = kO 10 (kf (cr10 sv) K))  : kx_M l G sX10_leaveUnread 1 0 0 [.ref 64] P sz none (kx_set P 64 (kO 10 (kf (cr10 sv) (upd (upd K 2 0) 5 (-1))))) sz := by
  refine kx_mk kx_tab kxLok_X10 (ini := false) [some (.ref 64)] ⟨by decide, rfl, by decide, by decide⟩ (rfl) rfl rfl (fun g hB hC => ?_)
  refine hB bX10_leaveUnread_0 _ _ _ _ _ _ _ kX10_leaveUnread_0 ?_
  dsimp only [bX10_leaveUnread_0, kx_wp, kx_step, kx_lI, kx_lL, kx_lA, kx_gl, kx_pI, kx_pL, kx_pR, kx_pA, kx_pV, kx_s1, kx_s2, kx_sl, kx_pre, kx_c2, kx_pl, kx_cmp, kx_oF, kx_eqN, kx_nil, kx_c1, kx_ft, kx_aI, kx_aL, kx_aR, kx_ln, Nat.reduceAdd, Option.toList, List.cons_append, List.nil_append, cf10_2, cf10_5]
  repeat (simp only [h64, cp10_2, cp10_5, ks_eq, ks_ss]; try dsimp only [kx_wp, kx_step, kx_lI, kx_lL, kx_lA, kx_gl, kx_pI, kx_pL, kx_pR, kx_pA, kx_pV, kx_s1, kx_s2, kx_sl, kx_pre, kx_c2, kx_pl, kx_cmp, kx_oF, kx_eqN, kx_nil, kx_c1, kx_ft, kx_aI, kx_aL, kx_aR, kx_ln, Nat.reduceAdd, Option.toList, List.cons_append, List.nil_append, cf10_2, cf10_5])
  all_goals (repeat' apply And.intro)
  all_goals ((try clear hB hC); first | exact True.intro | with_reducible rfl | with_reducible assumption | (with_reducible refine vp_in_nI ?_ ?_ <;> first | omega | decide) | exact Nat.le_of_ble_eq_true rfl | (with_reducible refine ck_nzI ?_; simp; done) | (with_reducible refine ck_nzL ?_; simp; done) | (simp only [pk_us, pk_uLs, ↓reduceIte, not_true_eq_false, not_false_eq_true]; done) | (simp only [↓reduceIte, not_true_eq_false, not_false_eq_true]; with_reducible rfl) | omega | skip)

def bX10_clock_0 : List kx_O := [(.iload_n 1, 1, 0, 0, .null), (.iload_n 2, 2, 0, 0, .null)]
theorem kX10_clock_0 : kx_oks kxL_X10 false cX10_clock 0 bX10_clock_0 = true := by decide +kernel
def bX10_clock_5 : List kx_O := [(.ifCond .eq 15, 20, 0, 0, .null)]
theorem kX10_clock_5 : kx_oks kxL_X10 false cX10_clock 5 bX10_clock_5 = true := by decide +kernel
def bX10_clock_8 : List kx_O := [(.aload_n 0, 0, 0, 0, .null), (.iload_n 3, 3, 0, 0, .null)]
theorem kX10_clock_8 : kx_oks kxL_X10 false cX10_clock 8 bX10_clock_8 = true := by decide +kernel
def bX10_clock_13 : List kx_O := [(.ifCond .eq 7, 20, 0, 0, .null)]
theorem kX10_clock_13 : kx_oks kxL_X10 false cX10_clock 13 bX10_clock_13 = true := by decide +kernel
def bX10_clock_16 : List kx_O := [(.iconst 1, 0, 0, 0, .int 1), (.goto 4, 21, 0, 0, .null)]
theorem kX10_clock_16 : kx_oks kxL_X10 false cX10_clock 16 bX10_clock_16 = true := by decide +kernel
def bX10_clock_20 : List kx_O := [(.iconst 0, 0, 0, 0, .int 0)]
theorem kX10_clock_20 : kx_oks kxL_X10 false cX10_clock 20 bX10_clock_20 = true := by decide +kernel
def bX10_clock_24 : List kx_O := [(.aload_n 0, 0, 0, 0, .null), (.getfield 44, 10, 7, 0, .null), (.bipush 8, 0, 0, 0, .int 8), (.if_icmp .lt 9, 39, 0, 0, .null)]
theorem kX10_clock_24 : kx_oks kxL_X10 false cX10_clock 24 bX10_clock_24 = true := by decide +kernel
def bX10_clock_33 : List kx_O := [(.aload_n 0, 0, 0, 0, .null)]
theorem kX10_clock_33 : kx_oks kxL_X10 false cX10_clock 33 bX10_clock_33 = true := by decide +kernel
def bX10_clock_37 : List kx_O := [(.iconst (-1), 0, 0, 0, .int (-1)), (.ireturn, 0, 0, 0, .null)]
theorem kX10_clock_37 : kx_oks kxL_X10 false cX10_clock 37 bX10_clock_37 = true := by decide +kernel
def bX10_clock_39 : List kx_O := [(.aload_n 0, 0, 0, 0, .null), (.iload_n 3, 3, 0, 0, .null)]
theorem kX10_clock_39 : kx_oks kxL_X10 false cX10_clock 39 bX10_clock_39 = true := by decide +kernel
def bX10_clock_44 : List kx_O := [(.istore 4, 4, 0, 0, .null), (.iload 4, 4, 0, 0, .null), (.ifCond .eq 9, 57, 0, 0, .null)]
theorem kX10_clock_44 : kx_oks kxL_X10 false cX10_clock 44 bX10_clock_44 = true := by decide +kernel
def bX10_clock_51 : List kx_O := [(.iload 4, 4, 0, 0, .null), (.bipush 10, 0, 0, 0, .int 10), (.isub, 0, 0, 0, .null), (.ireturn, 0, 0, 0, .null)]
theorem kX10_clock_51 : kx_oks kxL_X10 false cX10_clock 51 bX10_clock_51 = true := by decide +kernel
def bX10_clock_57 : List kx_O := [(.new 38, 1, 0, 0, .null), (.dup, 0, 0, 0, .null), (.iload_n 1, 1, 0, 0, .null), (.iload_n 2, 2, 0, 0, .null)]
theorem kX10_clock_57 : kx_oks kxL_X10 false cX10_clock 57 bX10_clock_57 = true := by decide +kernel
def bX10_clock_66 : List kx_O := [(.astore 5, 5, 0, 0, .null), (.aload 5, 5, 0, 0, .null), (.aload_n 0, 0, 0, 0, .null), (.getfield 31, 10, 4, 0, .null), (.aload_n 0, 0, 0, 0, .null), (.getfield 12, 10, 0, 0, .null)]
theorem kX10_clock_66 : kx_oks kxL_X10 false cX10_clock 66 bX10_clock_66 = true := by decide +kernel
def bX10_clock_81 : List kx_O := [(.aload_n 0, 0, 0, 0, .null), (.aconst_null, 0, 0, 0, .null), (.putfield 31, 10, 4, 3, .null), (.aload_n 0, 0, 0, 0, .null), (.getfield 40, 10, 6, 0, .null), (.aload_n 0, 0, 0, 0, .null), (.getfield 44, 10, 7, 0, .null), (.aload 5, 5, 0, 0, .null), (.aastore, 0, 0, 0, .null), (.aload_n 0, 0, 0, 0, .null), (.dup, 0, 0, 0, .null), (.getfield 44, 10, 7, 0, .null), (.iconst 1, 0, 0, 0, .int 1), (.iadd, 0, 0, 0, .null), (.putfield 44, 10, 7, 0, .null), (.aload_n 0, 0, 0, 0, .null), (.getfield 44, 10, 7, 0, .null), (.iconst 1, 0, 0, 0, .int 1), (.isub, 0, 0, 0, .null), (.ireturn, 0, 0, 0, .null)]
theorem kX10_clock_81 : kx_oks kxL_X10 false cX10_clock 81 bX10_clock_81 = true := by decide +kernel
theorem dX10_clock_2 : decode cX10_clock 2 = .ok (.invokestatic 111, 3) := by decide +kernel
theorem dX10_clock_10 : decode cX10_clock 10 = .ok (.invokevirtual 115, 3) := by decide +kernel
theorem dX10_clock_21 : decode cX10_clock 21 = .ok (.invokestatic 95, 3) := by decide +kernel
theorem dX10_clock_34 : decode cX10_clock 34 = .ok (.invokevirtual 119, 3) := by decide +kernel
theorem dX10_clock_41 : decode cX10_clock 41 = .ok (.invokevirtual 122, 3) := by decide +kernel
theorem dX10_clock_63 : decode cX10_clock 63 = .ok (.invokespecial 47, 3) := by decide +kernel
theorem dX10_clock_78 : decode cX10_clock 78 = .ok (.invokevirtual 125, 3) := by decide +kernel
set_option maxRecDepth 100000 in
set_option maxHeartbeats 4000000 in
theorem ct_X10_clock_8 (l : Launch) (G : kx_G) {P : kx_P} {sz : Nat} {sv : Value} {K : Nat → Int32} (h64 : P 64 = kO 10 (kf (cr10 sv) K)) {x y : Int32} (hip : cx_ip x y = 1) {n : Nat} (hit : cx_it (nI n) (K 2) = 1) (h7 : K 7 = 8)  : kx_M l G sX10_clock 3 0 0 [.ref 64, .int (x), .int (y), .int (nI n)] P sz (some (.int (-1))) (kx_set P 64 (kO 10 (kf (cr10 sv) (upd (upd K 2 0) 5 (-1))))) sz := by
  refine kx_mk kx_tab kxLok_X10 (ini := false) [some (.ref 64), some (.int (x)), some (.int (y)), some (.int (nI n)), none, none] ⟨by decide, rfl, by decide, by decide⟩ (⟨_, rfl⟩) rfl rfl (fun g hB hC => ?_)
  refine hB bX10_clock_0 _ _ _ _ _ _ _ kX10_clock_0 ?_
  dsimp only [bX10_clock_0, kx_wp, kx_step, kx_lI, kx_lL, kx_lA, kx_gl, kx_pI, kx_pL, kx_pR, kx_pA, kx_pV, kx_s1, kx_s2, kx_sl, kx_pre, kx_c2, kx_pl, kx_cmp, kx_oF, kx_eqN, kx_nil, kx_c1, kx_ft, kx_aI, kx_aL, kx_aR, kx_ln, Nat.reduceAdd, Option.toList, List.cons_append, List.nil_append, cf10_7, cf10_4, cf10_0, cf10_6]
  repeat (simp only [h64, hip, hit, h7, cp10_4, cp10_7, ks_eq, ks_ss]; try dsimp only [kx_wp, kx_step, kx_lI, kx_lL, kx_lA, kx_gl, kx_pI, kx_pL, kx_pR, kx_pA, kx_pV, kx_s1, kx_s2, kx_sl, kx_pre, kx_c2, kx_pl, kx_cmp, kx_oF, kx_eqN, kx_nil, kx_c1, kx_ft, kx_aI, kx_aL, kx_aR, kx_ln, Nat.reduceAdd, Option.toList, List.cons_append, List.nil_append, cf10_7, cf10_4, cf10_0, cf10_6])
  repeat' apply And.intro
  all_goals try (first | with_reducible assumption | (with_reducible refine ck_nzI ?_; simp; done) | (with_reducible refine ck_nzL ?_; simp; done) | (with_reducible refine vp_in_nI ?_ ?_ <;> first | omega | decide) | (with_reducible refine Nat.le_of_ble_eq_true ?_; rfl) | omega | exact Or.inl trivial | exact Or.inr trivial | exact Or.inl rfl | exact Or.inr rfl)
  refine hC.2.1 111 _ _ _ _ _ _ _ _ _ _ _ _ _ _ _ _ _ lX10_111 (ct_X10_isPlace l G) rfl rfl (Nat.le_of_ble_eq_true rfl) (by first | decide | omega) (by decide) (by omega) (by omega) dX10_clock_2 ?_
  rw [hip]
  refine hB bX10_clock_5 _ _ _ _ _ _ _ kX10_clock_5 ?_
  dsimp only [bX10_clock_5, kx_wp, kx_step, kx_lI, kx_lL, kx_lA, kx_gl, kx_pI, kx_pL, kx_pR, kx_pA, kx_pV, kx_s1, kx_s2, kx_sl, kx_pre, kx_c2, kx_pl, kx_cmp, kx_oF, kx_eqN, kx_nil, kx_c1, kx_ft, kx_aI, kx_aL, kx_aR, kx_ln, Nat.reduceAdd, Option.toList, List.cons_append, List.nil_append, cf10_7, cf10_4, cf10_0, cf10_6]
  repeat (simp only [h64, hip, hit, h7, cp10_4, cp10_7, ks_eq, ks_ss]; try dsimp only [kx_wp, kx_step, kx_lI, kx_lL, kx_lA, kx_gl, kx_pI, kx_pL, kx_pR, kx_pA, kx_pV, kx_s1, kx_s2, kx_sl, kx_pre, kx_c2, kx_pl, kx_cmp, kx_oF, kx_eqN, kx_nil, kx_c1, kx_ft, kx_aI, kx_aL, kx_aR, kx_ln, Nat.reduceAdd, Option.toList, List.cons_append, List.nil_append, cf10_7, cf10_4, cf10_0, cf10_6])
  repeat' apply And.intro
  all_goals try (first | with_reducible assumption | (with_reducible refine ck_nzI ?_; simp; done) | (with_reducible refine ck_nzL ?_; simp; done) | (with_reducible refine vp_in_nI ?_ ?_ <;> first | omega | decide) | (with_reducible refine Nat.le_of_ble_eq_true ?_; rfl) | omega | exact Or.inl trivial | exact Or.inr trivial | exact Or.inl rfl | exact Or.inr rfl)
  · intro zc5
    first | exact absurd rfl zc5 | exact absurd zc5 (by decide) | exact absurd (by decide) zc5 | (exfalso; first | exact absurd zc5 (by decide) | exact absurd zc13 (by decide) | exact absurd zc30 (by decide)) | (exfalso; simp_all; done)
  · intro zc5
    have ze5 := zc5
    refine hB bX10_clock_8 _ _ _ _ _ _ _ kX10_clock_8 ?_
    dsimp only [bX10_clock_8, kx_wp, kx_step, kx_lI, kx_lL, kx_lA, kx_gl, kx_pI, kx_pL, kx_pR, kx_pA, kx_pV, kx_s1, kx_s2, kx_sl, kx_pre, kx_c2, kx_pl, kx_cmp, kx_oF, kx_eqN, kx_nil, kx_c1, kx_ft, kx_aI, kx_aL, kx_aR, kx_ln, Nat.reduceAdd, Option.toList, List.cons_append, List.nil_append, cf10_7, cf10_4, cf10_0, cf10_6]
    repeat (simp only [h64, hip, hit, h7, cp10_4, cp10_7, ks_eq, ks_ss]; try dsimp only [kx_wp, kx_step, kx_lI, kx_lL, kx_lA, kx_gl, kx_pI, kx_pL, kx_pR, kx_pA, kx_pV, kx_s1, kx_s2, kx_sl, kx_pre, kx_c2, kx_pl, kx_cmp, kx_oF, kx_eqN, kx_nil, kx_c1, kx_ft, kx_aI, kx_aL, kx_aR, kx_ln, Nat.reduceAdd, Option.toList, List.cons_append, List.nil_append, cf10_7, cf10_4, cf10_0, cf10_6])
    repeat' apply And.intro
    all_goals try (first | with_reducible assumption | (with_reducible refine ck_nzI ?_; simp; done) | (with_reducible refine ck_nzL ?_; simp; done) | (with_reducible refine vp_in_nI ?_ ?_ <;> first | omega | decide) | (with_reducible refine Nat.le_of_ble_eq_true ?_; rfl) | omega | exact Or.inl trivial | exact Or.inr trivial | exact Or.inl rfl | exact Or.inr rfl)
    refine hC.1 115 _ _ _ _ _ _ _ 10 _ _ _ _ _ _ _ _ _ _ _ _ lX10_115 (ct_X10_isOnTape l G h64) ⟨by decide, rfl⟩ (h64) rfl rfl (Nat.le_of_ble_eq_true rfl) (by first | decide | omega) (by decide) (by omega) (by omega) dX10_clock_10 ?_
    rw [hit]
    refine hB bX10_clock_13 _ _ _ _ _ _ _ kX10_clock_13 ?_
    dsimp only [bX10_clock_13, kx_wp, kx_step, kx_lI, kx_lL, kx_lA, kx_gl, kx_pI, kx_pL, kx_pR, kx_pA, kx_pV, kx_s1, kx_s2, kx_sl, kx_pre, kx_c2, kx_pl, kx_cmp, kx_oF, kx_eqN, kx_nil, kx_c1, kx_ft, kx_aI, kx_aL, kx_aR, kx_ln, Nat.reduceAdd, Option.toList, List.cons_append, List.nil_append, cf10_7, cf10_4, cf10_0, cf10_6]
    repeat (simp only [h64, hip, hit, h7, cp10_4, cp10_7, ks_eq, ks_ss]; try dsimp only [kx_wp, kx_step, kx_lI, kx_lL, kx_lA, kx_gl, kx_pI, kx_pL, kx_pR, kx_pA, kx_pV, kx_s1, kx_s2, kx_sl, kx_pre, kx_c2, kx_pl, kx_cmp, kx_oF, kx_eqN, kx_nil, kx_c1, kx_ft, kx_aI, kx_aL, kx_aR, kx_ln, Nat.reduceAdd, Option.toList, List.cons_append, List.nil_append, cf10_7, cf10_4, cf10_0, cf10_6])
    repeat' apply And.intro
    all_goals try (first | with_reducible assumption | (with_reducible refine ck_nzI ?_; simp; done) | (with_reducible refine ck_nzL ?_; simp; done) | (with_reducible refine vp_in_nI ?_ ?_ <;> first | omega | decide) | (with_reducible refine Nat.le_of_ble_eq_true ?_; rfl) | omega | exact Or.inl trivial | exact Or.inr trivial | exact Or.inl rfl | exact Or.inr rfl)
    · intro zc13
      first | exact absurd rfl zc13 | exact absurd zc13 (by decide) | exact absurd (by decide) zc13 | (exfalso; first | exact absurd zc5 (by decide) | exact absurd zc13 (by decide) | exact absurd zc30 (by decide)) | (exfalso; simp_all; done)
    · intro zc13
      have ze13 := zc13
      refine hB bX10_clock_16 _ _ _ _ _ _ _ kX10_clock_16 ?_
      dsimp only [bX10_clock_16, kx_wp, kx_step, kx_lI, kx_lL, kx_lA, kx_gl, kx_pI, kx_pL, kx_pR, kx_pA, kx_pV, kx_s1, kx_s2, kx_sl, kx_pre, kx_c2, kx_pl, kx_cmp, kx_oF, kx_eqN, kx_nil, kx_c1, kx_ft, kx_aI, kx_aL, kx_aR, kx_ln, Nat.reduceAdd, Option.toList, List.cons_append, List.nil_append, cf10_7, cf10_4, cf10_0, cf10_6]
      repeat (simp only [h64, hip, hit, h7, cp10_4, cp10_7, ks_eq, ks_ss]; try dsimp only [kx_wp, kx_step, kx_lI, kx_lL, kx_lA, kx_gl, kx_pI, kx_pL, kx_pR, kx_pA, kx_pV, kx_s1, kx_s2, kx_sl, kx_pre, kx_c2, kx_pl, kx_cmp, kx_oF, kx_eqN, kx_nil, kx_c1, kx_ft, kx_aI, kx_aL, kx_aR, kx_ln, Nat.reduceAdd, Option.toList, List.cons_append, List.nil_append, cf10_7, cf10_4, cf10_0, cf10_6])
      repeat' apply And.intro
      all_goals try (first | with_reducible assumption | (with_reducible refine ck_nzI ?_; simp; done) | (with_reducible refine ck_nzL ?_; simp; done) | (with_reducible refine vp_in_nI ?_ ?_ <;> first | omega | decide) | (with_reducible refine Nat.le_of_ble_eq_true ?_; rfl) | omega | exact Or.inl trivial | exact Or.inr trivial | exact Or.inl rfl | exact Or.inr rfl)
      refine hC.2.1 95 _ _ _ _ _ _ _ _ _ _ _ _ _ _ _ _ _ lX10_95 (ct_X10_need l G (b := 1) (by decide)) rfl rfl (Nat.le_of_ble_eq_true rfl) (by first | decide | omega) (by decide) (by omega) (by omega) dX10_clock_21 ?_
      refine hB bX10_clock_24 _ _ _ _ _ _ _ kX10_clock_24 ?_
      dsimp only [bX10_clock_24, kx_wp, kx_step, kx_lI, kx_lL, kx_lA, kx_gl, kx_pI, kx_pL, kx_pR, kx_pA, kx_pV, kx_s1, kx_s2, kx_sl, kx_pre, kx_c2, kx_pl, kx_cmp, kx_oF, kx_eqN, kx_nil, kx_c1, kx_ft, kx_aI, kx_aL, kx_aR, kx_ln, Nat.reduceAdd, Option.toList, List.cons_append, List.nil_append, cf10_7, cf10_4, cf10_0, cf10_6]
      repeat (simp only [h64, hip, hit, h7, cp10_4, cp10_7, ks_eq, ks_ss]; try dsimp only [kx_wp, kx_step, kx_lI, kx_lL, kx_lA, kx_gl, kx_pI, kx_pL, kx_pR, kx_pA, kx_pV, kx_s1, kx_s2, kx_sl, kx_pre, kx_c2, kx_pl, kx_cmp, kx_oF, kx_eqN, kx_nil, kx_c1, kx_ft, kx_aI, kx_aL, kx_aR, kx_ln, Nat.reduceAdd, Option.toList, List.cons_append, List.nil_append, cf10_7, cf10_4, cf10_0, cf10_6])
      repeat' apply And.intro
      all_goals try (first | with_reducible assumption | (with_reducible refine ck_nzI ?_; simp; done) | (with_reducible refine ck_nzL ?_; simp; done) | (with_reducible refine vp_in_nI ?_ ?_ <;> first | omega | decide) | (with_reducible refine Nat.le_of_ble_eq_true ?_; rfl) | omega | exact Or.inl trivial | exact Or.inr trivial | exact Or.inl rfl | exact Or.inr rfl)
      · intro zc30
        first | exact absurd rfl zc30 | exact absurd zc30 (by decide) | exact absurd (by decide) zc30 | (exfalso; first | exact absurd zc5 (by decide) | exact absurd zc13 (by decide) | exact absurd zc30 (by decide)) | (exfalso; simp_all; done)
      · intro zc30
        with_reducible first | have ze30 := Int32.not_lt.mp zc30 | have ze30 := zc30
        refine hB bX10_clock_33 _ _ _ _ _ _ _ kX10_clock_33 ?_
        dsimp only [bX10_clock_33, kx_wp, kx_step, kx_lI, kx_lL, kx_lA, kx_gl, kx_pI, kx_pL, kx_pR, kx_pA, kx_pV, kx_s1, kx_s2, kx_sl, kx_pre, kx_c2, kx_pl, kx_cmp, kx_oF, kx_eqN, kx_nil, kx_c1, kx_ft, kx_aI, kx_aL, kx_aR, kx_ln, Nat.reduceAdd, Option.toList, List.cons_append, List.nil_append, cf10_7, cf10_4, cf10_0, cf10_6]
        repeat (simp only [h64, hip, hit, h7, cp10_4, cp10_7, ks_eq, ks_ss]; try dsimp only [kx_wp, kx_step, kx_lI, kx_lL, kx_lA, kx_gl, kx_pI, kx_pL, kx_pR, kx_pA, kx_pV, kx_s1, kx_s2, kx_sl, kx_pre, kx_c2, kx_pl, kx_cmp, kx_oF, kx_eqN, kx_nil, kx_c1, kx_ft, kx_aI, kx_aL, kx_aR, kx_ln, Nat.reduceAdd, Option.toList, List.cons_append, List.nil_append, cf10_7, cf10_4, cf10_0, cf10_6])
        repeat' apply And.intro
        all_goals try (first | with_reducible assumption | (with_reducible refine ck_nzI ?_; simp; done) | (with_reducible refine ck_nzL ?_; simp; done) | (with_reducible refine vp_in_nI ?_ ?_ <;> first | omega | decide) | (with_reducible refine Nat.le_of_ble_eq_true ?_; rfl) | omega | exact Or.inl trivial | exact Or.inr trivial | exact Or.inl rfl | exact Or.inr rfl)
        refine hC.1 119 _ _ _ _ _ _ _ 10 _ _ _ _ _ _ _ _ _ _ _ _ lX10_119 (ct_X10_leaveUnread l G h64) ⟨by decide, rfl⟩ (h64) rfl rfl (Nat.le_of_ble_eq_true rfl) (by first | decide | omega) (by decide) (by omega) (by omega) dX10_clock_34 ?_
        refine hB bX10_clock_37 _ _ _ _ _ _ _ kX10_clock_37 ?_
        dsimp only [bX10_clock_37, kx_wp, kx_step, kx_lI, kx_lL, kx_lA, kx_gl, kx_pI, kx_pL, kx_pR, kx_pA, kx_pV, kx_s1, kx_s2, kx_sl, kx_pre, kx_c2, kx_pl, kx_cmp, kx_oF, kx_eqN, kx_nil, kx_c1, kx_ft, kx_aI, kx_aL, kx_aR, kx_ln, Nat.reduceAdd, Option.toList, List.cons_append, List.nil_append, cf10_7, cf10_4, cf10_0, cf10_6]
        repeat (simp only [h64, hip, hit, h7, cp10_4, cp10_7, ks_eq, ks_ss]; try dsimp only [kx_wp, kx_step, kx_lI, kx_lL, kx_lA, kx_gl, kx_pI, kx_pL, kx_pR, kx_pA, kx_pV, kx_s1, kx_s2, kx_sl, kx_pre, kx_c2, kx_pl, kx_cmp, kx_oF, kx_eqN, kx_nil, kx_c1, kx_ft, kx_aI, kx_aL, kx_aR, kx_ln, Nat.reduceAdd, Option.toList, List.cons_append, List.nil_append, cf10_7, cf10_4, cf10_0, cf10_6])
        all_goals (repeat' apply And.intro)
        all_goals ((try clear hB hC); first | exact True.intro | with_reducible rfl | with_reducible assumption | (with_reducible refine vp_in_nI ?_ ?_ <;> first | omega | decide) | exact Nat.le_of_ble_eq_true rfl | (with_reducible refine ck_nzI ?_; simp; done) | (with_reducible refine ck_nzL ?_; simp; done) | (simp only [pk_us, pk_uLs, ze5, ze13, zc30, ze30, ↓reduceIte, not_true_eq_false, not_false_eq_true]; done) | (simp only [ze5, ze13, zc30, ze30, ↓reduceIte, not_true_eq_false, not_false_eq_true]; with_reducible rfl) | omega | skip)

set_option maxRecDepth 100000 in
set_option maxHeartbeats 4000000 in
theorem ct_X10_clock_b (l : Launch) (G : kx_G) (hst : l.stackTraces = false) {P : kx_P} {sz : Nat} {sv : Value} {K : Nat → Int32} (h64 : P 64 = kO 10 (kf (cr10 sv) K)) {x y n : Int32} (hb : ¬ (cx_ip x y = 1 ∧ cx_it n (K 2) = 1))  : kx_X l G sX10_clock 7 [.ref 64, .int (x), .int (y), .int (n)] P sz "java/lang/IllegalArgumentException" := by
  refine kx_mkx hst kx_tab kxLok_X10 [some (.ref 64), some (.int (x)), some (.int (y)), some (.int (n)), none, none] ⟨by decide, rfl, by decide⟩ rfl rfl (fun g hB hC hX hT => ?_)
  refine hB bX10_clock_0 _ _ _ _ _ _ _ kX10_clock_0 ?_
  dsimp only [bX10_clock_0, kx_wp, kx_step, kx_lI, kx_lL, kx_lA, kx_gl, kx_pI, kx_pL, kx_pR, kx_pA, kx_pV, kx_s1, kx_s2, kx_sl, kx_pre, kx_c2, kx_pl, kx_cmp, kx_oF, kx_eqN, kx_nil, kx_c1, kx_ft, kx_aI, kx_aL, kx_aR, kx_ln, Nat.reduceAdd, Option.toList, List.cons_append, List.nil_append, cf10_7, cf10_4, cf10_0, cf10_6]
  repeat (simp only [h64, cp10_4, cp10_7, ks_eq, ks_ss]; try dsimp only [kx_wp, kx_step, kx_lI, kx_lL, kx_lA, kx_gl, kx_pI, kx_pL, kx_pR, kx_pA, kx_pV, kx_s1, kx_s2, kx_sl, kx_pre, kx_c2, kx_pl, kx_cmp, kx_oF, kx_eqN, kx_nil, kx_c1, kx_ft, kx_aI, kx_aL, kx_aR, kx_ln, Nat.reduceAdd, Option.toList, List.cons_append, List.nil_append, cf10_7, cf10_4, cf10_0, cf10_6])
  repeat' apply And.intro
  all_goals try (first | with_reducible assumption | (with_reducible refine ck_nzI ?_; simp; done) | (with_reducible refine ck_nzL ?_; simp; done) | (with_reducible refine vp_in_nI ?_ ?_ <;> first | omega | decide) | (with_reducible refine Nat.le_of_ble_eq_true ?_; rfl) | omega | exact Or.inl trivial | exact Or.inr trivial | exact Or.inl rfl | exact Or.inr rfl)
  refine hC.2.1 111 _ _ _ _ _ _ _ _ _ _ _ _ _ _ _ _ _ lX10_111 (ct_X10_isPlace l G) rfl rfl (Nat.le_of_ble_eq_true rfl) (by first | decide | omega) (by decide) (by omega) (by omega) dX10_clock_2 ?_
  refine hB bX10_clock_5 _ _ _ _ _ _ _ kX10_clock_5 ?_
  dsimp only [bX10_clock_5, kx_wp, kx_step, kx_lI, kx_lL, kx_lA, kx_gl, kx_pI, kx_pL, kx_pR, kx_pA, kx_pV, kx_s1, kx_s2, kx_sl, kx_pre, kx_c2, kx_pl, kx_cmp, kx_oF, kx_eqN, kx_nil, kx_c1, kx_ft, kx_aI, kx_aL, kx_aR, kx_ln, Nat.reduceAdd, Option.toList, List.cons_append, List.nil_append, cf10_7, cf10_4, cf10_0, cf10_6]
  repeat (simp only [h64, cp10_4, cp10_7, ks_eq, ks_ss]; try dsimp only [kx_wp, kx_step, kx_lI, kx_lL, kx_lA, kx_gl, kx_pI, kx_pL, kx_pR, kx_pA, kx_pV, kx_s1, kx_s2, kx_sl, kx_pre, kx_c2, kx_pl, kx_cmp, kx_oF, kx_eqN, kx_nil, kx_c1, kx_ft, kx_aI, kx_aL, kx_aR, kx_ln, Nat.reduceAdd, Option.toList, List.cons_append, List.nil_append, cf10_7, cf10_4, cf10_0, cf10_6])
  repeat' apply And.intro
  all_goals try (first | with_reducible assumption | (with_reducible refine ck_nzI ?_; simp; done) | (with_reducible refine ck_nzL ?_; simp; done) | (with_reducible refine vp_in_nI ?_ ?_ <;> first | omega | decide) | (with_reducible refine Nat.le_of_ble_eq_true ?_; rfl) | omega | exact Or.inl trivial | exact Or.inr trivial | exact Or.inl rfl | exact Or.inr rfl)
  · intro zc5
    have ze5 := zc5
    refine hB bX10_clock_20 _ _ _ _ _ _ _ kX10_clock_20 ?_
    dsimp only [bX10_clock_20, kx_wp, kx_step, kx_lI, kx_lL, kx_lA, kx_gl, kx_pI, kx_pL, kx_pR, kx_pA, kx_pV, kx_s1, kx_s2, kx_sl, kx_pre, kx_c2, kx_pl, kx_cmp, kx_oF, kx_eqN, kx_nil, kx_c1, kx_ft, kx_aI, kx_aL, kx_aR, kx_ln, Nat.reduceAdd, Option.toList, List.cons_append, List.nil_append, cf10_7, cf10_4, cf10_0, cf10_6]
    repeat (simp only [h64, cp10_4, cp10_7, ks_eq, ks_ss]; try dsimp only [kx_wp, kx_step, kx_lI, kx_lL, kx_lA, kx_gl, kx_pI, kx_pL, kx_pR, kx_pA, kx_pV, kx_s1, kx_s2, kx_sl, kx_pre, kx_c2, kx_pl, kx_cmp, kx_oF, kx_eqN, kx_nil, kx_c1, kx_ft, kx_aI, kx_aL, kx_aR, kx_ln, Nat.reduceAdd, Option.toList, List.cons_append, List.nil_append, cf10_7, cf10_4, cf10_0, cf10_6])
    repeat' apply And.intro
    all_goals try (first | with_reducible assumption | (with_reducible refine ck_nzI ?_; simp; done) | (with_reducible refine ck_nzL ?_; simp; done) | (with_reducible refine vp_in_nI ?_ ?_ <;> first | omega | decide) | (with_reducible refine Nat.le_of_ble_eq_true ?_; rfl) | omega | exact Or.inl trivial | exact Or.inr trivial | exact Or.inl rfl | exact Or.inr rfl)
    exact hX.2 95 _ _ _ _ _ _ _ _ lX10_95 (ct_X10_need_x l G hst) rfl rfl (Nat.le_of_ble_eq_true rfl) (by first | decide | omega) (by decide) dX10_clock_21
  · intro zc5
    have ze5 := zc5
    refine hB bX10_clock_8 _ _ _ _ _ _ _ kX10_clock_8 ?_
    dsimp only [bX10_clock_8, kx_wp, kx_step, kx_lI, kx_lL, kx_lA, kx_gl, kx_pI, kx_pL, kx_pR, kx_pA, kx_pV, kx_s1, kx_s2, kx_sl, kx_pre, kx_c2, kx_pl, kx_cmp, kx_oF, kx_eqN, kx_nil, kx_c1, kx_ft, kx_aI, kx_aL, kx_aR, kx_ln, Nat.reduceAdd, Option.toList, List.cons_append, List.nil_append, cf10_7, cf10_4, cf10_0, cf10_6]
    repeat (simp only [h64, cp10_4, cp10_7, ks_eq, ks_ss]; try dsimp only [kx_wp, kx_step, kx_lI, kx_lL, kx_lA, kx_gl, kx_pI, kx_pL, kx_pR, kx_pA, kx_pV, kx_s1, kx_s2, kx_sl, kx_pre, kx_c2, kx_pl, kx_cmp, kx_oF, kx_eqN, kx_nil, kx_c1, kx_ft, kx_aI, kx_aL, kx_aR, kx_ln, Nat.reduceAdd, Option.toList, List.cons_append, List.nil_append, cf10_7, cf10_4, cf10_0, cf10_6])
    repeat' apply And.intro
    all_goals try (first | with_reducible assumption | (with_reducible refine ck_nzI ?_; simp; done) | (with_reducible refine ck_nzL ?_; simp; done) | (with_reducible refine vp_in_nI ?_ ?_ <;> first | omega | decide) | (with_reducible refine Nat.le_of_ble_eq_true ?_; rfl) | omega | exact Or.inl trivial | exact Or.inr trivial | exact Or.inl rfl | exact Or.inr rfl)
    refine hC.1 115 _ _ _ _ _ _ _ 10 _ _ _ _ _ _ _ _ _ _ _ _ lX10_115 (ct_X10_isOnTape l G h64) ⟨by decide, rfl⟩ (h64) rfl rfl (Nat.le_of_ble_eq_true rfl) (by first | decide | omega) (by decide) (by omega) (by omega) dX10_clock_10 ?_
    refine hB bX10_clock_13 _ _ _ _ _ _ _ kX10_clock_13 ?_
    dsimp only [bX10_clock_13, kx_wp, kx_step, kx_lI, kx_lL, kx_lA, kx_gl, kx_pI, kx_pL, kx_pR, kx_pA, kx_pV, kx_s1, kx_s2, kx_sl, kx_pre, kx_c2, kx_pl, kx_cmp, kx_oF, kx_eqN, kx_nil, kx_c1, kx_ft, kx_aI, kx_aL, kx_aR, kx_ln, Nat.reduceAdd, Option.toList, List.cons_append, List.nil_append, cf10_7, cf10_4, cf10_0, cf10_6]
    repeat (simp only [h64, cp10_4, cp10_7, ks_eq, ks_ss]; try dsimp only [kx_wp, kx_step, kx_lI, kx_lL, kx_lA, kx_gl, kx_pI, kx_pL, kx_pR, kx_pA, kx_pV, kx_s1, kx_s2, kx_sl, kx_pre, kx_c2, kx_pl, kx_cmp, kx_oF, kx_eqN, kx_nil, kx_c1, kx_ft, kx_aI, kx_aL, kx_aR, kx_ln, Nat.reduceAdd, Option.toList, List.cons_append, List.nil_append, cf10_7, cf10_4, cf10_0, cf10_6])
    repeat' apply And.intro
    all_goals try (first | with_reducible assumption | (with_reducible refine ck_nzI ?_; simp; done) | (with_reducible refine ck_nzL ?_; simp; done) | (with_reducible refine vp_in_nI ?_ ?_ <;> first | omega | decide) | (with_reducible refine Nat.le_of_ble_eq_true ?_; rfl) | omega | exact Or.inl trivial | exact Or.inr trivial | exact Or.inl rfl | exact Or.inr rfl)
    · intro zc13
      have ze13 := zc13
      refine hB bX10_clock_20 _ _ _ _ _ _ _ kX10_clock_20 ?_
      dsimp only [bX10_clock_20, kx_wp, kx_step, kx_lI, kx_lL, kx_lA, kx_gl, kx_pI, kx_pL, kx_pR, kx_pA, kx_pV, kx_s1, kx_s2, kx_sl, kx_pre, kx_c2, kx_pl, kx_cmp, kx_oF, kx_eqN, kx_nil, kx_c1, kx_ft, kx_aI, kx_aL, kx_aR, kx_ln, Nat.reduceAdd, Option.toList, List.cons_append, List.nil_append, cf10_7, cf10_4, cf10_0, cf10_6]
      repeat (simp only [h64, cp10_4, cp10_7, ks_eq, ks_ss]; try dsimp only [kx_wp, kx_step, kx_lI, kx_lL, kx_lA, kx_gl, kx_pI, kx_pL, kx_pR, kx_pA, kx_pV, kx_s1, kx_s2, kx_sl, kx_pre, kx_c2, kx_pl, kx_cmp, kx_oF, kx_eqN, kx_nil, kx_c1, kx_ft, kx_aI, kx_aL, kx_aR, kx_ln, Nat.reduceAdd, Option.toList, List.cons_append, List.nil_append, cf10_7, cf10_4, cf10_0, cf10_6])
      repeat' apply And.intro
      all_goals try (first | with_reducible assumption | (with_reducible refine ck_nzI ?_; simp; done) | (with_reducible refine ck_nzL ?_; simp; done) | (with_reducible refine vp_in_nI ?_ ?_ <;> first | omega | decide) | (with_reducible refine Nat.le_of_ble_eq_true ?_; rfl) | omega | exact Or.inl trivial | exact Or.inr trivial | exact Or.inl rfl | exact Or.inr rfl)
      exact hX.2 95 _ _ _ _ _ _ _ _ lX10_95 (ct_X10_need_x l G hst) rfl rfl (Nat.le_of_ble_eq_true rfl) (by first | decide | omega) (by decide) dX10_clock_21
    · intro zc13
      have ze13 := zc13
      exact absurd ⟨(cx_ip_b x y).resolve_left zc5, (cx_it_b n (K 2)).resolve_left zc13⟩ hb

/-- the clock as begun -/
def cx_nc (V Al : Nat → Int32) (x y : Int32) (dd : Nat) : Nat → Int32 := upd (upd (upd (upd (upd (upd (upd (upd (upd (fun _ => 0) 4 1) 5 1) 0 x) 1 y) 6 (1440 * V 0)) 7 (V 6)) 10 (nI dd / 1440)) 4 (nI (ck_da (dd / 1440) (ck_feb (Al 1))))) 5 (nI (ck_mo (dd / 1440) (ck_feb (Al 1))))
/-- the keeper with one clock more; Pw is the world behind the text, s the clock's name -/
def cx_kw (Pw : kx_P) (K : Nat → Int32) (cl : Nat) (cn : Nat → Nat) (w s : Nat) (V Al : Nat → Int32) (x y : Int32) (dd : Nat) : kx_P :=
  kx_set (kx_set (kx_set (kx_set (kx_set Pw (s + 1) (kI 0 1667 (ck_cp (fun _ => 0) (fun _ => -1) 1667))) s (kO 1 (kf (cr1 (.ref w) 0 (.ref (s + 1))) (cx_nc V Al x y dd)))) 64 (kO 10 (kf (cr10 .null) K))) 69 (kR 8 (va_up (fun i => if i < cl then some (cn i) else none) cl (some s)))) 64 (kO 10 (kf (cr10 .null) (upd K 7 (nI (cl + 1)))))
def cx_CK (B : kx_P) (K : Nat → Int32) (cl : Nat) (cn : Nat → Nat) (w : Nat) (T : Nat → Int32) (n : Nat) (R : ck_Qt) (Al : Nat → Int32) (x y : Int32) (dd s : Nat) : Option Value → kx_P → Nat → Prop := fun r P2 s2 => ∃ F V te qu Fo st, r = some (.int (nI cl)) ∧ s2 = s + 2 ∧ cx_D T n R F V te qu Fo st ∧ P2 = cx_kw (cx_rw (kx_set B 64 (kO 10 (kf (cr10 (.ref w)) (upd K 2 0)))) w V te qu Fo st F (kO 10 (kf (cr10 (.ref w)) (upd (upd K 2 0) 5 (-1))))) (upd (upd K 2 0) 5 (-1)) cl cn w s V Al x y dd

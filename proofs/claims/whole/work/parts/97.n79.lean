def bX6_goOn_0 : List kx_O := [(.iload 6, 6, 0, 0, .null), (.aload_n 0, 0, 0, 0, .null), (.getfield 22, 6, 3, 0, .null), (.if_icmp .gt 21, 27, 0, 0, .null)]
theorem kX6_goOn_0 : kx_oks kxL_X6 false cX6_goOn 0 bX6_goOn_0 = true := by decide +kernel
def bX6_goOn_9 : List kx_O := [(.iload 6, 6, 0, 0, .null), (.aload_n 0, 0, 0, 0, .null), (.getfield 22, 6, 3, 0, .null), (.if_icmp .ne 13, 28, 0, 0, .null)]
theorem kX6_goOn_9 : kx_oks kxL_X6 false cX6_goOn 9 bX6_goOn_9 = true := by decide +kernel
def bX6_goOn_18 : List kx_O := [(.iload 5, 5, 0, 0, .null), (.aload_n 0, 0, 0, 0, .null), (.getfield 26, 6, 4, 0, .null), (.if_icmp .lt 4, 28, 0, 0, .null)]
theorem kX6_goOn_18 : kx_oks kxL_X6 false cX6_goOn 18 bX6_goOn_18 = true := by decide +kernel
def bX6_goOn_27 : List kx_O := [(.return_, 0, 0, 0, .null)]
theorem kX6_goOn_27 : kx_oks kxL_X6 false cX6_goOn 27 bX6_goOn_27 = true := by decide +kernel
def bX6_goOn_28 : List kx_O := [(.iload_n 2, 2, 0, 0, .null), (.ifCond .eq 12, 41, 0, 0, .null)]
theorem kX6_goOn_28 : kx_oks kxL_X6 false cX6_goOn 28 bX6_goOn_28 = true := by decide +kernel
def bX6_goOn_32 : List kx_O := [(.iload_n 1, 1, 0, 0, .null), (.aload_n 0, 0, 0, 0, .null), (.getfield 9, 6, 0, 0, .null), (.arraylength, 0, 0, 0, .null), (.if_icmp .lt 34, 72, 0, 0, .null)]
theorem kX6_goOn_32 : kx_oks kxL_X6 false cX6_goOn 32 bX6_goOn_32 = true := by decide +kernel
def bX6_goOn_41 : List kx_O := [(.aload_n 0, 0, 0, 0, .null), (.iload 6, 6, 0, 0, .null), (.putfield 22, 6, 3, 0, .null), (.aload_n 0, 0, 0, 0, .null), (.iload 5, 5, 0, 0, .null), (.putfield 26, 6, 4, 0, .null), (.aload_n 0, 0, 0, 0, .null), (.getfield 9, 6, 0, 0, .null), (.iconst 0, 0, 0, 0, .int 0), (.aload_n 0, 0, 0, 0, .null), (.getfield 15, 6, 1, 0, .null), (.iconst 0, 0, 0, 0, .int 0), (.aload_n 0, 0, 0, 0, .null), (.getfield 9, 6, 0, 0, .null), (.arraylength, 0, 0, 0, .null)]
theorem kX6_goOn_41 : kx_oks kxL_X6 false cX6_goOn 41 bX6_goOn_41 = true := by decide +kernel
def bX6_goOn_71 : List kx_O := [(.return_, 0, 0, 0, .null)]
theorem kX6_goOn_71 : kx_oks kxL_X6 false cX6_goOn 71 bX6_goOn_71 = true := by decide +kernel
def bX6_goOn_72 : List kx_O := [(.iconst 0, 0, 0, 0, .int 0), (.istore 7, 7, 0, 0, .null)]
theorem kX6_goOn_72 : kx_oks kxL_X6 false cX6_goOn 72 bX6_goOn_72 = true := by decide +kernel
def bX6_goOn_75 : List kx_O := [(.iload 7, 7, 0, 0, .null), (.aload_n 0, 0, 0, 0, .null), (.getfield 18, 6, 2, 0, .null), (.arraylength, 0, 0, 0, .null), (.if_icmp .ge 75, 157, 0, 0, .null)]
theorem kX6_goOn_75 : kx_oks kxL_X6 false cX6_goOn 75 bX6_goOn_75 = true := by decide +kernel
def bX6_goOn_85 : List kx_O := [(.aload_n 0, 0, 0, 0, .null), (.getfield 18, 6, 2, 0, .null), (.iload 7, 7, 0, 0, .null), (.aaload, 0, 0, 0, .null), (.ifnull 59, 151, 0, 0, .null)]
theorem kX6_goOn_85 : kx_oks kxL_X6 false cX6_goOn 85 bX6_goOn_85 = true := by decide +kernel
def bX6_goOn_95 : List kx_O := [(.iload_n 2, 2, 0, 0, .null), (.iload 7, 7, 0, 0, .null), (.ishr, 0, 0, 0, .null), (.iconst 1, 0, 0, 0, .int 1), (.iand, 0, 0, 0, .null), (.iconst 1, 0, 0, 0, .int 1), (.if_icmp .ne 49, 151, 0, 0, .null)]
theorem kX6_goOn_95 : kx_oks kxL_X6 false cX6_goOn 95 bX6_goOn_95 = true := by decide +kernel
def bX6_goOn_105 : List kx_O := [(.aload_n 0, 0, 0, 0, .null), (.getfield 9, 6, 0, 0, .null), (.iload_n 1, 1, 0, 0, .null), (.iload 7, 7, 0, 0, .null), (.iastore, 0, 0, 0, .null), (.aload_n 0, 0, 0, 0, .null), (.aload_n 0, 0, 0, 0, .null), (.getfield 18, 6, 2, 0, .null), (.iload 7, 7, 0, 0, .null), (.aaload, 0, 0, 0, .null), (.iload_n 1, 1, 0, 0, .null), (.iload_n 2, 2, 0, 0, .null), (.iconst 1, 0, 0, 0, .int 1), (.iload 7, 7, 0, 0, .null), (.ishl, 0, 0, 0, .null), (.iconst (-1), 0, 0, 0, .int (-1)), (.ixor, 0, 0, 0, .null), (.iand, 0, 0, 0, .null), (.aload_n 0, 0, 0, 0, .null), (.getfield 18, 6, 2, 0, .null), (.iload 7, 7, 0, 0, .null), (.aaload, 0, 0, 0, .null), (.iload_n 3, 3, 0, 0, .null), (.iload 4, 4, 0, 0, .null)]
theorem kX6_goOn_105 : kx_oks kxL_X6 false cX6_goOn 105 bX6_goOn_105 = true := by decide +kernel
def bX6_goOn_143 : List kx_O := [(.iload 5, 5, 0, 0, .null), (.iadd, 0, 0, 0, .null), (.iload 6, 6, 0, 0, .null)]
theorem kX6_goOn_143 : kx_oks kxL_X6 false cX6_goOn 143 bX6_goOn_143 = true := by decide +kernel
def bX6_goOn_151 : List kx_O := [(.iinc 7 1, 7, 0, 0, .int 1), (.goto (-79), 75, 0, 0, .null)]
theorem kX6_goOn_151 : kx_oks kxL_X6 false cX6_goOn 151 bX6_goOn_151 = true := by decide +kernel
def bX6_goOn_157 : List kx_O := [(.return_, 0, 0, 0, .null)]
theorem kX6_goOn_157 : kx_oks kxL_X6 false cX6_goOn 157 bX6_goOn_157 = true := by decide +kernel
theorem dX6_goOn_68 : decode cX6_goOn 68 = .ok (.invokestatic 34, 3) := by decide +kernel
theorem dX6_goOn_140 : decode cX6_goOn 140 = .ok (.invokevirtual 40, 3) := by decide +kernel
theorem dX6_goOn_148 : decode cX6_goOn 148 = .ok (.invokevirtual 46, 3) := by decide +kernel
set_option maxRecDepth 100000 in
set_option maxHeartbeats 4000000 in
theorem ct_X6_goOn_0 (l : Launch) (G : kx_G) {P : kx_P} {sz : Nat} {cl : Nat} (hcl : cl ≤ 8) {cn wn : Nat → Nat} {DD : Nat → Int64} {HH : Nat → Value} {CC VV : Nat → Nat → Int32} (hCS : cx_CS P cl cn wn DD HH CC VV) {T : cx_T3} {k : Nat} {bits x y tm sp : Int32} (hk : k = 6)  : kx_M l G sX6_goOn 4 0 0 [.ref 78, .int (nI k), .int (bits), .int (x), .int (y), .int (tm), .int (sp)] (rW P T) sz none (rW P (cx_go CC VV cl 0 T k bits x y tm sp)) sz := by
  obtain ⟨h69, hcs⟩ := id hCS
  have t5 : ∀ T, rW P T 69 = kR 8 (fun i => if i < cl then some (cn i) else none) := fun _ => (rW_o (by decide) (by decide) (by decide)).trans h69
  refine kz_mkj kx_tab kxLok_X6 (ini := false) [some (.ref 78), some (.int (nI k)), some (.int (bits)), some (.int (x)), some (.int (y)), some (.int (tm)), some (.int (sp)), none] ⟨by decide +kernel, rfl, by decide, by decide⟩ (rfl) rfl rfl (fun g hB hC hK => ?_)
  refine hB bX6_goOn_0 _ _ _ _ _ _ _ kX6_goOn_0 ?_
  dsimp only [bX6_goOn_0, kx_wp, kx_step, kx_lI, kx_lL, kx_lA, kx_gl, kx_pI, kx_pL, kx_pR, kx_pA, kx_pV, kx_s1, kx_s2, kx_sl, kx_pre, kx_c2, kx_pl, kx_cmp, kx_oF, kx_eqN, kx_nil, kx_c1, kx_ft, kx_aI, kx_aL, kx_aR, kx_ln, Nat.reduceAdd, Option.toList, List.cons_append, List.nil_append, cf6_3, cf6_4, cf6_0, cf6_1, cf6_2]
  repeat (simp only [rW_78, rW_79, rW_80, rW_p78, rW_p79, rW_p80, t5, nI_1, cp6_3, cp6_4, ks_eq, ks_ss]; try dsimp only [kx_wp, kx_step, kx_lI, kx_lL, kx_lA, kx_gl, kx_pI, kx_pL, kx_pR, kx_pA, kx_pV, kx_s1, kx_s2, kx_sl, kx_pre, kx_c2, kx_pl, kx_cmp, kx_oF, kx_eqN, kx_nil, kx_c1, kx_ft, kx_aI, kx_aL, kx_aR, kx_ln, Nat.reduceAdd, Option.toList, List.cons_append, List.nil_append, cf6_3, cf6_4, cf6_0, cf6_1, cf6_2])
  repeat' apply And.intro
  all_goals try (first | with_reducible assumption | (with_reducible refine ck_nzI ?_; simp; done) | (with_reducible refine ck_nzL ?_; simp; done) | (with_reducible refine vp_in_nI ?_ ?_ <;> first | omega | decide) | (with_reducible refine Nat.le_of_ble_eq_true ?_; rfl) | omega | exact Or.inl trivial | exact Or.inr trivial | exact Or.inl rfl | exact Or.inr rfl)
  · intro zc6
    with_reducible first | have ze6 := Int32.not_le.mpr zc6 | have ze6 := zc6
    refine hB bX6_goOn_27 _ _ _ _ _ _ _ kX6_goOn_27 ?_
    dsimp only [bX6_goOn_27, kx_wp, kx_step, kx_lI, kx_lL, kx_lA, kx_gl, kx_pI, kx_pL, kx_pR, kx_pA, kx_pV, kx_s1, kx_s2, kx_sl, kx_pre, kx_c2, kx_pl, kx_cmp, kx_oF, kx_eqN, kx_nil, kx_c1, kx_ft, kx_aI, kx_aL, kx_aR, kx_ln, Nat.reduceAdd, Option.toList, List.cons_append, List.nil_append, cf6_3, cf6_4, cf6_0, cf6_1, cf6_2]
    repeat (simp only [rW_78, rW_79, rW_80, rW_p78, rW_p79, rW_p80, t5, nI_1, cp6_3, cp6_4, ks_eq, ks_ss]; try dsimp only [kx_wp, kx_step, kx_lI, kx_lL, kx_lA, kx_gl, kx_pI, kx_pL, kx_pR, kx_pA, kx_pV, kx_s1, kx_s2, kx_sl, kx_pre, kx_c2, kx_pl, kx_cmp, kx_oF, kx_eqN, kx_nil, kx_c1, kx_ft, kx_aI, kx_aL, kx_aR, kx_ln, Nat.reduceAdd, Option.toList, List.cons_append, List.nil_append, cf6_3, cf6_4, cf6_0, cf6_1, cf6_2])
    all_goals (repeat' apply And.intro)
    all_goals ((try clear hB hC); first | exact True.intro | (simp only [cx_go, cx_pr, cx_lfv, zc6, ze6, ↓reduceIte]; done) | trace_state)
  · intro zc6
    with_reducible first | have ze6 := Int32.not_lt.mp zc6 | have ze6 := zc6
    refine hB bX6_goOn_9 _ _ _ _ _ _ _ kX6_goOn_9 ?_
    dsimp only [bX6_goOn_9, kx_wp, kx_step, kx_lI, kx_lL, kx_lA, kx_gl, kx_pI, kx_pL, kx_pR, kx_pA, kx_pV, kx_s1, kx_s2, kx_sl, kx_pre, kx_c2, kx_pl, kx_cmp, kx_oF, kx_eqN, kx_nil, kx_c1, kx_ft, kx_aI, kx_aL, kx_aR, kx_ln, Nat.reduceAdd, Option.toList, List.cons_append, List.nil_append, cf6_3, cf6_4, cf6_0, cf6_1, cf6_2]
    repeat (simp only [rW_78, rW_79, rW_80, rW_p78, rW_p79, rW_p80, t5, nI_1, cp6_3, cp6_4, ks_eq, ks_ss]; try dsimp only [kx_wp, kx_step, kx_lI, kx_lL, kx_lA, kx_gl, kx_pI, kx_pL, kx_pR, kx_pA, kx_pV, kx_s1, kx_s2, kx_sl, kx_pre, kx_c2, kx_pl, kx_cmp, kx_oF, kx_eqN, kx_nil, kx_c1, kx_ft, kx_aI, kx_aL, kx_aR, kx_ln, Nat.reduceAdd, Option.toList, List.cons_append, List.nil_append, cf6_3, cf6_4, cf6_0, cf6_1, cf6_2])
    repeat' apply And.intro
    all_goals try (first | with_reducible assumption | (with_reducible refine ck_nzI ?_; simp; done) | (with_reducible refine ck_nzL ?_; simp; done) | (with_reducible refine vp_in_nI ?_ ?_ <;> first | omega | decide) | (with_reducible refine Nat.le_of_ble_eq_true ?_; rfl) | omega | exact Or.inl trivial | exact Or.inr trivial | exact Or.inl rfl | exact Or.inr rfl)
    · intro zc15
      have ze15 := zc15
      refine hB bX6_goOn_28 _ _ _ _ _ _ _ kX6_goOn_28 ?_
      dsimp only [bX6_goOn_28, kx_wp, kx_step, kx_lI, kx_lL, kx_lA, kx_gl, kx_pI, kx_pL, kx_pR, kx_pA, kx_pV, kx_s1, kx_s2, kx_sl, kx_pre, kx_c2, kx_pl, kx_cmp, kx_oF, kx_eqN, kx_nil, kx_c1, kx_ft, kx_aI, kx_aL, kx_aR, kx_ln, Nat.reduceAdd, Option.toList, List.cons_append, List.nil_append, cf6_3, cf6_4, cf6_0, cf6_1, cf6_2]
      repeat (simp only [rW_78, rW_79, rW_80, rW_p78, rW_p79, rW_p80, t5, nI_1, cp6_3, cp6_4, ks_eq, ks_ss]; try dsimp only [kx_wp, kx_step, kx_lI, kx_lL, kx_lA, kx_gl, kx_pI, kx_pL, kx_pR, kx_pA, kx_pV, kx_s1, kx_s2, kx_sl, kx_pre, kx_c2, kx_pl, kx_cmp, kx_oF, kx_eqN, kx_nil, kx_c1, kx_ft, kx_aI, kx_aL, kx_aR, kx_ln, Nat.reduceAdd, Option.toList, List.cons_append, List.nil_append, cf6_3, cf6_4, cf6_0, cf6_1, cf6_2])
      repeat' apply And.intro
      all_goals try (first | with_reducible assumption | (with_reducible refine ck_nzI ?_; simp; done) | (with_reducible refine ck_nzL ?_; simp; done) | (with_reducible refine vp_in_nI ?_ ?_ <;> first | omega | decide) | (with_reducible refine Nat.le_of_ble_eq_true ?_; rfl) | omega | exact Or.inl trivial | exact Or.inr trivial | exact Or.inl rfl | exact Or.inr rfl)
      · intro zc29
        have ze29 := zc29
        refine hB bX6_goOn_41 _ _ _ _ _ _ _ kX6_goOn_41 ?_
        dsimp only [bX6_goOn_41, kx_wp, kx_step, kx_lI, kx_lL, kx_lA, kx_gl, kx_pI, kx_pL, kx_pR, kx_pA, kx_pV, kx_s1, kx_s2, kx_sl, kx_pre, kx_c2, kx_pl, kx_cmp, kx_oF, kx_eqN, kx_nil, kx_c1, kx_ft, kx_aI, kx_aL, kx_aR, kx_ln, Nat.reduceAdd, Option.toList, List.cons_append, List.nil_append, cf6_3, cf6_4, cf6_0, cf6_1, cf6_2]
        repeat (simp only [rW_78, rW_79, rW_80, rW_p78, rW_p79, rW_p80, t5, nI_1, cp6_3, cp6_4, ks_eq, ks_ss]; try dsimp only [kx_wp, kx_step, kx_lI, kx_lL, kx_lA, kx_gl, kx_pI, kx_pL, kx_pR, kx_pA, kx_pV, kx_s1, kx_s2, kx_sl, kx_pre, kx_c2, kx_pl, kx_cmp, kx_oF, kx_eqN, kx_nil, kx_c1, kx_ft, kx_aI, kx_aL, kx_aR, kx_ln, Nat.reduceAdd, Option.toList, List.cons_append, List.nil_append, cf6_3, cf6_4, cf6_0, cf6_1, cf6_2])
        repeat' apply And.intro
        all_goals try (first | with_reducible assumption | (with_reducible refine ck_nzI ?_; simp; done) | (with_reducible refine ck_nzL ?_; simp; done) | (with_reducible refine vp_in_nI ?_ ?_ <;> first | omega | decide) | (with_reducible refine Nat.le_of_ble_eq_true ?_; rfl) | omega | exact Or.inl trivial | exact Or.inr trivial | exact Or.inl rfl | exact Or.inr rfl)
        refine kz_copy hK 68 (kx_at_l kz_cw 0 rfl) dX6_goOn_68 rW_79 rW_80 (by decide) (by decide) (by decide) (by decide) (by decide) (by decide) (by decide) ?_
        rw [ck_cpy6, rW_p80]
        refine hB bX6_goOn_71 _ _ _ _ _ _ _ kX6_goOn_71 ?_
        dsimp only [bX6_goOn_71, kx_wp, kx_step, kx_lI, kx_lL, kx_lA, kx_gl, kx_pI, kx_pL, kx_pR, kx_pA, kx_pV, kx_s1, kx_s2, kx_sl, kx_pre, kx_c2, kx_pl, kx_cmp, kx_oF, kx_eqN, kx_nil, kx_c1, kx_ft, kx_aI, kx_aL, kx_aR, kx_ln, Nat.reduceAdd, Option.toList, List.cons_append, List.nil_append, cf6_3, cf6_4, cf6_0, cf6_1, cf6_2]
        repeat (simp only [rW_78, rW_79, rW_80, rW_p78, rW_p79, rW_p80, t5, nI_1, cp6_3, cp6_4, ks_eq, ks_ss]; try dsimp only [kx_wp, kx_step, kx_lI, kx_lL, kx_lA, kx_gl, kx_pI, kx_pL, kx_pR, kx_pA, kx_pV, kx_s1, kx_s2, kx_sl, kx_pre, kx_c2, kx_pl, kx_cmp, kx_oF, kx_eqN, kx_nil, kx_c1, kx_ft, kx_aI, kx_aL, kx_aR, kx_ln, Nat.reduceAdd, Option.toList, List.cons_append, List.nil_append, cf6_3, cf6_4, cf6_0, cf6_1, cf6_2])
        all_goals (repeat' apply And.intro)
        all_goals ((try clear hB hC); first | exact True.intro | (simp only [cx_go, cx_pr, cx_lfv, zc6, ze6, ze15, eq_true ze29, ↓reduceIte]; done) | trace_state)
      · intro zc29
        have ze29 := zc29
        refine hB bX6_goOn_32 _ _ _ _ _ _ _ kX6_goOn_32 ?_
        dsimp only [bX6_goOn_32, kx_wp, kx_step, kx_lI, kx_lL, kx_lA, kx_gl, kx_pI, kx_pL, kx_pR, kx_pA, kx_pV, kx_s1, kx_s2, kx_sl, kx_pre, kx_c2, kx_pl, kx_cmp, kx_oF, kx_eqN, kx_nil, kx_c1, kx_ft, kx_aI, kx_aL, kx_aR, kx_ln, Nat.reduceAdd, Option.toList, List.cons_append, List.nil_append, cf6_3, cf6_4, cf6_0, cf6_1, cf6_2]
        repeat (simp only [rW_78, rW_79, rW_80, rW_p78, rW_p79, rW_p80, t5, nI_1, cp6_3, cp6_4, ks_eq, ks_ss]; try dsimp only [kx_wp, kx_step, kx_lI, kx_lL, kx_lA, kx_gl, kx_pI, kx_pL, kx_pR, kx_pA, kx_pV, kx_s1, kx_s2, kx_sl, kx_pre, kx_c2, kx_pl, kx_cmp, kx_oF, kx_eqN, kx_nil, kx_c1, kx_ft, kx_aI, kx_aL, kx_aR, kx_ln, Nat.reduceAdd, Option.toList, List.cons_append, List.nil_append, cf6_3, cf6_4, cf6_0, cf6_1, cf6_2])
        repeat' apply And.intro
        all_goals try (first | with_reducible assumption | (with_reducible refine ck_nzI ?_; simp; done) | (with_reducible refine ck_nzL ?_; simp; done) | (with_reducible refine vp_in_nI ?_ ?_ <;> first | omega | decide) | (with_reducible refine Nat.le_of_ble_eq_true ?_; rfl) | omega | exact Or.inl trivial | exact Or.inr trivial | exact Or.inl rfl | exact Or.inr rfl)
        · intro zc38
          first | exact absurd rfl zc38 | exact absurd zc38 (by decide) | exact absurd (by decide) zc38 | (exfalso; first | exact absurd ((nI_ltI (a := k) (b := 6) (by omega) (by omega)).mp zc38) (by omega)) | (exfalso; simp_all; done)
        · intro zc38
          with_reducible first | have ze38 := Int32.not_lt.mp zc38 | have ze38 := zc38
          refine hB bX6_goOn_41 _ _ _ _ _ _ _ kX6_goOn_41 ?_
          dsimp only [bX6_goOn_41, kx_wp, kx_step, kx_lI, kx_lL, kx_lA, kx_gl, kx_pI, kx_pL, kx_pR, kx_pA, kx_pV, kx_s1, kx_s2, kx_sl, kx_pre, kx_c2, kx_pl, kx_cmp, kx_oF, kx_eqN, kx_nil, kx_c1, kx_ft, kx_aI, kx_aL, kx_aR, kx_ln, Nat.reduceAdd, Option.toList, List.cons_append, List.nil_append, cf6_3, cf6_4, cf6_0, cf6_1, cf6_2]
          repeat (simp only [rW_78, rW_79, rW_80, rW_p78, rW_p79, rW_p80, t5, nI_1, cp6_3, cp6_4, ks_eq, ks_ss]; try dsimp only [kx_wp, kx_step, kx_lI, kx_lL, kx_lA, kx_gl, kx_pI, kx_pL, kx_pR, kx_pA, kx_pV, kx_s1, kx_s2, kx_sl, kx_pre, kx_c2, kx_pl, kx_cmp, kx_oF, kx_eqN, kx_nil, kx_c1, kx_ft, kx_aI, kx_aL, kx_aR, kx_ln, Nat.reduceAdd, Option.toList, List.cons_append, List.nil_append, cf6_3, cf6_4, cf6_0, cf6_1, cf6_2])
          repeat' apply And.intro
          all_goals try (first | with_reducible assumption | (with_reducible refine ck_nzI ?_; simp; done) | (with_reducible refine ck_nzL ?_; simp; done) | (with_reducible refine vp_in_nI ?_ ?_ <;> first | omega | decide) | (with_reducible refine Nat.le_of_ble_eq_true ?_; rfl) | omega | exact Or.inl trivial | exact Or.inr trivial | exact Or.inl rfl | exact Or.inr rfl)
          refine kz_copy hK 68 (kx_at_l kz_cw 0 rfl) dX6_goOn_68 rW_79 rW_80 (by decide) (by decide) (by decide) (by decide) (by decide) (by decide) (by decide) ?_
          rw [ck_cpy6, rW_p80]
          refine hB bX6_goOn_71 _ _ _ _ _ _ _ kX6_goOn_71 ?_
          dsimp only [bX6_goOn_71, kx_wp, kx_step, kx_lI, kx_lL, kx_lA, kx_gl, kx_pI, kx_pL, kx_pR, kx_pA, kx_pV, kx_s1, kx_s2, kx_sl, kx_pre, kx_c2, kx_pl, kx_cmp, kx_oF, kx_eqN, kx_nil, kx_c1, kx_ft, kx_aI, kx_aL, kx_aR, kx_ln, Nat.reduceAdd, Option.toList, List.cons_append, List.nil_append, cf6_3, cf6_4, cf6_0, cf6_1, cf6_2]
          repeat (simp only [rW_78, rW_79, rW_80, rW_p78, rW_p79, rW_p80, t5, nI_1, cp6_3, cp6_4, ks_eq, ks_ss]; try dsimp only [kx_wp, kx_step, kx_lI, kx_lL, kx_lA, kx_gl, kx_pI, kx_pL, kx_pR, kx_pA, kx_pV, kx_s1, kx_s2, kx_sl, kx_pre, kx_c2, kx_pl, kx_cmp, kx_oF, kx_eqN, kx_nil, kx_c1, kx_ft, kx_aI, kx_aL, kx_aR, kx_ln, Nat.reduceAdd, Option.toList, List.cons_append, List.nil_append, cf6_3, cf6_4, cf6_0, cf6_1, cf6_2])
          all_goals (repeat' apply And.intro)
          all_goals ((try clear hB hC); first | exact True.intro | (simp only [cx_go, cx_pr, cx_lfv, zc6, ze6, ze15, ze29, zc38, ze38, ↓reduceIte]; done) | trace_state)
    · intro zc15
      with_reducible first | have ze15 := Decidable.not_not.mp zc15 | have ze15 := zc15
      refine hB bX6_goOn_18 _ _ _ _ _ _ _ kX6_goOn_18 ?_
      dsimp only [bX6_goOn_18, kx_wp, kx_step, kx_lI, kx_lL, kx_lA, kx_gl, kx_pI, kx_pL, kx_pR, kx_pA, kx_pV, kx_s1, kx_s2, kx_sl, kx_pre, kx_c2, kx_pl, kx_cmp, kx_oF, kx_eqN, kx_nil, kx_c1, kx_ft, kx_aI, kx_aL, kx_aR, kx_ln, Nat.reduceAdd, Option.toList, List.cons_append, List.nil_append, cf6_3, cf6_4, cf6_0, cf6_1, cf6_2]
      repeat (simp only [rW_78, rW_79, rW_80, rW_p78, rW_p79, rW_p80, t5, nI_1, cp6_3, cp6_4, ks_eq, ks_ss]; try dsimp only [kx_wp, kx_step, kx_lI, kx_lL, kx_lA, kx_gl, kx_pI, kx_pL, kx_pR, kx_pA, kx_pV, kx_s1, kx_s2, kx_sl, kx_pre, kx_c2, kx_pl, kx_cmp, kx_oF, kx_eqN, kx_nil, kx_c1, kx_ft, kx_aI, kx_aL, kx_aR, kx_ln, Nat.reduceAdd, Option.toList, List.cons_append, List.nil_append, cf6_3, cf6_4, cf6_0, cf6_1, cf6_2])
      repeat' apply And.intro
      all_goals try (first | with_reducible assumption | (with_reducible refine ck_nzI ?_; simp; done) | (with_reducible refine ck_nzL ?_; simp; done) | (with_reducible refine vp_in_nI ?_ ?_ <;> first | omega | decide) | (with_reducible refine Nat.le_of_ble_eq_true ?_; rfl) | omega | exact Or.inl trivial | exact Or.inr trivial | exact Or.inl rfl | exact Or.inr rfl)
      · intro zc24
        with_reducible first | have ze24 := Int32.not_le.mpr zc24 | have ze24 := zc24
        refine hB bX6_goOn_28 _ _ _ _ _ _ _ kX6_goOn_28 ?_
        dsimp only [bX6_goOn_28, kx_wp, kx_step, kx_lI, kx_lL, kx_lA, kx_gl, kx_pI, kx_pL, kx_pR, kx_pA, kx_pV, kx_s1, kx_s2, kx_sl, kx_pre, kx_c2, kx_pl, kx_cmp, kx_oF, kx_eqN, kx_nil, kx_c1, kx_ft, kx_aI, kx_aL, kx_aR, kx_ln, Nat.reduceAdd, Option.toList, List.cons_append, List.nil_append, cf6_3, cf6_4, cf6_0, cf6_1, cf6_2]
        repeat (simp only [rW_78, rW_79, rW_80, rW_p78, rW_p79, rW_p80, t5, nI_1, cp6_3, cp6_4, ks_eq, ks_ss]; try dsimp only [kx_wp, kx_step, kx_lI, kx_lL, kx_lA, kx_gl, kx_pI, kx_pL, kx_pR, kx_pA, kx_pV, kx_s1, kx_s2, kx_sl, kx_pre, kx_c2, kx_pl, kx_cmp, kx_oF, kx_eqN, kx_nil, kx_c1, kx_ft, kx_aI, kx_aL, kx_aR, kx_ln, Nat.reduceAdd, Option.toList, List.cons_append, List.nil_append, cf6_3, cf6_4, cf6_0, cf6_1, cf6_2])
        repeat' apply And.intro
        all_goals try (first | with_reducible assumption | (with_reducible refine ck_nzI ?_; simp; done) | (with_reducible refine ck_nzL ?_; simp; done) | (with_reducible refine vp_in_nI ?_ ?_ <;> first | omega | decide) | (with_reducible refine Nat.le_of_ble_eq_true ?_; rfl) | omega | exact Or.inl trivial | exact Or.inr trivial | exact Or.inl rfl | exact Or.inr rfl)
        · intro zc29
          have ze29 := zc29
          refine hB bX6_goOn_41 _ _ _ _ _ _ _ kX6_goOn_41 ?_
          dsimp only [bX6_goOn_41, kx_wp, kx_step, kx_lI, kx_lL, kx_lA, kx_gl, kx_pI, kx_pL, kx_pR, kx_pA, kx_pV, kx_s1, kx_s2, kx_sl, kx_pre, kx_c2, kx_pl, kx_cmp, kx_oF, kx_eqN, kx_nil, kx_c1, kx_ft, kx_aI, kx_aL, kx_aR, kx_ln, Nat.reduceAdd, Option.toList, List.cons_append, List.nil_append, cf6_3, cf6_4, cf6_0, cf6_1, cf6_2]
          repeat (simp only [rW_78, rW_79, rW_80, rW_p78, rW_p79, rW_p80, t5, nI_1, cp6_3, cp6_4, ks_eq, ks_ss]; try dsimp only [kx_wp, kx_step, kx_lI, kx_lL, kx_lA, kx_gl, kx_pI, kx_pL, kx_pR, kx_pA, kx_pV, kx_s1, kx_s2, kx_sl, kx_pre, kx_c2, kx_pl, kx_cmp, kx_oF, kx_eqN, kx_nil, kx_c1, kx_ft, kx_aI, kx_aL, kx_aR, kx_ln, Nat.reduceAdd, Option.toList, List.cons_append, List.nil_append, cf6_3, cf6_4, cf6_0, cf6_1, cf6_2])
          repeat' apply And.intro
          all_goals try (first | with_reducible assumption | (with_reducible refine ck_nzI ?_; simp; done) | (with_reducible refine ck_nzL ?_; simp; done) | (with_reducible refine vp_in_nI ?_ ?_ <;> first | omega | decide) | (with_reducible refine Nat.le_of_ble_eq_true ?_; rfl) | omega | exact Or.inl trivial | exact Or.inr trivial | exact Or.inl rfl | exact Or.inr rfl)
          refine kz_copy hK 68 (kx_at_l kz_cw 0 rfl) dX6_goOn_68 rW_79 rW_80 (by decide) (by decide) (by decide) (by decide) (by decide) (by decide) (by decide) ?_
          rw [ck_cpy6, rW_p80]
          refine hB bX6_goOn_71 _ _ _ _ _ _ _ kX6_goOn_71 ?_
          dsimp only [bX6_goOn_71, kx_wp, kx_step, kx_lI, kx_lL, kx_lA, kx_gl, kx_pI, kx_pL, kx_pR, kx_pA, kx_pV, kx_s1, kx_s2, kx_sl, kx_pre, kx_c2, kx_pl, kx_cmp, kx_oF, kx_eqN, kx_nil, kx_c1, kx_ft, kx_aI, kx_aL, kx_aR, kx_ln, Nat.reduceAdd, Option.toList, List.cons_append, List.nil_append, cf6_3, cf6_4, cf6_0, cf6_1, cf6_2]
          repeat (simp only [rW_78, rW_79, rW_80, rW_p78, rW_p79, rW_p80, t5, nI_1, cp6_3, cp6_4, ks_eq, ks_ss]; try dsimp only [kx_wp, kx_step, kx_lI, kx_lL, kx_lA, kx_gl, kx_pI, kx_pL, kx_pR, kx_pA, kx_pV, kx_s1, kx_s2, kx_sl, kx_pre, kx_c2, kx_pl, kx_cmp, kx_oF, kx_eqN, kx_nil, kx_c1, kx_ft, kx_aI, kx_aL, kx_aR, kx_ln, Nat.reduceAdd, Option.toList, List.cons_append, List.nil_append, cf6_3, cf6_4, cf6_0, cf6_1, cf6_2])
          all_goals (repeat' apply And.intro)
          all_goals ((try clear hB hC); first | exact True.intro | (simp only [cx_go, cx_pr, cx_lfv, zc6, ze6, eq_true ze15, zc24, ze24, eq_true ze29, ↓reduceIte]; done) | trace_state)
        · intro zc29
          have ze29 := zc29
          refine hB bX6_goOn_32 _ _ _ _ _ _ _ kX6_goOn_32 ?_
          dsimp only [bX6_goOn_32, kx_wp, kx_step, kx_lI, kx_lL, kx_lA, kx_gl, kx_pI, kx_pL, kx_pR, kx_pA, kx_pV, kx_s1, kx_s2, kx_sl, kx_pre, kx_c2, kx_pl, kx_cmp, kx_oF, kx_eqN, kx_nil, kx_c1, kx_ft, kx_aI, kx_aL, kx_aR, kx_ln, Nat.reduceAdd, Option.toList, List.cons_append, List.nil_append, cf6_3, cf6_4, cf6_0, cf6_1, cf6_2]
          repeat (simp only [rW_78, rW_79, rW_80, rW_p78, rW_p79, rW_p80, t5, nI_1, cp6_3, cp6_4, ks_eq, ks_ss]; try dsimp only [kx_wp, kx_step, kx_lI, kx_lL, kx_lA, kx_gl, kx_pI, kx_pL, kx_pR, kx_pA, kx_pV, kx_s1, kx_s2, kx_sl, kx_pre, kx_c2, kx_pl, kx_cmp, kx_oF, kx_eqN, kx_nil, kx_c1, kx_ft, kx_aI, kx_aL, kx_aR, kx_ln, Nat.reduceAdd, Option.toList, List.cons_append, List.nil_append, cf6_3, cf6_4, cf6_0, cf6_1, cf6_2])
          repeat' apply And.intro
          all_goals try (first | with_reducible assumption | (with_reducible refine ck_nzI ?_; simp; done) | (with_reducible refine ck_nzL ?_; simp; done) | (with_reducible refine vp_in_nI ?_ ?_ <;> first | omega | decide) | (with_reducible refine Nat.le_of_ble_eq_true ?_; rfl) | omega | exact Or.inl trivial | exact Or.inr trivial | exact Or.inl rfl | exact Or.inr rfl)
          · intro zc38
            first | exact absurd rfl zc38 | exact absurd zc38 (by decide) | exact absurd (by decide) zc38 | (exfalso; first | exact absurd ((nI_ltI (a := k) (b := 6) (by omega) (by omega)).mp zc38) (by omega)) | (exfalso; simp_all; done)
          · intro zc38
            with_reducible first | have ze38 := Int32.not_lt.mp zc38 | have ze38 := zc38
            refine hB bX6_goOn_41 _ _ _ _ _ _ _ kX6_goOn_41 ?_
            dsimp only [bX6_goOn_41, kx_wp, kx_step, kx_lI, kx_lL, kx_lA, kx_gl, kx_pI, kx_pL, kx_pR, kx_pA, kx_pV, kx_s1, kx_s2, kx_sl, kx_pre, kx_c2, kx_pl, kx_cmp, kx_oF, kx_eqN, kx_nil, kx_c1, kx_ft, kx_aI, kx_aL, kx_aR, kx_ln, Nat.reduceAdd, Option.toList, List.cons_append, List.nil_append, cf6_3, cf6_4, cf6_0, cf6_1, cf6_2]
            repeat (simp only [rW_78, rW_79, rW_80, rW_p78, rW_p79, rW_p80, t5, nI_1, cp6_3, cp6_4, ks_eq, ks_ss]; try dsimp only [kx_wp, kx_step, kx_lI, kx_lL, kx_lA, kx_gl, kx_pI, kx_pL, kx_pR, kx_pA, kx_pV, kx_s1, kx_s2, kx_sl, kx_pre, kx_c2, kx_pl, kx_cmp, kx_oF, kx_eqN, kx_nil, kx_c1, kx_ft, kx_aI, kx_aL, kx_aR, kx_ln, Nat.reduceAdd, Option.toList, List.cons_append, List.nil_append, cf6_3, cf6_4, cf6_0, cf6_1, cf6_2])
            repeat' apply And.intro
            all_goals try (first | with_reducible assumption | (with_reducible refine ck_nzI ?_; simp; done) | (with_reducible refine ck_nzL ?_; simp; done) | (with_reducible refine vp_in_nI ?_ ?_ <;> first | omega | decide) | (with_reducible refine Nat.le_of_ble_eq_true ?_; rfl) | omega | exact Or.inl trivial | exact Or.inr trivial | exact Or.inl rfl | exact Or.inr rfl)
            refine kz_copy hK 68 (kx_at_l kz_cw 0 rfl) dX6_goOn_68 rW_79 rW_80 (by decide) (by decide) (by decide) (by decide) (by decide) (by decide) (by decide) ?_
            rw [ck_cpy6, rW_p80]
            refine hB bX6_goOn_71 _ _ _ _ _ _ _ kX6_goOn_71 ?_
            dsimp only [bX6_goOn_71, kx_wp, kx_step, kx_lI, kx_lL, kx_lA, kx_gl, kx_pI, kx_pL, kx_pR, kx_pA, kx_pV, kx_s1, kx_s2, kx_sl, kx_pre, kx_c2, kx_pl, kx_cmp, kx_oF, kx_eqN, kx_nil, kx_c1, kx_ft, kx_aI, kx_aL, kx_aR, kx_ln, Nat.reduceAdd, Option.toList, List.cons_append, List.nil_append, cf6_3, cf6_4, cf6_0, cf6_1, cf6_2]
            repeat (simp only [rW_78, rW_79, rW_80, rW_p78, rW_p79, rW_p80, t5, nI_1, cp6_3, cp6_4, ks_eq, ks_ss]; try dsimp only [kx_wp, kx_step, kx_lI, kx_lL, kx_lA, kx_gl, kx_pI, kx_pL, kx_pR, kx_pA, kx_pV, kx_s1, kx_s2, kx_sl, kx_pre, kx_c2, kx_pl, kx_cmp, kx_oF, kx_eqN, kx_nil, kx_c1, kx_ft, kx_aI, kx_aL, kx_aR, kx_ln, Nat.reduceAdd, Option.toList, List.cons_append, List.nil_append, cf6_3, cf6_4, cf6_0, cf6_1, cf6_2])
            all_goals (repeat' apply And.intro)
            all_goals ((try clear hB hC); first | exact True.intro | (simp only [cx_go, cx_pr, cx_lfv, zc6, ze6, eq_true ze15, zc24, ze24, ze29, zc38, ze38, ↓reduceIte]; done) | trace_state)
      · intro zc24
        with_reducible first | have ze24 := Int32.not_lt.mp zc24 | have ze24 := zc24
        refine hB bX6_goOn_27 _ _ _ _ _ _ _ kX6_goOn_27 ?_
        dsimp only [bX6_goOn_27, kx_wp, kx_step, kx_lI, kx_lL, kx_lA, kx_gl, kx_pI, kx_pL, kx_pR, kx_pA, kx_pV, kx_s1, kx_s2, kx_sl, kx_pre, kx_c2, kx_pl, kx_cmp, kx_oF, kx_eqN, kx_nil, kx_c1, kx_ft, kx_aI, kx_aL, kx_aR, kx_ln, Nat.reduceAdd, Option.toList, List.cons_append, List.nil_append, cf6_3, cf6_4, cf6_0, cf6_1, cf6_2]
        repeat (simp only [rW_78, rW_79, rW_80, rW_p78, rW_p79, rW_p80, t5, nI_1, cp6_3, cp6_4, ks_eq, ks_ss]; try dsimp only [kx_wp, kx_step, kx_lI, kx_lL, kx_lA, kx_gl, kx_pI, kx_pL, kx_pR, kx_pA, kx_pV, kx_s1, kx_s2, kx_sl, kx_pre, kx_c2, kx_pl, kx_cmp, kx_oF, kx_eqN, kx_nil, kx_c1, kx_ft, kx_aI, kx_aL, kx_aR, kx_ln, Nat.reduceAdd, Option.toList, List.cons_append, List.nil_append, cf6_3, cf6_4, cf6_0, cf6_1, cf6_2])
        all_goals (repeat' apply And.intro)
        all_goals ((try clear hB hC); first | exact True.intro | (simp only [cx_go, cx_pr, cx_lfv, zc6, ze6, eq_true ze15, zc24, ze24, ↓reduceIte]; done) | trace_state)

set_option maxRecDepth 100000 in
set_option maxHeartbeats 4000000 in
theorem ct_X6_goOn_s (l : Launch) (G : kx_G) {P : kx_P} {sz : Nat} {cl : Nat} (hcl : cl ≤ 8) {cn wn : Nat → Nat} {DD : Nat → Int64} {HH : Nat → Value} {CC VV : Nat → Nat → Int32} (hCS : cx_CS P cl cn wn DD HH CC VV) {n : Nat} (hgo : ∀ (T : cx_T3) (k : Nat) (bits x y tm sp : Int32), k + n = 6 → kx_M l G sX6_goOn (2 * n + 4) 0 0 [.ref 78, .int (nI k), .int bits, .int x, .int y, .int tm, .int sp] (rW P T) sz none (rW P (cx_go CC VV cl n T k bits x y tm sp)) sz) {T : cx_T3} {k : Nat} {bits x y tm sp : Int32} (hk : k + (n + 1) = 6)  : kx_M l G sX6_goOn (2 * (n + 1) + 4) 0 0 [.ref 78, .int (nI k), .int (bits), .int (x), .int (y), .int (tm), .int (sp)] (rW P T) sz none (rW P (cx_go CC VV cl (n + 1) T k bits x y tm sp)) sz := by
  obtain ⟨h69, hcs⟩ := id hCS
  have t5 : ∀ T, rW P T 69 = kR 8 (fun i => if i < cl then some (cn i) else none) := fun _ => (rW_o (by decide) (by decide) (by decide)).trans h69
  refine kz_mkj kx_tab kxLok_X6 (ini := false) [some (.ref 78), some (.int (nI k)), some (.int (bits)), some (.int (x)), some (.int (y)), some (.int (tm)), some (.int (sp)), none] ⟨by decide +kernel, rfl, by decide, by omega⟩ (rfl) rfl rfl (fun g hB hC hK => ?_)
  have hend : ∀ (R : cx_T3), R = cx_go CC VV cl (n + 1) T k bits x y tm sp → g 75 [some (.ref 78), some (.int (nI k)), some (.int (bits)), some (.int (x)), some (.int (y)), some (.int (tm)), some (.int (sp)), some (.int (nI (8)))] [] (rW P R) sz 0 0 := by
    intro R hR
    refine hB bX6_goOn_75 _ _ _ _ _ _ _ kX6_goOn_75 ?_
    dsimp only [bX6_goOn_75, kx_wp, kx_step, kx_lI, kx_lL, kx_lA, kx_gl, kx_pI, kx_pL, kx_pR, kx_pA, kx_pV, kx_s1, kx_s2, kx_sl, kx_pre, kx_c2, kx_pl, kx_cmp, kx_oF, kx_eqN, kx_nil, kx_c1, kx_ft, kx_aI, kx_aL, kx_aR, kx_ln, Nat.reduceAdd, Option.toList, List.cons_append, List.nil_append, cf6_3, cf6_4, cf6_0, cf6_1, cf6_2]
    repeat (simp only [rW_78, rW_79, rW_80, rW_p78, rW_p79, rW_p80, t5, nI_1, cp6_3, cp6_4, ks_eq, ks_ss]; try dsimp only [kx_wp, kx_step, kx_lI, kx_lL, kx_lA, kx_gl, kx_pI, kx_pL, kx_pR, kx_pA, kx_pV, kx_s1, kx_s2, kx_sl, kx_pre, kx_c2, kx_pl, kx_cmp, kx_oF, kx_eqN, kx_nil, kx_c1, kx_ft, kx_aI, kx_aL, kx_aR, kx_ln, Nat.reduceAdd, Option.toList, List.cons_append, List.nil_append, cf6_3, cf6_4, cf6_0, cf6_1, cf6_2])
    repeat' apply And.intro
    all_goals try (first | with_reducible assumption | (with_reducible refine ck_nzI ?_; simp; done) | (with_reducible refine ck_nzL ?_; simp; done) | (with_reducible refine vp_in_nI ?_ ?_ <;> first | omega | decide) | (with_reducible refine Nat.le_of_ble_eq_true ?_; rfl) | omega | exact Or.inl trivial | exact Or.inr trivial | exact Or.inl rfl | exact Or.inr rfl)
    · intro zc82
      with_reducible first | have ze82 := Int32.not_lt.mpr zc82 | have ze82 := zc82
      refine hB bX6_goOn_157 _ _ _ _ _ _ _ kX6_goOn_157 ?_
      dsimp only [bX6_goOn_157, kx_wp, kx_step, kx_lI, kx_lL, kx_lA, kx_gl, kx_pI, kx_pL, kx_pR, kx_pA, kx_pV, kx_s1, kx_s2, kx_sl, kx_pre, kx_c2, kx_pl, kx_cmp, kx_oF, kx_eqN, kx_nil, kx_c1, kx_ft, kx_aI, kx_aL, kx_aR, kx_ln, Nat.reduceAdd, Option.toList, List.cons_append, List.nil_append, cf6_3, cf6_4, cf6_0, cf6_1, cf6_2]
      repeat (simp only [rW_78, rW_79, rW_80, rW_p78, rW_p79, rW_p80, t5, nI_1, cp6_3, cp6_4, ks_eq, ks_ss]; try dsimp only [kx_wp, kx_step, kx_lI, kx_lL, kx_lA, kx_gl, kx_pI, kx_pL, kx_pR, kx_pA, kx_pV, kx_s1, kx_s2, kx_sl, kx_pre, kx_c2, kx_pl, kx_cmp, kx_oF, kx_eqN, kx_nil, kx_c1, kx_ft, kx_aI, kx_aL, kx_aR, kx_ln, Nat.reduceAdd, Option.toList, List.cons_append, List.nil_append, cf6_3, cf6_4, cf6_0, cf6_1, cf6_2])
      all_goals (repeat' apply And.intro)
      all_goals ((try clear hB hC); first | exact True.intro | (rw [hR]))
    · intro zc82
      first | exact absurd rfl zc82 | exact absurd zc82 (by decide) | exact absurd (by decide) zc82 | (exfalso; first | exact absurd ((nI_leI (a := 8) (b := 8) (by omega) (by omega)).mpr (by omega)) zc82 | exact absurd ((nI_leI (a := 8) (b := c) (by omega) (by omega)).mp zc82) (by omega) | exact absurd ((nI_ltI (a := k) (b := 6) (by omega) (by omega)).mpr (by omega)) zc38 | exact zc102 hbt | exact hbt zc102 | exact hbt (Decidable.not_not.mp zc102)) | (exfalso; simp_all; done)
  have hnull : ∀ (n9 c : Nat) (R : cx_T3), c + n9 = 8 → cl ≤ c → R = cx_go CC VV cl (n + 1) T k bits x y tm sp → g 75 [some (.ref 78), some (.int (nI k)), some (.int (bits)), some (.int (x)), some (.int (y)), some (.int (tm)), some (.int (sp)), some (.int (nI (c)))] [] (rW P R) sz 0 0 := by
    intro n9
    induction n9 with
    | zero =>
      intro c R hc hcl2 hR
      obtain rfl : c = 8 := by omega
      exact hend R hR
    | succ n9 ih =>
      intro c R hc hcl2 hR
      have e8 : (if c < cl then some (cn c) else none) = none := if_neg (by omega)
      have e9 : va_rf none = .null := rfl
      have c1 : (nI c).toNatClampNeg = c := nI_clamp (by omega)
      refine hB bX6_goOn_75 _ _ _ _ _ _ _ kX6_goOn_75 ?_
      dsimp only [bX6_goOn_75, kx_wp, kx_step, kx_lI, kx_lL, kx_lA, kx_gl, kx_pI, kx_pL, kx_pR, kx_pA, kx_pV, kx_s1, kx_s2, kx_sl, kx_pre, kx_c2, kx_pl, kx_cmp, kx_oF, kx_eqN, kx_nil, kx_c1, kx_ft, kx_aI, kx_aL, kx_aR, kx_ln, Nat.reduceAdd, Option.toList, List.cons_append, List.nil_append, cf6_3, cf6_4, cf6_0, cf6_1, cf6_2]
      repeat (simp only [rW_78, rW_79, rW_80, rW_p78, rW_p79, rW_p80, t5, nI_1, cp6_3, cp6_4, ks_eq, ks_ss, e8, e9, c1]; try dsimp only [kx_wp, kx_step, kx_lI, kx_lL, kx_lA, kx_gl, kx_pI, kx_pL, kx_pR, kx_pA, kx_pV, kx_s1, kx_s2, kx_sl, kx_pre, kx_c2, kx_pl, kx_cmp, kx_oF, kx_eqN, kx_nil, kx_c1, kx_ft, kx_aI, kx_aL, kx_aR, kx_ln, Nat.reduceAdd, Option.toList, List.cons_append, List.nil_append, cf6_3, cf6_4, cf6_0, cf6_1, cf6_2])
      repeat' apply And.intro
      all_goals try (first | with_reducible assumption | (with_reducible refine ck_nzI ?_; simp; done) | (with_reducible refine ck_nzL ?_; simp; done) | (with_reducible refine vp_in_nI ?_ ?_ <;> first | omega | decide) | (with_reducible refine Nat.le_of_ble_eq_true ?_; rfl) | omega | exact Or.inl trivial | exact Or.inr trivial | exact Or.inl rfl | exact Or.inr rfl)
      · intro zc82
        first | exact absurd rfl zc82 | exact absurd zc82 (by decide) | exact absurd (by decide) zc82 | (exfalso; first | exact absurd ((nI_leI (a := 8) (b := 8) (by omega) (by omega)).mpr (by omega)) zc82 | exact absurd ((nI_leI (a := 8) (b := c) (by omega) (by omega)).mp zc82) (by omega) | exact absurd ((nI_ltI (a := k) (b := 6) (by omega) (by omega)).mpr (by omega)) zc38 | exact zc102 hbt | exact hbt zc102 | exact hbt (Decidable.not_not.mp zc102)) | (exfalso; simp_all; done)
      · intro zc82
        with_reducible first | have ze82 := Int32.not_le.mp zc82 | have ze82 := zc82
        refine hB bX6_goOn_85 _ _ _ _ _ _ _ kX6_goOn_85 ?_
        dsimp only [bX6_goOn_85, kx_wp, kx_step, kx_lI, kx_lL, kx_lA, kx_gl, kx_pI, kx_pL, kx_pR, kx_pA, kx_pV, kx_s1, kx_s2, kx_sl, kx_pre, kx_c2, kx_pl, kx_cmp, kx_oF, kx_eqN, kx_nil, kx_c1, kx_ft, kx_aI, kx_aL, kx_aR, kx_ln, Nat.reduceAdd, Option.toList, List.cons_append, List.nil_append, cf6_3, cf6_4, cf6_0, cf6_1, cf6_2]
        repeat (simp only [rW_78, rW_79, rW_80, rW_p78, rW_p79, rW_p80, t5, nI_1, cp6_3, cp6_4, ks_eq, ks_ss, e8, e9, c1]; try dsimp only [kx_wp, kx_step, kx_lI, kx_lL, kx_lA, kx_gl, kx_pI, kx_pL, kx_pR, kx_pA, kx_pV, kx_s1, kx_s2, kx_sl, kx_pre, kx_c2, kx_pl, kx_cmp, kx_oF, kx_eqN, kx_nil, kx_c1, kx_ft, kx_aI, kx_aL, kx_aR, kx_ln, Nat.reduceAdd, Option.toList, List.cons_append, List.nil_append, cf6_3, cf6_4, cf6_0, cf6_1, cf6_2])
        repeat' apply And.intro
        all_goals try (first | with_reducible assumption | (with_reducible refine ck_nzI ?_; simp; done) | (with_reducible refine ck_nzL ?_; simp; done) | (with_reducible refine vp_in_nI ?_ ?_ <;> first | omega | decide) | (with_reducible refine Nat.le_of_ble_eq_true ?_; rfl) | omega | exact Or.inl trivial | exact Or.inr trivial | exact Or.inl rfl | exact Or.inr rfl)
        refine hB bX6_goOn_151 _ _ _ _ _ _ _ kX6_goOn_151 ?_
        dsimp only [bX6_goOn_151, kx_wp, kx_step, kx_lI, kx_lL, kx_lA, kx_gl, kx_pI, kx_pL, kx_pR, kx_pA, kx_pV, kx_s1, kx_s2, kx_sl, kx_pre, kx_c2, kx_pl, kx_cmp, kx_oF, kx_eqN, kx_nil, kx_c1, kx_ft, kx_aI, kx_aL, kx_aR, kx_ln, Nat.reduceAdd, Option.toList, List.cons_append, List.nil_append, cf6_3, cf6_4, cf6_0, cf6_1, cf6_2]
        repeat (simp only [rW_78, rW_79, rW_80, rW_p78, rW_p79, rW_p80, t5, nI_1, cp6_3, cp6_4, ks_eq, ks_ss, e8, e9, c1]; try dsimp only [kx_wp, kx_step, kx_lI, kx_lL, kx_lA, kx_gl, kx_pI, kx_pL, kx_pR, kx_pA, kx_pV, kx_s1, kx_s2, kx_sl, kx_pre, kx_c2, kx_pl, kx_cmp, kx_oF, kx_eqN, kx_nil, kx_c1, kx_ft, kx_aI, kx_aL, kx_aR, kx_ln, Nat.reduceAdd, Option.toList, List.cons_append, List.nil_append, cf6_3, cf6_4, cf6_0, cf6_1, cf6_2])
        repeat' apply And.intro
        all_goals try (first | with_reducible assumption | (with_reducible refine ck_nzI ?_; simp; done) | (with_reducible refine ck_nzL ?_; simp; done) | (with_reducible refine vp_in_nI ?_ ?_ <;> first | omega | decide) | (with_reducible refine Nat.le_of_ble_eq_true ?_; rfl) | omega | exact Or.inl trivial | exact Or.inr trivial | exact Or.inl rfl | exact Or.inr rfl)
        exact ih (c + 1) R (by omega) (by omega) hR
  have loop75 : ∀ (n9 c : Nat), c + n9 = cl → (ck_fold (cx_gF CC VV (cx_go CC VV cl n) k bits x y tm sp) cl T) = cx_go CC VV cl (n + 1) T k bits x y tm sp → g 75 [some (.ref 78), some (.int (nI k)), some (.int (bits)), some (.int (x)), some (.int (y)), some (.int (tm)), some (.int (sp)), some (.int (nI (c)))] [] (rW P (ck_fold (cx_gF CC VV (cx_go CC VV cl n) k bits x y tm sp) c T)) sz 0 0 := by
    intro n9
    induction n9 with
    | zero =>
      intro c hc he
      obtain rfl : c = cl := by omega
      exact hnull (8 - c) c _ (by omega) (Nat.le_refl _) he
    | succ n9 ih =>
      intro c hc9 he
      have hc : c < cl := by omega
      obtain ⟨hc1, hc2, hc3, hc4⟩ := hcs c hc
      have hqc : ∀ T, rW P T (cn c) = kO 1 (kf (cr1 (.ref (wn c)) (DD c) (HH c)) (CC c)) := fun _ => (rW_o (by omega) (by omega) (by omega)).trans hc1
      have e8 : (if c < cl then some (cn c) else none) = some (cn c) := if_pos hc
      have e9 : va_rf (some (cn c)) = .ref (cn c) := rfl
      have c1 : (nI c).toNatClampNeg = c := nI_clamp (by omega)
      have c2 : (nI k).toNatClampNeg = k := nI_clamp (by omega)
      have zi := ih (c + 1) (by omega) he
      rw [ck_fold_s] at zi
      by_cases hbt : (bits >>> (nI c &&& 31)) &&& 1 = 1
      · refine hB bX6_goOn_75 _ _ _ _ _ _ _ kX6_goOn_75 ?_
        dsimp only [bX6_goOn_75, kx_wp, kx_step, kx_lI, kx_lL, kx_lA, kx_gl, kx_pI, kx_pL, kx_pR, kx_pA, kx_pV, kx_s1, kx_s2, kx_sl, kx_pre, kx_c2, kx_pl, kx_cmp, kx_oF, kx_eqN, kx_nil, kx_c1, kx_ft, kx_aI, kx_aL, kx_aR, kx_ln, Nat.reduceAdd, Option.toList, List.cons_append, List.nil_append, cf6_3, cf6_4, cf6_0, cf6_1, cf6_2]
        repeat (simp only [rW_78, rW_79, rW_80, rW_p78, rW_p79, rW_p80, t5, nI_1, cp6_3, cp6_4, ks_eq, ks_ss, hqc, e8, e9, c1, c2]; try dsimp only [kx_wp, kx_step, kx_lI, kx_lL, kx_lA, kx_gl, kx_pI, kx_pL, kx_pR, kx_pA, kx_pV, kx_s1, kx_s2, kx_sl, kx_pre, kx_c2, kx_pl, kx_cmp, kx_oF, kx_eqN, kx_nil, kx_c1, kx_ft, kx_aI, kx_aL, kx_aR, kx_ln, Nat.reduceAdd, Option.toList, List.cons_append, List.nil_append, cf6_3, cf6_4, cf6_0, cf6_1, cf6_2])
        repeat' apply And.intro
        all_goals try (first | with_reducible assumption | (with_reducible refine ck_nzI ?_; simp; done) | (with_reducible refine ck_nzL ?_; simp; done) | (with_reducible refine vp_in_nI ?_ ?_ <;> first | omega | decide) | (with_reducible refine Nat.le_of_ble_eq_true ?_; rfl) | omega | exact Or.inl trivial | exact Or.inr trivial | exact Or.inl rfl | exact Or.inr rfl | exact vp_in_nI (by omega) (by decide))
        · intro zc82
          first | exact absurd rfl zc82 | exact absurd zc82 (by decide) | exact absurd (by decide) zc82 | (exfalso; first | exact absurd ((nI_leI (a := 8) (b := 8) (by omega) (by omega)).mpr (by omega)) zc82 | exact absurd ((nI_leI (a := 8) (b := c) (by omega) (by omega)).mp zc82) (by omega) | exact absurd ((nI_ltI (a := k) (b := 6) (by omega) (by omega)).mpr (by omega)) zc38 | exact zc102 hbt | exact hbt zc102 | exact hbt (Decidable.not_not.mp zc102)) | (exfalso; simp_all; done)
        · intro zc82
          with_reducible first | have ze82 := Int32.not_le.mp zc82 | have ze82 := zc82
          refine hB bX6_goOn_85 _ _ _ _ _ _ _ kX6_goOn_85 ?_
          dsimp only [bX6_goOn_85, kx_wp, kx_step, kx_lI, kx_lL, kx_lA, kx_gl, kx_pI, kx_pL, kx_pR, kx_pA, kx_pV, kx_s1, kx_s2, kx_sl, kx_pre, kx_c2, kx_pl, kx_cmp, kx_oF, kx_eqN, kx_nil, kx_c1, kx_ft, kx_aI, kx_aL, kx_aR, kx_ln, Nat.reduceAdd, Option.toList, List.cons_append, List.nil_append, cf6_3, cf6_4, cf6_0, cf6_1, cf6_2]
          repeat (simp only [rW_78, rW_79, rW_80, rW_p78, rW_p79, rW_p80, t5, nI_1, cp6_3, cp6_4, ks_eq, ks_ss, hqc, e8, e9, c1, c2]; try dsimp only [kx_wp, kx_step, kx_lI, kx_lL, kx_lA, kx_gl, kx_pI, kx_pL, kx_pR, kx_pA, kx_pV, kx_s1, kx_s2, kx_sl, kx_pre, kx_c2, kx_pl, kx_cmp, kx_oF, kx_eqN, kx_nil, kx_c1, kx_ft, kx_aI, kx_aL, kx_aR, kx_ln, Nat.reduceAdd, Option.toList, List.cons_append, List.nil_append, cf6_3, cf6_4, cf6_0, cf6_1, cf6_2])
          repeat' apply And.intro
          all_goals try (first | with_reducible assumption | (with_reducible refine ck_nzI ?_; simp; done) | (with_reducible refine ck_nzL ?_; simp; done) | (with_reducible refine vp_in_nI ?_ ?_ <;> first | omega | decide) | (with_reducible refine Nat.le_of_ble_eq_true ?_; rfl) | omega | exact Or.inl trivial | exact Or.inr trivial | exact Or.inl rfl | exact Or.inr rfl | exact vp_in_nI (by omega) (by decide))
          refine hB bX6_goOn_95 _ _ _ _ _ _ _ kX6_goOn_95 ?_
          dsimp only [bX6_goOn_95, kx_wp, kx_step, kx_lI, kx_lL, kx_lA, kx_gl, kx_pI, kx_pL, kx_pR, kx_pA, kx_pV, kx_s1, kx_s2, kx_sl, kx_pre, kx_c2, kx_pl, kx_cmp, kx_oF, kx_eqN, kx_nil, kx_c1, kx_ft, kx_aI, kx_aL, kx_aR, kx_ln, Nat.reduceAdd, Option.toList, List.cons_append, List.nil_append, cf6_3, cf6_4, cf6_0, cf6_1, cf6_2]
          repeat (simp only [rW_78, rW_79, rW_80, rW_p78, rW_p79, rW_p80, t5, nI_1, cp6_3, cp6_4, ks_eq, ks_ss, hqc, e8, e9, c1, c2]; try dsimp only [kx_wp, kx_step, kx_lI, kx_lL, kx_lA, kx_gl, kx_pI, kx_pL, kx_pR, kx_pA, kx_pV, kx_s1, kx_s2, kx_sl, kx_pre, kx_c2, kx_pl, kx_cmp, kx_oF, kx_eqN, kx_nil, kx_c1, kx_ft, kx_aI, kx_aL, kx_aR, kx_ln, Nat.reduceAdd, Option.toList, List.cons_append, List.nil_append, cf6_3, cf6_4, cf6_0, cf6_1, cf6_2])
          repeat' apply And.intro
          all_goals try (first | with_reducible assumption | (with_reducible refine ck_nzI ?_; simp; done) | (with_reducible refine ck_nzL ?_; simp; done) | (with_reducible refine vp_in_nI ?_ ?_ <;> first | omega | decide) | (with_reducible refine Nat.le_of_ble_eq_true ?_; rfl) | omega | exact Or.inl trivial | exact Or.inr trivial | exact Or.inl rfl | exact Or.inr rfl | exact vp_in_nI (by omega) (by decide))
          · intro zc102
            first | exact absurd rfl zc102 | exact absurd zc102 (by decide) | exact absurd (by decide) zc102 | (exfalso; first | exact absurd ((nI_leI (a := 8) (b := 8) (by omega) (by omega)).mpr (by omega)) zc82 | exact absurd ((nI_leI (a := 8) (b := c) (by omega) (by omega)).mp zc82) (by omega) | exact absurd ((nI_ltI (a := k) (b := 6) (by omega) (by omega)).mpr (by omega)) zc38 | exact zc102 hbt | exact hbt zc102 | exact hbt (Decidable.not_not.mp zc102)) | (exfalso; simp_all; done)
          · intro zc102
            with_reducible first | have ze102 := Decidable.not_not.mp zc102 | have ze102 := zc102
            refine hB bX6_goOn_105 _ _ _ _ _ _ _ kX6_goOn_105 ?_
            dsimp only [bX6_goOn_105, kx_wp, kx_step, kx_lI, kx_lL, kx_lA, kx_gl, kx_pI, kx_pL, kx_pR, kx_pA, kx_pV, kx_s1, kx_s2, kx_sl, kx_pre, kx_c2, kx_pl, kx_cmp, kx_oF, kx_eqN, kx_nil, kx_c1, kx_ft, kx_aI, kx_aL, kx_aR, kx_ln, Nat.reduceAdd, Option.toList, List.cons_append, List.nil_append, cf6_3, cf6_4, cf6_0, cf6_1, cf6_2]
            repeat (simp only [rW_78, rW_79, rW_80, rW_p78, rW_p79, rW_p80, t5, nI_1, cp6_3, cp6_4, ks_eq, ks_ss, hqc, e8, e9, c1, c2]; try dsimp only [kx_wp, kx_step, kx_lI, kx_lL, kx_lA, kx_gl, kx_pI, kx_pL, kx_pR, kx_pA, kx_pV, kx_s1, kx_s2, kx_sl, kx_pre, kx_c2, kx_pl, kx_cmp, kx_oF, kx_eqN, kx_nil, kx_c1, kx_ft, kx_aI, kx_aL, kx_aR, kx_ln, Nat.reduceAdd, Option.toList, List.cons_append, List.nil_append, cf6_3, cf6_4, cf6_0, cf6_1, cf6_2])
            repeat' apply And.intro
            all_goals try (first | with_reducible assumption | (with_reducible refine ck_nzI ?_; simp; done) | (with_reducible refine ck_nzL ?_; simp; done) | (with_reducible refine vp_in_nI ?_ ?_ <;> first | omega | decide) | (with_reducible refine Nat.le_of_ble_eq_true ?_; rfl) | omega | exact Or.inl trivial | exact Or.inr trivial | exact Or.inl rfl | exact Or.inr rfl | exact vp_in_nI (by omega) (by decide))
            refine hC.1 40 _ _ _ _ _ _ _ 1 _ _ _ _ _ _ _ _ _ _ _ _ lX6_40 (ct_X1_farFrom l G (r := fun _ => none) (hqc _)) ⟨by decide, rfl⟩ (hqc _) rfl rfl (Nat.le_of_ble_eq_true rfl) (by first | decide | omega) (by decide) (by omega) (by omega) dX6_goOn_140 ?_
            refine hB bX6_goOn_143 _ _ _ _ _ _ _ kX6_goOn_143 ?_
            dsimp only [bX6_goOn_143, kx_wp, kx_step, kx_lI, kx_lL, kx_lA, kx_gl, kx_pI, kx_pL, kx_pR, kx_pA, kx_pV, kx_s1, kx_s2, kx_sl, kx_pre, kx_c2, kx_pl, kx_cmp, kx_oF, kx_eqN, kx_nil, kx_c1, kx_ft, kx_aI, kx_aL, kx_aR, kx_ln, Nat.reduceAdd, Option.toList, List.cons_append, List.nil_append, cf6_3, cf6_4, cf6_0, cf6_1, cf6_2]
            repeat (simp only [rW_78, rW_79, rW_80, rW_p78, rW_p79, rW_p80, t5, nI_1, cp6_3, cp6_4, ks_eq, ks_ss, hqc, e8, e9, c1, c2]; try dsimp only [kx_wp, kx_step, kx_lI, kx_lL, kx_lA, kx_gl, kx_pI, kx_pL, kx_pR, kx_pA, kx_pV, kx_s1, kx_s2, kx_sl, kx_pre, kx_c2, kx_pl, kx_cmp, kx_oF, kx_eqN, kx_nil, kx_c1, kx_ft, kx_aI, kx_aL, kx_aR, kx_ln, Nat.reduceAdd, Option.toList, List.cons_append, List.nil_append, cf6_3, cf6_4, cf6_0, cf6_1, cf6_2])
            repeat' apply And.intro
            all_goals try (first | with_reducible assumption | (with_reducible refine ck_nzI ?_; simp; done) | (with_reducible refine ck_nzL ?_; simp; done) | (with_reducible refine vp_in_nI ?_ ?_ <;> first | omega | decide) | (with_reducible refine Nat.le_of_ble_eq_true ?_; rfl) | omega | exact Or.inl trivial | exact Or.inr trivial | exact Or.inl rfl | exact Or.inr rfl | exact vp_in_nI (by omega) (by decide))
            refine hC.1 46 _ _ _ _ _ _ _ 6 _ _ _ _ _ _ _ _ _ _ _ _ lX6_46 (ct_X6_comeTo l G hcl hCS hgo hc (by omega)) ⟨by decide, rfl⟩ (rW_78) rfl rfl (Nat.le_of_ble_eq_true rfl) (by first | decide | omega) (by decide) (by omega) (by omega) dX6_goOn_148 ?_
            refine hB bX6_goOn_151 _ _ _ _ _ _ _ kX6_goOn_151 ?_
            dsimp only [bX6_goOn_151, kx_wp, kx_step, kx_lI, kx_lL, kx_lA, kx_gl, kx_pI, kx_pL, kx_pR, kx_pA, kx_pV, kx_s1, kx_s2, kx_sl, kx_pre, kx_c2, kx_pl, kx_cmp, kx_oF, kx_eqN, kx_nil, kx_c1, kx_ft, kx_aI, kx_aL, kx_aR, kx_ln, Nat.reduceAdd, Option.toList, List.cons_append, List.nil_append, cf6_3, cf6_4, cf6_0, cf6_1, cf6_2]
            repeat (simp only [rW_78, rW_79, rW_80, rW_p78, rW_p79, rW_p80, t5, nI_1, cp6_3, cp6_4, ks_eq, ks_ss, hqc, e8, e9, c1, c2]; try dsimp only [kx_wp, kx_step, kx_lI, kx_lL, kx_lA, kx_gl, kx_pI, kx_pL, kx_pR, kx_pA, kx_pV, kx_s1, kx_s2, kx_sl, kx_pre, kx_c2, kx_pl, kx_cmp, kx_oF, kx_eqN, kx_nil, kx_c1, kx_ft, kx_aI, kx_aL, kx_aR, kx_ln, Nat.reduceAdd, Option.toList, List.cons_append, List.nil_append, cf6_3, cf6_4, cf6_0, cf6_1, cf6_2])
            repeat' apply And.intro
            all_goals try (first | with_reducible assumption | (with_reducible refine ck_nzI ?_; simp; done) | (with_reducible refine ck_nzL ?_; simp; done) | (with_reducible refine vp_in_nI ?_ ?_ <;> first | omega | decide) | (with_reducible refine Nat.le_of_ble_eq_true ?_; rfl) | omega | exact Or.inl trivial | exact Or.inr trivial | exact Or.inl rfl | exact Or.inr rfl | exact vp_in_nI (by omega) (by decide))
            simp only [cx_gF, if_pos hbt] at zi
            exact zi
      · refine hB bX6_goOn_75 _ _ _ _ _ _ _ kX6_goOn_75 ?_
        dsimp only [bX6_goOn_75, kx_wp, kx_step, kx_lI, kx_lL, kx_lA, kx_gl, kx_pI, kx_pL, kx_pR, kx_pA, kx_pV, kx_s1, kx_s2, kx_sl, kx_pre, kx_c2, kx_pl, kx_cmp, kx_oF, kx_eqN, kx_nil, kx_c1, kx_ft, kx_aI, kx_aL, kx_aR, kx_ln, Nat.reduceAdd, Option.toList, List.cons_append, List.nil_append, cf6_3, cf6_4, cf6_0, cf6_1, cf6_2]
        repeat (simp only [rW_78, rW_79, rW_80, rW_p78, rW_p79, rW_p80, t5, nI_1, cp6_3, cp6_4, ks_eq, ks_ss, hqc, e8, e9, c1, c2]; try dsimp only [kx_wp, kx_step, kx_lI, kx_lL, kx_lA, kx_gl, kx_pI, kx_pL, kx_pR, kx_pA, kx_pV, kx_s1, kx_s2, kx_sl, kx_pre, kx_c2, kx_pl, kx_cmp, kx_oF, kx_eqN, kx_nil, kx_c1, kx_ft, kx_aI, kx_aL, kx_aR, kx_ln, Nat.reduceAdd, Option.toList, List.cons_append, List.nil_append, cf6_3, cf6_4, cf6_0, cf6_1, cf6_2])
        repeat' apply And.intro
        all_goals try (first | with_reducible assumption | (with_reducible refine ck_nzI ?_; simp; done) | (with_reducible refine ck_nzL ?_; simp; done) | (with_reducible refine vp_in_nI ?_ ?_ <;> first | omega | decide) | (with_reducible refine Nat.le_of_ble_eq_true ?_; rfl) | omega | exact Or.inl trivial | exact Or.inr trivial | exact Or.inl rfl | exact Or.inr rfl | exact vp_in_nI (by omega) (by decide))
        · intro zc82
          first | exact absurd rfl zc82 | exact absurd zc82 (by decide) | exact absurd (by decide) zc82 | (exfalso; first | exact absurd ((nI_leI (a := 8) (b := 8) (by omega) (by omega)).mpr (by omega)) zc82 | exact absurd ((nI_leI (a := 8) (b := c) (by omega) (by omega)).mp zc82) (by omega) | exact absurd ((nI_ltI (a := k) (b := 6) (by omega) (by omega)).mpr (by omega)) zc38 | exact zc102 hbt | exact hbt zc102 | exact hbt (Decidable.not_not.mp zc102)) | (exfalso; simp_all; done)
        · intro zc82
          with_reducible first | have ze82 := Int32.not_le.mp zc82 | have ze82 := zc82
          refine hB bX6_goOn_85 _ _ _ _ _ _ _ kX6_goOn_85 ?_
          dsimp only [bX6_goOn_85, kx_wp, kx_step, kx_lI, kx_lL, kx_lA, kx_gl, kx_pI, kx_pL, kx_pR, kx_pA, kx_pV, kx_s1, kx_s2, kx_sl, kx_pre, kx_c2, kx_pl, kx_cmp, kx_oF, kx_eqN, kx_nil, kx_c1, kx_ft, kx_aI, kx_aL, kx_aR, kx_ln, Nat.reduceAdd, Option.toList, List.cons_append, List.nil_append, cf6_3, cf6_4, cf6_0, cf6_1, cf6_2]
          repeat (simp only [rW_78, rW_79, rW_80, rW_p78, rW_p79, rW_p80, t5, nI_1, cp6_3, cp6_4, ks_eq, ks_ss, hqc, e8, e9, c1, c2]; try dsimp only [kx_wp, kx_step, kx_lI, kx_lL, kx_lA, kx_gl, kx_pI, kx_pL, kx_pR, kx_pA, kx_pV, kx_s1, kx_s2, kx_sl, kx_pre, kx_c2, kx_pl, kx_cmp, kx_oF, kx_eqN, kx_nil, kx_c1, kx_ft, kx_aI, kx_aL, kx_aR, kx_ln, Nat.reduceAdd, Option.toList, List.cons_append, List.nil_append, cf6_3, cf6_4, cf6_0, cf6_1, cf6_2])
          repeat' apply And.intro
          all_goals try (first | with_reducible assumption | (with_reducible refine ck_nzI ?_; simp; done) | (with_reducible refine ck_nzL ?_; simp; done) | (with_reducible refine vp_in_nI ?_ ?_ <;> first | omega | decide) | (with_reducible refine Nat.le_of_ble_eq_true ?_; rfl) | omega | exact Or.inl trivial | exact Or.inr trivial | exact Or.inl rfl | exact Or.inr rfl | exact vp_in_nI (by omega) (by decide))
          refine hB bX6_goOn_95 _ _ _ _ _ _ _ kX6_goOn_95 ?_
          dsimp only [bX6_goOn_95, kx_wp, kx_step, kx_lI, kx_lL, kx_lA, kx_gl, kx_pI, kx_pL, kx_pR, kx_pA, kx_pV, kx_s1, kx_s2, kx_sl, kx_pre, kx_c2, kx_pl, kx_cmp, kx_oF, kx_eqN, kx_nil, kx_c1, kx_ft, kx_aI, kx_aL, kx_aR, kx_ln, Nat.reduceAdd, Option.toList, List.cons_append, List.nil_append, cf6_3, cf6_4, cf6_0, cf6_1, cf6_2]
          repeat (simp only [rW_78, rW_79, rW_80, rW_p78, rW_p79, rW_p80, t5, nI_1, cp6_3, cp6_4, ks_eq, ks_ss, hqc, e8, e9, c1, c2]; try dsimp only [kx_wp, kx_step, kx_lI, kx_lL, kx_lA, kx_gl, kx_pI, kx_pL, kx_pR, kx_pA, kx_pV, kx_s1, kx_s2, kx_sl, kx_pre, kx_c2, kx_pl, kx_cmp, kx_oF, kx_eqN, kx_nil, kx_c1, kx_ft, kx_aI, kx_aL, kx_aR, kx_ln, Nat.reduceAdd, Option.toList, List.cons_append, List.nil_append, cf6_3, cf6_4, cf6_0, cf6_1, cf6_2])
          repeat' apply And.intro
          all_goals try (first | with_reducible assumption | (with_reducible refine ck_nzI ?_; simp; done) | (with_reducible refine ck_nzL ?_; simp; done) | (with_reducible refine vp_in_nI ?_ ?_ <;> first | omega | decide) | (with_reducible refine Nat.le_of_ble_eq_true ?_; rfl) | omega | exact Or.inl trivial | exact Or.inr trivial | exact Or.inl rfl | exact Or.inr rfl | exact vp_in_nI (by omega) (by decide))
          · intro zc102
            have ze102 := zc102
            refine hB bX6_goOn_151 _ _ _ _ _ _ _ kX6_goOn_151 ?_
            dsimp only [bX6_goOn_151, kx_wp, kx_step, kx_lI, kx_lL, kx_lA, kx_gl, kx_pI, kx_pL, kx_pR, kx_pA, kx_pV, kx_s1, kx_s2, kx_sl, kx_pre, kx_c2, kx_pl, kx_cmp, kx_oF, kx_eqN, kx_nil, kx_c1, kx_ft, kx_aI, kx_aL, kx_aR, kx_ln, Nat.reduceAdd, Option.toList, List.cons_append, List.nil_append, cf6_3, cf6_4, cf6_0, cf6_1, cf6_2]
            repeat (simp only [rW_78, rW_79, rW_80, rW_p78, rW_p79, rW_p80, t5, nI_1, cp6_3, cp6_4, ks_eq, ks_ss, hqc, e8, e9, c1, c2]; try dsimp only [kx_wp, kx_step, kx_lI, kx_lL, kx_lA, kx_gl, kx_pI, kx_pL, kx_pR, kx_pA, kx_pV, kx_s1, kx_s2, kx_sl, kx_pre, kx_c2, kx_pl, kx_cmp, kx_oF, kx_eqN, kx_nil, kx_c1, kx_ft, kx_aI, kx_aL, kx_aR, kx_ln, Nat.reduceAdd, Option.toList, List.cons_append, List.nil_append, cf6_3, cf6_4, cf6_0, cf6_1, cf6_2])
            repeat' apply And.intro
            all_goals try (first | with_reducible assumption | (with_reducible refine ck_nzI ?_; simp; done) | (with_reducible refine ck_nzL ?_; simp; done) | (with_reducible refine vp_in_nI ?_ ?_ <;> first | omega | decide) | (with_reducible refine Nat.le_of_ble_eq_true ?_; rfl) | omega | exact Or.inl trivial | exact Or.inr trivial | exact Or.inl rfl | exact Or.inr rfl | exact vp_in_nI (by omega) (by decide))
            simp only [cx_gF, if_neg hbt] at zi
            exact zi
          · intro zc102
            first | exact absurd rfl zc102 | exact absurd zc102 (by decide) | exact absurd (by decide) zc102 | (exfalso; first | exact absurd ((nI_leI (a := 8) (b := 8) (by omega) (by omega)).mpr (by omega)) zc82 | exact absurd ((nI_leI (a := 8) (b := c) (by omega) (by omega)).mp zc82) (by omega) | exact absurd ((nI_ltI (a := k) (b := 6) (by omega) (by omega)).mpr (by omega)) zc38 | exact zc102 hbt | exact hbt zc102 | exact hbt (Decidable.not_not.mp zc102)) | (exfalso; simp_all; done)
  refine hB bX6_goOn_0 _ _ _ _ _ _ _ kX6_goOn_0 ?_
  dsimp only [bX6_goOn_0, kx_wp, kx_step, kx_lI, kx_lL, kx_lA, kx_gl, kx_pI, kx_pL, kx_pR, kx_pA, kx_pV, kx_s1, kx_s2, kx_sl, kx_pre, kx_c2, kx_pl, kx_cmp, kx_oF, kx_eqN, kx_nil, kx_c1, kx_ft, kx_aI, kx_aL, kx_aR, kx_ln, Nat.reduceAdd, Option.toList, List.cons_append, List.nil_append, cf6_3, cf6_4, cf6_0, cf6_1, cf6_2]
  repeat (simp only [rW_78, rW_79, rW_80, rW_p78, rW_p79, rW_p80, t5, nI_1, cp6_3, cp6_4, ks_eq, ks_ss]; try dsimp only [kx_wp, kx_step, kx_lI, kx_lL, kx_lA, kx_gl, kx_pI, kx_pL, kx_pR, kx_pA, kx_pV, kx_s1, kx_s2, kx_sl, kx_pre, kx_c2, kx_pl, kx_cmp, kx_oF, kx_eqN, kx_nil, kx_c1, kx_ft, kx_aI, kx_aL, kx_aR, kx_ln, Nat.reduceAdd, Option.toList, List.cons_append, List.nil_append, cf6_3, cf6_4, cf6_0, cf6_1, cf6_2])
  repeat' apply And.intro
  all_goals try (first | with_reducible assumption | (with_reducible refine ck_nzI ?_; simp; done) | (with_reducible refine ck_nzL ?_; simp; done) | (with_reducible refine vp_in_nI ?_ ?_ <;> first | omega | decide) | (with_reducible refine Nat.le_of_ble_eq_true ?_; rfl) | omega | exact Or.inl trivial | exact Or.inr trivial | exact Or.inl rfl | exact Or.inr rfl | exact vp_in_nI (by omega) (by decide))
  · intro zc6
    with_reducible first | have ze6 := Int32.not_le.mpr zc6 | have ze6 := zc6
    refine hB bX6_goOn_27 _ _ _ _ _ _ _ kX6_goOn_27 ?_
    dsimp only [bX6_goOn_27, kx_wp, kx_step, kx_lI, kx_lL, kx_lA, kx_gl, kx_pI, kx_pL, kx_pR, kx_pA, kx_pV, kx_s1, kx_s2, kx_sl, kx_pre, kx_c2, kx_pl, kx_cmp, kx_oF, kx_eqN, kx_nil, kx_c1, kx_ft, kx_aI, kx_aL, kx_aR, kx_ln, Nat.reduceAdd, Option.toList, List.cons_append, List.nil_append, cf6_3, cf6_4, cf6_0, cf6_1, cf6_2]
    repeat (simp only [rW_78, rW_79, rW_80, rW_p78, rW_p79, rW_p80, t5, nI_1, cp6_3, cp6_4, ks_eq, ks_ss]; try dsimp only [kx_wp, kx_step, kx_lI, kx_lL, kx_lA, kx_gl, kx_pI, kx_pL, kx_pR, kx_pA, kx_pV, kx_s1, kx_s2, kx_sl, kx_pre, kx_c2, kx_pl, kx_cmp, kx_oF, kx_eqN, kx_nil, kx_c1, kx_ft, kx_aI, kx_aL, kx_aR, kx_ln, Nat.reduceAdd, Option.toList, List.cons_append, List.nil_append, cf6_3, cf6_4, cf6_0, cf6_1, cf6_2])
    all_goals (repeat' apply And.intro)
    all_goals ((try clear hB hC); first | exact True.intro | (simp only [cx_go, cx_pr, cx_lfv, zc6, ze6, ↓reduceIte]; done) | trace_state)
  · intro zc6
    with_reducible first | have ze6 := Int32.not_lt.mp zc6 | have ze6 := zc6
    refine hB bX6_goOn_9 _ _ _ _ _ _ _ kX6_goOn_9 ?_
    dsimp only [bX6_goOn_9, kx_wp, kx_step, kx_lI, kx_lL, kx_lA, kx_gl, kx_pI, kx_pL, kx_pR, kx_pA, kx_pV, kx_s1, kx_s2, kx_sl, kx_pre, kx_c2, kx_pl, kx_cmp, kx_oF, kx_eqN, kx_nil, kx_c1, kx_ft, kx_aI, kx_aL, kx_aR, kx_ln, Nat.reduceAdd, Option.toList, List.cons_append, List.nil_append, cf6_3, cf6_4, cf6_0, cf6_1, cf6_2]
    repeat (simp only [rW_78, rW_79, rW_80, rW_p78, rW_p79, rW_p80, t5, nI_1, cp6_3, cp6_4, ks_eq, ks_ss]; try dsimp only [kx_wp, kx_step, kx_lI, kx_lL, kx_lA, kx_gl, kx_pI, kx_pL, kx_pR, kx_pA, kx_pV, kx_s1, kx_s2, kx_sl, kx_pre, kx_c2, kx_pl, kx_cmp, kx_oF, kx_eqN, kx_nil, kx_c1, kx_ft, kx_aI, kx_aL, kx_aR, kx_ln, Nat.reduceAdd, Option.toList, List.cons_append, List.nil_append, cf6_3, cf6_4, cf6_0, cf6_1, cf6_2])
    repeat' apply And.intro
    all_goals try (first | with_reducible assumption | (with_reducible refine ck_nzI ?_; simp; done) | (with_reducible refine ck_nzL ?_; simp; done) | (with_reducible refine vp_in_nI ?_ ?_ <;> first | omega | decide) | (with_reducible refine Nat.le_of_ble_eq_true ?_; rfl) | omega | exact Or.inl trivial | exact Or.inr trivial | exact Or.inl rfl | exact Or.inr rfl | exact vp_in_nI (by omega) (by decide))
    · intro zc15
      have ze15 := zc15
      refine hB bX6_goOn_28 _ _ _ _ _ _ _ kX6_goOn_28 ?_
      dsimp only [bX6_goOn_28, kx_wp, kx_step, kx_lI, kx_lL, kx_lA, kx_gl, kx_pI, kx_pL, kx_pR, kx_pA, kx_pV, kx_s1, kx_s2, kx_sl, kx_pre, kx_c2, kx_pl, kx_cmp, kx_oF, kx_eqN, kx_nil, kx_c1, kx_ft, kx_aI, kx_aL, kx_aR, kx_ln, Nat.reduceAdd, Option.toList, List.cons_append, List.nil_append, cf6_3, cf6_4, cf6_0, cf6_1, cf6_2]
      repeat (simp only [rW_78, rW_79, rW_80, rW_p78, rW_p79, rW_p80, t5, nI_1, cp6_3, cp6_4, ks_eq, ks_ss]; try dsimp only [kx_wp, kx_step, kx_lI, kx_lL, kx_lA, kx_gl, kx_pI, kx_pL, kx_pR, kx_pA, kx_pV, kx_s1, kx_s2, kx_sl, kx_pre, kx_c2, kx_pl, kx_cmp, kx_oF, kx_eqN, kx_nil, kx_c1, kx_ft, kx_aI, kx_aL, kx_aR, kx_ln, Nat.reduceAdd, Option.toList, List.cons_append, List.nil_append, cf6_3, cf6_4, cf6_0, cf6_1, cf6_2])
      repeat' apply And.intro
      all_goals try (first | with_reducible assumption | (with_reducible refine ck_nzI ?_; simp; done) | (with_reducible refine ck_nzL ?_; simp; done) | (with_reducible refine vp_in_nI ?_ ?_ <;> first | omega | decide) | (with_reducible refine Nat.le_of_ble_eq_true ?_; rfl) | omega | exact Or.inl trivial | exact Or.inr trivial | exact Or.inl rfl | exact Or.inr rfl | exact vp_in_nI (by omega) (by decide))
      · intro zc29
        have ze29 := zc29
        refine hB bX6_goOn_41 _ _ _ _ _ _ _ kX6_goOn_41 ?_
        dsimp only [bX6_goOn_41, kx_wp, kx_step, kx_lI, kx_lL, kx_lA, kx_gl, kx_pI, kx_pL, kx_pR, kx_pA, kx_pV, kx_s1, kx_s2, kx_sl, kx_pre, kx_c2, kx_pl, kx_cmp, kx_oF, kx_eqN, kx_nil, kx_c1, kx_ft, kx_aI, kx_aL, kx_aR, kx_ln, Nat.reduceAdd, Option.toList, List.cons_append, List.nil_append, cf6_3, cf6_4, cf6_0, cf6_1, cf6_2]
        repeat (simp only [rW_78, rW_79, rW_80, rW_p78, rW_p79, rW_p80, t5, nI_1, cp6_3, cp6_4, ks_eq, ks_ss]; try dsimp only [kx_wp, kx_step, kx_lI, kx_lL, kx_lA, kx_gl, kx_pI, kx_pL, kx_pR, kx_pA, kx_pV, kx_s1, kx_s2, kx_sl, kx_pre, kx_c2, kx_pl, kx_cmp, kx_oF, kx_eqN, kx_nil, kx_c1, kx_ft, kx_aI, kx_aL, kx_aR, kx_ln, Nat.reduceAdd, Option.toList, List.cons_append, List.nil_append, cf6_3, cf6_4, cf6_0, cf6_1, cf6_2])
        repeat' apply And.intro
        all_goals try (first | with_reducible assumption | (with_reducible refine ck_nzI ?_; simp; done) | (with_reducible refine ck_nzL ?_; simp; done) | (with_reducible refine vp_in_nI ?_ ?_ <;> first | omega | decide) | (with_reducible refine Nat.le_of_ble_eq_true ?_; rfl) | omega | exact Or.inl trivial | exact Or.inr trivial | exact Or.inl rfl | exact Or.inr rfl | exact vp_in_nI (by omega) (by decide))
        refine kz_copy hK 68 (kx_at_l kz_cw 0 rfl) dX6_goOn_68 rW_79 rW_80 (by decide) (by decide) (by decide) (by decide) (by decide) (by decide) (by decide) ?_
        rw [ck_cpy6, rW_p80]
        refine hB bX6_goOn_71 _ _ _ _ _ _ _ kX6_goOn_71 ?_
        dsimp only [bX6_goOn_71, kx_wp, kx_step, kx_lI, kx_lL, kx_lA, kx_gl, kx_pI, kx_pL, kx_pR, kx_pA, kx_pV, kx_s1, kx_s2, kx_sl, kx_pre, kx_c2, kx_pl, kx_cmp, kx_oF, kx_eqN, kx_nil, kx_c1, kx_ft, kx_aI, kx_aL, kx_aR, kx_ln, Nat.reduceAdd, Option.toList, List.cons_append, List.nil_append, cf6_3, cf6_4, cf6_0, cf6_1, cf6_2]
        repeat (simp only [rW_78, rW_79, rW_80, rW_p78, rW_p79, rW_p80, t5, nI_1, cp6_3, cp6_4, ks_eq, ks_ss]; try dsimp only [kx_wp, kx_step, kx_lI, kx_lL, kx_lA, kx_gl, kx_pI, kx_pL, kx_pR, kx_pA, kx_pV, kx_s1, kx_s2, kx_sl, kx_pre, kx_c2, kx_pl, kx_cmp, kx_oF, kx_eqN, kx_nil, kx_c1, kx_ft, kx_aI, kx_aL, kx_aR, kx_ln, Nat.reduceAdd, Option.toList, List.cons_append, List.nil_append, cf6_3, cf6_4, cf6_0, cf6_1, cf6_2])
        all_goals (repeat' apply And.intro)
        all_goals ((try clear hB hC); first | exact True.intro | (simp only [cx_go, cx_pr, cx_lfv, zc6, ze6, ze15, eq_true ze29, ↓reduceIte]; done) | trace_state)
      · intro zc29
        have ze29 := zc29
        refine hB bX6_goOn_32 _ _ _ _ _ _ _ kX6_goOn_32 ?_
        dsimp only [bX6_goOn_32, kx_wp, kx_step, kx_lI, kx_lL, kx_lA, kx_gl, kx_pI, kx_pL, kx_pR, kx_pA, kx_pV, kx_s1, kx_s2, kx_sl, kx_pre, kx_c2, kx_pl, kx_cmp, kx_oF, kx_eqN, kx_nil, kx_c1, kx_ft, kx_aI, kx_aL, kx_aR, kx_ln, Nat.reduceAdd, Option.toList, List.cons_append, List.nil_append, cf6_3, cf6_4, cf6_0, cf6_1, cf6_2]
        repeat (simp only [rW_78, rW_79, rW_80, rW_p78, rW_p79, rW_p80, t5, nI_1, cp6_3, cp6_4, ks_eq, ks_ss]; try dsimp only [kx_wp, kx_step, kx_lI, kx_lL, kx_lA, kx_gl, kx_pI, kx_pL, kx_pR, kx_pA, kx_pV, kx_s1, kx_s2, kx_sl, kx_pre, kx_c2, kx_pl, kx_cmp, kx_oF, kx_eqN, kx_nil, kx_c1, kx_ft, kx_aI, kx_aL, kx_aR, kx_ln, Nat.reduceAdd, Option.toList, List.cons_append, List.nil_append, cf6_3, cf6_4, cf6_0, cf6_1, cf6_2])
        repeat' apply And.intro
        all_goals try (first | with_reducible assumption | (with_reducible refine ck_nzI ?_; simp; done) | (with_reducible refine ck_nzL ?_; simp; done) | (with_reducible refine vp_in_nI ?_ ?_ <;> first | omega | decide) | (with_reducible refine Nat.le_of_ble_eq_true ?_; rfl) | omega | exact Or.inl trivial | exact Or.inr trivial | exact Or.inl rfl | exact Or.inr rfl | exact vp_in_nI (by omega) (by decide))
        · intro zc38
          with_reducible first | have ze38 := Int32.not_le.mpr zc38 | have ze38 := zc38
          refine hB bX6_goOn_72 _ _ _ _ _ _ _ kX6_goOn_72 ?_
          dsimp only [bX6_goOn_72, kx_wp, kx_step, kx_lI, kx_lL, kx_lA, kx_gl, kx_pI, kx_pL, kx_pR, kx_pA, kx_pV, kx_s1, kx_s2, kx_sl, kx_pre, kx_c2, kx_pl, kx_cmp, kx_oF, kx_eqN, kx_nil, kx_c1, kx_ft, kx_aI, kx_aL, kx_aR, kx_ln, Nat.reduceAdd, Option.toList, List.cons_append, List.nil_append, cf6_3, cf6_4, cf6_0, cf6_1, cf6_2]
          repeat (simp only [rW_78, rW_79, rW_80, rW_p78, rW_p79, rW_p80, t5, nI_1, cp6_3, cp6_4, ks_eq, ks_ss]; try dsimp only [kx_wp, kx_step, kx_lI, kx_lL, kx_lA, kx_gl, kx_pI, kx_pL, kx_pR, kx_pA, kx_pV, kx_s1, kx_s2, kx_sl, kx_pre, kx_c2, kx_pl, kx_cmp, kx_oF, kx_eqN, kx_nil, kx_c1, kx_ft, kx_aI, kx_aL, kx_aR, kx_ln, Nat.reduceAdd, Option.toList, List.cons_append, List.nil_append, cf6_3, cf6_4, cf6_0, cf6_1, cf6_2])
          repeat' apply And.intro
          all_goals try (first | with_reducible assumption | (with_reducible refine ck_nzI ?_; simp; done) | (with_reducible refine ck_nzL ?_; simp; done) | (with_reducible refine vp_in_nI ?_ ?_ <;> first | omega | decide) | (with_reducible refine Nat.le_of_ble_eq_true ?_; rfl) | omega | exact Or.inl trivial | exact Or.inr trivial | exact Or.inl rfl | exact Or.inr rfl | exact vp_in_nI (by omega) (by decide))
          refine loop75 cl 0 (by omega) ?_
          simp only [cx_go, cx_pr, zc6, ze6, ze15, ze29, zc38, ze38, ↓reduceIte]
        · intro zc38
          first | exact absurd rfl zc38 | exact absurd zc38 (by decide) | exact absurd (by decide) zc38 | (exfalso; first | exact absurd ((nI_leI (a := 8) (b := 8) (by omega) (by omega)).mpr (by omega)) zc82 | exact absurd ((nI_leI (a := 8) (b := c) (by omega) (by omega)).mp zc82) (by omega) | exact absurd ((nI_ltI (a := k) (b := 6) (by omega) (by omega)).mpr (by omega)) zc38 | exact zc102 hbt | exact hbt zc102 | exact hbt (Decidable.not_not.mp zc102)) | (exfalso; simp_all; done)
    · intro zc15
      with_reducible first | have ze15 := Decidable.not_not.mp zc15 | have ze15 := zc15
      refine hB bX6_goOn_18 _ _ _ _ _ _ _ kX6_goOn_18 ?_
      dsimp only [bX6_goOn_18, kx_wp, kx_step, kx_lI, kx_lL, kx_lA, kx_gl, kx_pI, kx_pL, kx_pR, kx_pA, kx_pV, kx_s1, kx_s2, kx_sl, kx_pre, kx_c2, kx_pl, kx_cmp, kx_oF, kx_eqN, kx_nil, kx_c1, kx_ft, kx_aI, kx_aL, kx_aR, kx_ln, Nat.reduceAdd, Option.toList, List.cons_append, List.nil_append, cf6_3, cf6_4, cf6_0, cf6_1, cf6_2]
      repeat (simp only [rW_78, rW_79, rW_80, rW_p78, rW_p79, rW_p80, t5, nI_1, cp6_3, cp6_4, ks_eq, ks_ss]; try dsimp only [kx_wp, kx_step, kx_lI, kx_lL, kx_lA, kx_gl, kx_pI, kx_pL, kx_pR, kx_pA, kx_pV, kx_s1, kx_s2, kx_sl, kx_pre, kx_c2, kx_pl, kx_cmp, kx_oF, kx_eqN, kx_nil, kx_c1, kx_ft, kx_aI, kx_aL, kx_aR, kx_ln, Nat.reduceAdd, Option.toList, List.cons_append, List.nil_append, cf6_3, cf6_4, cf6_0, cf6_1, cf6_2])
      repeat' apply And.intro
      all_goals try (first | with_reducible assumption | (with_reducible refine ck_nzI ?_; simp; done) | (with_reducible refine ck_nzL ?_; simp; done) | (with_reducible refine vp_in_nI ?_ ?_ <;> first | omega | decide) | (with_reducible refine Nat.le_of_ble_eq_true ?_; rfl) | omega | exact Or.inl trivial | exact Or.inr trivial | exact Or.inl rfl | exact Or.inr rfl | exact vp_in_nI (by omega) (by decide))
      · intro zc24
        with_reducible first | have ze24 := Int32.not_le.mpr zc24 | have ze24 := zc24
        refine hB bX6_goOn_28 _ _ _ _ _ _ _ kX6_goOn_28 ?_
        dsimp only [bX6_goOn_28, kx_wp, kx_step, kx_lI, kx_lL, kx_lA, kx_gl, kx_pI, kx_pL, kx_pR, kx_pA, kx_pV, kx_s1, kx_s2, kx_sl, kx_pre, kx_c2, kx_pl, kx_cmp, kx_oF, kx_eqN, kx_nil, kx_c1, kx_ft, kx_aI, kx_aL, kx_aR, kx_ln, Nat.reduceAdd, Option.toList, List.cons_append, List.nil_append, cf6_3, cf6_4, cf6_0, cf6_1, cf6_2]
        repeat (simp only [rW_78, rW_79, rW_80, rW_p78, rW_p79, rW_p80, t5, nI_1, cp6_3, cp6_4, ks_eq, ks_ss]; try dsimp only [kx_wp, kx_step, kx_lI, kx_lL, kx_lA, kx_gl, kx_pI, kx_pL, kx_pR, kx_pA, kx_pV, kx_s1, kx_s2, kx_sl, kx_pre, kx_c2, kx_pl, kx_cmp, kx_oF, kx_eqN, kx_nil, kx_c1, kx_ft, kx_aI, kx_aL, kx_aR, kx_ln, Nat.reduceAdd, Option.toList, List.cons_append, List.nil_append, cf6_3, cf6_4, cf6_0, cf6_1, cf6_2])
        repeat' apply And.intro
        all_goals try (first | with_reducible assumption | (with_reducible refine ck_nzI ?_; simp; done) | (with_reducible refine ck_nzL ?_; simp; done) | (with_reducible refine vp_in_nI ?_ ?_ <;> first | omega | decide) | (with_reducible refine Nat.le_of_ble_eq_true ?_; rfl) | omega | exact Or.inl trivial | exact Or.inr trivial | exact Or.inl rfl | exact Or.inr rfl | exact vp_in_nI (by omega) (by decide))
        · intro zc29
          have ze29 := zc29
          refine hB bX6_goOn_41 _ _ _ _ _ _ _ kX6_goOn_41 ?_
          dsimp only [bX6_goOn_41, kx_wp, kx_step, kx_lI, kx_lL, kx_lA, kx_gl, kx_pI, kx_pL, kx_pR, kx_pA, kx_pV, kx_s1, kx_s2, kx_sl, kx_pre, kx_c2, kx_pl, kx_cmp, kx_oF, kx_eqN, kx_nil, kx_c1, kx_ft, kx_aI, kx_aL, kx_aR, kx_ln, Nat.reduceAdd, Option.toList, List.cons_append, List.nil_append, cf6_3, cf6_4, cf6_0, cf6_1, cf6_2]
          repeat (simp only [rW_78, rW_79, rW_80, rW_p78, rW_p79, rW_p80, t5, nI_1, cp6_3, cp6_4, ks_eq, ks_ss]; try dsimp only [kx_wp, kx_step, kx_lI, kx_lL, kx_lA, kx_gl, kx_pI, kx_pL, kx_pR, kx_pA, kx_pV, kx_s1, kx_s2, kx_sl, kx_pre, kx_c2, kx_pl, kx_cmp, kx_oF, kx_eqN, kx_nil, kx_c1, kx_ft, kx_aI, kx_aL, kx_aR, kx_ln, Nat.reduceAdd, Option.toList, List.cons_append, List.nil_append, cf6_3, cf6_4, cf6_0, cf6_1, cf6_2])
          repeat' apply And.intro
          all_goals try (first | with_reducible assumption | (with_reducible refine ck_nzI ?_; simp; done) | (with_reducible refine ck_nzL ?_; simp; done) | (with_reducible refine vp_in_nI ?_ ?_ <;> first | omega | decide) | (with_reducible refine Nat.le_of_ble_eq_true ?_; rfl) | omega | exact Or.inl trivial | exact Or.inr trivial | exact Or.inl rfl | exact Or.inr rfl | exact vp_in_nI (by omega) (by decide))
          refine kz_copy hK 68 (kx_at_l kz_cw 0 rfl) dX6_goOn_68 rW_79 rW_80 (by decide) (by decide) (by decide) (by decide) (by decide) (by decide) (by decide) ?_
          rw [ck_cpy6, rW_p80]
          refine hB bX6_goOn_71 _ _ _ _ _ _ _ kX6_goOn_71 ?_
          dsimp only [bX6_goOn_71, kx_wp, kx_step, kx_lI, kx_lL, kx_lA, kx_gl, kx_pI, kx_pL, kx_pR, kx_pA, kx_pV, kx_s1, kx_s2, kx_sl, kx_pre, kx_c2, kx_pl, kx_cmp, kx_oF, kx_eqN, kx_nil, kx_c1, kx_ft, kx_aI, kx_aL, kx_aR, kx_ln, Nat.reduceAdd, Option.toList, List.cons_append, List.nil_append, cf6_3, cf6_4, cf6_0, cf6_1, cf6_2]
          repeat (simp only [rW_78, rW_79, rW_80, rW_p78, rW_p79, rW_p80, t5, nI_1, cp6_3, cp6_4, ks_eq, ks_ss]; try dsimp only [kx_wp, kx_step, kx_lI, kx_lL, kx_lA, kx_gl, kx_pI, kx_pL, kx_pR, kx_pA, kx_pV, kx_s1, kx_s2, kx_sl, kx_pre, kx_c2, kx_pl, kx_cmp, kx_oF, kx_eqN, kx_nil, kx_c1, kx_ft, kx_aI, kx_aL, kx_aR, kx_ln, Nat.reduceAdd, Option.toList, List.cons_append, List.nil_append, cf6_3, cf6_4, cf6_0, cf6_1, cf6_2])
          all_goals (repeat' apply And.intro)
          all_goals ((try clear hB hC); first | exact True.intro | (simp only [cx_go, cx_pr, cx_lfv, zc6, ze6, eq_true ze15, zc24, ze24, eq_true ze29, ↓reduceIte]; done) | trace_state)
        · intro zc29
          have ze29 := zc29
          refine hB bX6_goOn_32 _ _ _ _ _ _ _ kX6_goOn_32 ?_
          dsimp only [bX6_goOn_32, kx_wp, kx_step, kx_lI, kx_lL, kx_lA, kx_gl, kx_pI, kx_pL, kx_pR, kx_pA, kx_pV, kx_s1, kx_s2, kx_sl, kx_pre, kx_c2, kx_pl, kx_cmp, kx_oF, kx_eqN, kx_nil, kx_c1, kx_ft, kx_aI, kx_aL, kx_aR, kx_ln, Nat.reduceAdd, Option.toList, List.cons_append, List.nil_append, cf6_3, cf6_4, cf6_0, cf6_1, cf6_2]
          repeat (simp only [rW_78, rW_79, rW_80, rW_p78, rW_p79, rW_p80, t5, nI_1, cp6_3, cp6_4, ks_eq, ks_ss]; try dsimp only [kx_wp, kx_step, kx_lI, kx_lL, kx_lA, kx_gl, kx_pI, kx_pL, kx_pR, kx_pA, kx_pV, kx_s1, kx_s2, kx_sl, kx_pre, kx_c2, kx_pl, kx_cmp, kx_oF, kx_eqN, kx_nil, kx_c1, kx_ft, kx_aI, kx_aL, kx_aR, kx_ln, Nat.reduceAdd, Option.toList, List.cons_append, List.nil_append, cf6_3, cf6_4, cf6_0, cf6_1, cf6_2])
          repeat' apply And.intro
          all_goals try (first | with_reducible assumption | (with_reducible refine ck_nzI ?_; simp; done) | (with_reducible refine ck_nzL ?_; simp; done) | (with_reducible refine vp_in_nI ?_ ?_ <;> first | omega | decide) | (with_reducible refine Nat.le_of_ble_eq_true ?_; rfl) | omega | exact Or.inl trivial | exact Or.inr trivial | exact Or.inl rfl | exact Or.inr rfl | exact vp_in_nI (by omega) (by decide))
          · intro zc38
            with_reducible first | have ze38 := Int32.not_le.mpr zc38 | have ze38 := zc38
            refine hB bX6_goOn_72 _ _ _ _ _ _ _ kX6_goOn_72 ?_
            dsimp only [bX6_goOn_72, kx_wp, kx_step, kx_lI, kx_lL, kx_lA, kx_gl, kx_pI, kx_pL, kx_pR, kx_pA, kx_pV, kx_s1, kx_s2, kx_sl, kx_pre, kx_c2, kx_pl, kx_cmp, kx_oF, kx_eqN, kx_nil, kx_c1, kx_ft, kx_aI, kx_aL, kx_aR, kx_ln, Nat.reduceAdd, Option.toList, List.cons_append, List.nil_append, cf6_3, cf6_4, cf6_0, cf6_1, cf6_2]
            repeat (simp only [rW_78, rW_79, rW_80, rW_p78, rW_p79, rW_p80, t5, nI_1, cp6_3, cp6_4, ks_eq, ks_ss]; try dsimp only [kx_wp, kx_step, kx_lI, kx_lL, kx_lA, kx_gl, kx_pI, kx_pL, kx_pR, kx_pA, kx_pV, kx_s1, kx_s2, kx_sl, kx_pre, kx_c2, kx_pl, kx_cmp, kx_oF, kx_eqN, kx_nil, kx_c1, kx_ft, kx_aI, kx_aL, kx_aR, kx_ln, Nat.reduceAdd, Option.toList, List.cons_append, List.nil_append, cf6_3, cf6_4, cf6_0, cf6_1, cf6_2])
            repeat' apply And.intro
            all_goals try (first | with_reducible assumption | (with_reducible refine ck_nzI ?_; simp; done) | (with_reducible refine ck_nzL ?_; simp; done) | (with_reducible refine vp_in_nI ?_ ?_ <;> first | omega | decide) | (with_reducible refine Nat.le_of_ble_eq_true ?_; rfl) | omega | exact Or.inl trivial | exact Or.inr trivial | exact Or.inl rfl | exact Or.inr rfl | exact vp_in_nI (by omega) (by decide))
            refine loop75 cl 0 (by omega) ?_
            simp only [cx_go, cx_pr, zc6, ze6, eq_true ze15, zc24, ze24, ze29, zc38, ze38, ↓reduceIte]
          · intro zc38
            first | exact absurd rfl zc38 | exact absurd zc38 (by decide) | exact absurd (by decide) zc38 | (exfalso; first | exact absurd ((nI_leI (a := 8) (b := 8) (by omega) (by omega)).mpr (by omega)) zc82 | exact absurd ((nI_leI (a := 8) (b := c) (by omega) (by omega)).mp zc82) (by omega) | exact absurd ((nI_ltI (a := k) (b := 6) (by omega) (by omega)).mpr (by omega)) zc38 | exact zc102 hbt | exact hbt zc102 | exact hbt (Decidable.not_not.mp zc102)) | (exfalso; simp_all; done)
      · intro zc24
        with_reducible first | have ze24 := Int32.not_lt.mp zc24 | have ze24 := zc24
        refine hB bX6_goOn_27 _ _ _ _ _ _ _ kX6_goOn_27 ?_
        dsimp only [bX6_goOn_27, kx_wp, kx_step, kx_lI, kx_lL, kx_lA, kx_gl, kx_pI, kx_pL, kx_pR, kx_pA, kx_pV, kx_s1, kx_s2, kx_sl, kx_pre, kx_c2, kx_pl, kx_cmp, kx_oF, kx_eqN, kx_nil, kx_c1, kx_ft, kx_aI, kx_aL, kx_aR, kx_ln, Nat.reduceAdd, Option.toList, List.cons_append, List.nil_append, cf6_3, cf6_4, cf6_0, cf6_1, cf6_2]
        repeat (simp only [rW_78, rW_79, rW_80, rW_p78, rW_p79, rW_p80, t5, nI_1, cp6_3, cp6_4, ks_eq, ks_ss]; try dsimp only [kx_wp, kx_step, kx_lI, kx_lL, kx_lA, kx_gl, kx_pI, kx_pL, kx_pR, kx_pA, kx_pV, kx_s1, kx_s2, kx_sl, kx_pre, kx_c2, kx_pl, kx_cmp, kx_oF, kx_eqN, kx_nil, kx_c1, kx_ft, kx_aI, kx_aL, kx_aR, kx_ln, Nat.reduceAdd, Option.toList, List.cons_append, List.nil_append, cf6_3, cf6_4, cf6_0, cf6_1, cf6_2])
        all_goals (repeat' apply And.intro)
        all_goals ((try clear hB hC); first | exact True.intro | (simp only [cx_go, cx_pr, cx_lfv, zc6, ze6, eq_true ze15, zc24, ze24, ↓reduceIte]; done) | trace_state)

theorem ct_X6_goOn (l : Launch) (G : kx_G) {P : kx_P} {sz : Nat} {cl : Nat} (hcl : cl ≤ 8) {cn wn : Nat → Nat} {DD : Nat → Int64} {HH : Nat → Value} {CC VV : Nat → Nat → Int32} (hCS : cx_CS P cl cn wn DD HH CC VV) : ∀ (n : Nat) (T : cx_T3) (k : Nat) (bits x y tm sp : Int32), k + n = 6 → kx_M l G sX6_goOn (2 * n + 4) 0 0 [.ref 78, .int (nI k), .int bits, .int x, .int y, .int tm, .int sp] (rW P T) sz none (rW P (cx_go CC VV cl n T k bits x y tm sp)) sz := by
  intro n
  induction n with
  | zero => intro T k bits x y tm sp hk; exact ct_X6_goOn_0 l G hcl hCS (by omega)
  | succ n ih => intro T k bits x y tm sp hk; exact ct_X6_goOn_s l G hcl hCS ih hk
def bX6_seek_0 : List kx_O := [(.aload_n 0, 0, 0, 0, .null), (.aload_n 1, 1, 0, 0, .null), (.putfield 18, 6, 2, 3, .null), (.aload_n 0, 0, 0, 0, .null), (.ldc 29, 0, 0, 0, .int (1000000000)), (.putfield 22, 6, 3, 0, .null), (.aload_n 0, 0, 0, 0, .null), (.ldc 29, 0, 0, 0, .int (1000000000)), (.putfield 26, 6, 4, 0, .null), (.aload_n 0, 0, 0, 0, .null), (.iconst 0, 0, 0, 0, .int 0), (.iload_n 2, 2, 0, 0, .null), (.iload_n 3, 3, 0, 0, .null), (.iload 4, 4, 0, 0, .null), (.iconst 0, 0, 0, 0, .int 0), (.iconst 0, 0, 0, 0, .int 0)]
theorem kX6_seek_0 : kx_oks kxL_X6 false cX6_seek 0 bX6_seek_0 = true := by decide +kernel
def bX6_seek_28 : List kx_O := [(.return_, 0, 0, 0, .null)]
theorem kX6_seek_28 : kx_oks kxL_X6 false cX6_seek 28 bX6_seek_28 = true := by decide +kernel
theorem dX6_seek_25 : decode cX6_seek 25 = .ok (.invokevirtual 30, 3) := by decide +kernel
set_option maxRecDepth 100000 in
set_option maxHeartbeats 4000000 in
theorem ct_X6_seek (l : Launch) (G : kx_G) {P : kx_P} {sz : Nat} {cl : Nat} (hcl : cl ≤ 8) {cn wn : Nat → Nat} {DD : Nat → Int64} {HH : Nat → Value} {CC VV : Nat → Nat → Int32} (hCS : cx_CS P cl cn wn DD HH CC VV) {F O B : Nat → Int32} {cv : Value} {bits x y : Int32}  : kx_M l G sX6_seek 17 0 0 [.ref 78, .ref 69, .int (bits), .int (x), .int (y)] (kx_set (kx_set (kx_set P 79 (kI 0 6 O)) 80 (kI 0 6 B)) 78 (kO 6 (kf (cr6 cv) F))) sz none (rW P (cx_go CC VV cl 6 (upd (upd F 3 1000000000) 4 1000000000, O, B) 0 bits x y 0 0)) sz := by
  refine kx_mk kx_tab kxLok_X6 (ini := false) [some (.ref 78), some (.ref 69), some (.int (bits)), some (.int (x)), some (.int (y))] ⟨by decide, rfl, by decide, by decide⟩ (rfl) rfl rfl (fun g hB hC => ?_)
  refine hB bX6_seek_0 _ _ _ _ _ _ _ kX6_seek_0 ?_
  dsimp only [bX6_seek_0, kx_wp, kx_step, kx_lI, kx_lL, kx_lA, kx_gl, kx_pI, kx_pL, kx_pR, kx_pA, kx_pV, kx_s1, kx_s2, kx_sl, kx_pre, kx_c2, kx_pl, kx_cmp, kx_oF, kx_eqN, kx_nil, kx_c1, kx_ft, kx_aI, kx_aL, kx_aR, kx_ln, Nat.reduceAdd, Option.toList, List.cons_append, List.nil_append, cf6_2, cf6_3, cf6_4]
  repeat (simp only [cp6_2, cp6_3, cp6_4, ks_eq, ks_ss]; try dsimp only [kx_wp, kx_step, kx_lI, kx_lL, kx_lA, kx_gl, kx_pI, kx_pL, kx_pR, kx_pA, kx_pV, kx_s1, kx_s2, kx_sl, kx_pre, kx_c2, kx_pl, kx_cmp, kx_oF, kx_eqN, kx_nil, kx_c1, kx_ft, kx_aI, kx_aL, kx_aR, kx_ln, Nat.reduceAdd, Option.toList, List.cons_append, List.nil_append, cf6_2, cf6_3, cf6_4])
  repeat' apply And.intro
  all_goals try (first | with_reducible assumption | (with_reducible refine ck_nzI ?_; simp; done) | (with_reducible refine ck_nzL ?_; simp; done) | (with_reducible refine vp_in_nI ?_ ?_ <;> first | omega | decide) | (with_reducible refine Nat.le_of_ble_eq_true ?_; rfl) | omega | exact Or.inl trivial | exact Or.inr trivial | exact Or.inl rfl | exact Or.inr rfl)
  change g 25 _ _ (rW P (upd (upd F 3 1000000000) 4 1000000000, O, B)) _ _ _
  refine hC.1 30 _ _ _ _ _ _ _ 6 _ _ _ _ _ _ _ _ _ _ _ _ lX6_30 (ct_X6_goOn l G hcl hCS 6 _ 0 _ _ _ _ _ rfl) ⟨by decide, rfl⟩ (rW_78) rfl rfl (Nat.le_of_ble_eq_true rfl) (by first | decide | omega) (by decide) (by omega) (by omega) dX6_seek_25 ?_
  refine hB bX6_seek_28 _ _ _ _ _ _ _ kX6_seek_28 ?_
  dsimp only [bX6_seek_28, kx_wp, kx_step, kx_lI, kx_lL, kx_lA, kx_gl, kx_pI, kx_pL, kx_pR, kx_pA, kx_pV, kx_s1, kx_s2, kx_sl, kx_pre, kx_c2, kx_pl, kx_cmp, kx_oF, kx_eqN, kx_nil, kx_c1, kx_ft, kx_aI, kx_aL, kx_aR, kx_ln, Nat.reduceAdd, Option.toList, List.cons_append, List.nil_append, cf6_2, cf6_3, cf6_4]
  repeat (simp only [cp6_2, cp6_3, cp6_4, ks_eq, ks_ss]; try dsimp only [kx_wp, kx_step, kx_lI, kx_lL, kx_lA, kx_gl, kx_pI, kx_pL, kx_pR, kx_pA, kx_pV, kx_s1, kx_s2, kx_sl, kx_pre, kx_c2, kx_pl, kx_cmp, kx_oF, kx_eqN, kx_nil, kx_c1, kx_ft, kx_aI, kx_aL, kx_aR, kx_ln, Nat.reduceAdd, Option.toList, List.cons_append, List.nil_append, cf6_2, cf6_3, cf6_4])
  all_goals (repeat' apply And.intro)
  all_goals ((try clear hB hC); first | exact True.intro | with_reducible rfl | with_reducible assumption | (with_reducible refine vp_in_nI ?_ ?_ <;> first | omega | decide) | exact Nat.le_of_ble_eq_true rfl | (with_reducible refine ck_nzI ?_; simp; done) | (with_reducible refine ck_nzL ?_; simp; done) | (simp only [pk_us, pk_uLs, ↓reduceIte, not_true_eq_false, not_false_eq_true]; done) | (simp only [↓reduceIte, not_true_eq_false, not_false_eq_true]; with_reducible rfl) | omega | skip)

def bX6_bestAt_0 : List kx_O := [(.iload_n 1, 1, 0, 0, .null), (.ifCond .lt 21, 22, 0, 0, .null)]
theorem kX6_bestAt_0 : kx_oks kxL_X6 false cX6_bestAt 0 bX6_bestAt_0 = true := by decide +kernel
def bX6_bestAt_4 : List kx_O := [(.iload_n 1, 1, 0, 0, .null), (.aload_n 0, 0, 0, 0, .null), (.getfield 15, 6, 1, 0, .null), (.arraylength, 0, 0, 0, .null), (.if_icmp .ge 12, 22, 0, 0, .null)]
theorem kX6_bestAt_4 : kx_oks kxL_X6 false cX6_bestAt 4 bX6_bestAt_4 = true := by decide +kernel
def bX6_bestAt_13 : List kx_O := [(.aload_n 0, 0, 0, 0, .null), (.getfield 15, 6, 1, 0, .null), (.iload_n 1, 1, 0, 0, .null), (.iaload, 0, 0, 0, .null), (.goto 4, 23, 0, 0, .null)]
theorem kX6_bestAt_13 : kx_oks kxL_X6 false cX6_bestAt 13 bX6_bestAt_13 = true := by decide +kernel
def bX6_bestAt_22 : List kx_O := [(.iconst (-1), 0, 0, 0, .int (-1))]
theorem kX6_bestAt_22 : kx_oks kxL_X6 false cX6_bestAt 22 bX6_bestAt_22 = true := by decide +kernel
def bX6_bestAt_23 : List kx_O := [(.ireturn, 0, 0, 0, .null)]
theorem kX6_bestAt_23 : kx_oks kxL_X6 false cX6_bestAt 23 bX6_bestAt_23 = true := by decide +kernel
set_option maxRecDepth 100000 in
set_option maxHeartbeats 4000000 in
theorem ct_X6_bestAt (l : Launch) (G : kx_G) {P : kx_P} {sz : Nat} {F B : Nat → Int32} {cv : Value} (hO : P 78 = kO 6 (kf (cr6 cv) F)) (hb : P 80 = kI 0 6 B) {k : Nat} (hk : k < 6)  : kx_M l G sX6_bestAt 1 0 0 [.ref 78, .int (nI k)] P sz (some (.int (B k))) P sz := by
  refine kx_mk kx_tab kxLok_X6 (ini := false) [some (.ref 78), some (.int (nI k))] ⟨by decide, rfl, by decide, by decide⟩ (⟨_, rfl⟩) rfl rfl (fun g hB hC => ?_)
  refine hB bX6_bestAt_0 _ _ _ _ _ _ _ kX6_bestAt_0 ?_
  dsimp only [bX6_bestAt_0, kx_wp, kx_step, kx_lI, kx_lL, kx_lA, kx_gl, kx_pI, kx_pL, kx_pR, kx_pA, kx_pV, kx_s1, kx_s2, kx_sl, kx_pre, kx_c2, kx_pl, kx_cmp, kx_oF, kx_eqN, kx_nil, kx_c1, kx_ft, kx_aI, kx_aL, kx_aR, kx_ln, Nat.reduceAdd, Option.toList, List.cons_append, List.nil_append, cf6_1]
  repeat (simp only [hO, hb, nI_clamp (show k < 2 ^ 31 by omega), ks_eq, ks_ss]; try dsimp only [kx_wp, kx_step, kx_lI, kx_lL, kx_lA, kx_gl, kx_pI, kx_pL, kx_pR, kx_pA, kx_pV, kx_s1, kx_s2, kx_sl, kx_pre, kx_c2, kx_pl, kx_cmp, kx_oF, kx_eqN, kx_nil, kx_c1, kx_ft, kx_aI, kx_aL, kx_aR, kx_ln, Nat.reduceAdd, Option.toList, List.cons_append, List.nil_append, cf6_1])
  repeat' apply And.intro
  all_goals try (first | with_reducible assumption | (with_reducible refine ck_nzI ?_; simp; done) | (with_reducible refine ck_nzL ?_; simp; done) | (with_reducible refine vp_in_nI ?_ ?_ <;> first | omega | decide) | (with_reducible refine Nat.le_of_ble_eq_true ?_; rfl) | omega | exact Or.inl trivial | exact Or.inr trivial | exact Or.inl rfl | exact Or.inr rfl)
  · intro zc1
    first | exact absurd rfl zc1 | exact absurd zc1 (by decide) | exact absurd (by decide) zc1 | (exfalso; first | exact absurd ((nI_ltI (a := k) (b := 0) (by omega) (by omega)).mp zc1) (by omega) | exact absurd ((nI_leI (a := 6) (b := k) (by omega) (by omega)).mp zc10) (by omega)) | (exfalso; simp_all; done)
  · intro zc1
    with_reducible first | have ze1 := Int32.not_lt.mp zc1 | have ze1 := zc1
    refine hB bX6_bestAt_4 _ _ _ _ _ _ _ kX6_bestAt_4 ?_
    dsimp only [bX6_bestAt_4, kx_wp, kx_step, kx_lI, kx_lL, kx_lA, kx_gl, kx_pI, kx_pL, kx_pR, kx_pA, kx_pV, kx_s1, kx_s2, kx_sl, kx_pre, kx_c2, kx_pl, kx_cmp, kx_oF, kx_eqN, kx_nil, kx_c1, kx_ft, kx_aI, kx_aL, kx_aR, kx_ln, Nat.reduceAdd, Option.toList, List.cons_append, List.nil_append, cf6_1]
    repeat (simp only [hO, hb, nI_clamp (show k < 2 ^ 31 by omega), ks_eq, ks_ss]; try dsimp only [kx_wp, kx_step, kx_lI, kx_lL, kx_lA, kx_gl, kx_pI, kx_pL, kx_pR, kx_pA, kx_pV, kx_s1, kx_s2, kx_sl, kx_pre, kx_c2, kx_pl, kx_cmp, kx_oF, kx_eqN, kx_nil, kx_c1, kx_ft, kx_aI, kx_aL, kx_aR, kx_ln, Nat.reduceAdd, Option.toList, List.cons_append, List.nil_append, cf6_1])
    repeat' apply And.intro
    all_goals try (first | with_reducible assumption | (with_reducible refine ck_nzI ?_; simp; done) | (with_reducible refine ck_nzL ?_; simp; done) | (with_reducible refine vp_in_nI ?_ ?_ <;> first | omega | decide) | (with_reducible refine Nat.le_of_ble_eq_true ?_; rfl) | omega | exact Or.inl trivial | exact Or.inr trivial | exact Or.inl rfl | exact Or.inr rfl)
    · intro zc10
      first | exact absurd rfl zc10 | exact absurd zc10 (by decide) | exact absurd (by decide) zc10 | (exfalso; first | exact absurd ((nI_ltI (a := k) (b := 0) (by omega) (by omega)).mp zc1) (by omega) | exact absurd ((nI_leI (a := 6) (b := k) (by omega) (by omega)).mp zc10) (by omega)) | (exfalso; simp_all; done)
    · intro zc10
      with_reducible first | have ze10 := Int32.not_le.mp zc10 | have ze10 := zc10
      refine hB bX6_bestAt_13 _ _ _ _ _ _ _ kX6_bestAt_13 ?_
      dsimp only [bX6_bestAt_13, kx_wp, kx_step, kx_lI, kx_lL, kx_lA, kx_gl, kx_pI, kx_pL, kx_pR, kx_pA, kx_pV, kx_s1, kx_s2, kx_sl, kx_pre, kx_c2, kx_pl, kx_cmp, kx_oF, kx_eqN, kx_nil, kx_c1, kx_ft, kx_aI, kx_aL, kx_aR, kx_ln, Nat.reduceAdd, Option.toList, List.cons_append, List.nil_append, cf6_1]
      repeat (simp only [hO, hb, nI_clamp (show k < 2 ^ 31 by omega), ks_eq, ks_ss]; try dsimp only [kx_wp, kx_step, kx_lI, kx_lL, kx_lA, kx_gl, kx_pI, kx_pL, kx_pR, kx_pA, kx_pV, kx_s1, kx_s2, kx_sl, kx_pre, kx_c2, kx_pl, kx_cmp, kx_oF, kx_eqN, kx_nil, kx_c1, kx_ft, kx_aI, kx_aL, kx_aR, kx_ln, Nat.reduceAdd, Option.toList, List.cons_append, List.nil_append, cf6_1])
      repeat' apply And.intro
      all_goals try (first | with_reducible assumption | (with_reducible refine ck_nzI ?_; simp; done) | (with_reducible refine ck_nzL ?_; simp; done) | (with_reducible refine vp_in_nI ?_ ?_ <;> first | omega | decide) | (with_reducible refine Nat.le_of_ble_eq_true ?_; rfl) | omega | exact Or.inl trivial | exact Or.inr trivial | exact Or.inl rfl | exact Or.inr rfl)
      refine hB bX6_bestAt_23 _ _ _ _ _ _ _ kX6_bestAt_23 ?_
      dsimp only [bX6_bestAt_23, kx_wp, kx_step, kx_lI, kx_lL, kx_lA, kx_gl, kx_pI, kx_pL, kx_pR, kx_pA, kx_pV, kx_s1, kx_s2, kx_sl, kx_pre, kx_c2, kx_pl, kx_cmp, kx_oF, kx_eqN, kx_nil, kx_c1, kx_ft, kx_aI, kx_aL, kx_aR, kx_ln, Nat.reduceAdd, Option.toList, List.cons_append, List.nil_append, cf6_1]
      repeat (simp only [hO, hb, nI_clamp (show k < 2 ^ 31 by omega), ks_eq, ks_ss]; try dsimp only [kx_wp, kx_step, kx_lI, kx_lL, kx_lA, kx_gl, kx_pI, kx_pL, kx_pR, kx_pA, kx_pV, kx_s1, kx_s2, kx_sl, kx_pre, kx_c2, kx_pl, kx_cmp, kx_oF, kx_eqN, kx_nil, kx_c1, kx_ft, kx_aI, kx_aL, kx_aR, kx_ln, Nat.reduceAdd, Option.toList, List.cons_append, List.nil_append, cf6_1])
      all_goals (repeat' apply And.intro)
      all_goals ((try clear hB hC); first | exact True.intro | with_reducible rfl | with_reducible assumption | (with_reducible refine vp_in_nI ?_ ?_ <;> first | omega | decide) | exact Nat.le_of_ble_eq_true rfl | (with_reducible refine ck_nzI ?_; simp; done) | (with_reducible refine ck_nzL ?_; simp; done) | (simp only [pk_us, pk_uLs, zc1, ze1, zc10, ze10, ↓reduceIte, not_true_eq_false, not_false_eq_true]; done) | (simp only [zc1, ze1, zc10, ze10, ↓reduceIte, not_true_eq_false, not_false_eq_true]; with_reducible rfl) | omega | skip)


set_option maxRecDepth 100000 in
set_option maxHeartbeats 4000000 in
theorem ct_X10_foretold_f (l : Launch) (G : kx_G) (hst : l.stackTraces = false) {P : kx_P} {sz : Nat} {sv : Value} {K : Nat → Int32} (h64 : P 64 = kO 10 (kf (cr10 sv) K)) {m v : Int32} {x : Int32} (hx : x < 0 ∨ K 7 ≤ x)  : kx_X l G sX10_foretold 7 [.ref 64, .int (x), .int (m), .int (v)] P sz "java/util/NoSuchElementException" := by
  refine kx_mkx hst kx_tab kxLok_X10 [some (.ref 64), some (.int (x)), some (.int (m)), some (.int (v)), none, none, none, none, none, none] ⟨by decide, rfl, by decide⟩ rfl rfl (fun g hB hC hX hT => ?_)
  refine hB bX10_foretold_0 _ _ _ _ _ _ _ kX10_foretold_0 ?_
  dsimp only [bX10_foretold_0, kx_wp, kx_step, kx_lI, kx_lL, kx_lA, kx_gl, kx_pI, kx_pL, kx_pR, kx_pA, kx_pV, kx_s1, kx_s2, kx_sl, kx_pre, kx_c2, kx_pl, kx_cmp, kx_oF, kx_eqN, kx_nil, kx_c1, kx_ft, kx_aI, kx_aL, kx_aR, kx_ln, Nat.reduceAdd, Option.toList, List.cons_append, List.nil_append, cf10_0, cf0_0, cf10_8, cf1_6, cf1_7, cf1_4]
  repeat (simp only [h64, ks_eq, ks_ss]; try dsimp only [kx_wp, kx_step, kx_lI, kx_lL, kx_lA, kx_gl, kx_pI, kx_pL, kx_pR, kx_pA, kx_pV, kx_s1, kx_s2, kx_sl, kx_pre, kx_c2, kx_pl, kx_cmp, kx_oF, kx_eqN, kx_nil, kx_c1, kx_ft, kx_aI, kx_aL, kx_aR, kx_ln, Nat.reduceAdd, Option.toList, List.cons_append, List.nil_append, cf10_0, cf0_0, cf10_8, cf1_6, cf1_7, cf1_4])
  repeat' apply And.intro
  all_goals try (first | with_reducible assumption | (with_reducible refine ck_nzI ?_; simp; done) | (with_reducible refine ck_nzL ?_; simp; done) | (with_reducible refine vp_in_nI ?_ ?_ <;> first | omega | decide) | (with_reducible refine Nat.le_of_ble_eq_true ?_; rfl) | omega | exact Or.inl trivial | exact Or.inr trivial | exact Or.inl rfl | exact Or.inr rfl)
  exact hX.1 138 _ _ _ _ _ 10 _ _ _ _ _ lX10_138 (ct_X10_theClock_x l G hst h64 hx) ⟨by decide, rfl⟩ (h64) rfl rfl (Nat.le_of_ble_eq_true rfl) (by first | decide | omega) (by decide) dX10_foretold_2

set_option maxRecDepth 100000 in
set_option maxHeartbeats 4000000 in
theorem ct_X10_foretold_b (l : Launch) (G : kx_G) (hst : l.stackTraces = false) {P : kx_P} {sz : Nat} {sv : Value} {K : Nat → Int32} (h64 : P 64 = kO 10 (kf (cr10 sv) K)) {cl : Nat} {cn : Nat → Nat} (h69 : P 69 = kR 8 (fun i => if i < cl then some (cn i) else none)) (h7 : K 7 = nI cl) (hcl : cl ≤ 8) {c : Nat} (hc : c < cl) {m v : Int32} (hb : ¬ (1 ≤ m ∧ m ≤ 3000 ∧ 0 ≤ v ∧ v ≤ 6))  : kx_X l G sX10_foretold 7 [.ref 64, .int (nI c), .int (m), .int (v)] P sz "java/lang/IllegalArgumentException" := by
  refine kx_mkx hst kx_tab kxLok_X10 [some (.ref 64), some (.int (nI c)), some (.int (m)), some (.int (v)), none, none, none, none, none, none] ⟨by decide, rfl, by decide⟩ rfl rfl (fun g hB hC hX hT => ?_)
  refine hB bX10_foretold_0 _ _ _ _ _ _ _ kX10_foretold_0 ?_
  dsimp only [bX10_foretold_0, kx_wp, kx_step, kx_lI, kx_lL, kx_lA, kx_gl, kx_pI, kx_pL, kx_pR, kx_pA, kx_pV, kx_s1, kx_s2, kx_sl, kx_pre, kx_c2, kx_pl, kx_cmp, kx_oF, kx_eqN, kx_nil, kx_c1, kx_ft, kx_aI, kx_aL, kx_aR, kx_ln, Nat.reduceAdd, Option.toList, List.cons_append, List.nil_append, cf10_0, cf0_0, cf10_8, cf1_6, cf1_7, cf1_4]
  repeat (simp only [h64, ks_eq, ks_ss]; try dsimp only [kx_wp, kx_step, kx_lI, kx_lL, kx_lA, kx_gl, kx_pI, kx_pL, kx_pR, kx_pA, kx_pV, kx_s1, kx_s2, kx_sl, kx_pre, kx_c2, kx_pl, kx_cmp, kx_oF, kx_eqN, kx_nil, kx_c1, kx_ft, kx_aI, kx_aL, kx_aR, kx_ln, Nat.reduceAdd, Option.toList, List.cons_append, List.nil_append, cf10_0, cf0_0, cf10_8, cf1_6, cf1_7, cf1_4])
  repeat' apply And.intro
  all_goals try (first | with_reducible assumption | (with_reducible refine ck_nzI ?_; simp; done) | (with_reducible refine ck_nzL ?_; simp; done) | (with_reducible refine vp_in_nI ?_ ?_ <;> first | omega | decide) | (with_reducible refine Nat.le_of_ble_eq_true ?_; rfl) | omega | exact Or.inl trivial | exact Or.inr trivial | exact Or.inl rfl | exact Or.inr rfl)
  refine hC.1 138 _ _ _ _ _ _ _ 10 _ _ _ _ _ _ _ _ _ _ _ _ lX10_138 (ct_X10_theClock l G h64 h69 h7 hcl hc) ⟨by decide, rfl⟩ (h64) rfl rfl (Nat.le_of_ble_eq_true rfl) (by first | decide | omega) (by decide) (by omega) (by omega) dX10_foretold_2 ?_
  refine hB bX10_foretold_5 _ _ _ _ _ _ _ kX10_foretold_5 ?_
  dsimp only [bX10_foretold_5, kx_wp, kx_step, kx_lI, kx_lL, kx_lA, kx_gl, kx_pI, kx_pL, kx_pR, kx_pA, kx_pV, kx_s1, kx_s2, kx_sl, kx_pre, kx_c2, kx_pl, kx_cmp, kx_oF, kx_eqN, kx_nil, kx_c1, kx_ft, kx_aI, kx_aL, kx_aR, kx_ln, Nat.reduceAdd, Option.toList, List.cons_append, List.nil_append, cf10_0, cf0_0, cf10_8, cf1_6, cf1_7, cf1_4]
  repeat (simp only [h64, ks_eq, ks_ss]; try dsimp only [kx_wp, kx_step, kx_lI, kx_lL, kx_lA, kx_gl, kx_pI, kx_pL, kx_pR, kx_pA, kx_pV, kx_s1, kx_s2, kx_sl, kx_pre, kx_c2, kx_pl, kx_cmp, kx_oF, kx_eqN, kx_nil, kx_c1, kx_ft, kx_aI, kx_aL, kx_aR, kx_ln, Nat.reduceAdd, Option.toList, List.cons_append, List.nil_append, cf10_0, cf0_0, cf10_8, cf1_6, cf1_7, cf1_4])
  repeat' apply And.intro
  all_goals try (first | with_reducible assumption | (with_reducible refine ck_nzI ?_; simp; done) | (with_reducible refine ck_nzL ?_; simp; done) | (with_reducible refine vp_in_nI ?_ ?_ <;> first | omega | decide) | (with_reducible refine Nat.le_of_ble_eq_true ?_; rfl) | omega | exact Or.inl trivial | exact Or.inr trivial | exact Or.inl rfl | exact Or.inr rfl)
  · intro zc9
    with_reducible first | have ze9 := Int32.not_le.mpr zc9 | have ze9 := zc9
    refine hB bX10_foretold_33 _ _ _ _ _ _ _ kX10_foretold_33 ?_
    dsimp only [bX10_foretold_33, kx_wp, kx_step, kx_lI, kx_lL, kx_lA, kx_gl, kx_pI, kx_pL, kx_pR, kx_pA, kx_pV, kx_s1, kx_s2, kx_sl, kx_pre, kx_c2, kx_pl, kx_cmp, kx_oF, kx_eqN, kx_nil, kx_c1, kx_ft, kx_aI, kx_aL, kx_aR, kx_ln, Nat.reduceAdd, Option.toList, List.cons_append, List.nil_append, cf10_0, cf0_0, cf10_8, cf1_6, cf1_7, cf1_4]
    repeat (simp only [h64, ks_eq, ks_ss]; try dsimp only [kx_wp, kx_step, kx_lI, kx_lL, kx_lA, kx_gl, kx_pI, kx_pL, kx_pR, kx_pA, kx_pV, kx_s1, kx_s2, kx_sl, kx_pre, kx_c2, kx_pl, kx_cmp, kx_oF, kx_eqN, kx_nil, kx_c1, kx_ft, kx_aI, kx_aL, kx_aR, kx_ln, Nat.reduceAdd, Option.toList, List.cons_append, List.nil_append, cf10_0, cf0_0, cf10_8, cf1_6, cf1_7, cf1_4])
    repeat' apply And.intro
    all_goals try (first | with_reducible assumption | (with_reducible refine ck_nzI ?_; simp; done) | (with_reducible refine ck_nzL ?_; simp; done) | (with_reducible refine vp_in_nI ?_ ?_ <;> first | omega | decide) | (with_reducible refine Nat.le_of_ble_eq_true ?_; rfl) | omega | exact Or.inl trivial | exact Or.inr trivial | exact Or.inl rfl | exact Or.inr rfl)
    exact hX.2 95 _ _ _ _ _ _ _ _ lX10_95 (ct_X10_need_x l G hst) rfl rfl (Nat.le_of_ble_eq_true rfl) (by first | decide | omega) (by decide) dX10_foretold_34
  · intro zc9
    with_reducible first | have ze9 := Int32.not_lt.mp zc9 | have ze9 := zc9
    refine hB bX10_foretold_12 _ _ _ _ _ _ _ kX10_foretold_12 ?_
    dsimp only [bX10_foretold_12, kx_wp, kx_step, kx_lI, kx_lL, kx_lA, kx_gl, kx_pI, kx_pL, kx_pR, kx_pA, kx_pV, kx_s1, kx_s2, kx_sl, kx_pre, kx_c2, kx_pl, kx_cmp, kx_oF, kx_eqN, kx_nil, kx_c1, kx_ft, kx_aI, kx_aL, kx_aR, kx_ln, Nat.reduceAdd, Option.toList, List.cons_append, List.nil_append, cf10_0, cf0_0, cf10_8, cf1_6, cf1_7, cf1_4]
    repeat (simp only [h64, ks_eq, ks_ss]; try dsimp only [kx_wp, kx_step, kx_lI, kx_lL, kx_lA, kx_gl, kx_pI, kx_pL, kx_pR, kx_pA, kx_pV, kx_s1, kx_s2, kx_sl, kx_pre, kx_c2, kx_pl, kx_cmp, kx_oF, kx_eqN, kx_nil, kx_c1, kx_ft, kx_aI, kx_aL, kx_aR, kx_ln, Nat.reduceAdd, Option.toList, List.cons_append, List.nil_append, cf10_0, cf0_0, cf10_8, cf1_6, cf1_7, cf1_4])
    repeat' apply And.intro
    all_goals try (first | with_reducible assumption | (with_reducible refine ck_nzI ?_; simp; done) | (with_reducible refine ck_nzL ?_; simp; done) | (with_reducible refine vp_in_nI ?_ ?_ <;> first | omega | decide) | (with_reducible refine Nat.le_of_ble_eq_true ?_; rfl) | omega | exact Or.inl trivial | exact Or.inr trivial | exact Or.inl rfl | exact Or.inr rfl)
    · intro zc16
      with_reducible first | have ze16 := Int32.not_le.mpr zc16 | have ze16 := zc16
      refine hB bX10_foretold_33 _ _ _ _ _ _ _ kX10_foretold_33 ?_
      dsimp only [bX10_foretold_33, kx_wp, kx_step, kx_lI, kx_lL, kx_lA, kx_gl, kx_pI, kx_pL, kx_pR, kx_pA, kx_pV, kx_s1, kx_s2, kx_sl, kx_pre, kx_c2, kx_pl, kx_cmp, kx_oF, kx_eqN, kx_nil, kx_c1, kx_ft, kx_aI, kx_aL, kx_aR, kx_ln, Nat.reduceAdd, Option.toList, List.cons_append, List.nil_append, cf10_0, cf0_0, cf10_8, cf1_6, cf1_7, cf1_4]
      repeat (simp only [h64, ks_eq, ks_ss]; try dsimp only [kx_wp, kx_step, kx_lI, kx_lL, kx_lA, kx_gl, kx_pI, kx_pL, kx_pR, kx_pA, kx_pV, kx_s1, kx_s2, kx_sl, kx_pre, kx_c2, kx_pl, kx_cmp, kx_oF, kx_eqN, kx_nil, kx_c1, kx_ft, kx_aI, kx_aL, kx_aR, kx_ln, Nat.reduceAdd, Option.toList, List.cons_append, List.nil_append, cf10_0, cf0_0, cf10_8, cf1_6, cf1_7, cf1_4])
      repeat' apply And.intro
      all_goals try (first | with_reducible assumption | (with_reducible refine ck_nzI ?_; simp; done) | (with_reducible refine ck_nzL ?_; simp; done) | (with_reducible refine vp_in_nI ?_ ?_ <;> first | omega | decide) | (with_reducible refine Nat.le_of_ble_eq_true ?_; rfl) | omega | exact Or.inl trivial | exact Or.inr trivial | exact Or.inl rfl | exact Or.inr rfl)
      exact hX.2 95 _ _ _ _ _ _ _ _ lX10_95 (ct_X10_need_x l G hst) rfl rfl (Nat.le_of_ble_eq_true rfl) (by first | decide | omega) (by decide) dX10_foretold_34
    · intro zc16
      with_reducible first | have ze16 := Int32.not_lt.mp zc16 | have ze16 := zc16
      refine hB bX10_foretold_19 _ _ _ _ _ _ _ kX10_foretold_19 ?_
      dsimp only [bX10_foretold_19, kx_wp, kx_step, kx_lI, kx_lL, kx_lA, kx_gl, kx_pI, kx_pL, kx_pR, kx_pA, kx_pV, kx_s1, kx_s2, kx_sl, kx_pre, kx_c2, kx_pl, kx_cmp, kx_oF, kx_eqN, kx_nil, kx_c1, kx_ft, kx_aI, kx_aL, kx_aR, kx_ln, Nat.reduceAdd, Option.toList, List.cons_append, List.nil_append, cf10_0, cf0_0, cf10_8, cf1_6, cf1_7, cf1_4]
      repeat (simp only [h64, ks_eq, ks_ss]; try dsimp only [kx_wp, kx_step, kx_lI, kx_lL, kx_lA, kx_gl, kx_pI, kx_pL, kx_pR, kx_pA, kx_pV, kx_s1, kx_s2, kx_sl, kx_pre, kx_c2, kx_pl, kx_cmp, kx_oF, kx_eqN, kx_nil, kx_c1, kx_ft, kx_aI, kx_aL, kx_aR, kx_ln, Nat.reduceAdd, Option.toList, List.cons_append, List.nil_append, cf10_0, cf0_0, cf10_8, cf1_6, cf1_7, cf1_4])
      repeat' apply And.intro
      all_goals try (first | with_reducible assumption | (with_reducible refine ck_nzI ?_; simp; done) | (with_reducible refine ck_nzL ?_; simp; done) | (with_reducible refine vp_in_nI ?_ ?_ <;> first | omega | decide) | (with_reducible refine Nat.le_of_ble_eq_true ?_; rfl) | omega | exact Or.inl trivial | exact Or.inr trivial | exact Or.inl rfl | exact Or.inr rfl)
      · intro zc20
        with_reducible first | have ze20 := Int32.not_le.mpr zc20 | have ze20 := zc20
        refine hB bX10_foretold_33 _ _ _ _ _ _ _ kX10_foretold_33 ?_
        dsimp only [bX10_foretold_33, kx_wp, kx_step, kx_lI, kx_lL, kx_lA, kx_gl, kx_pI, kx_pL, kx_pR, kx_pA, kx_pV, kx_s1, kx_s2, kx_sl, kx_pre, kx_c2, kx_pl, kx_cmp, kx_oF, kx_eqN, kx_nil, kx_c1, kx_ft, kx_aI, kx_aL, kx_aR, kx_ln, Nat.reduceAdd, Option.toList, List.cons_append, List.nil_append, cf10_0, cf0_0, cf10_8, cf1_6, cf1_7, cf1_4]
        repeat (simp only [h64, ks_eq, ks_ss]; try dsimp only [kx_wp, kx_step, kx_lI, kx_lL, kx_lA, kx_gl, kx_pI, kx_pL, kx_pR, kx_pA, kx_pV, kx_s1, kx_s2, kx_sl, kx_pre, kx_c2, kx_pl, kx_cmp, kx_oF, kx_eqN, kx_nil, kx_c1, kx_ft, kx_aI, kx_aL, kx_aR, kx_ln, Nat.reduceAdd, Option.toList, List.cons_append, List.nil_append, cf10_0, cf0_0, cf10_8, cf1_6, cf1_7, cf1_4])
        repeat' apply And.intro
        all_goals try (first | with_reducible assumption | (with_reducible refine ck_nzI ?_; simp; done) | (with_reducible refine ck_nzL ?_; simp; done) | (with_reducible refine vp_in_nI ?_ ?_ <;> first | omega | decide) | (with_reducible refine Nat.le_of_ble_eq_true ?_; rfl) | omega | exact Or.inl trivial | exact Or.inr trivial | exact Or.inl rfl | exact Or.inr rfl)
        exact hX.2 95 _ _ _ _ _ _ _ _ lX10_95 (ct_X10_need_x l G hst) rfl rfl (Nat.le_of_ble_eq_true rfl) (by first | decide | omega) (by decide) dX10_foretold_34
      · intro zc20
        with_reducible first | have ze20 := Int32.not_lt.mp zc20 | have ze20 := zc20
        refine hB bX10_foretold_23 _ _ _ _ _ _ _ kX10_foretold_23 ?_
        dsimp only [bX10_foretold_23, kx_wp, kx_step, kx_lI, kx_lL, kx_lA, kx_gl, kx_pI, kx_pL, kx_pR, kx_pA, kx_pV, kx_s1, kx_s2, kx_sl, kx_pre, kx_c2, kx_pl, kx_cmp, kx_oF, kx_eqN, kx_nil, kx_c1, kx_ft, kx_aI, kx_aL, kx_aR, kx_ln, Nat.reduceAdd, Option.toList, List.cons_append, List.nil_append, cf10_0, cf0_0, cf10_8, cf1_6, cf1_7, cf1_4]
        repeat (simp only [h64, ks_eq, ks_ss]; try dsimp only [kx_wp, kx_step, kx_lI, kx_lL, kx_lA, kx_gl, kx_pI, kx_pL, kx_pR, kx_pA, kx_pV, kx_s1, kx_s2, kx_sl, kx_pre, kx_c2, kx_pl, kx_cmp, kx_oF, kx_eqN, kx_nil, kx_c1, kx_ft, kx_aI, kx_aL, kx_aR, kx_ln, Nat.reduceAdd, Option.toList, List.cons_append, List.nil_append, cf10_0, cf0_0, cf10_8, cf1_6, cf1_7, cf1_4])
        repeat' apply And.intro
        all_goals try (first | with_reducible assumption | (with_reducible refine ck_nzI ?_; simp; done) | (with_reducible refine ck_nzL ?_; simp; done) | (with_reducible refine vp_in_nI ?_ ?_ <;> first | omega | decide) | (with_reducible refine Nat.le_of_ble_eq_true ?_; rfl) | omega | exact Or.inl trivial | exact Or.inr trivial | exact Or.inl rfl | exact Or.inr rfl)
        · intro zc26
          with_reducible first | have ze26 := Int32.not_le.mpr zc26 | have ze26 := zc26
          refine hB bX10_foretold_33 _ _ _ _ _ _ _ kX10_foretold_33 ?_
          dsimp only [bX10_foretold_33, kx_wp, kx_step, kx_lI, kx_lL, kx_lA, kx_gl, kx_pI, kx_pL, kx_pR, kx_pA, kx_pV, kx_s1, kx_s2, kx_sl, kx_pre, kx_c2, kx_pl, kx_cmp, kx_oF, kx_eqN, kx_nil, kx_c1, kx_ft, kx_aI, kx_aL, kx_aR, kx_ln, Nat.reduceAdd, Option.toList, List.cons_append, List.nil_append, cf10_0, cf0_0, cf10_8, cf1_6, cf1_7, cf1_4]
          repeat (simp only [h64, ks_eq, ks_ss]; try dsimp only [kx_wp, kx_step, kx_lI, kx_lL, kx_lA, kx_gl, kx_pI, kx_pL, kx_pR, kx_pA, kx_pV, kx_s1, kx_s2, kx_sl, kx_pre, kx_c2, kx_pl, kx_cmp, kx_oF, kx_eqN, kx_nil, kx_c1, kx_ft, kx_aI, kx_aL, kx_aR, kx_ln, Nat.reduceAdd, Option.toList, List.cons_append, List.nil_append, cf10_0, cf0_0, cf10_8, cf1_6, cf1_7, cf1_4])
          repeat' apply And.intro
          all_goals try (first | with_reducible assumption | (with_reducible refine ck_nzI ?_; simp; done) | (with_reducible refine ck_nzL ?_; simp; done) | (with_reducible refine vp_in_nI ?_ ?_ <;> first | omega | decide) | (with_reducible refine Nat.le_of_ble_eq_true ?_; rfl) | omega | exact Or.inl trivial | exact Or.inr trivial | exact Or.inl rfl | exact Or.inr rfl)
          exact hX.2 95 _ _ _ _ _ _ _ _ lX10_95 (ct_X10_need_x l G hst) rfl rfl (Nat.le_of_ble_eq_true rfl) (by first | decide | omega) (by decide) dX10_foretold_34
        · intro zc26
          with_reducible first | have ze26 := Int32.not_lt.mp zc26 | have ze26 := zc26
          exact absurd ⟨ze9, ze16, ze20, ze26⟩ hb

set_option maxRecDepth 100000 in
set_option maxHeartbeats 4000000 in
theorem ct_X10_foretold_l (l : Launch) (G : kx_G) (hst : l.stackTraces = false) {P : kx_P} {sz : Nat} {sv : Value} {K : Nat → Int32} (h64 : P 64 = kO 10 (kf (cr10 sv) K)) {cl : Nat} {cn : Nat → Nat} (h69 : P 69 = kR 8 (fun i => if i < cl then some (cn i) else none)) (h7 : K 7 = nI cl) (hcl : cl ≤ 8) {c : Nat} (hc : c < cl) {m v : Int32} (hb1 : 1 ≤ m) (hb2 : m ≤ 3000) (hb3 : 0 ≤ v) (hb4 : v ≤ 6) {Al : Nat → Int32} (hA : P 65 = kO 0 (kf cr0 Al)) (hm : ¬ Al 0 + m ≤ 100000)  : kx_X l G sX10_foretold 7 [.ref 64, .int (nI c), .int (m), .int (v)] P sz "java/lang/IllegalStateException" := by
  refine kx_mkx hst kx_tab kxLok_X10 [some (.ref 64), some (.int (nI c)), some (.int (m)), some (.int (v)), none, none, none, none, none, none] ⟨by decide, rfl, by decide⟩ rfl rfl (fun g hB hC hX hT => ?_)
  refine hB bX10_foretold_0 _ _ _ _ _ _ _ kX10_foretold_0 ?_
  dsimp only [bX10_foretold_0, kx_wp, kx_step, kx_lI, kx_lL, kx_lA, kx_gl, kx_pI, kx_pL, kx_pR, kx_pA, kx_pV, kx_s1, kx_s2, kx_sl, kx_pre, kx_c2, kx_pl, kx_cmp, kx_oF, kx_eqN, kx_nil, kx_c1, kx_ft, kx_aI, kx_aL, kx_aR, kx_ln, Nat.reduceAdd, Option.toList, List.cons_append, List.nil_append, cf10_0, cf0_0, cf10_8, cf1_6, cf1_7, cf1_4]
  repeat (simp only [h64, hA, ks_eq, ks_ss]; try dsimp only [kx_wp, kx_step, kx_lI, kx_lL, kx_lA, kx_gl, kx_pI, kx_pL, kx_pR, kx_pA, kx_pV, kx_s1, kx_s2, kx_sl, kx_pre, kx_c2, kx_pl, kx_cmp, kx_oF, kx_eqN, kx_nil, kx_c1, kx_ft, kx_aI, kx_aL, kx_aR, kx_ln, Nat.reduceAdd, Option.toList, List.cons_append, List.nil_append, cf10_0, cf0_0, cf10_8, cf1_6, cf1_7, cf1_4])
  repeat' apply And.intro
  all_goals try (first | with_reducible assumption | (with_reducible refine ck_nzI ?_; simp; done) | (with_reducible refine ck_nzL ?_; simp; done) | (with_reducible refine vp_in_nI ?_ ?_ <;> first | omega | decide) | (with_reducible refine Nat.le_of_ble_eq_true ?_; rfl) | omega | exact Or.inl trivial | exact Or.inr trivial | exact Or.inl rfl | exact Or.inr rfl)
  refine hC.1 138 _ _ _ _ _ _ _ 10 _ _ _ _ _ _ _ _ _ _ _ _ lX10_138 (ct_X10_theClock l G h64 h69 h7 hcl hc) ⟨by decide, rfl⟩ (h64) rfl rfl (Nat.le_of_ble_eq_true rfl) (by first | decide | omega) (by decide) (by omega) (by omega) dX10_foretold_2 ?_
  refine hB bX10_foretold_5 _ _ _ _ _ _ _ kX10_foretold_5 ?_
  dsimp only [bX10_foretold_5, kx_wp, kx_step, kx_lI, kx_lL, kx_lA, kx_gl, kx_pI, kx_pL, kx_pR, kx_pA, kx_pV, kx_s1, kx_s2, kx_sl, kx_pre, kx_c2, kx_pl, kx_cmp, kx_oF, kx_eqN, kx_nil, kx_c1, kx_ft, kx_aI, kx_aL, kx_aR, kx_ln, Nat.reduceAdd, Option.toList, List.cons_append, List.nil_append, cf10_0, cf0_0, cf10_8, cf1_6, cf1_7, cf1_4]
  repeat (simp only [h64, hA, ks_eq, ks_ss]; try dsimp only [kx_wp, kx_step, kx_lI, kx_lL, kx_lA, kx_gl, kx_pI, kx_pL, kx_pR, kx_pA, kx_pV, kx_s1, kx_s2, kx_sl, kx_pre, kx_c2, kx_pl, kx_cmp, kx_oF, kx_eqN, kx_nil, kx_c1, kx_ft, kx_aI, kx_aL, kx_aR, kx_ln, Nat.reduceAdd, Option.toList, List.cons_append, List.nil_append, cf10_0, cf0_0, cf10_8, cf1_6, cf1_7, cf1_4])
  repeat' apply And.intro
  all_goals try (first | with_reducible assumption | (with_reducible refine ck_nzI ?_; simp; done) | (with_reducible refine ck_nzL ?_; simp; done) | (with_reducible refine vp_in_nI ?_ ?_ <;> first | omega | decide) | (with_reducible refine Nat.le_of_ble_eq_true ?_; rfl) | omega | exact Or.inl trivial | exact Or.inr trivial | exact Or.inl rfl | exact Or.inr rfl)
  · intro zc9
    first | exact absurd rfl zc9 | exact absurd zc9 (by decide) | exact absurd (by decide) zc9 | (exfalso; first | exact absurd hb1 (Int32.not_le.mpr zc9) | exact absurd hb2 (Int32.not_le.mpr zc16) | exact absurd hb3 (Int32.not_le.mpr zc20) | exact absurd hb4 (Int32.not_le.mpr zc26)) | (exfalso; simp_all; done)
  · intro zc9
    with_reducible first | have ze9 := Int32.not_lt.mp zc9 | have ze9 := zc9
    refine hB bX10_foretold_12 _ _ _ _ _ _ _ kX10_foretold_12 ?_
    dsimp only [bX10_foretold_12, kx_wp, kx_step, kx_lI, kx_lL, kx_lA, kx_gl, kx_pI, kx_pL, kx_pR, kx_pA, kx_pV, kx_s1, kx_s2, kx_sl, kx_pre, kx_c2, kx_pl, kx_cmp, kx_oF, kx_eqN, kx_nil, kx_c1, kx_ft, kx_aI, kx_aL, kx_aR, kx_ln, Nat.reduceAdd, Option.toList, List.cons_append, List.nil_append, cf10_0, cf0_0, cf10_8, cf1_6, cf1_7, cf1_4]
    repeat (simp only [h64, hA, ks_eq, ks_ss]; try dsimp only [kx_wp, kx_step, kx_lI, kx_lL, kx_lA, kx_gl, kx_pI, kx_pL, kx_pR, kx_pA, kx_pV, kx_s1, kx_s2, kx_sl, kx_pre, kx_c2, kx_pl, kx_cmp, kx_oF, kx_eqN, kx_nil, kx_c1, kx_ft, kx_aI, kx_aL, kx_aR, kx_ln, Nat.reduceAdd, Option.toList, List.cons_append, List.nil_append, cf10_0, cf0_0, cf10_8, cf1_6, cf1_7, cf1_4])
    repeat' apply And.intro
    all_goals try (first | with_reducible assumption | (with_reducible refine ck_nzI ?_; simp; done) | (with_reducible refine ck_nzL ?_; simp; done) | (with_reducible refine vp_in_nI ?_ ?_ <;> first | omega | decide) | (with_reducible refine Nat.le_of_ble_eq_true ?_; rfl) | omega | exact Or.inl trivial | exact Or.inr trivial | exact Or.inl rfl | exact Or.inr rfl)
    · intro zc16
      first | exact absurd rfl zc16 | exact absurd zc16 (by decide) | exact absurd (by decide) zc16 | (exfalso; first | exact absurd hb1 (Int32.not_le.mpr zc9) | exact absurd hb2 (Int32.not_le.mpr zc16) | exact absurd hb3 (Int32.not_le.mpr zc20) | exact absurd hb4 (Int32.not_le.mpr zc26)) | (exfalso; simp_all; done)
    · intro zc16
      with_reducible first | have ze16 := Int32.not_lt.mp zc16 | have ze16 := zc16
      refine hB bX10_foretold_19 _ _ _ _ _ _ _ kX10_foretold_19 ?_
      dsimp only [bX10_foretold_19, kx_wp, kx_step, kx_lI, kx_lL, kx_lA, kx_gl, kx_pI, kx_pL, kx_pR, kx_pA, kx_pV, kx_s1, kx_s2, kx_sl, kx_pre, kx_c2, kx_pl, kx_cmp, kx_oF, kx_eqN, kx_nil, kx_c1, kx_ft, kx_aI, kx_aL, kx_aR, kx_ln, Nat.reduceAdd, Option.toList, List.cons_append, List.nil_append, cf10_0, cf0_0, cf10_8, cf1_6, cf1_7, cf1_4]
      repeat (simp only [h64, hA, ks_eq, ks_ss]; try dsimp only [kx_wp, kx_step, kx_lI, kx_lL, kx_lA, kx_gl, kx_pI, kx_pL, kx_pR, kx_pA, kx_pV, kx_s1, kx_s2, kx_sl, kx_pre, kx_c2, kx_pl, kx_cmp, kx_oF, kx_eqN, kx_nil, kx_c1, kx_ft, kx_aI, kx_aL, kx_aR, kx_ln, Nat.reduceAdd, Option.toList, List.cons_append, List.nil_append, cf10_0, cf0_0, cf10_8, cf1_6, cf1_7, cf1_4])
      repeat' apply And.intro
      all_goals try (first | with_reducible assumption | (with_reducible refine ck_nzI ?_; simp; done) | (with_reducible refine ck_nzL ?_; simp; done) | (with_reducible refine vp_in_nI ?_ ?_ <;> first | omega | decide) | (with_reducible refine Nat.le_of_ble_eq_true ?_; rfl) | omega | exact Or.inl trivial | exact Or.inr trivial | exact Or.inl rfl | exact Or.inr rfl)
      · intro zc20
        first | exact absurd rfl zc20 | exact absurd zc20 (by decide) | exact absurd (by decide) zc20 | (exfalso; first | exact absurd hb1 (Int32.not_le.mpr zc9) | exact absurd hb2 (Int32.not_le.mpr zc16) | exact absurd hb3 (Int32.not_le.mpr zc20) | exact absurd hb4 (Int32.not_le.mpr zc26)) | (exfalso; simp_all; done)
      · intro zc20
        with_reducible first | have ze20 := Int32.not_lt.mp zc20 | have ze20 := zc20
        refine hB bX10_foretold_23 _ _ _ _ _ _ _ kX10_foretold_23 ?_
        dsimp only [bX10_foretold_23, kx_wp, kx_step, kx_lI, kx_lL, kx_lA, kx_gl, kx_pI, kx_pL, kx_pR, kx_pA, kx_pV, kx_s1, kx_s2, kx_sl, kx_pre, kx_c2, kx_pl, kx_cmp, kx_oF, kx_eqN, kx_nil, kx_c1, kx_ft, kx_aI, kx_aL, kx_aR, kx_ln, Nat.reduceAdd, Option.toList, List.cons_append, List.nil_append, cf10_0, cf0_0, cf10_8, cf1_6, cf1_7, cf1_4]
        repeat (simp only [h64, hA, ks_eq, ks_ss]; try dsimp only [kx_wp, kx_step, kx_lI, kx_lL, kx_lA, kx_gl, kx_pI, kx_pL, kx_pR, kx_pA, kx_pV, kx_s1, kx_s2, kx_sl, kx_pre, kx_c2, kx_pl, kx_cmp, kx_oF, kx_eqN, kx_nil, kx_c1, kx_ft, kx_aI, kx_aL, kx_aR, kx_ln, Nat.reduceAdd, Option.toList, List.cons_append, List.nil_append, cf10_0, cf0_0, cf10_8, cf1_6, cf1_7, cf1_4])
        repeat' apply And.intro
        all_goals try (first | with_reducible assumption | (with_reducible refine ck_nzI ?_; simp; done) | (with_reducible refine ck_nzL ?_; simp; done) | (with_reducible refine vp_in_nI ?_ ?_ <;> first | omega | decide) | (with_reducible refine Nat.le_of_ble_eq_true ?_; rfl) | omega | exact Or.inl trivial | exact Or.inr trivial | exact Or.inl rfl | exact Or.inr rfl)
        · intro zc26
          first | exact absurd rfl zc26 | exact absurd zc26 (by decide) | exact absurd (by decide) zc26 | (exfalso; first | exact absurd hb1 (Int32.not_le.mpr zc9) | exact absurd hb2 (Int32.not_le.mpr zc16) | exact absurd hb3 (Int32.not_le.mpr zc20) | exact absurd hb4 (Int32.not_le.mpr zc26)) | (exfalso; simp_all; done)
        · intro zc26
          with_reducible first | have ze26 := Int32.not_lt.mp zc26 | have ze26 := zc26
          refine hB bX10_foretold_29 _ _ _ _ _ _ _ kX10_foretold_29 ?_
          dsimp only [bX10_foretold_29, kx_wp, kx_step, kx_lI, kx_lL, kx_lA, kx_gl, kx_pI, kx_pL, kx_pR, kx_pA, kx_pV, kx_s1, kx_s2, kx_sl, kx_pre, kx_c2, kx_pl, kx_cmp, kx_oF, kx_eqN, kx_nil, kx_c1, kx_ft, kx_aI, kx_aL, kx_aR, kx_ln, Nat.reduceAdd, Option.toList, List.cons_append, List.nil_append, cf10_0, cf0_0, cf10_8, cf1_6, cf1_7, cf1_4]
          repeat (simp only [h64, hA, ks_eq, ks_ss]; try dsimp only [kx_wp, kx_step, kx_lI, kx_lL, kx_lA, kx_gl, kx_pI, kx_pL, kx_pR, kx_pA, kx_pV, kx_s1, kx_s2, kx_sl, kx_pre, kx_c2, kx_pl, kx_cmp, kx_oF, kx_eqN, kx_nil, kx_c1, kx_ft, kx_aI, kx_aL, kx_aR, kx_ln, Nat.reduceAdd, Option.toList, List.cons_append, List.nil_append, cf10_0, cf0_0, cf10_8, cf1_6, cf1_7, cf1_4])
          repeat' apply And.intro
          all_goals try (first | with_reducible assumption | (with_reducible refine ck_nzI ?_; simp; done) | (with_reducible refine ck_nzL ?_; simp; done) | (with_reducible refine vp_in_nI ?_ ?_ <;> first | omega | decide) | (with_reducible refine Nat.le_of_ble_eq_true ?_; rfl) | omega | exact Or.inl trivial | exact Or.inr trivial | exact Or.inl rfl | exact Or.inr rfl)
          refine hC.2.1 95 _ _ _ _ _ _ _ _ _ _ _ _ _ _ _ _ _ lX10_95 (ct_X10_need l G (b := 1) (by decide)) rfl rfl (Nat.le_of_ble_eq_true rfl) (by first | decide | omega) (by decide) (by omega) (by omega) dX10_foretold_34 ?_
          refine hB bX10_foretold_37 _ _ _ _ _ _ _ kX10_foretold_37 ?_
          dsimp only [bX10_foretold_37, kx_wp, kx_step, kx_lI, kx_lL, kx_lA, kx_gl, kx_pI, kx_pL, kx_pR, kx_pA, kx_pV, kx_s1, kx_s2, kx_sl, kx_pre, kx_c2, kx_pl, kx_cmp, kx_oF, kx_eqN, kx_nil, kx_c1, kx_ft, kx_aI, kx_aL, kx_aR, kx_ln, Nat.reduceAdd, Option.toList, List.cons_append, List.nil_append, cf10_0, cf0_0, cf10_8, cf1_6, cf1_7, cf1_4]
          repeat (simp only [h64, hA, ks_eq, ks_ss]; try dsimp only [kx_wp, kx_step, kx_lI, kx_lL, kx_lA, kx_gl, kx_pI, kx_pL, kx_pR, kx_pA, kx_pV, kx_s1, kx_s2, kx_sl, kx_pre, kx_c2, kx_pl, kx_cmp, kx_oF, kx_eqN, kx_nil, kx_c1, kx_ft, kx_aI, kx_aL, kx_aR, kx_ln, Nat.reduceAdd, Option.toList, List.cons_append, List.nil_append, cf10_0, cf0_0, cf10_8, cf1_6, cf1_7, cf1_4])
          repeat' apply And.intro
          all_goals try (first | with_reducible assumption | (with_reducible refine ck_nzI ?_; simp; done) | (with_reducible refine ck_nzL ?_; simp; done) | (with_reducible refine vp_in_nI ?_ ?_ <;> first | omega | decide) | (with_reducible refine Nat.le_of_ble_eq_true ?_; rfl) | omega | exact Or.inl trivial | exact Or.inr trivial | exact Or.inl rfl | exact Or.inr rfl)
          exact hX.2 132 _ _ _ _ _ _ _ _ lX10_132 (ct_X10_needMinute_x l G hst hm) rfl rfl (Nat.le_of_ble_eq_true rfl) (by first | decide | omega) (by decide) dX10_foretold_50


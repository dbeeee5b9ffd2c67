set_option maxRecDepth 100000 in
set_option maxHeartbeats 4000000 in
theorem ct_X10_clock_kr (l : Launch) (G : kx_G) {P : kx_P} {sz : Nat} {sv : Value} {K : Nat → Int32} (h64 : P 64 = kO 10 (kf (cr10 sv) K)) {x y : Int32} (hip : cx_ip x y = 1) {n : Nat} (hit : cx_it (nI n) (K 2) = 1) {cl : Nat} (h7 : K 7 = nI cl) (hcl : cl < 8) {T : Nat → Int32} {R : ck_Qt} {w : Nat} (hrs : kx_Mn l G sX10_readSpare 48 0 0 [.ref 64, .int (nI n)] P sz (cx_RS P K w T n R sz)) (hk : ¬ R.1.2.1 = -1)  : kx_Mn l G sX10_clock 50 0 0 [.ref 64, .int (x), .int (y), .int (nI n)] P sz (fun r P2 s2 => r = some (.int (R.1.2.2.1 - 10)) ∧ cx_RS P K w T n R sz (some (.int R.1.2.2.1)) P2 s2) := by
  refine kx_mkn kx_tab kxLok_X10 (ini := false) [some (.ref 64), some (.int (x)), some (.int (y)), some (.int (nI n)), none, none] ⟨by decide, rfl, by decide, by decide⟩ (fun _ _ _ h => ⟨_, h.1⟩) rfl rfl (fun g hB hC hN => ?_)
  refine hB bX10_clock_0 _ _ _ _ _ _ _ kX10_clock_0 ?_
  dsimp only [bX10_clock_0, kx_wp, kx_step, kx_lI, kx_lL, kx_lA, kx_gl, kx_pI, kx_pL, kx_pR, kx_pA, kx_pV, kx_s1, kx_s2, kx_sl, kx_pre, kx_c2, kx_pl, kx_cmp, kx_oF, kx_eqN, kx_nil, kx_c1, kx_ft, kx_aI, kx_aL, kx_aR, kx_ln, Nat.reduceAdd, Option.toList, List.cons_append, List.nil_append, cf10_7, cf10_2, cf10_5, cf10_4, cf10_0, cf10_6]
  repeat (simp only [h64, hip, hit, h7, cp10_2, cp10_5, cp10_4, cp10_7, ks_eq, ks_ss]; try dsimp only [kx_wp, kx_step, kx_lI, kx_lL, kx_lA, kx_gl, kx_pI, kx_pL, kx_pR, kx_pA, kx_pV, kx_s1, kx_s2, kx_sl, kx_pre, kx_c2, kx_pl, kx_cmp, kx_oF, kx_eqN, kx_nil, kx_c1, kx_ft, kx_aI, kx_aL, kx_aR, kx_ln, Nat.reduceAdd, Option.toList, List.cons_append, List.nil_append, cf10_7, cf10_2, cf10_5, cf10_4, cf10_0, cf10_6])
  repeat' apply And.intro
  all_goals try (first | with_reducible assumption | (with_reducible refine ck_nzI ?_; simp; done) | (with_reducible refine ck_nzL ?_; simp; done) | (with_reducible refine vp_in_nI ?_ ?_ <;> first | omega | decide) | (with_reducible refine Nat.le_of_ble_eq_true ?_; rfl) | omega | exact Or.inl trivial | exact Or.inr trivial | exact Or.inl rfl | exact Or.inr rfl)
  refine hC.2.1 111 _ _ _ _ _ _ _ _ _ _ _ _ _ _ _ _ _ lX10_111 (ct_X10_isPlace l G) rfl rfl (Nat.le_of_ble_eq_true rfl) (by first | decide | omega) (by decide) (by omega) (by omega) dX10_clock_2 ?_
  rw [hip]
  refine hB bX10_clock_5 _ _ _ _ _ _ _ kX10_clock_5 ?_
  dsimp only [bX10_clock_5, kx_wp, kx_step, kx_lI, kx_lL, kx_lA, kx_gl, kx_pI, kx_pL, kx_pR, kx_pA, kx_pV, kx_s1, kx_s2, kx_sl, kx_pre, kx_c2, kx_pl, kx_cmp, kx_oF, kx_eqN, kx_nil, kx_c1, kx_ft, kx_aI, kx_aL, kx_aR, kx_ln, Nat.reduceAdd, Option.toList, List.cons_append, List.nil_append, cf10_7, cf10_2, cf10_5, cf10_4, cf10_0, cf10_6]
  repeat (simp only [h64, hip, hit, h7, cp10_2, cp10_5, cp10_4, cp10_7, ks_eq, ks_ss]; try dsimp only [kx_wp, kx_step, kx_lI, kx_lL, kx_lA, kx_gl, kx_pI, kx_pL, kx_pR, kx_pA, kx_pV, kx_s1, kx_s2, kx_sl, kx_pre, kx_c2, kx_pl, kx_cmp, kx_oF, kx_eqN, kx_nil, kx_c1, kx_ft, kx_aI, kx_aL, kx_aR, kx_ln, Nat.reduceAdd, Option.toList, List.cons_append, List.nil_append, cf10_7, cf10_2, cf10_5, cf10_4, cf10_0, cf10_6])
  repeat' apply And.intro
  all_goals try (first | with_reducible assumption | (with_reducible refine ck_nzI ?_; simp; done) | (with_reducible refine ck_nzL ?_; simp; done) | (with_reducible refine vp_in_nI ?_ ?_ <;> first | omega | decide) | (with_reducible refine Nat.le_of_ble_eq_true ?_; rfl) | omega | exact Or.inl trivial | exact Or.inr trivial | exact Or.inl rfl | exact Or.inr rfl)
  · intro zc5
    first | exact absurd rfl zc5 | exact absurd zc5 (by decide) | exact absurd (by decide) zc5 | (exfalso; first | exact absurd zc5 (by decide) | exact absurd zc13 (by decide) | exact absurd ((nI_ltI (a := cl) (b := 8) (by omega) (by omega)).mpr hcl) zc30 | exact hk0 zc54) | (exfalso; simp_all; done)
  · intro zc5
    have ze5 := zc5
    refine hB bX10_clock_8 _ _ _ _ _ _ _ kX10_clock_8 ?_
    dsimp only [bX10_clock_8, kx_wp, kx_step, kx_lI, kx_lL, kx_lA, kx_gl, kx_pI, kx_pL, kx_pR, kx_pA, kx_pV, kx_s1, kx_s2, kx_sl, kx_pre, kx_c2, kx_pl, kx_cmp, kx_oF, kx_eqN, kx_nil, kx_c1, kx_ft, kx_aI, kx_aL, kx_aR, kx_ln, Nat.reduceAdd, Option.toList, List.cons_append, List.nil_append, cf10_7, cf10_2, cf10_5, cf10_4, cf10_0, cf10_6]
    repeat (simp only [h64, hip, hit, h7, cp10_2, cp10_5, cp10_4, cp10_7, ks_eq, ks_ss]; try dsimp only [kx_wp, kx_step, kx_lI, kx_lL, kx_lA, kx_gl, kx_pI, kx_pL, kx_pR, kx_pA, kx_pV, kx_s1, kx_s2, kx_sl, kx_pre, kx_c2, kx_pl, kx_cmp, kx_oF, kx_eqN, kx_nil, kx_c1, kx_ft, kx_aI, kx_aL, kx_aR, kx_ln, Nat.reduceAdd, Option.toList, List.cons_append, List.nil_append, cf10_7, cf10_2, cf10_5, cf10_4, cf10_0, cf10_6])
    repeat' apply And.intro
    all_goals try (first | with_reducible assumption | (with_reducible refine ck_nzI ?_; simp; done) | (with_reducible refine ck_nzL ?_; simp; done) | (with_reducible refine vp_in_nI ?_ ?_ <;> first | omega | decide) | (with_reducible refine Nat.le_of_ble_eq_true ?_; rfl) | omega | exact Or.inl trivial | exact Or.inr trivial | exact Or.inl rfl | exact Or.inr rfl)
    refine hC.1 115 _ _ _ _ _ _ _ 10 _ _ _ _ _ _ _ _ _ _ _ _ lX10_115 (ct_X10_isOnTape l G h64) ⟨by decide, rfl⟩ (h64) rfl rfl (Nat.le_of_ble_eq_true rfl) (by first | decide | omega) (by decide) (by omega) (by omega) dX10_clock_10 ?_
    rw [hit]
    refine hB bX10_clock_13 _ _ _ _ _ _ _ kX10_clock_13 ?_
    dsimp only [bX10_clock_13, kx_wp, kx_step, kx_lI, kx_lL, kx_lA, kx_gl, kx_pI, kx_pL, kx_pR, kx_pA, kx_pV, kx_s1, kx_s2, kx_sl, kx_pre, kx_c2, kx_pl, kx_cmp, kx_oF, kx_eqN, kx_nil, kx_c1, kx_ft, kx_aI, kx_aL, kx_aR, kx_ln, Nat.reduceAdd, Option.toList, List.cons_append, List.nil_append, cf10_7, cf10_2, cf10_5, cf10_4, cf10_0, cf10_6]
    repeat (simp only [h64, hip, hit, h7, cp10_2, cp10_5, cp10_4, cp10_7, ks_eq, ks_ss]; try dsimp only [kx_wp, kx_step, kx_lI, kx_lL, kx_lA, kx_gl, kx_pI, kx_pL, kx_pR, kx_pA, kx_pV, kx_s1, kx_s2, kx_sl, kx_pre, kx_c2, kx_pl, kx_cmp, kx_oF, kx_eqN, kx_nil, kx_c1, kx_ft, kx_aI, kx_aL, kx_aR, kx_ln, Nat.reduceAdd, Option.toList, List.cons_append, List.nil_append, cf10_7, cf10_2, cf10_5, cf10_4, cf10_0, cf10_6])
    repeat' apply And.intro
    all_goals try (first | with_reducible assumption | (with_reducible refine ck_nzI ?_; simp; done) | (with_reducible refine ck_nzL ?_; simp; done) | (with_reducible refine vp_in_nI ?_ ?_ <;> first | omega | decide) | (with_reducible refine Nat.le_of_ble_eq_true ?_; rfl) | omega | exact Or.inl trivial | exact Or.inr trivial | exact Or.inl rfl | exact Or.inr rfl)
    · intro zc13
      first | exact absurd rfl zc13 | exact absurd zc13 (by decide) | exact absurd (by decide) zc13 | (exfalso; first | exact absurd zc5 (by decide) | exact absurd zc13 (by decide) | exact absurd ((nI_ltI (a := cl) (b := 8) (by omega) (by omega)).mpr hcl) zc30 | exact hk0 zc54) | (exfalso; simp_all; done)
    · intro zc13
      have ze13 := zc13
      refine hB bX10_clock_16 _ _ _ _ _ _ _ kX10_clock_16 ?_
      dsimp only [bX10_clock_16, kx_wp, kx_step, kx_lI, kx_lL, kx_lA, kx_gl, kx_pI, kx_pL, kx_pR, kx_pA, kx_pV, kx_s1, kx_s2, kx_sl, kx_pre, kx_c2, kx_pl, kx_cmp, kx_oF, kx_eqN, kx_nil, kx_c1, kx_ft, kx_aI, kx_aL, kx_aR, kx_ln, Nat.reduceAdd, Option.toList, List.cons_append, List.nil_append, cf10_7, cf10_2, cf10_5, cf10_4, cf10_0, cf10_6]
      repeat (simp only [h64, hip, hit, h7, cp10_2, cp10_5, cp10_4, cp10_7, ks_eq, ks_ss]; try dsimp only [kx_wp, kx_step, kx_lI, kx_lL, kx_lA, kx_gl, kx_pI, kx_pL, kx_pR, kx_pA, kx_pV, kx_s1, kx_s2, kx_sl, kx_pre, kx_c2, kx_pl, kx_cmp, kx_oF, kx_eqN, kx_nil, kx_c1, kx_ft, kx_aI, kx_aL, kx_aR, kx_ln, Nat.reduceAdd, Option.toList, List.cons_append, List.nil_append, cf10_7, cf10_2, cf10_5, cf10_4, cf10_0, cf10_6])
      repeat' apply And.intro
      all_goals try (first | with_reducible assumption | (with_reducible refine ck_nzI ?_; simp; done) | (with_reducible refine ck_nzL ?_; simp; done) | (with_reducible refine vp_in_nI ?_ ?_ <;> first | omega | decide) | (with_reducible refine Nat.le_of_ble_eq_true ?_; rfl) | omega | exact Or.inl trivial | exact Or.inr trivial | exact Or.inl rfl | exact Or.inr rfl)
      refine hC.2.1 95 _ _ _ _ _ _ _ _ _ _ _ _ _ _ _ _ _ lX10_95 (ct_X10_need l G (b := 1) (by decide)) rfl rfl (Nat.le_of_ble_eq_true rfl) (by first | decide | omega) (by decide) (by omega) (by omega) dX10_clock_21 ?_
      refine hB bX10_clock_24 _ _ _ _ _ _ _ kX10_clock_24 ?_
      dsimp only [bX10_clock_24, kx_wp, kx_step, kx_lI, kx_lL, kx_lA, kx_gl, kx_pI, kx_pL, kx_pR, kx_pA, kx_pV, kx_s1, kx_s2, kx_sl, kx_pre, kx_c2, kx_pl, kx_cmp, kx_oF, kx_eqN, kx_nil, kx_c1, kx_ft, kx_aI, kx_aL, kx_aR, kx_ln, Nat.reduceAdd, Option.toList, List.cons_append, List.nil_append, cf10_7, cf10_2, cf10_5, cf10_4, cf10_0, cf10_6]
      repeat (simp only [h64, hip, hit, h7, cp10_2, cp10_5, cp10_4, cp10_7, ks_eq, ks_ss]; try dsimp only [kx_wp, kx_step, kx_lI, kx_lL, kx_lA, kx_gl, kx_pI, kx_pL, kx_pR, kx_pA, kx_pV, kx_s1, kx_s2, kx_sl, kx_pre, kx_c2, kx_pl, kx_cmp, kx_oF, kx_eqN, kx_nil, kx_c1, kx_ft, kx_aI, kx_aL, kx_aR, kx_ln, Nat.reduceAdd, Option.toList, List.cons_append, List.nil_append, cf10_7, cf10_2, cf10_5, cf10_4, cf10_0, cf10_6])
      repeat' apply And.intro
      all_goals try (first | with_reducible assumption | (with_reducible refine ck_nzI ?_; simp; done) | (with_reducible refine ck_nzL ?_; simp; done) | (with_reducible refine vp_in_nI ?_ ?_ <;> first | omega | decide) | (with_reducible refine Nat.le_of_ble_eq_true ?_; rfl) | omega | exact Or.inl trivial | exact Or.inr trivial | exact Or.inl rfl | exact Or.inr rfl)
      · intro zc30
        with_reducible first | have ze30 := Int32.not_le.mpr zc30 | have ze30 := zc30
        refine hB bX10_clock_45 _ _ _ _ _ _ _ kX10_clock_45 ?_
        dsimp only [bX10_clock_45, kx_wp, kx_step, kx_lI, kx_lL, kx_lA, kx_gl, kx_pI, kx_pL, kx_pR, kx_pA, kx_pV, kx_s1, kx_s2, kx_sl, kx_pre, kx_c2, kx_pl, kx_cmp, kx_oF, kx_eqN, kx_nil, kx_c1, kx_ft, kx_aI, kx_aL, kx_aR, kx_ln, Nat.reduceAdd, Option.toList, List.cons_append, List.nil_append, cf10_7, cf10_2, cf10_5, cf10_4, cf10_0, cf10_6]
        repeat (simp only [h64, hip, hit, h7, cp10_2, cp10_5, cp10_4, cp10_7, ks_eq, ks_ss]; try dsimp only [kx_wp, kx_step, kx_lI, kx_lL, kx_lA, kx_gl, kx_pI, kx_pL, kx_pR, kx_pA, kx_pV, kx_s1, kx_s2, kx_sl, kx_pre, kx_c2, kx_pl, kx_cmp, kx_oF, kx_eqN, kx_nil, kx_c1, kx_ft, kx_aI, kx_aL, kx_aR, kx_ln, Nat.reduceAdd, Option.toList, List.cons_append, List.nil_append, cf10_7, cf10_2, cf10_5, cf10_4, cf10_0, cf10_6])
        repeat' apply And.intro
        all_goals try (first | with_reducible assumption | (with_reducible refine ck_nzI ?_; simp; done) | (with_reducible refine ck_nzL ?_; simp; done) | (with_reducible refine vp_in_nI ?_ ?_ <;> first | omega | decide) | (with_reducible refine Nat.le_of_ble_eq_true ?_; rfl) | omega | exact Or.inl trivial | exact Or.inr trivial | exact Or.inl rfl | exact Or.inr rfl)
        refine hN.1 119 _ _ _ _ _ _ _ 10 _ _ _ _ _ _ _ _ _ _ lX10_119 (hrs) ⟨by decide, rfl⟩ (h64) rfl rfl (Nat.le_of_ble_eq_true rfl) (by omega) (by decide) (Nat.le_of_ble_eq_true rfl) (Nat.le_of_ble_eq_true rfl) dX10_clock_47 ?_
        rintro r2 P2 s2 hRS
        have hq2 : r2 = some (.int R.1.2.2.1) ∧ ¬ R.1.2.2.1 = 0 := by
          obtain ⟨F2, V2, te2, qu2, Fo2, st2, h1, h2, h3, h4, h5⟩ := hRS
          rw [if_neg hk] at h1
          exact ⟨h1, h5 hk⟩
        obtain ⟨rfl, hk0⟩ := hq2
        dsimp only [Option.toList, List.cons_append, List.nil_append]
        refine hB bX10_clock_50 _ _ _ _ _ _ _ kX10_clock_50 ?_
        dsimp only [bX10_clock_50, kx_wp, kx_step, kx_lI, kx_lL, kx_lA, kx_gl, kx_pI, kx_pL, kx_pR, kx_pA, kx_pV, kx_s1, kx_s2, kx_sl, kx_pre, kx_c2, kx_pl, kx_cmp, kx_oF, kx_eqN, kx_nil, kx_c1, kx_ft, kx_aI, kx_aL, kx_aR, kx_ln, Nat.reduceAdd, Option.toList, List.cons_append, List.nil_append, cf10_7, cf10_2, cf10_5, cf10_4, cf10_0, cf10_6]
        repeat (simp only [h64, hip, hit, h7, cp10_2, cp10_5, cp10_4, cp10_7, ks_eq, ks_ss]; try dsimp only [kx_wp, kx_step, kx_lI, kx_lL, kx_lA, kx_gl, kx_pI, kx_pL, kx_pR, kx_pA, kx_pV, kx_s1, kx_s2, kx_sl, kx_pre, kx_c2, kx_pl, kx_cmp, kx_oF, kx_eqN, kx_nil, kx_c1, kx_ft, kx_aI, kx_aL, kx_aR, kx_ln, Nat.reduceAdd, Option.toList, List.cons_append, List.nil_append, cf10_7, cf10_2, cf10_5, cf10_4, cf10_0, cf10_6])
        repeat' apply And.intro
        all_goals try (first | with_reducible assumption | (with_reducible refine ck_nzI ?_; simp; done) | (with_reducible refine ck_nzL ?_; simp; done) | (with_reducible refine vp_in_nI ?_ ?_ <;> first | omega | decide) | (with_reducible refine Nat.le_of_ble_eq_true ?_; rfl) | omega | exact Or.inl trivial | exact Or.inr trivial | exact Or.inl rfl | exact Or.inr rfl)
        · intro zc54
          first | exact absurd rfl zc54 | exact absurd zc54 (by decide) | exact absurd (by decide) zc54 | (exfalso; first | exact absurd zc5 (by decide) | exact absurd zc13 (by decide) | exact absurd ((nI_ltI (a := cl) (b := 8) (by omega) (by omega)).mpr hcl) zc30 | exact hk0 zc54) | (exfalso; simp_all; done)
        · intro zc54
          have ze54 := zc54
          refine hB bX10_clock_57 _ _ _ _ _ _ _ kX10_clock_57 ?_
          dsimp only [bX10_clock_57, kx_wp, kx_step, kx_lI, kx_lL, kx_lA, kx_gl, kx_pI, kx_pL, kx_pR, kx_pA, kx_pV, kx_s1, kx_s2, kx_sl, kx_pre, kx_c2, kx_pl, kx_cmp, kx_oF, kx_eqN, kx_nil, kx_c1, kx_ft, kx_aI, kx_aL, kx_aR, kx_ln, Nat.reduceAdd, Option.toList, List.cons_append, List.nil_append, cf10_7, cf10_2, cf10_5, cf10_4, cf10_0, cf10_6]
          repeat (simp only [h64, hip, hit, h7, cp10_2, cp10_5, cp10_4, cp10_7, ks_eq, ks_ss]; try dsimp only [kx_wp, kx_step, kx_lI, kx_lL, kx_lA, kx_gl, kx_pI, kx_pL, kx_pR, kx_pA, kx_pV, kx_s1, kx_s2, kx_sl, kx_pre, kx_c2, kx_pl, kx_cmp, kx_oF, kx_eqN, kx_nil, kx_c1, kx_ft, kx_aI, kx_aL, kx_aR, kx_ln, Nat.reduceAdd, Option.toList, List.cons_append, List.nil_append, cf10_7, cf10_2, cf10_5, cf10_4, cf10_0, cf10_6])
          all_goals (repeat' apply And.intro)
          all_goals ((try clear hB hC); first | exact True.intro | rfl | exact hRS)
      · intro zc30
        first | exact absurd rfl zc30 | exact absurd zc30 (by decide) | exact absurd (by decide) zc30 | (exfalso; first | exact absurd zc5 (by decide) | exact absurd zc13 (by decide) | exact absurd ((nI_ltI (a := cl) (b := 8) (by omega) (by omega)).mpr hcl) zc30 | exact hk0 zc54) | (exfalso; simp_all; done)

set_option maxRecDepth 100000 in
set_option maxHeartbeats 4000000 in
theorem ct_X10_clock_kn (l : Launch) (G : kx_G) {P : kx_P} {sz : Nat} {sv : Value} {K : Nat → Int32} (h64 : P 64 = kO 10 (kf (cr10 sv) K)) {x y : Int32} (hip : cx_ip x y = 1) {n : Nat} (hit : cx_it (nI n) (K 2) = 1) {cl : Nat} (h7 : K 7 = nI cl) (hcl : cl < 8) {T : Nat → Int32} {R : ck_Qt} (hrs : kx_Mn l G sX10_readSpare 48 6 512 [.ref 64, .int (nI n)] P sz (cx_RS (kx_set (cx_nw P sz) 64 (kO 10 (kf (cr10 (.ref sz)) K))) K sz T n R (sz + 6))) (hk : ¬ R.1.2.1 = -1)  : kx_Mn l G sX10_clock 50 6 512 [.ref 64, .int (x), .int (y), .int (nI n)] P sz (fun r P2 s2 => r = some (.int (R.1.2.2.1 - 10)) ∧ cx_RS (kx_set (cx_nw P sz) 64 (kO 10 (kf (cr10 (.ref sz)) K))) K sz T n R (sz + 6) (some (.int R.1.2.2.1)) P2 s2) := by
  refine kx_mkn kx_tab kxLok_X10 (ini := false) [some (.ref 64), some (.int (x)), some (.int (y)), some (.int (nI n)), none, none] ⟨by decide, rfl, by decide, by decide⟩ (fun _ _ _ h => ⟨_, h.1⟩) rfl rfl (fun g hB hC hN => ?_)
  refine hB bX10_clock_0 _ _ _ _ _ _ _ kX10_clock_0 ?_
  dsimp only [bX10_clock_0, kx_wp, kx_step, kx_lI, kx_lL, kx_lA, kx_gl, kx_pI, kx_pL, kx_pR, kx_pA, kx_pV, kx_s1, kx_s2, kx_sl, kx_pre, kx_c2, kx_pl, kx_cmp, kx_oF, kx_eqN, kx_nil, kx_c1, kx_ft, kx_aI, kx_aL, kx_aR, kx_ln, Nat.reduceAdd, Option.toList, List.cons_append, List.nil_append, cf10_7, cf10_2, cf10_5, cf10_4, cf10_0, cf10_6]
  repeat (simp only [h64, hip, hit, h7, cp10_2, cp10_5, cp10_4, cp10_7, ks_eq, ks_ss]; try dsimp only [kx_wp, kx_step, kx_lI, kx_lL, kx_lA, kx_gl, kx_pI, kx_pL, kx_pR, kx_pA, kx_pV, kx_s1, kx_s2, kx_sl, kx_pre, kx_c2, kx_pl, kx_cmp, kx_oF, kx_eqN, kx_nil, kx_c1, kx_ft, kx_aI, kx_aL, kx_aR, kx_ln, Nat.reduceAdd, Option.toList, List.cons_append, List.nil_append, cf10_7, cf10_2, cf10_5, cf10_4, cf10_0, cf10_6])
  repeat' apply And.intro
  all_goals try (first | with_reducible assumption | (with_reducible refine ck_nzI ?_; simp; done) | (with_reducible refine ck_nzL ?_; simp; done) | (with_reducible refine vp_in_nI ?_ ?_ <;> first | omega | decide) | (with_reducible refine Nat.le_of_ble_eq_true ?_; rfl) | omega | exact Or.inl trivial | exact Or.inr trivial | exact Or.inl rfl | exact Or.inr rfl)
  refine hC.2.1 111 _ _ _ _ _ _ _ _ _ _ _ _ _ _ _ _ _ lX10_111 (ct_X10_isPlace l G) rfl rfl (Nat.le_of_ble_eq_true rfl) (by first | decide | omega) (by decide) (by omega) (by omega) dX10_clock_2 ?_
  rw [hip]
  refine hB bX10_clock_5 _ _ _ _ _ _ _ kX10_clock_5 ?_
  dsimp only [bX10_clock_5, kx_wp, kx_step, kx_lI, kx_lL, kx_lA, kx_gl, kx_pI, kx_pL, kx_pR, kx_pA, kx_pV, kx_s1, kx_s2, kx_sl, kx_pre, kx_c2, kx_pl, kx_cmp, kx_oF, kx_eqN, kx_nil, kx_c1, kx_ft, kx_aI, kx_aL, kx_aR, kx_ln, Nat.reduceAdd, Option.toList, List.cons_append, List.nil_append, cf10_7, cf10_2, cf10_5, cf10_4, cf10_0, cf10_6]
  repeat (simp only [h64, hip, hit, h7, cp10_2, cp10_5, cp10_4, cp10_7, ks_eq, ks_ss]; try dsimp only [kx_wp, kx_step, kx_lI, kx_lL, kx_lA, kx_gl, kx_pI, kx_pL, kx_pR, kx_pA, kx_pV, kx_s1, kx_s2, kx_sl, kx_pre, kx_c2, kx_pl, kx_cmp, kx_oF, kx_eqN, kx_nil, kx_c1, kx_ft, kx_aI, kx_aL, kx_aR, kx_ln, Nat.reduceAdd, Option.toList, List.cons_append, List.nil_append, cf10_7, cf10_2, cf10_5, cf10_4, cf10_0, cf10_6])
  repeat' apply And.intro
  all_goals try (first | with_reducible assumption | (with_reducible refine ck_nzI ?_; simp; done) | (with_reducible refine ck_nzL ?_; simp; done) | (with_reducible refine vp_in_nI ?_ ?_ <;> first | omega | decide) | (with_reducible refine Nat.le_of_ble_eq_true ?_; rfl) | omega | exact Or.inl trivial | exact Or.inr trivial | exact Or.inl rfl | exact Or.inr rfl)
  · intro zc5
    first | exact absurd rfl zc5 | exact absurd zc5 (by decide) | exact absurd (by decide) zc5 | (exfalso; first | exact absurd zc5 (by decide) | exact absurd zc13 (by decide) | exact absurd ((nI_ltI (a := cl) (b := 8) (by omega) (by omega)).mpr hcl) zc30 | exact hk0 zc54) | (exfalso; simp_all; done)
  · intro zc5
    have ze5 := zc5
    refine hB bX10_clock_8 _ _ _ _ _ _ _ kX10_clock_8 ?_
    dsimp only [bX10_clock_8, kx_wp, kx_step, kx_lI, kx_lL, kx_lA, kx_gl, kx_pI, kx_pL, kx_pR, kx_pA, kx_pV, kx_s1, kx_s2, kx_sl, kx_pre, kx_c2, kx_pl, kx_cmp, kx_oF, kx_eqN, kx_nil, kx_c1, kx_ft, kx_aI, kx_aL, kx_aR, kx_ln, Nat.reduceAdd, Option.toList, List.cons_append, List.nil_append, cf10_7, cf10_2, cf10_5, cf10_4, cf10_0, cf10_6]
    repeat (simp only [h64, hip, hit, h7, cp10_2, cp10_5, cp10_4, cp10_7, ks_eq, ks_ss]; try dsimp only [kx_wp, kx_step, kx_lI, kx_lL, kx_lA, kx_gl, kx_pI, kx_pL, kx_pR, kx_pA, kx_pV, kx_s1, kx_s2, kx_sl, kx_pre, kx_c2, kx_pl, kx_cmp, kx_oF, kx_eqN, kx_nil, kx_c1, kx_ft, kx_aI, kx_aL, kx_aR, kx_ln, Nat.reduceAdd, Option.toList, List.cons_append, List.nil_append, cf10_7, cf10_2, cf10_5, cf10_4, cf10_0, cf10_6])
    repeat' apply And.intro
    all_goals try (first | with_reducible assumption | (with_reducible refine ck_nzI ?_; simp; done) | (with_reducible refine ck_nzL ?_; simp; done) | (with_reducible refine vp_in_nI ?_ ?_ <;> first | omega | decide) | (with_reducible refine Nat.le_of_ble_eq_true ?_; rfl) | omega | exact Or.inl trivial | exact Or.inr trivial | exact Or.inl rfl | exact Or.inr rfl)
    refine hC.1 115 _ _ _ _ _ _ _ 10 _ _ _ _ _ _ _ _ _ _ _ _ lX10_115 (ct_X10_isOnTape l G h64) ⟨by decide, rfl⟩ (h64) rfl rfl (Nat.le_of_ble_eq_true rfl) (by first | decide | omega) (by decide) (by omega) (by omega) dX10_clock_10 ?_
    rw [hit]
    refine hB bX10_clock_13 _ _ _ _ _ _ _ kX10_clock_13 ?_
    dsimp only [bX10_clock_13, kx_wp, kx_step, kx_lI, kx_lL, kx_lA, kx_gl, kx_pI, kx_pL, kx_pR, kx_pA, kx_pV, kx_s1, kx_s2, kx_sl, kx_pre, kx_c2, kx_pl, kx_cmp, kx_oF, kx_eqN, kx_nil, kx_c1, kx_ft, kx_aI, kx_aL, kx_aR, kx_ln, Nat.reduceAdd, Option.toList, List.cons_append, List.nil_append, cf10_7, cf10_2, cf10_5, cf10_4, cf10_0, cf10_6]
    repeat (simp only [h64, hip, hit, h7, cp10_2, cp10_5, cp10_4, cp10_7, ks_eq, ks_ss]; try dsimp only [kx_wp, kx_step, kx_lI, kx_lL, kx_lA, kx_gl, kx_pI, kx_pL, kx_pR, kx_pA, kx_pV, kx_s1, kx_s2, kx_sl, kx_pre, kx_c2, kx_pl, kx_cmp, kx_oF, kx_eqN, kx_nil, kx_c1, kx_ft, kx_aI, kx_aL, kx_aR, kx_ln, Nat.reduceAdd, Option.toList, List.cons_append, List.nil_append, cf10_7, cf10_2, cf10_5, cf10_4, cf10_0, cf10_6])
    repeat' apply And.intro
    all_goals try (first | with_reducible assumption | (with_reducible refine ck_nzI ?_; simp; done) | (with_reducible refine ck_nzL ?_; simp; done) | (with_reducible refine vp_in_nI ?_ ?_ <;> first | omega | decide) | (with_reducible refine Nat.le_of_ble_eq_true ?_; rfl) | omega | exact Or.inl trivial | exact Or.inr trivial | exact Or.inl rfl | exact Or.inr rfl)
    · intro zc13
      first | exact absurd rfl zc13 | exact absurd zc13 (by decide) | exact absurd (by decide) zc13 | (exfalso; first | exact absurd zc5 (by decide) | exact absurd zc13 (by decide) | exact absurd ((nI_ltI (a := cl) (b := 8) (by omega) (by omega)).mpr hcl) zc30 | exact hk0 zc54) | (exfalso; simp_all; done)
    · intro zc13
      have ze13 := zc13
      refine hB bX10_clock_16 _ _ _ _ _ _ _ kX10_clock_16 ?_
      dsimp only [bX10_clock_16, kx_wp, kx_step, kx_lI, kx_lL, kx_lA, kx_gl, kx_pI, kx_pL, kx_pR, kx_pA, kx_pV, kx_s1, kx_s2, kx_sl, kx_pre, kx_c2, kx_pl, kx_cmp, kx_oF, kx_eqN, kx_nil, kx_c1, kx_ft, kx_aI, kx_aL, kx_aR, kx_ln, Nat.reduceAdd, Option.toList, List.cons_append, List.nil_append, cf10_7, cf10_2, cf10_5, cf10_4, cf10_0, cf10_6]
      repeat (simp only [h64, hip, hit, h7, cp10_2, cp10_5, cp10_4, cp10_7, ks_eq, ks_ss]; try dsimp only [kx_wp, kx_step, kx_lI, kx_lL, kx_lA, kx_gl, kx_pI, kx_pL, kx_pR, kx_pA, kx_pV, kx_s1, kx_s2, kx_sl, kx_pre, kx_c2, kx_pl, kx_cmp, kx_oF, kx_eqN, kx_nil, kx_c1, kx_ft, kx_aI, kx_aL, kx_aR, kx_ln, Nat.reduceAdd, Option.toList, List.cons_append, List.nil_append, cf10_7, cf10_2, cf10_5, cf10_4, cf10_0, cf10_6])
      repeat' apply And.intro
      all_goals try (first | with_reducible assumption | (with_reducible refine ck_nzI ?_; simp; done) | (with_reducible refine ck_nzL ?_; simp; done) | (with_reducible refine vp_in_nI ?_ ?_ <;> first | omega | decide) | (with_reducible refine Nat.le_of_ble_eq_true ?_; rfl) | omega | exact Or.inl trivial | exact Or.inr trivial | exact Or.inl rfl | exact Or.inr rfl)
      refine hC.2.1 95 _ _ _ _ _ _ _ _ _ _ _ _ _ _ _ _ _ lX10_95 (ct_X10_need l G (b := 1) (by decide)) rfl rfl (Nat.le_of_ble_eq_true rfl) (by first | decide | omega) (by decide) (by omega) (by omega) dX10_clock_21 ?_
      refine hB bX10_clock_24 _ _ _ _ _ _ _ kX10_clock_24 ?_
      dsimp only [bX10_clock_24, kx_wp, kx_step, kx_lI, kx_lL, kx_lA, kx_gl, kx_pI, kx_pL, kx_pR, kx_pA, kx_pV, kx_s1, kx_s2, kx_sl, kx_pre, kx_c2, kx_pl, kx_cmp, kx_oF, kx_eqN, kx_nil, kx_c1, kx_ft, kx_aI, kx_aL, kx_aR, kx_ln, Nat.reduceAdd, Option.toList, List.cons_append, List.nil_append, cf10_7, cf10_2, cf10_5, cf10_4, cf10_0, cf10_6]
      repeat (simp only [h64, hip, hit, h7, cp10_2, cp10_5, cp10_4, cp10_7, ks_eq, ks_ss]; try dsimp only [kx_wp, kx_step, kx_lI, kx_lL, kx_lA, kx_gl, kx_pI, kx_pL, kx_pR, kx_pA, kx_pV, kx_s1, kx_s2, kx_sl, kx_pre, kx_c2, kx_pl, kx_cmp, kx_oF, kx_eqN, kx_nil, kx_c1, kx_ft, kx_aI, kx_aL, kx_aR, kx_ln, Nat.reduceAdd, Option.toList, List.cons_append, List.nil_append, cf10_7, cf10_2, cf10_5, cf10_4, cf10_0, cf10_6])
      repeat' apply And.intro
      all_goals try (first | with_reducible assumption | (with_reducible refine ck_nzI ?_; simp; done) | (with_reducible refine ck_nzL ?_; simp; done) | (with_reducible refine vp_in_nI ?_ ?_ <;> first | omega | decide) | (with_reducible refine Nat.le_of_ble_eq_true ?_; rfl) | omega | exact Or.inl trivial | exact Or.inr trivial | exact Or.inl rfl | exact Or.inr rfl)
      · intro zc30
        with_reducible first | have ze30 := Int32.not_le.mpr zc30 | have ze30 := zc30
        refine hB bX10_clock_45 _ _ _ _ _ _ _ kX10_clock_45 ?_
        dsimp only [bX10_clock_45, kx_wp, kx_step, kx_lI, kx_lL, kx_lA, kx_gl, kx_pI, kx_pL, kx_pR, kx_pA, kx_pV, kx_s1, kx_s2, kx_sl, kx_pre, kx_c2, kx_pl, kx_cmp, kx_oF, kx_eqN, kx_nil, kx_c1, kx_ft, kx_aI, kx_aL, kx_aR, kx_ln, Nat.reduceAdd, Option.toList, List.cons_append, List.nil_append, cf10_7, cf10_2, cf10_5, cf10_4, cf10_0, cf10_6]
        repeat (simp only [h64, hip, hit, h7, cp10_2, cp10_5, cp10_4, cp10_7, ks_eq, ks_ss]; try dsimp only [kx_wp, kx_step, kx_lI, kx_lL, kx_lA, kx_gl, kx_pI, kx_pL, kx_pR, kx_pA, kx_pV, kx_s1, kx_s2, kx_sl, kx_pre, kx_c2, kx_pl, kx_cmp, kx_oF, kx_eqN, kx_nil, kx_c1, kx_ft, kx_aI, kx_aL, kx_aR, kx_ln, Nat.reduceAdd, Option.toList, List.cons_append, List.nil_append, cf10_7, cf10_2, cf10_5, cf10_4, cf10_0, cf10_6])
        repeat' apply And.intro
        all_goals try (first | with_reducible assumption | (with_reducible refine ck_nzI ?_; simp; done) | (with_reducible refine ck_nzL ?_; simp; done) | (with_reducible refine vp_in_nI ?_ ?_ <;> first | omega | decide) | (with_reducible refine Nat.le_of_ble_eq_true ?_; rfl) | omega | exact Or.inl trivial | exact Or.inr trivial | exact Or.inl rfl | exact Or.inr rfl)
        refine hN.1 119 _ _ _ _ _ _ _ 10 _ _ _ _ _ _ _ _ _ _ lX10_119 (hrs) ⟨by decide, rfl⟩ (h64) rfl rfl (Nat.le_of_ble_eq_true rfl) (by omega) (by decide) (Nat.le_of_ble_eq_true rfl) (Nat.le_of_ble_eq_true rfl) dX10_clock_47 ?_
        rintro r2 P2 s2 hRS
        have hq2 : r2 = some (.int R.1.2.2.1) ∧ ¬ R.1.2.2.1 = 0 := by
          obtain ⟨F2, V2, te2, qu2, Fo2, st2, h1, h2, h3, h4, h5⟩ := hRS
          rw [if_neg hk] at h1
          exact ⟨h1, h5 hk⟩
        obtain ⟨rfl, hk0⟩ := hq2
        dsimp only [Option.toList, List.cons_append, List.nil_append]
        refine hB bX10_clock_50 _ _ _ _ _ _ _ kX10_clock_50 ?_
        dsimp only [bX10_clock_50, kx_wp, kx_step, kx_lI, kx_lL, kx_lA, kx_gl, kx_pI, kx_pL, kx_pR, kx_pA, kx_pV, kx_s1, kx_s2, kx_sl, kx_pre, kx_c2, kx_pl, kx_cmp, kx_oF, kx_eqN, kx_nil, kx_c1, kx_ft, kx_aI, kx_aL, kx_aR, kx_ln, Nat.reduceAdd, Option.toList, List.cons_append, List.nil_append, cf10_7, cf10_2, cf10_5, cf10_4, cf10_0, cf10_6]
        repeat (simp only [h64, hip, hit, h7, cp10_2, cp10_5, cp10_4, cp10_7, ks_eq, ks_ss]; try dsimp only [kx_wp, kx_step, kx_lI, kx_lL, kx_lA, kx_gl, kx_pI, kx_pL, kx_pR, kx_pA, kx_pV, kx_s1, kx_s2, kx_sl, kx_pre, kx_c2, kx_pl, kx_cmp, kx_oF, kx_eqN, kx_nil, kx_c1, kx_ft, kx_aI, kx_aL, kx_aR, kx_ln, Nat.reduceAdd, Option.toList, List.cons_append, List.nil_append, cf10_7, cf10_2, cf10_5, cf10_4, cf10_0, cf10_6])
        repeat' apply And.intro
        all_goals try (first | with_reducible assumption | (with_reducible refine ck_nzI ?_; simp; done) | (with_reducible refine ck_nzL ?_; simp; done) | (with_reducible refine vp_in_nI ?_ ?_ <;> first | omega | decide) | (with_reducible refine Nat.le_of_ble_eq_true ?_; rfl) | omega | exact Or.inl trivial | exact Or.inr trivial | exact Or.inl rfl | exact Or.inr rfl)
        · intro zc54
          first | exact absurd rfl zc54 | exact absurd zc54 (by decide) | exact absurd (by decide) zc54 | (exfalso; first | exact absurd zc5 (by decide) | exact absurd zc13 (by decide) | exact absurd ((nI_ltI (a := cl) (b := 8) (by omega) (by omega)).mpr hcl) zc30 | exact hk0 zc54) | (exfalso; simp_all; done)
        · intro zc54
          have ze54 := zc54
          refine hB bX10_clock_57 _ _ _ _ _ _ _ kX10_clock_57 ?_
          dsimp only [bX10_clock_57, kx_wp, kx_step, kx_lI, kx_lL, kx_lA, kx_gl, kx_pI, kx_pL, kx_pR, kx_pA, kx_pV, kx_s1, kx_s2, kx_sl, kx_pre, kx_c2, kx_pl, kx_cmp, kx_oF, kx_eqN, kx_nil, kx_c1, kx_ft, kx_aI, kx_aL, kx_aR, kx_ln, Nat.reduceAdd, Option.toList, List.cons_append, List.nil_append, cf10_7, cf10_2, cf10_5, cf10_4, cf10_0, cf10_6]
          repeat (simp only [h64, hip, hit, h7, cp10_2, cp10_5, cp10_4, cp10_7, ks_eq, ks_ss]; try dsimp only [kx_wp, kx_step, kx_lI, kx_lL, kx_lA, kx_gl, kx_pI, kx_pL, kx_pR, kx_pA, kx_pV, kx_s1, kx_s2, kx_sl, kx_pre, kx_c2, kx_pl, kx_cmp, kx_oF, kx_eqN, kx_nil, kx_c1, kx_ft, kx_aI, kx_aL, kx_aR, kx_ln, Nat.reduceAdd, Option.toList, List.cons_append, List.nil_append, cf10_7, cf10_2, cf10_5, cf10_4, cf10_0, cf10_6])
          all_goals (repeat' apply And.intro)
          all_goals ((try clear hB hC); first | exact True.intro | rfl | exact hRS)
      · intro zc30
        first | exact absurd rfl zc30 | exact absurd zc30 (by decide) | exact absurd (by decide) zc30 | (exfalso; first | exact absurd zc5 (by decide) | exact absurd zc13 (by decide) | exact absurd ((nI_ltI (a := cl) (b := 8) (by omega) (by omega)).mpr hcl) zc30 | exact hk0 zc54) | (exfalso; simp_all; done)


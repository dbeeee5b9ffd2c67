set_option maxRecDepth 100000 in
set_option maxHeartbeats 4000000 in
theorem ct_X10_clock_kr (l : Launch) (G : kx_G) {P : kx_P} {sz : Nat} {sv : Value} {K : Nat → Int32} (h64 : P 64 = kO 10 (kf (cr10 sv) K)) {x y : Int32} (hip : cx_ip x y = 1) {n : Nat} (hit : cx_it (nI n) (K 2) = 1) {cl : Nat} (h7 : K 7 = nI cl) (hcl : cl < 8) {T : Nat → Int32} {R : ck_Qt} {w : Nat} (hrs : kx_Mn l G sX10_readSpare 48 0 0 [.ref 64, .int (nI n)] P sz (cx_RS P K w T n R sz)) (hk : ¬ R.1.2.1 = -1)  : kx_Mn l G sX10_clock 50 0 0 [.ref 64, .int (x), .int (y), .int (nI n)] P sz (fun r P2 s2 => r = some (.int (R.1.2.2.1 - 10)) ∧ cx_RS P K w T n R sz (some (.int R.1.2.2.1)) P2 s2) := by
  refine kx_mkn kx_tab kxLok_X10 (ini := false) [some (.ref 64), some (.int (x)), some (.int (y)), some (.int (nI n)), none, none] ⟨by decide, rfl, by decide, by decide⟩ (fun _ _ _ h => ⟨_, h.1⟩) rfl rfl (fun g hB hC hN => ?_)
  refine hB bX10_clock_0 _ _ _ _ _ _ _ kX10_clock_0 ?_
  dsimp only [bX10_clock_0, kx_wp, kx_step, kx_lI, kx_lL, kx_lA, kx_gl, kx_pI, kx_pL, kx_pR, kx_pA, kx_pV, kx_s1, kx_s2, kx_sl, kx_pre, kx_c2, kx_pl, kx_cmp, kx_oF, kx_eqN, kx_nil, kx_c1, kx_ft, kx_aI, kx_aL, kx_aR, kx_ln, Nat.reduceAdd, Option.toList, List.cons_append, List.nil_append, cf10_7, cf10_4, cf10_0, cf10_6]
  repeat (simp only [h64, hip, hit, h7, cp10_4, cp10_7, ks_eq, ks_ss]; try dsimp only [kx_wp, kx_step, kx_lI, kx_lL, kx_lA, kx_gl, kx_pI, kx_pL, kx_pR, kx_pA, kx_pV, kx_s1, kx_s2, kx_sl, kx_pre, kx_c2, kx_pl, kx_cmp, kx_oF, kx_eqN, kx_nil, kx_c1, kx_ft, kx_aI, kx_aL, kx_aR, kx_ln, Nat.reduceAdd, Option.toList, List.cons_append, List.nil_append, cf10_7, cf10_4, cf10_0, cf10_6])
  repeat' apply And.intro
  all_goals try (first | with_reducible assumption | (with_reducible refine ck_nzI ?_; simp; done) | (with_reducible refine ck_nzL ?_; simp; done) | (with_reducible refine vp_in_nI ?_ ?_ <;> first | omega | decide) | (with_reducible refine Nat.le_of_ble_eq_true ?_; rfl) | omega | exact Or.inl trivial | exact Or.inr trivial | exact Or.inl rfl | exact Or.inr rfl)
  refine hC.2.1 111 _ _ _ _ _ _ _ _ _ _ _ _ _ _ _ _ _ lX10_111 (ct_X10_isPlace l G) rfl rfl (Nat.le_of_ble_eq_true rfl) (by first | decide | omega) (by decide) (by omega) (by omega) dX10_clock_2 ?_
  rw [hip]
  refine hB bX10_clock_5 _ _ _ _ _ _ _ kX10_clock_5 ?_
  dsimp only [bX10_clock_5, kx_wp, kx_step, kx_lI, kx_lL, kx_lA, kx_gl, kx_pI, kx_pL, kx_pR, kx_pA, kx_pV, kx_s1, kx_s2, kx_sl, kx_pre, kx_c2, kx_pl, kx_cmp, kx_oF, kx_eqN, kx_nil, kx_c1, kx_ft, kx_aI, kx_aL, kx_aR, kx_ln, Nat.reduceAdd, Option.toList, List.cons_append, List.nil_append, cf10_7, cf10_4, cf10_0, cf10_6]
  repeat (simp only [h64, hip, hit, h7, cp10_4, cp10_7, ks_eq, ks_ss]; try dsimp only [kx_wp, kx_step, kx_lI, kx_lL, kx_lA, kx_gl, kx_pI, kx_pL, kx_pR, kx_pA, kx_pV, kx_s1, kx_s2, kx_sl, kx_pre, kx_c2, kx_pl, kx_cmp, kx_oF, kx_eqN, kx_nil, kx_c1, kx_ft, kx_aI, kx_aL, kx_aR, kx_ln, Nat.reduceAdd, Option.toList, List.cons_append, List.nil_append, cf10_7, cf10_4, cf10_0, cf10_6])
  repeat' apply And.intro
  all_goals try (first | with_reducible assumption | (with_reducible refine ck_nzI ?_; simp; done) | (with_reducible refine ck_nzL ?_; simp; done) | (with_reducible refine vp_in_nI ?_ ?_ <;> first | omega | decide) | (with_reducible refine Nat.le_of_ble_eq_true ?_; rfl) | omega | exact Or.inl trivial | exact Or.inr trivial | exact Or.inl rfl | exact Or.inr rfl)
  · intro zc5
    first | exact absurd rfl zc5 | exact absurd zc5 (by decide) | exact absurd (by decide) zc5 | (exfalso; first | exact absurd zc5 (by decide) | exact absurd zc13 (by decide) | exact absurd ((nI_ltI (a := cl) (b := 8) (by omega) (by omega)).mpr hcl) zc30 | exact hk0 zc48) | (exfalso; simp_all; done)
  · intro zc5
    have ze5 := zc5
    refine hB bX10_clock_8 _ _ _ _ _ _ _ kX10_clock_8 ?_
    dsimp only [bX10_clock_8, kx_wp, kx_step, kx_lI, kx_lL, kx_lA, kx_gl, kx_pI, kx_pL, kx_pR, kx_pA, kx_pV, kx_s1, kx_s2, kx_sl, kx_pre, kx_c2, kx_pl, kx_cmp, kx_oF, kx_eqN, kx_nil, kx_c1, kx_ft, kx_aI, kx_aL, kx_aR, kx_ln, Nat.reduceAdd, Option.toList, List.cons_append, List.nil_append, cf10_7, cf10_4, cf10_0, cf10_6]
    repeat (simp only [h64, hip, hit, h7, cp10_4, cp10_7, ks_eq, ks_ss]; try dsimp only [kx_wp, kx_step, kx_lI, kx_lL, kx_lA, kx_gl, kx_pI, kx_pL, kx_pR, kx_pA, kx_pV, kx_s1, kx_s2, kx_sl, kx_pre, kx_c2, kx_pl, kx_cmp, kx_oF, kx_eqN, kx_nil, kx_c1, kx_ft, kx_aI, kx_aL, kx_aR, kx_ln, Nat.reduceAdd, Option.toList, List.cons_append, List.nil_append, cf10_7, cf10_4, cf10_0, cf10_6])
    repeat' apply And.intro
    all_goals try (first | with_reducible assumption | (with_reducible refine ck_nzI ?_; simp; done) | (with_reducible refine ck_nzL ?_; simp; done) | (with_reducible refine vp_in_nI ?_ ?_ <;> first | omega | decide) | (with_reducible refine Nat.le_of_ble_eq_true ?_; rfl) | omega | exact Or.inl trivial | exact Or.inr trivial | exact Or.inl rfl | exact Or.inr rfl)
    refine hC.1 115 _ _ _ _ _ _ _ 10 _ _ _ _ _ _ _ _ _ _ _ _ lX10_115 (ct_X10_isOnTape l G h64) ⟨by decide, rfl⟩ (h64) rfl rfl (Nat.le_of_ble_eq_true rfl) (by first | decide | omega) (by decide) (by omega) (by omega) dX10_clock_10 ?_
    rw [hit]
    refine hB bX10_clock_13 _ _ _ _ _ _ _ kX10_clock_13 ?_
    dsimp only [bX10_clock_13, kx_wp, kx_step, kx_lI, kx_lL, kx_lA, kx_gl, kx_pI, kx_pL, kx_pR, kx_pA, kx_pV, kx_s1, kx_s2, kx_sl, kx_pre, kx_c2, kx_pl, kx_cmp, kx_oF, kx_eqN, kx_nil, kx_c1, kx_ft, kx_aI, kx_aL, kx_aR, kx_ln, Nat.reduceAdd, Option.toList, List.cons_append, List.nil_append, cf10_7, cf10_4, cf10_0, cf10_6]
    repeat (simp only [h64, hip, hit, h7, cp10_4, cp10_7, ks_eq, ks_ss]; try dsimp only [kx_wp, kx_step, kx_lI, kx_lL, kx_lA, kx_gl, kx_pI, kx_pL, kx_pR, kx_pA, kx_pV, kx_s1, kx_s2, kx_sl, kx_pre, kx_c2, kx_pl, kx_cmp, kx_oF, kx_eqN, kx_nil, kx_c1, kx_ft, kx_aI, kx_aL, kx_aR, kx_ln, Nat.reduceAdd, Option.toList, List.cons_append, List.nil_append, cf10_7, cf10_4, cf10_0, cf10_6])
    repeat' apply And.intro
    all_goals try (first | with_reducible assumption | (with_reducible refine ck_nzI ?_; simp; done) | (with_reducible refine ck_nzL ?_; simp; done) | (with_reducible refine vp_in_nI ?_ ?_ <;> first | omega | decide) | (with_reducible refine Nat.le_of_ble_eq_true ?_; rfl) | omega | exact Or.inl trivial | exact Or.inr trivial | exact Or.inl rfl | exact Or.inr rfl)
    · intro zc13
      first | exact absurd rfl zc13 | exact absurd zc13 (by decide) | exact absurd (by decide) zc13 | (exfalso; first | exact absurd zc5 (by decide) | exact absurd zc13 (by decide) | exact absurd ((nI_ltI (a := cl) (b := 8) (by omega) (by omega)).mpr hcl) zc30 | exact hk0 zc48) | (exfalso; simp_all; done)
    · intro zc13
      have ze13 := zc13
      refine hB bX10_clock_16 _ _ _ _ _ _ _ kX10_clock_16 ?_
      dsimp only [bX10_clock_16, kx_wp, kx_step, kx_lI, kx_lL, kx_lA, kx_gl, kx_pI, kx_pL, kx_pR, kx_pA, kx_pV, kx_s1, kx_s2, kx_sl, kx_pre, kx_c2, kx_pl, kx_cmp, kx_oF, kx_eqN, kx_nil, kx_c1, kx_ft, kx_aI, kx_aL, kx_aR, kx_ln, Nat.reduceAdd, Option.toList, List.cons_append, List.nil_append, cf10_7, cf10_4, cf10_0, cf10_6]
      repeat (simp only [h64, hip, hit, h7, cp10_4, cp10_7, ks_eq, ks_ss]; try dsimp only [kx_wp, kx_step, kx_lI, kx_lL, kx_lA, kx_gl, kx_pI, kx_pL, kx_pR, kx_pA, kx_pV, kx_s1, kx_s2, kx_sl, kx_pre, kx_c2, kx_pl, kx_cmp, kx_oF, kx_eqN, kx_nil, kx_c1, kx_ft, kx_aI, kx_aL, kx_aR, kx_ln, Nat.reduceAdd, Option.toList, List.cons_append, List.nil_append, cf10_7, cf10_4, cf10_0, cf10_6])
      repeat' apply And.intro
      all_goals try (first | with_reducible assumption | (with_reducible refine ck_nzI ?_; simp; done) | (with_reducible refine ck_nzL ?_; simp; done) | (with_reducible refine vp_in_nI ?_ ?_ <;> first | omega | decide) | (with_reducible refine Nat.le_of_ble_eq_true ?_; rfl) | omega | exact Or.inl trivial | exact Or.inr trivial | exact Or.inl rfl | exact Or.inr rfl)
      refine hC.2.1 95 _ _ _ _ _ _ _ _ _ _ _ _ _ _ _ _ _ lX10_95 (ct_X10_need l G (b := 1) (by decide)) rfl rfl (Nat.le_of_ble_eq_true rfl) (by first | decide | omega) (by decide) (by omega) (by omega) dX10_clock_21 ?_
      refine hB bX10_clock_24 _ _ _ _ _ _ _ kX10_clock_24 ?_
      dsimp only [bX10_clock_24, kx_wp, kx_step, kx_lI, kx_lL, kx_lA, kx_gl, kx_pI, kx_pL, kx_pR, kx_pA, kx_pV, kx_s1, kx_s2, kx_sl, kx_pre, kx_c2, kx_pl, kx_cmp, kx_oF, kx_eqN, kx_nil, kx_c1, kx_ft, kx_aI, kx_aL, kx_aR, kx_ln, Nat.reduceAdd, Option.toList, List.cons_append, List.nil_append, cf10_7, cf10_4, cf10_0, cf10_6]
      repeat (simp only [h64, hip, hit, h7, cp10_4, cp10_7, ks_eq, ks_ss]; try dsimp only [kx_wp, kx_step, kx_lI, kx_lL, kx_lA, kx_gl, kx_pI, kx_pL, kx_pR, kx_pA, kx_pV, kx_s1, kx_s2, kx_sl, kx_pre, kx_c2, kx_pl, kx_cmp, kx_oF, kx_eqN, kx_nil, kx_c1, kx_ft, kx_aI, kx_aL, kx_aR, kx_ln, Nat.reduceAdd, Option.toList, List.cons_append, List.nil_append, cf10_7, cf10_4, cf10_0, cf10_6])
      repeat' apply And.intro
      all_goals try (first | with_reducible assumption | (with_reducible refine ck_nzI ?_; simp; done) | (with_reducible refine ck_nzL ?_; simp; done) | (with_reducible refine vp_in_nI ?_ ?_ <;> first | omega | decide) | (with_reducible refine Nat.le_of_ble_eq_true ?_; rfl) | omega | exact Or.inl trivial | exact Or.inr trivial | exact Or.inl rfl | exact Or.inr rfl)
      · intro zc30
        with_reducible first | have ze30 := Int32.not_le.mpr zc30 | have ze30 := zc30
        refine hB bX10_clock_39 _ _ _ _ _ _ _ kX10_clock_39 ?_
        dsimp only [bX10_clock_39, kx_wp, kx_step, kx_lI, kx_lL, kx_lA, kx_gl, kx_pI, kx_pL, kx_pR, kx_pA, kx_pV, kx_s1, kx_s2, kx_sl, kx_pre, kx_c2, kx_pl, kx_cmp, kx_oF, kx_eqN, kx_nil, kx_c1, kx_ft, kx_aI, kx_aL, kx_aR, kx_ln, Nat.reduceAdd, Option.toList, List.cons_append, List.nil_append, cf10_7, cf10_4, cf10_0, cf10_6]
        repeat (simp only [h64, hip, hit, h7, cp10_4, cp10_7, ks_eq, ks_ss]; try dsimp only [kx_wp, kx_step, kx_lI, kx_lL, kx_lA, kx_gl, kx_pI, kx_pL, kx_pR, kx_pA, kx_pV, kx_s1, kx_s2, kx_sl, kx_pre, kx_c2, kx_pl, kx_cmp, kx_oF, kx_eqN, kx_nil, kx_c1, kx_ft, kx_aI, kx_aL, kx_aR, kx_ln, Nat.reduceAdd, Option.toList, List.cons_append, List.nil_append, cf10_7, cf10_4, cf10_0, cf10_6])
        repeat' apply And.intro
        all_goals try (first | with_reducible assumption | (with_reducible refine ck_nzI ?_; simp; done) | (with_reducible refine ck_nzL ?_; simp; done) | (with_reducible refine vp_in_nI ?_ ?_ <;> first | omega | decide) | (with_reducible refine Nat.le_of_ble_eq_true ?_; rfl) | omega | exact Or.inl trivial | exact Or.inr trivial | exact Or.inl rfl | exact Or.inr rfl)
        refine hN.1 122 _ _ _ _ _ _ _ 10 _ _ _ _ _ _ _ _ _ _ lX10_122 (hrs) ⟨by decide, rfl⟩ (h64) rfl rfl (Nat.le_of_ble_eq_true rfl) (by omega) (by decide) (Nat.le_of_ble_eq_true rfl) (Nat.le_of_ble_eq_true rfl) dX10_clock_41 ?_
        rintro r2 P2 s2 hRS
        have hq2 : r2 = some (.int R.1.2.2.1) ∧ ¬ R.1.2.2.1 = 0 := by
          obtain ⟨F2, V2, te2, qu2, Fo2, st2, h1, h2, h3, h4, h5⟩ := hRS
          rw [if_neg hk] at h1
          exact ⟨h1, h5 hk⟩
        obtain ⟨rfl, hk0⟩ := hq2
        dsimp only [Option.toList, List.cons_append, List.nil_append]
        refine hB bX10_clock_44 _ _ _ _ _ _ _ kX10_clock_44 ?_
        dsimp only [bX10_clock_44, kx_wp, kx_step, kx_lI, kx_lL, kx_lA, kx_gl, kx_pI, kx_pL, kx_pR, kx_pA, kx_pV, kx_s1, kx_s2, kx_sl, kx_pre, kx_c2, kx_pl, kx_cmp, kx_oF, kx_eqN, kx_nil, kx_c1, kx_ft, kx_aI, kx_aL, kx_aR, kx_ln, Nat.reduceAdd, Option.toList, List.cons_append, List.nil_append, cf10_7, cf10_4, cf10_0, cf10_6]
        repeat (simp only [h64, hip, hit, h7, cp10_4, cp10_7, ks_eq, ks_ss]; try dsimp only [kx_wp, kx_step, kx_lI, kx_lL, kx_lA, kx_gl, kx_pI, kx_pL, kx_pR, kx_pA, kx_pV, kx_s1, kx_s2, kx_sl, kx_pre, kx_c2, kx_pl, kx_cmp, kx_oF, kx_eqN, kx_nil, kx_c1, kx_ft, kx_aI, kx_aL, kx_aR, kx_ln, Nat.reduceAdd, Option.toList, List.cons_append, List.nil_append, cf10_7, cf10_4, cf10_0, cf10_6])
        repeat' apply And.intro
        all_goals try (first | with_reducible assumption | (with_reducible refine ck_nzI ?_; simp; done) | (with_reducible refine ck_nzL ?_; simp; done) | (with_reducible refine vp_in_nI ?_ ?_ <;> first | omega | decide) | (with_reducible refine Nat.le_of_ble_eq_true ?_; rfl) | omega | exact Or.inl trivial | exact Or.inr trivial | exact Or.inl rfl | exact Or.inr rfl)
        · intro zc48
          first | exact absurd rfl zc48 | exact absurd zc48 (by decide) | exact absurd (by decide) zc48 | (exfalso; first | exact absurd zc5 (by decide) | exact absurd zc13 (by decide) | exact absurd ((nI_ltI (a := cl) (b := 8) (by omega) (by omega)).mpr hcl) zc30 | exact hk0 zc48) | (exfalso; simp_all; done)
        · intro zc48
          have ze48 := zc48
          refine hB bX10_clock_51 _ _ _ _ _ _ _ kX10_clock_51 ?_
          dsimp only [bX10_clock_51, kx_wp, kx_step, kx_lI, kx_lL, kx_lA, kx_gl, kx_pI, kx_pL, kx_pR, kx_pA, kx_pV, kx_s1, kx_s2, kx_sl, kx_pre, kx_c2, kx_pl, kx_cmp, kx_oF, kx_eqN, kx_nil, kx_c1, kx_ft, kx_aI, kx_aL, kx_aR, kx_ln, Nat.reduceAdd, Option.toList, List.cons_append, List.nil_append, cf10_7, cf10_4, cf10_0, cf10_6]
          repeat (simp only [h64, hip, hit, h7, cp10_4, cp10_7, ks_eq, ks_ss]; try dsimp only [kx_wp, kx_step, kx_lI, kx_lL, kx_lA, kx_gl, kx_pI, kx_pL, kx_pR, kx_pA, kx_pV, kx_s1, kx_s2, kx_sl, kx_pre, kx_c2, kx_pl, kx_cmp, kx_oF, kx_eqN, kx_nil, kx_c1, kx_ft, kx_aI, kx_aL, kx_aR, kx_ln, Nat.reduceAdd, Option.toList, List.cons_append, List.nil_append, cf10_7, cf10_4, cf10_0, cf10_6])
          all_goals (repeat' apply And.intro)
          all_goals ((try clear hB hC); first | exact True.intro | rfl | exact hRS)
      · intro zc30
        first | exact absurd rfl zc30 | exact absurd zc30 (by decide) | exact absurd (by decide) zc30 | (exfalso; first | exact absurd zc5 (by decide) | exact absurd zc13 (by decide) | exact absurd ((nI_ltI (a := cl) (b := 8) (by omega) (by omega)).mpr hcl) zc30 | exact hk0 zc48) | (exfalso; simp_all; done)

set_option maxRecDepth 100000 in
set_option maxHeartbeats 4000000 in
theorem ct_X10_clock_tr (l : Launch) (G : kx_G) {P : kx_P} {sz : Nat} {sv : Value} {K : Nat → Int32} (h64 : P 64 = kO 10 (kf (cr10 sv) K)) {x y : Int32} (hip : cx_ip x y = 1) {n : Nat} (hit : cx_it (nI n) (K 2) = 1) {cl : Nat} (h7 : K 7 = nI cl) (hcl : cl < 8) {T : Nat → Int32} {R : ck_Qt} {w : Nat} (hrs : kx_Mn l G sX10_readSpare 48 0 0 [.ref 64, .int (nI n)] P sz (cx_RS P K w T n R sz)) (hw : 144 ≤ w) (hws : w + 6 ≤ sz) {S : Nat → Int32} (h5w : P (w + 5) = kI 0 64 S) {cn : Nat → Nat} (h69 : P 69 = kR 8 (fun i => if i < cl then some (cn i) else none)) {Al Wm : Nat → Int32} (hA : P 65 = kO 0 (kf cr0 Al)) (hW : P 66 = kI 0 1700 Wm) (hmd : P 1 = kI 5 12 cj_md) {dd : Nat} (h0 : Al 0 = nI dd) (hd : dd ≤ 100000) (hk : R.1.2.1 = -1)  : kx_Mn l G sX10_clock 50 2 1683 [.ref 64, .int (x), .int (y), .int (nI n)] P sz (cx_CK P K cl cn w T n R Al x y dd sz) := by
  refine kx_mkn kx_tab kxLok_X10 (ini := false) [some (.ref 64), some (.int (x)), some (.int (y)), some (.int (nI n)), none, none] ⟨by decide, rfl, by decide, by decide⟩ (fun _ _ _ h => by obtain ⟨_, _, _, _, _, _, h, -⟩ := h; exact ⟨_, h⟩) rfl rfl (fun g hB hC hN => ?_)
  refine hB bX10_clock_0 _ _ _ _ _ _ _ kX10_clock_0 ?_
  dsimp only [bX10_clock_0, kx_wp, kx_step, kx_lI, kx_lL, kx_lA, kx_gl, kx_pI, kx_pL, kx_pR, kx_pA, kx_pV, kx_s1, kx_s2, kx_sl, kx_pre, kx_c2, kx_pl, kx_cmp, kx_oF, kx_eqN, kx_nil, kx_c1, kx_ft, kx_aI, kx_aL, kx_aR, kx_ln, Nat.reduceAdd, Option.toList, List.cons_append, List.nil_append, cf10_7, cf10_4, cf10_0, cf10_6]
  repeat (simp only [h64, hip, hit, h7, kx_eq0, nI_1, nI_add, pk_us, (show (nI cl).toNatClampNeg = cl from nI_clamp (by omega)), (show nI (cl + 1) - 1 = nI cl from pk_sub (by omega : 1 ≤ cl + 1)), cp10_4, cp10_7, ks_eq, ks_ss]; try dsimp only [kx_wp, kx_step, kx_lI, kx_lL, kx_lA, kx_gl, kx_pI, kx_pL, kx_pR, kx_pA, kx_pV, kx_s1, kx_s2, kx_sl, kx_pre, kx_c2, kx_pl, kx_cmp, kx_oF, kx_eqN, kx_nil, kx_c1, kx_ft, kx_aI, kx_aL, kx_aR, kx_ln, Nat.reduceAdd, Option.toList, List.cons_append, List.nil_append, cf10_7, cf10_4, cf10_0, cf10_6])
  repeat' apply And.intro
  all_goals try (first | with_reducible assumption | (with_reducible refine ck_nzI ?_; simp; done) | (with_reducible refine ck_nzL ?_; simp; done) | (with_reducible refine vp_in_nI ?_ ?_ <;> first | omega | decide) | (with_reducible refine Nat.le_of_ble_eq_true ?_; rfl) | omega | exact Nat.le_of_ble_eq_true rfl | decide | trivial | exact vp_in_nI (by omega) (by decide) | exact Or.inl trivial | exact Or.inr trivial | exact Or.inl rfl | exact Or.inr rfl)
  refine hC.2.1 111 _ _ _ _ _ _ _ _ _ _ _ _ _ _ _ _ _ lX10_111 (ct_X10_isPlace l G) rfl rfl (Nat.le_of_ble_eq_true rfl) (by first | decide | omega) (by decide) (by omega) (by omega) dX10_clock_2 ?_
  rw [hip]
  refine hB bX10_clock_5 _ _ _ _ _ _ _ kX10_clock_5 ?_
  dsimp only [bX10_clock_5, kx_wp, kx_step, kx_lI, kx_lL, kx_lA, kx_gl, kx_pI, kx_pL, kx_pR, kx_pA, kx_pV, kx_s1, kx_s2, kx_sl, kx_pre, kx_c2, kx_pl, kx_cmp, kx_oF, kx_eqN, kx_nil, kx_c1, kx_ft, kx_aI, kx_aL, kx_aR, kx_ln, Nat.reduceAdd, Option.toList, List.cons_append, List.nil_append, cf10_7, cf10_4, cf10_0, cf10_6]
  repeat (simp only [h64, hip, hit, h7, kx_eq0, nI_1, nI_add, pk_us, (show (nI cl).toNatClampNeg = cl from nI_clamp (by omega)), (show nI (cl + 1) - 1 = nI cl from pk_sub (by omega : 1 ≤ cl + 1)), cp10_4, cp10_7, ks_eq, ks_ss]; try dsimp only [kx_wp, kx_step, kx_lI, kx_lL, kx_lA, kx_gl, kx_pI, kx_pL, kx_pR, kx_pA, kx_pV, kx_s1, kx_s2, kx_sl, kx_pre, kx_c2, kx_pl, kx_cmp, kx_oF, kx_eqN, kx_nil, kx_c1, kx_ft, kx_aI, kx_aL, kx_aR, kx_ln, Nat.reduceAdd, Option.toList, List.cons_append, List.nil_append, cf10_7, cf10_4, cf10_0, cf10_6])
  repeat' apply And.intro
  all_goals try (first | with_reducible assumption | (with_reducible refine ck_nzI ?_; simp; done) | (with_reducible refine ck_nzL ?_; simp; done) | (with_reducible refine vp_in_nI ?_ ?_ <;> first | omega | decide) | (with_reducible refine Nat.le_of_ble_eq_true ?_; rfl) | omega | exact Nat.le_of_ble_eq_true rfl | decide | trivial | exact vp_in_nI (by omega) (by decide) | exact Or.inl trivial | exact Or.inr trivial | exact Or.inl rfl | exact Or.inr rfl)
  · intro zc5
    first | exact absurd rfl zc5 | exact absurd zc5 (by decide) | exact absurd (by decide) zc5 | (exfalso; first | exact absurd zc5 (by decide) | exact absurd zc13 (by decide) | exact absurd ((nI_ltI (a := cl) (b := 8) (by omega) (by omega)).mpr hcl) zc30 | exact zc48 rfl) | (exfalso; simp_all; done)
  · intro zc5
    have ze5 := zc5
    refine hB bX10_clock_8 _ _ _ _ _ _ _ kX10_clock_8 ?_
    dsimp only [bX10_clock_8, kx_wp, kx_step, kx_lI, kx_lL, kx_lA, kx_gl, kx_pI, kx_pL, kx_pR, kx_pA, kx_pV, kx_s1, kx_s2, kx_sl, kx_pre, kx_c2, kx_pl, kx_cmp, kx_oF, kx_eqN, kx_nil, kx_c1, kx_ft, kx_aI, kx_aL, kx_aR, kx_ln, Nat.reduceAdd, Option.toList, List.cons_append, List.nil_append, cf10_7, cf10_4, cf10_0, cf10_6]
    repeat (simp only [h64, hip, hit, h7, kx_eq0, nI_1, nI_add, pk_us, (show (nI cl).toNatClampNeg = cl from nI_clamp (by omega)), (show nI (cl + 1) - 1 = nI cl from pk_sub (by omega : 1 ≤ cl + 1)), cp10_4, cp10_7, ks_eq, ks_ss]; try dsimp only [kx_wp, kx_step, kx_lI, kx_lL, kx_lA, kx_gl, kx_pI, kx_pL, kx_pR, kx_pA, kx_pV, kx_s1, kx_s2, kx_sl, kx_pre, kx_c2, kx_pl, kx_cmp, kx_oF, kx_eqN, kx_nil, kx_c1, kx_ft, kx_aI, kx_aL, kx_aR, kx_ln, Nat.reduceAdd, Option.toList, List.cons_append, List.nil_append, cf10_7, cf10_4, cf10_0, cf10_6])
    repeat' apply And.intro
    all_goals try (first | with_reducible assumption | (with_reducible refine ck_nzI ?_; simp; done) | (with_reducible refine ck_nzL ?_; simp; done) | (with_reducible refine vp_in_nI ?_ ?_ <;> first | omega | decide) | (with_reducible refine Nat.le_of_ble_eq_true ?_; rfl) | omega | exact Nat.le_of_ble_eq_true rfl | decide | trivial | exact vp_in_nI (by omega) (by decide) | exact Or.inl trivial | exact Or.inr trivial | exact Or.inl rfl | exact Or.inr rfl)
    refine hC.1 115 _ _ _ _ _ _ _ 10 _ _ _ _ _ _ _ _ _ _ _ _ lX10_115 (ct_X10_isOnTape l G h64) ⟨by decide, rfl⟩ (h64) rfl rfl (Nat.le_of_ble_eq_true rfl) (by first | decide | omega) (by decide) (by omega) (by omega) dX10_clock_10 ?_
    rw [hit]
    refine hB bX10_clock_13 _ _ _ _ _ _ _ kX10_clock_13 ?_
    dsimp only [bX10_clock_13, kx_wp, kx_step, kx_lI, kx_lL, kx_lA, kx_gl, kx_pI, kx_pL, kx_pR, kx_pA, kx_pV, kx_s1, kx_s2, kx_sl, kx_pre, kx_c2, kx_pl, kx_cmp, kx_oF, kx_eqN, kx_nil, kx_c1, kx_ft, kx_aI, kx_aL, kx_aR, kx_ln, Nat.reduceAdd, Option.toList, List.cons_append, List.nil_append, cf10_7, cf10_4, cf10_0, cf10_6]
    repeat (simp only [h64, hip, hit, h7, kx_eq0, nI_1, nI_add, pk_us, (show (nI cl).toNatClampNeg = cl from nI_clamp (by omega)), (show nI (cl + 1) - 1 = nI cl from pk_sub (by omega : 1 ≤ cl + 1)), cp10_4, cp10_7, ks_eq, ks_ss]; try dsimp only [kx_wp, kx_step, kx_lI, kx_lL, kx_lA, kx_gl, kx_pI, kx_pL, kx_pR, kx_pA, kx_pV, kx_s1, kx_s2, kx_sl, kx_pre, kx_c2, kx_pl, kx_cmp, kx_oF, kx_eqN, kx_nil, kx_c1, kx_ft, kx_aI, kx_aL, kx_aR, kx_ln, Nat.reduceAdd, Option.toList, List.cons_append, List.nil_append, cf10_7, cf10_4, cf10_0, cf10_6])
    repeat' apply And.intro
    all_goals try (first | with_reducible assumption | (with_reducible refine ck_nzI ?_; simp; done) | (with_reducible refine ck_nzL ?_; simp; done) | (with_reducible refine vp_in_nI ?_ ?_ <;> first | omega | decide) | (with_reducible refine Nat.le_of_ble_eq_true ?_; rfl) | omega | exact Nat.le_of_ble_eq_true rfl | decide | trivial | exact vp_in_nI (by omega) (by decide) | exact Or.inl trivial | exact Or.inr trivial | exact Or.inl rfl | exact Or.inr rfl)
    · intro zc13
      first | exact absurd rfl zc13 | exact absurd zc13 (by decide) | exact absurd (by decide) zc13 | (exfalso; first | exact absurd zc5 (by decide) | exact absurd zc13 (by decide) | exact absurd ((nI_ltI (a := cl) (b := 8) (by omega) (by omega)).mpr hcl) zc30 | exact zc48 rfl) | (exfalso; simp_all; done)
    · intro zc13
      have ze13 := zc13
      refine hB bX10_clock_16 _ _ _ _ _ _ _ kX10_clock_16 ?_
      dsimp only [bX10_clock_16, kx_wp, kx_step, kx_lI, kx_lL, kx_lA, kx_gl, kx_pI, kx_pL, kx_pR, kx_pA, kx_pV, kx_s1, kx_s2, kx_sl, kx_pre, kx_c2, kx_pl, kx_cmp, kx_oF, kx_eqN, kx_nil, kx_c1, kx_ft, kx_aI, kx_aL, kx_aR, kx_ln, Nat.reduceAdd, Option.toList, List.cons_append, List.nil_append, cf10_7, cf10_4, cf10_0, cf10_6]
      repeat (simp only [h64, hip, hit, h7, kx_eq0, nI_1, nI_add, pk_us, (show (nI cl).toNatClampNeg = cl from nI_clamp (by omega)), (show nI (cl + 1) - 1 = nI cl from pk_sub (by omega : 1 ≤ cl + 1)), cp10_4, cp10_7, ks_eq, ks_ss]; try dsimp only [kx_wp, kx_step, kx_lI, kx_lL, kx_lA, kx_gl, kx_pI, kx_pL, kx_pR, kx_pA, kx_pV, kx_s1, kx_s2, kx_sl, kx_pre, kx_c2, kx_pl, kx_cmp, kx_oF, kx_eqN, kx_nil, kx_c1, kx_ft, kx_aI, kx_aL, kx_aR, kx_ln, Nat.reduceAdd, Option.toList, List.cons_append, List.nil_append, cf10_7, cf10_4, cf10_0, cf10_6])
      repeat' apply And.intro
      all_goals try (first | with_reducible assumption | (with_reducible refine ck_nzI ?_; simp; done) | (with_reducible refine ck_nzL ?_; simp; done) | (with_reducible refine vp_in_nI ?_ ?_ <;> first | omega | decide) | (with_reducible refine Nat.le_of_ble_eq_true ?_; rfl) | omega | exact Nat.le_of_ble_eq_true rfl | decide | trivial | exact vp_in_nI (by omega) (by decide) | exact Or.inl trivial | exact Or.inr trivial | exact Or.inl rfl | exact Or.inr rfl)
      refine hC.2.1 95 _ _ _ _ _ _ _ _ _ _ _ _ _ _ _ _ _ lX10_95 (ct_X10_need l G (b := 1) (by decide)) rfl rfl (Nat.le_of_ble_eq_true rfl) (by first | decide | omega) (by decide) (by omega) (by omega) dX10_clock_21 ?_
      refine hB bX10_clock_24 _ _ _ _ _ _ _ kX10_clock_24 ?_
      dsimp only [bX10_clock_24, kx_wp, kx_step, kx_lI, kx_lL, kx_lA, kx_gl, kx_pI, kx_pL, kx_pR, kx_pA, kx_pV, kx_s1, kx_s2, kx_sl, kx_pre, kx_c2, kx_pl, kx_cmp, kx_oF, kx_eqN, kx_nil, kx_c1, kx_ft, kx_aI, kx_aL, kx_aR, kx_ln, Nat.reduceAdd, Option.toList, List.cons_append, List.nil_append, cf10_7, cf10_4, cf10_0, cf10_6]
      repeat (simp only [h64, hip, hit, h7, kx_eq0, nI_1, nI_add, pk_us, (show (nI cl).toNatClampNeg = cl from nI_clamp (by omega)), (show nI (cl + 1) - 1 = nI cl from pk_sub (by omega : 1 ≤ cl + 1)), cp10_4, cp10_7, ks_eq, ks_ss]; try dsimp only [kx_wp, kx_step, kx_lI, kx_lL, kx_lA, kx_gl, kx_pI, kx_pL, kx_pR, kx_pA, kx_pV, kx_s1, kx_s2, kx_sl, kx_pre, kx_c2, kx_pl, kx_cmp, kx_oF, kx_eqN, kx_nil, kx_c1, kx_ft, kx_aI, kx_aL, kx_aR, kx_ln, Nat.reduceAdd, Option.toList, List.cons_append, List.nil_append, cf10_7, cf10_4, cf10_0, cf10_6])
      repeat' apply And.intro
      all_goals try (first | with_reducible assumption | (with_reducible refine ck_nzI ?_; simp; done) | (with_reducible refine ck_nzL ?_; simp; done) | (with_reducible refine vp_in_nI ?_ ?_ <;> first | omega | decide) | (with_reducible refine Nat.le_of_ble_eq_true ?_; rfl) | omega | exact Nat.le_of_ble_eq_true rfl | decide | trivial | exact vp_in_nI (by omega) (by decide) | exact Or.inl trivial | exact Or.inr trivial | exact Or.inl rfl | exact Or.inr rfl)
      · intro zc30
        with_reducible first | have ze30 := Int32.not_le.mpr zc30 | have ze30 := zc30
        refine hB bX10_clock_39 _ _ _ _ _ _ _ kX10_clock_39 ?_
        dsimp only [bX10_clock_39, kx_wp, kx_step, kx_lI, kx_lL, kx_lA, kx_gl, kx_pI, kx_pL, kx_pR, kx_pA, kx_pV, kx_s1, kx_s2, kx_sl, kx_pre, kx_c2, kx_pl, kx_cmp, kx_oF, kx_eqN, kx_nil, kx_c1, kx_ft, kx_aI, kx_aL, kx_aR, kx_ln, Nat.reduceAdd, Option.toList, List.cons_append, List.nil_append, cf10_7, cf10_4, cf10_0, cf10_6]
        repeat (simp only [h64, hip, hit, h7, kx_eq0, nI_1, nI_add, pk_us, (show (nI cl).toNatClampNeg = cl from nI_clamp (by omega)), (show nI (cl + 1) - 1 = nI cl from pk_sub (by omega : 1 ≤ cl + 1)), cp10_4, cp10_7, ks_eq, ks_ss]; try dsimp only [kx_wp, kx_step, kx_lI, kx_lL, kx_lA, kx_gl, kx_pI, kx_pL, kx_pR, kx_pA, kx_pV, kx_s1, kx_s2, kx_sl, kx_pre, kx_c2, kx_pl, kx_cmp, kx_oF, kx_eqN, kx_nil, kx_c1, kx_ft, kx_aI, kx_aL, kx_aR, kx_ln, Nat.reduceAdd, Option.toList, List.cons_append, List.nil_append, cf10_7, cf10_4, cf10_0, cf10_6])
        repeat' apply And.intro
        all_goals try (first | with_reducible assumption | (with_reducible refine ck_nzI ?_; simp; done) | (with_reducible refine ck_nzL ?_; simp; done) | (with_reducible refine vp_in_nI ?_ ?_ <;> first | omega | decide) | (with_reducible refine Nat.le_of_ble_eq_true ?_; rfl) | omega | exact Nat.le_of_ble_eq_true rfl | decide | trivial | exact vp_in_nI (by omega) (by decide) | exact Or.inl trivial | exact Or.inr trivial | exact Or.inl rfl | exact Or.inr rfl)
        refine hN.1 122 _ _ _ _ _ _ _ 10 _ _ _ _ _ _ _ _ _ _ lX10_122 (hrs) ⟨by decide, rfl⟩ (h64) rfl rfl (Nat.le_of_ble_eq_true rfl) (by omega) (by decide) (Nat.le_of_ble_eq_true rfl) (Nat.le_of_ble_eq_true rfl) dX10_clock_41 ?_
        rintro r2 P2 s2 ⟨F2, V2, te2, qu2, Fo2, st2, h1, q2, h3, hD2, -⟩
        rw [q2]
        have hD2 := hD2 hk
        rw [if_pos hk] at h1
        subst h1
        rw [hk] at h3
        have w64 : P2 64 = kO 10 (kf (cr10 (.ref w)) (upd (upd K 2 0) 5 (-1))) := by rw [h3]; exact cx_rw_64
        have a0 : P2 w = kO 9 (kf (cr9 w) V2) := by rw [h3]; exact cx_rw_w hw
        have a1 : P2 (w + 1) = kI 0 24 te2 := by rw [h3]; exact cx_rw_1 hw
        have a2 : P2 (w + 2) = kI 0 4 qu2 := by rw [h3]; exact cx_rw_2 hw
        have a3 : P2 (w + 3) = kO 2 (kf (cr2 w) Fo2) := by rw [h3]; exact cx_rw_3 hw
        have a4 : P2 (w + 4) = kI 0 400 st2 := by rw [h3]; exact cx_rw_4 hw
        have a5 : P2 (w + 5) = kI 0 64 S := by rw [h3]; exact (cx_rw_o (by omega) (by omega) (Or.inr (by omega))).trans ((ks_ne (by omega)).trans h5w)
        have b65 : P2 65 = kO 0 (kf cr0 Al) := by rw [h3]; exact (cx_rw_o (by decide) (by decide) (Or.inl (by omega))).trans ((ks_ne (by decide)).trans hA)
        have b66 : P2 66 = kI 0 1700 Wm := by rw [h3]; exact (cx_rw_o (by decide) (by decide) (Or.inl (by omega))).trans ((ks_ne (by decide)).trans hW)
        have b69 : P2 69 = kR 8 (fun i => if i < cl then some (cn i) else none) := by rw [h3]; exact (cx_rw_o (by decide) (by decide) (Or.inl (by omega))).trans ((ks_ne (by decide)).trans h69)
        have b1 : P2 1 = kI 5 12 cj_md := by rw [h3]; exact (cx_rw_o (by decide) (by decide) (Or.inl (by omega))).trans ((ks_ne (by decide)).trans hmd)
        have hH : cx_R P2 sz w V2 te2 qu2 Fo2 st2 Al Wm := ⟨by omega, by omega, by omega, by omega, by omega, a0, a1, a2, a3, a4, b65, b66, b1⟩
        have hfin : cx_CK P K cl cn w T n R Al x y dd sz (some (.int (nI cl))) (cx_kw P2 (upd (upd K 2 0) 5 (-1)) cl cn w sz V2 Al x y dd) (sz + 2) := ⟨F2, V2, te2, qu2, Fo2, st2, rfl, rfl, hD2, by rw [h3]⟩
        have hi1 := ct_X1_init l G (R := P2) (sz := sz + 1) (c := sz) (x := x) (y := y) (by omega)
        have hb1 := ct_X1_begin l G (sz := sz + 1) hH a5 (C := upd (upd (upd (upd (fun _ => 0) 4 1) 5 1) 0 x) 1 y) (by omega) (by omega) (by omega) h0 hd
        clear h3 hD2
        have n64 : ∀ x, kx_set P2 sz x 64 = kO 10 (kf (cr10 (.ref w)) (upd (upd K 2 0) 5 (-1))) := fun x => (ks_ne (by omega)).trans w64
        have n64b : ∀ x y, kx_set (kx_set P2 (sz + 1) x) sz y 64 = kO 10 (kf (cr10 (.ref w)) (upd (upd K 2 0) 5 (-1))) := fun x y => (ks_ne (by omega)).trans ((ks_ne (by omega)).trans w64)
        have n69b : ∀ x y z, kx_set (kx_set (kx_set P2 (sz + 1) x) sz y) 64 z 69 = kR 8 (fun i => if i < cl then some (cn i) else none) := fun x y z => (ks_ne (by decide)).trans ((ks_ne (by omega)).trans ((ks_ne (by omega)).trans b69))
        have nsb : ∀ x y z, kx_set (kx_set (kx_set P2 (sz + 1) x) sz y) 64 z sz = y := fun x y z => (ks_ne (by omega)).trans (ks_eq _ _ _)
        have n64c : ∀ x y z u, kx_set (kx_set (kx_set (kx_set P2 (sz + 1) x) sz y) 64 z) 69 u 64 = z := fun x y z u => (ks_ne (by decide)).trans (ks_eq _ _ _)
        have u7 : upd (upd K 2 0) 5 (-1) 7 = nI cl := h7
        dsimp only [Option.toList, List.cons_append, List.nil_append]
        refine hB bX10_clock_44 _ _ _ _ _ _ _ kX10_clock_44 ?_
        dsimp only [bX10_clock_44, kx_wp, kx_step, kx_lI, kx_lL, kx_lA, kx_gl, kx_pI, kx_pL, kx_pR, kx_pA, kx_pV, kx_s1, kx_s2, kx_sl, kx_pre, kx_c2, kx_pl, kx_cmp, kx_oF, kx_eqN, kx_nil, kx_c1, kx_ft, kx_aI, kx_aL, kx_aR, kx_ln, Nat.reduceAdd, Option.toList, List.cons_append, List.nil_append, cf10_7, cf10_4, cf10_0, cf10_6]
        repeat (simp only [h64, hip, hit, h7, kx_eq0, nI_1, nI_add, pk_us, (show (nI cl).toNatClampNeg = cl from nI_clamp (by omega)), (show nI (cl + 1) - 1 = nI cl from pk_sub (by omega : 1 ≤ cl + 1)), cp10_4, cp10_7, ks_eq, ks_ss, w64, n64, n64b, n69b, nsb, n64c, u7]; try dsimp only [kx_wp, kx_step, kx_lI, kx_lL, kx_lA, kx_gl, kx_pI, kx_pL, kx_pR, kx_pA, kx_pV, kx_s1, kx_s2, kx_sl, kx_pre, kx_c2, kx_pl, kx_cmp, kx_oF, kx_eqN, kx_nil, kx_c1, kx_ft, kx_aI, kx_aL, kx_aR, kx_ln, Nat.reduceAdd, Option.toList, List.cons_append, List.nil_append, cf10_7, cf10_4, cf10_0, cf10_6])
        repeat' apply And.intro
        all_goals try (first | with_reducible assumption | (with_reducible refine ck_nzI ?_; simp; done) | (with_reducible refine ck_nzL ?_; simp; done) | (with_reducible refine vp_in_nI ?_ ?_ <;> first | omega | decide) | (with_reducible refine Nat.le_of_ble_eq_true ?_; rfl) | omega | exact Nat.le_of_ble_eq_true rfl | decide | trivial | exact vp_in_nI (by omega) (by decide) | exact Or.inl trivial | exact Or.inr trivial | exact Or.inl rfl | exact Or.inr rfl)
        · intro zc48
          have ze48 := zc48
          refine hB bX10_clock_57 _ _ _ _ _ _ _ kX10_clock_57 ?_
          dsimp only [bX10_clock_57, kx_wp, kx_step, kx_lI, kx_lL, kx_lA, kx_gl, kx_pI, kx_pL, kx_pR, kx_pA, kx_pV, kx_s1, kx_s2, kx_sl, kx_pre, kx_c2, kx_pl, kx_cmp, kx_oF, kx_eqN, kx_nil, kx_c1, kx_ft, kx_aI, kx_aL, kx_aR, kx_ln, Nat.reduceAdd, Option.toList, List.cons_append, List.nil_append, cf10_7, cf10_4, cf10_0, cf10_6]
          repeat (simp only [h64, hip, hit, h7, kx_eq0, nI_1, nI_add, pk_us, (show (nI cl).toNatClampNeg = cl from nI_clamp (by omega)), (show nI (cl + 1) - 1 = nI cl from pk_sub (by omega : 1 ≤ cl + 1)), cp10_4, cp10_7, ks_eq, ks_ss, w64, n64, n64b, n69b, nsb, n64c, u7]; try dsimp only [kx_wp, kx_step, kx_lI, kx_lL, kx_lA, kx_gl, kx_pI, kx_pL, kx_pR, kx_pA, kx_pV, kx_s1, kx_s2, kx_sl, kx_pre, kx_c2, kx_pl, kx_cmp, kx_oF, kx_eqN, kx_nil, kx_c1, kx_ft, kx_aI, kx_aL, kx_aR, kx_ln, Nat.reduceAdd, Option.toList, List.cons_append, List.nil_append, cf10_7, cf10_4, cf10_0, cf10_6])
          repeat' apply And.intro
          all_goals try (first | with_reducible assumption | (with_reducible refine ck_nzI ?_; simp; done) | (with_reducible refine ck_nzL ?_; simp; done) | (with_reducible refine vp_in_nI ?_ ?_ <;> first | omega | decide) | (with_reducible refine Nat.le_of_ble_eq_true ?_; rfl) | omega | exact Nat.le_of_ble_eq_true rfl | decide | trivial | exact vp_in_nI (by omega) (by decide) | exact Or.inl trivial | exact Or.inr trivial | exact Or.inl rfl | exact Or.inr rfl)
          refine hC.2.2 47 _ _ _ _ _ _ _ _ _ _ _ _ _ _ _ _ _ (Or.inl lX10_47) (hi1) rfl rfl (Nat.le_of_ble_eq_true rfl) (by first | decide | omega) (by decide) (Nat.le_of_ble_eq_true rfl) (Nat.le_of_ble_eq_true rfl) dX10_clock_63 ?_
          refine hB bX10_clock_66 _ _ _ _ _ _ _ kX10_clock_66 ?_
          dsimp only [bX10_clock_66, kx_wp, kx_step, kx_lI, kx_lL, kx_lA, kx_gl, kx_pI, kx_pL, kx_pR, kx_pA, kx_pV, kx_s1, kx_s2, kx_sl, kx_pre, kx_c2, kx_pl, kx_cmp, kx_oF, kx_eqN, kx_nil, kx_c1, kx_ft, kx_aI, kx_aL, kx_aR, kx_ln, Nat.reduceAdd, Option.toList, List.cons_append, List.nil_append, cf10_7, cf10_4, cf10_0, cf10_6]
          repeat (simp only [h64, hip, hit, h7, kx_eq0, nI_1, nI_add, pk_us, (show (nI cl).toNatClampNeg = cl from nI_clamp (by omega)), (show nI (cl + 1) - 1 = nI cl from pk_sub (by omega : 1 ≤ cl + 1)), cp10_4, cp10_7, ks_eq, ks_ss, w64, n64, n64b, n69b, nsb, n64c, u7]; try dsimp only [kx_wp, kx_step, kx_lI, kx_lL, kx_lA, kx_gl, kx_pI, kx_pL, kx_pR, kx_pA, kx_pV, kx_s1, kx_s2, kx_sl, kx_pre, kx_c2, kx_pl, kx_cmp, kx_oF, kx_eqN, kx_nil, kx_c1, kx_ft, kx_aI, kx_aL, kx_aR, kx_ln, Nat.reduceAdd, Option.toList, List.cons_append, List.nil_append, cf10_7, cf10_4, cf10_0, cf10_6])
          repeat' apply And.intro
          all_goals try (first | with_reducible assumption | (with_reducible refine ck_nzI ?_; simp; done) | (with_reducible refine ck_nzL ?_; simp; done) | (with_reducible refine vp_in_nI ?_ ?_ <;> first | omega | decide) | (with_reducible refine Nat.le_of_ble_eq_true ?_; rfl) | omega | exact Nat.le_of_ble_eq_true rfl | decide | trivial | exact vp_in_nI (by omega) (by decide) | exact Or.inl trivial | exact Or.inr trivial | exact Or.inl rfl | exact Or.inr rfl)
          refine hC.1 125 _ _ _ _ _ _ _ 1 _ _ _ _ _ _ _ _ _ _ _ _ lX10_125 (hb1) ⟨by decide, rfl⟩ (ks_eq _ _ _) rfl rfl (Nat.le_of_ble_eq_true rfl) (by first | decide | omega) (by decide) (Nat.le_of_ble_eq_true rfl) (Nat.le_of_ble_eq_true rfl) dX10_clock_78 ?_
          refine hB bX10_clock_81 _ _ _ _ _ _ _ kX10_clock_81 ?_
          dsimp only [bX10_clock_81, kx_wp, kx_step, kx_lI, kx_lL, kx_lA, kx_gl, kx_pI, kx_pL, kx_pR, kx_pA, kx_pV, kx_s1, kx_s2, kx_sl, kx_pre, kx_c2, kx_pl, kx_cmp, kx_oF, kx_eqN, kx_nil, kx_c1, kx_ft, kx_aI, kx_aL, kx_aR, kx_ln, Nat.reduceAdd, Option.toList, List.cons_append, List.nil_append, cf10_7, cf10_4, cf10_0, cf10_6]
          repeat (simp only [h64, hip, hit, h7, kx_eq0, nI_1, nI_add, pk_us, (show (nI cl).toNatClampNeg = cl from nI_clamp (by omega)), (show nI (cl + 1) - 1 = nI cl from pk_sub (by omega : 1 ≤ cl + 1)), cp10_4, cp10_7, ks_eq, ks_ss, w64, n64, n64b, n69b, nsb, n64c, u7]; try dsimp only [kx_wp, kx_step, kx_lI, kx_lL, kx_lA, kx_gl, kx_pI, kx_pL, kx_pR, kx_pA, kx_pV, kx_s1, kx_s2, kx_sl, kx_pre, kx_c2, kx_pl, kx_cmp, kx_oF, kx_eqN, kx_nil, kx_c1, kx_ft, kx_aI, kx_aL, kx_aR, kx_ln, Nat.reduceAdd, Option.toList, List.cons_append, List.nil_append, cf10_7, cf10_4, cf10_0, cf10_6])
          all_goals (repeat' apply And.intro)
          all_goals ((try clear hB hC); first | exact True.intro | decide | exact hfin | exact vp_in_nI (by omega) (by decide))
        · intro zc48
          first | exact absurd rfl zc48 | exact absurd zc48 (by decide) | exact absurd (by decide) zc48 | (exfalso; first | exact absurd zc5 (by decide) | exact absurd zc13 (by decide) | exact absurd ((nI_ltI (a := cl) (b := 8) (by omega) (by omega)).mpr hcl) zc30 | exact zc48 rfl) | (exfalso; simp_all; done)
      · intro zc30
        first | exact absurd rfl zc30 | exact absurd zc30 (by decide) | exact absurd (by decide) zc30 | (exfalso; first | exact absurd zc5 (by decide) | exact absurd zc13 (by decide) | exact absurd ((nI_ltI (a := cl) (b := 8) (by omega) (by omega)).mpr hcl) zc30 | exact zc48 rfl) | (exfalso; simp_all; done)

set_option maxRecDepth 100000 in
set_option maxHeartbeats 4000000 in
theorem ct_X10_clock_kn (l : Launch) (G : kx_G) {P : kx_P} {sz : Nat} {sv : Value} {K : Nat → Int32} (h64 : P 64 = kO 10 (kf (cr10 sv) K)) {x y : Int32} (hip : cx_ip x y = 1) {n : Nat} (hit : cx_it (nI n) (K 2) = 1) {cl : Nat} (h7 : K 7 = nI cl) (hcl : cl < 8) {T : Nat → Int32} {R : ck_Qt} (hrs : kx_Mn l G sX10_readSpare 48 6 512 [.ref 64, .int (nI n)] P sz (cx_RS (cx_nw P sz) K sz T n R (sz + 6))) (hk : ¬ R.1.2.1 = -1)  : kx_Mn l G sX10_clock 50 6 512 [.ref 64, .int (x), .int (y), .int (nI n)] P sz (fun r P2 s2 => r = some (.int (R.1.2.2.1 - 10)) ∧ cx_RS (cx_nw P sz) K sz T n R (sz + 6) (some (.int R.1.2.2.1)) P2 s2) := by
  refine kx_mkn kx_tab kxLok_X10 (ini := false) [some (.ref 64), some (.int (x)), some (.int (y)), some (.int (nI n)), none, none] ⟨by decide, rfl, by decide, by decide⟩ (fun _ _ _ h => ⟨_, h.1⟩) rfl rfl (fun g hB hC hN => ?_)
  refine hB bX10_clock_0 _ _ _ _ _ _ _ kX10_clock_0 ?_
  dsimp only [bX10_clock_0, kx_wp, kx_step, kx_lI, kx_lL, kx_lA, kx_gl, kx_pI, kx_pL, kx_pR, kx_pA, kx_pV, kx_s1, kx_s2, kx_sl, kx_pre, kx_c2, kx_pl, kx_cmp, kx_oF, kx_eqN, kx_nil, kx_c1, kx_ft, kx_aI, kx_aL, kx_aR, kx_ln, Nat.reduceAdd, Option.toList, List.cons_append, List.nil_append, cf10_7, cf10_4, cf10_0, cf10_6]
  repeat (simp only [h64, hip, hit, h7, cp10_4, cp10_7, ks_eq, ks_ss]; try dsimp only [kx_wp, kx_step, kx_lI, kx_lL, kx_lA, kx_gl, kx_pI, kx_pL, kx_pR, kx_pA, kx_pV, kx_s1, kx_s2, kx_sl, kx_pre, kx_c2, kx_pl, kx_cmp, kx_oF, kx_eqN, kx_nil, kx_c1, kx_ft, kx_aI, kx_aL, kx_aR, kx_ln, Nat.reduceAdd, Option.toList, List.cons_append, List.nil_append, cf10_7, cf10_4, cf10_0, cf10_6])
  repeat' apply And.intro
  all_goals try (first | with_reducible assumption | (with_reducible refine ck_nzI ?_; simp; done) | (with_reducible refine ck_nzL ?_; simp; done) | (with_reducible refine vp_in_nI ?_ ?_ <;> first | omega | decide) | (with_reducible refine Nat.le_of_ble_eq_true ?_; rfl) | omega | exact Or.inl trivial | exact Or.inr trivial | exact Or.inl rfl | exact Or.inr rfl)
  refine hC.2.1 111 _ _ _ _ _ _ _ _ _ _ _ _ _ _ _ _ _ lX10_111 (ct_X10_isPlace l G) rfl rfl (Nat.le_of_ble_eq_true rfl) (by first | decide | omega) (by decide) (by omega) (by omega) dX10_clock_2 ?_
  rw [hip]
  refine hB bX10_clock_5 _ _ _ _ _ _ _ kX10_clock_5 ?_
  dsimp only [bX10_clock_5, kx_wp, kx_step, kx_lI, kx_lL, kx_lA, kx_gl, kx_pI, kx_pL, kx_pR, kx_pA, kx_pV, kx_s1, kx_s2, kx_sl, kx_pre, kx_c2, kx_pl, kx_cmp, kx_oF, kx_eqN, kx_nil, kx_c1, kx_ft, kx_aI, kx_aL, kx_aR, kx_ln, Nat.reduceAdd, Option.toList, List.cons_append, List.nil_append, cf10_7, cf10_4, cf10_0, cf10_6]
  repeat (simp only [h64, hip, hit, h7, cp10_4, cp10_7, ks_eq, ks_ss]; try dsimp only [kx_wp, kx_step, kx_lI, kx_lL, kx_lA, kx_gl, kx_pI, kx_pL, kx_pR, kx_pA, kx_pV, kx_s1, kx_s2, kx_sl, kx_pre, kx_c2, kx_pl, kx_cmp, kx_oF, kx_eqN, kx_nil, kx_c1, kx_ft, kx_aI, kx_aL, kx_aR, kx_ln, Nat.reduceAdd, Option.toList, List.cons_append, List.nil_append, cf10_7, cf10_4, cf10_0, cf10_6])
  repeat' apply And.intro
  all_goals try (first | with_reducible assumption | (with_reducible refine ck_nzI ?_; simp; done) | (with_reducible refine ck_nzL ?_; simp; done) | (with_reducible refine vp_in_nI ?_ ?_ <;> first | omega | decide) | (with_reducible refine Nat.le_of_ble_eq_true ?_; rfl) | omega | exact Or.inl trivial | exact Or.inr trivial | exact Or.inl rfl | exact Or.inr rfl)
  · intro zc5
    first | exact absurd rfl zc5 | exact absurd zc5 (by decide) | exact absurd (by decide) zc5 | (exfalso; first | exact absurd zc5 (by decide) | exact absurd zc13 (by decide) | exact absurd ((nI_ltI (a := cl) (b := 8) (by omega) (by omega)).mpr hcl) zc30 | exact hk0 zc48) | (exfalso; simp_all; done)
  · intro zc5
    have ze5 := zc5
    refine hB bX10_clock_8 _ _ _ _ _ _ _ kX10_clock_8 ?_
    dsimp only [bX10_clock_8, kx_wp, kx_step, kx_lI, kx_lL, kx_lA, kx_gl, kx_pI, kx_pL, kx_pR, kx_pA, kx_pV, kx_s1, kx_s2, kx_sl, kx_pre, kx_c2, kx_pl, kx_cmp, kx_oF, kx_eqN, kx_nil, kx_c1, kx_ft, kx_aI, kx_aL, kx_aR, kx_ln, Nat.reduceAdd, Option.toList, List.cons_append, List.nil_append, cf10_7, cf10_4, cf10_0, cf10_6]
    repeat (simp only [h64, hip, hit, h7, cp10_4, cp10_7, ks_eq, ks_ss]; try dsimp only [kx_wp, kx_step, kx_lI, kx_lL, kx_lA, kx_gl, kx_pI, kx_pL, kx_pR, kx_pA, kx_pV, kx_s1, kx_s2, kx_sl, kx_pre, kx_c2, kx_pl, kx_cmp, kx_oF, kx_eqN, kx_nil, kx_c1, kx_ft, kx_aI, kx_aL, kx_aR, kx_ln, Nat.reduceAdd, Option.toList, List.cons_append, List.nil_append, cf10_7, cf10_4, cf10_0, cf10_6])
    repeat' apply And.intro
    all_goals try (first | with_reducible assumption | (with_reducible refine ck_nzI ?_; simp; done) | (with_reducible refine ck_nzL ?_; simp; done) | (with_reducible refine vp_in_nI ?_ ?_ <;> first | omega | decide) | (with_reducible refine Nat.le_of_ble_eq_true ?_; rfl) | omega | exact Or.inl trivial | exact Or.inr trivial | exact Or.inl rfl | exact Or.inr rfl)
    refine hC.1 115 _ _ _ _ _ _ _ 10 _ _ _ _ _ _ _ _ _ _ _ _ lX10_115 (ct_X10_isOnTape l G h64) ⟨by decide, rfl⟩ (h64) rfl rfl (Nat.le_of_ble_eq_true rfl) (by first | decide | omega) (by decide) (by omega) (by omega) dX10_clock_10 ?_
    rw [hit]
    refine hB bX10_clock_13 _ _ _ _ _ _ _ kX10_clock_13 ?_
    dsimp only [bX10_clock_13, kx_wp, kx_step, kx_lI, kx_lL, kx_lA, kx_gl, kx_pI, kx_pL, kx_pR, kx_pA, kx_pV, kx_s1, kx_s2, kx_sl, kx_pre, kx_c2, kx_pl, kx_cmp, kx_oF, kx_eqN, kx_nil, kx_c1, kx_ft, kx_aI, kx_aL, kx_aR, kx_ln, Nat.reduceAdd, Option.toList, List.cons_append, List.nil_append, cf10_7, cf10_4, cf10_0, cf10_6]
    repeat (simp only [h64, hip, hit, h7, cp10_4, cp10_7, ks_eq, ks_ss]; try dsimp only [kx_wp, kx_step, kx_lI, kx_lL, kx_lA, kx_gl, kx_pI, kx_pL, kx_pR, kx_pA, kx_pV, kx_s1, kx_s2, kx_sl, kx_pre, kx_c2, kx_pl, kx_cmp, kx_oF, kx_eqN, kx_nil, kx_c1, kx_ft, kx_aI, kx_aL, kx_aR, kx_ln, Nat.reduceAdd, Option.toList, List.cons_append, List.nil_append, cf10_7, cf10_4, cf10_0, cf10_6])
    repeat' apply And.intro
    all_goals try (first | with_reducible assumption | (with_reducible refine ck_nzI ?_; simp; done) | (with_reducible refine ck_nzL ?_; simp; done) | (with_reducible refine vp_in_nI ?_ ?_ <;> first | omega | decide) | (with_reducible refine Nat.le_of_ble_eq_true ?_; rfl) | omega | exact Or.inl trivial | exact Or.inr trivial | exact Or.inl rfl | exact Or.inr rfl)
    · intro zc13
      first | exact absurd rfl zc13 | exact absurd zc13 (by decide) | exact absurd (by decide) zc13 | (exfalso; first | exact absurd zc5 (by decide) | exact absurd zc13 (by decide) | exact absurd ((nI_ltI (a := cl) (b := 8) (by omega) (by omega)).mpr hcl) zc30 | exact hk0 zc48) | (exfalso; simp_all; done)
    · intro zc13
      have ze13 := zc13
      refine hB bX10_clock_16 _ _ _ _ _ _ _ kX10_clock_16 ?_
      dsimp only [bX10_clock_16, kx_wp, kx_step, kx_lI, kx_lL, kx_lA, kx_gl, kx_pI, kx_pL, kx_pR, kx_pA, kx_pV, kx_s1, kx_s2, kx_sl, kx_pre, kx_c2, kx_pl, kx_cmp, kx_oF, kx_eqN, kx_nil, kx_c1, kx_ft, kx_aI, kx_aL, kx_aR, kx_ln, Nat.reduceAdd, Option.toList, List.cons_append, List.nil_append, cf10_7, cf10_4, cf10_0, cf10_6]
      repeat (simp only [h64, hip, hit, h7, cp10_4, cp10_7, ks_eq, ks_ss]; try dsimp only [kx_wp, kx_step, kx_lI, kx_lL, kx_lA, kx_gl, kx_pI, kx_pL, kx_pR, kx_pA, kx_pV, kx_s1, kx_s2, kx_sl, kx_pre, kx_c2, kx_pl, kx_cmp, kx_oF, kx_eqN, kx_nil, kx_c1, kx_ft, kx_aI, kx_aL, kx_aR, kx_ln, Nat.reduceAdd, Option.toList, List.cons_append, List.nil_append, cf10_7, cf10_4, cf10_0, cf10_6])
      repeat' apply And.intro
      all_goals try (first | with_reducible assumption | (with_reducible refine ck_nzI ?_; simp; done) | (with_reducible refine ck_nzL ?_; simp; done) | (with_reducible refine vp_in_nI ?_ ?_ <;> first | omega | decide) | (with_reducible refine Nat.le_of_ble_eq_true ?_; rfl) | omega | exact Or.inl trivial | exact Or.inr trivial | exact Or.inl rfl | exact Or.inr rfl)
      refine hC.2.1 95 _ _ _ _ _ _ _ _ _ _ _ _ _ _ _ _ _ lX10_95 (ct_X10_need l G (b := 1) (by decide)) rfl rfl (Nat.le_of_ble_eq_true rfl) (by first | decide | omega) (by decide) (by omega) (by omega) dX10_clock_21 ?_
      refine hB bX10_clock_24 _ _ _ _ _ _ _ kX10_clock_24 ?_
      dsimp only [bX10_clock_24, kx_wp, kx_step, kx_lI, kx_lL, kx_lA, kx_gl, kx_pI, kx_pL, kx_pR, kx_pA, kx_pV, kx_s1, kx_s2, kx_sl, kx_pre, kx_c2, kx_pl, kx_cmp, kx_oF, kx_eqN, kx_nil, kx_c1, kx_ft, kx_aI, kx_aL, kx_aR, kx_ln, Nat.reduceAdd, Option.toList, List.cons_append, List.nil_append, cf10_7, cf10_4, cf10_0, cf10_6]
      repeat (simp only [h64, hip, hit, h7, cp10_4, cp10_7, ks_eq, ks_ss]; try dsimp only [kx_wp, kx_step, kx_lI, kx_lL, kx_lA, kx_gl, kx_pI, kx_pL, kx_pR, kx_pA, kx_pV, kx_s1, kx_s2, kx_sl, kx_pre, kx_c2, kx_pl, kx_cmp, kx_oF, kx_eqN, kx_nil, kx_c1, kx_ft, kx_aI, kx_aL, kx_aR, kx_ln, Nat.reduceAdd, Option.toList, List.cons_append, List.nil_append, cf10_7, cf10_4, cf10_0, cf10_6])
      repeat' apply And.intro
      all_goals try (first | with_reducible assumption | (with_reducible refine ck_nzI ?_; simp; done) | (with_reducible refine ck_nzL ?_; simp; done) | (with_reducible refine vp_in_nI ?_ ?_ <;> first | omega | decide) | (with_reducible refine Nat.le_of_ble_eq_true ?_; rfl) | omega | exact Or.inl trivial | exact Or.inr trivial | exact Or.inl rfl | exact Or.inr rfl)
      · intro zc30
        with_reducible first | have ze30 := Int32.not_le.mpr zc30 | have ze30 := zc30
        refine hB bX10_clock_39 _ _ _ _ _ _ _ kX10_clock_39 ?_
        dsimp only [bX10_clock_39, kx_wp, kx_step, kx_lI, kx_lL, kx_lA, kx_gl, kx_pI, kx_pL, kx_pR, kx_pA, kx_pV, kx_s1, kx_s2, kx_sl, kx_pre, kx_c2, kx_pl, kx_cmp, kx_oF, kx_eqN, kx_nil, kx_c1, kx_ft, kx_aI, kx_aL, kx_aR, kx_ln, Nat.reduceAdd, Option.toList, List.cons_append, List.nil_append, cf10_7, cf10_4, cf10_0, cf10_6]
        repeat (simp only [h64, hip, hit, h7, cp10_4, cp10_7, ks_eq, ks_ss]; try dsimp only [kx_wp, kx_step, kx_lI, kx_lL, kx_lA, kx_gl, kx_pI, kx_pL, kx_pR, kx_pA, kx_pV, kx_s1, kx_s2, kx_sl, kx_pre, kx_c2, kx_pl, kx_cmp, kx_oF, kx_eqN, kx_nil, kx_c1, kx_ft, kx_aI, kx_aL, kx_aR, kx_ln, Nat.reduceAdd, Option.toList, List.cons_append, List.nil_append, cf10_7, cf10_4, cf10_0, cf10_6])
        repeat' apply And.intro
        all_goals try (first | with_reducible assumption | (with_reducible refine ck_nzI ?_; simp; done) | (with_reducible refine ck_nzL ?_; simp; done) | (with_reducible refine vp_in_nI ?_ ?_ <;> first | omega | decide) | (with_reducible refine Nat.le_of_ble_eq_true ?_; rfl) | omega | exact Or.inl trivial | exact Or.inr trivial | exact Or.inl rfl | exact Or.inr rfl)
        refine hN.1 122 _ _ _ _ _ _ _ 10 _ _ _ _ _ _ _ _ _ _ lX10_122 (hrs) ⟨by decide, rfl⟩ (h64) rfl rfl (Nat.le_of_ble_eq_true rfl) (by omega) (by decide) (Nat.le_of_ble_eq_true rfl) (Nat.le_of_ble_eq_true rfl) dX10_clock_41 ?_
        rintro r2 P2 s2 hRS
        have hq2 : r2 = some (.int R.1.2.2.1) ∧ ¬ R.1.2.2.1 = 0 := by
          obtain ⟨F2, V2, te2, qu2, Fo2, st2, h1, h2, h3, h4, h5⟩ := hRS
          rw [if_neg hk] at h1
          exact ⟨h1, h5 hk⟩
        obtain ⟨rfl, hk0⟩ := hq2
        dsimp only [Option.toList, List.cons_append, List.nil_append]
        refine hB bX10_clock_44 _ _ _ _ _ _ _ kX10_clock_44 ?_
        dsimp only [bX10_clock_44, kx_wp, kx_step, kx_lI, kx_lL, kx_lA, kx_gl, kx_pI, kx_pL, kx_pR, kx_pA, kx_pV, kx_s1, kx_s2, kx_sl, kx_pre, kx_c2, kx_pl, kx_cmp, kx_oF, kx_eqN, kx_nil, kx_c1, kx_ft, kx_aI, kx_aL, kx_aR, kx_ln, Nat.reduceAdd, Option.toList, List.cons_append, List.nil_append, cf10_7, cf10_4, cf10_0, cf10_6]
        repeat (simp only [h64, hip, hit, h7, cp10_4, cp10_7, ks_eq, ks_ss]; try dsimp only [kx_wp, kx_step, kx_lI, kx_lL, kx_lA, kx_gl, kx_pI, kx_pL, kx_pR, kx_pA, kx_pV, kx_s1, kx_s2, kx_sl, kx_pre, kx_c2, kx_pl, kx_cmp, kx_oF, kx_eqN, kx_nil, kx_c1, kx_ft, kx_aI, kx_aL, kx_aR, kx_ln, Nat.reduceAdd, Option.toList, List.cons_append, List.nil_append, cf10_7, cf10_4, cf10_0, cf10_6])
        repeat' apply And.intro
        all_goals try (first | with_reducible assumption | (with_reducible refine ck_nzI ?_; simp; done) | (with_reducible refine ck_nzL ?_; simp; done) | (with_reducible refine vp_in_nI ?_ ?_ <;> first | omega | decide) | (with_reducible refine Nat.le_of_ble_eq_true ?_; rfl) | omega | exact Or.inl trivial | exact Or.inr trivial | exact Or.inl rfl | exact Or.inr rfl)
        · intro zc48
          first | exact absurd rfl zc48 | exact absurd zc48 (by decide) | exact absurd (by decide) zc48 | (exfalso; first | exact absurd zc5 (by decide) | exact absurd zc13 (by decide) | exact absurd ((nI_ltI (a := cl) (b := 8) (by omega) (by omega)).mpr hcl) zc30 | exact hk0 zc48) | (exfalso; simp_all; done)
        · intro zc48
          have ze48 := zc48
          refine hB bX10_clock_51 _ _ _ _ _ _ _ kX10_clock_51 ?_
          dsimp only [bX10_clock_51, kx_wp, kx_step, kx_lI, kx_lL, kx_lA, kx_gl, kx_pI, kx_pL, kx_pR, kx_pA, kx_pV, kx_s1, kx_s2, kx_sl, kx_pre, kx_c2, kx_pl, kx_cmp, kx_oF, kx_eqN, kx_nil, kx_c1, kx_ft, kx_aI, kx_aL, kx_aR, kx_ln, Nat.reduceAdd, Option.toList, List.cons_append, List.nil_append, cf10_7, cf10_4, cf10_0, cf10_6]
          repeat (simp only [h64, hip, hit, h7, cp10_4, cp10_7, ks_eq, ks_ss]; try dsimp only [kx_wp, kx_step, kx_lI, kx_lL, kx_lA, kx_gl, kx_pI, kx_pL, kx_pR, kx_pA, kx_pV, kx_s1, kx_s2, kx_sl, kx_pre, kx_c2, kx_pl, kx_cmp, kx_oF, kx_eqN, kx_nil, kx_c1, kx_ft, kx_aI, kx_aL, kx_aR, kx_ln, Nat.reduceAdd, Option.toList, List.cons_append, List.nil_append, cf10_7, cf10_4, cf10_0, cf10_6])
          all_goals (repeat' apply And.intro)
          all_goals ((try clear hB hC); first | exact True.intro | rfl | exact hRS)
      · intro zc30
        first | exact absurd rfl zc30 | exact absurd zc30 (by decide) | exact absurd (by decide) zc30 | (exfalso; first | exact absurd zc5 (by decide) | exact absurd zc13 (by decide) | exact absurd ((nI_ltI (a := cl) (b := 8) (by omega) (by omega)).mpr hcl) zc30 | exact hk0 zc48) | (exfalso; simp_all; done)

set_option maxRecDepth 100000 in
set_option maxHeartbeats 4000000 in
theorem ct_X10_clock_tn (l : Launch) (G : kx_G) {P : kx_P} {sz : Nat} {sv : Value} {K : Nat → Int32} (h64 : P 64 = kO 10 (kf (cr10 sv) K)) {x y : Int32} (hip : cx_ip x y = 1) {n : Nat} (hit : cx_it (nI n) (K 2) = 1) {cl : Nat} (h7 : K 7 = nI cl) (hcl : cl < 8) {T : Nat → Int32} {R : ck_Qt} (hrs : kx_Mn l G sX10_readSpare 48 6 512 [.ref 64, .int (nI n)] P sz (cx_RS (cx_nw P sz) K sz T n R (sz + 6))) (hw : 144 ≤ sz) {cn : Nat → Nat} (h69 : P 69 = kR 8 (fun i => if i < cl then some (cn i) else none)) {Al Wm : Nat → Int32} (hA : P 65 = kO 0 (kf cr0 Al)) (hW : P 66 = kI 0 1700 Wm) (hmd : P 1 = kI 5 12 cj_md) {dd : Nat} (h0 : Al 0 = nI dd) (hd : dd ≤ 100000) (hk : R.1.2.1 = -1)  : kx_Mn l G sX10_clock 50 8 2195 [.ref 64, .int (x), .int (y), .int (nI n)] P sz (cx_CK (cx_nw P sz) K cl cn sz T n R Al x y dd (sz + 6)) := by
  refine kx_mkn kx_tab kxLok_X10 (ini := false) [some (.ref 64), some (.int (x)), some (.int (y)), some (.int (nI n)), none, none] ⟨by decide, rfl, by decide, by decide⟩ (fun _ _ _ h => by obtain ⟨_, _, _, _, _, _, h, -⟩ := h; exact ⟨_, h⟩) rfl rfl (fun g hB hC hN => ?_)
  refine hB bX10_clock_0 _ _ _ _ _ _ _ kX10_clock_0 ?_
  dsimp only [bX10_clock_0, kx_wp, kx_step, kx_lI, kx_lL, kx_lA, kx_gl, kx_pI, kx_pL, kx_pR, kx_pA, kx_pV, kx_s1, kx_s2, kx_sl, kx_pre, kx_c2, kx_pl, kx_cmp, kx_oF, kx_eqN, kx_nil, kx_c1, kx_ft, kx_aI, kx_aL, kx_aR, kx_ln, Nat.reduceAdd, Option.toList, List.cons_append, List.nil_append, cf10_7, cf10_4, cf10_0, cf10_6]
  repeat (simp only [h64, hip, hit, h7, kx_eq0, nI_1, nI_add, pk_us, (show (nI cl).toNatClampNeg = cl from nI_clamp (by omega)), (show nI (cl + 1) - 1 = nI cl from pk_sub (by omega : 1 ≤ cl + 1)), cp10_4, cp10_7, ks_eq, ks_ss]; try dsimp only [kx_wp, kx_step, kx_lI, kx_lL, kx_lA, kx_gl, kx_pI, kx_pL, kx_pR, kx_pA, kx_pV, kx_s1, kx_s2, kx_sl, kx_pre, kx_c2, kx_pl, kx_cmp, kx_oF, kx_eqN, kx_nil, kx_c1, kx_ft, kx_aI, kx_aL, kx_aR, kx_ln, Nat.reduceAdd, Option.toList, List.cons_append, List.nil_append, cf10_7, cf10_4, cf10_0, cf10_6])
  repeat' apply And.intro
  all_goals try (first | with_reducible assumption | (with_reducible refine ck_nzI ?_; simp; done) | (with_reducible refine ck_nzL ?_; simp; done) | (with_reducible refine vp_in_nI ?_ ?_ <;> first | omega | decide) | (with_reducible refine Nat.le_of_ble_eq_true ?_; rfl) | omega | exact Nat.le_of_ble_eq_true rfl | decide | trivial | exact vp_in_nI (by omega) (by decide) | exact Or.inl trivial | exact Or.inr trivial | exact Or.inl rfl | exact Or.inr rfl)
  refine hC.2.1 111 _ _ _ _ _ _ _ _ _ _ _ _ _ _ _ _ _ lX10_111 (ct_X10_isPlace l G) rfl rfl (Nat.le_of_ble_eq_true rfl) (by first | decide | omega) (by decide) (by omega) (by omega) dX10_clock_2 ?_
  rw [hip]
  refine hB bX10_clock_5 _ _ _ _ _ _ _ kX10_clock_5 ?_
  dsimp only [bX10_clock_5, kx_wp, kx_step, kx_lI, kx_lL, kx_lA, kx_gl, kx_pI, kx_pL, kx_pR, kx_pA, kx_pV, kx_s1, kx_s2, kx_sl, kx_pre, kx_c2, kx_pl, kx_cmp, kx_oF, kx_eqN, kx_nil, kx_c1, kx_ft, kx_aI, kx_aL, kx_aR, kx_ln, Nat.reduceAdd, Option.toList, List.cons_append, List.nil_append, cf10_7, cf10_4, cf10_0, cf10_6]
  repeat (simp only [h64, hip, hit, h7, kx_eq0, nI_1, nI_add, pk_us, (show (nI cl).toNatClampNeg = cl from nI_clamp (by omega)), (show nI (cl + 1) - 1 = nI cl from pk_sub (by omega : 1 ≤ cl + 1)), cp10_4, cp10_7, ks_eq, ks_ss]; try dsimp only [kx_wp, kx_step, kx_lI, kx_lL, kx_lA, kx_gl, kx_pI, kx_pL, kx_pR, kx_pA, kx_pV, kx_s1, kx_s2, kx_sl, kx_pre, kx_c2, kx_pl, kx_cmp, kx_oF, kx_eqN, kx_nil, kx_c1, kx_ft, kx_aI, kx_aL, kx_aR, kx_ln, Nat.reduceAdd, Option.toList, List.cons_append, List.nil_append, cf10_7, cf10_4, cf10_0, cf10_6])
  repeat' apply And.intro
  all_goals try (first | with_reducible assumption | (with_reducible refine ck_nzI ?_; simp; done) | (with_reducible refine ck_nzL ?_; simp; done) | (with_reducible refine vp_in_nI ?_ ?_ <;> first | omega | decide) | (with_reducible refine Nat.le_of_ble_eq_true ?_; rfl) | omega | exact Nat.le_of_ble_eq_true rfl | decide | trivial | exact vp_in_nI (by omega) (by decide) | exact Or.inl trivial | exact Or.inr trivial | exact Or.inl rfl | exact Or.inr rfl)
  · intro zc5
    first | exact absurd rfl zc5 | exact absurd zc5 (by decide) | exact absurd (by decide) zc5 | (exfalso; first | exact absurd zc5 (by decide) | exact absurd zc13 (by decide) | exact absurd ((nI_ltI (a := cl) (b := 8) (by omega) (by omega)).mpr hcl) zc30 | exact zc48 rfl) | (exfalso; simp_all; done)
  · intro zc5
    have ze5 := zc5
    refine hB bX10_clock_8 _ _ _ _ _ _ _ kX10_clock_8 ?_
    dsimp only [bX10_clock_8, kx_wp, kx_step, kx_lI, kx_lL, kx_lA, kx_gl, kx_pI, kx_pL, kx_pR, kx_pA, kx_pV, kx_s1, kx_s2, kx_sl, kx_pre, kx_c2, kx_pl, kx_cmp, kx_oF, kx_eqN, kx_nil, kx_c1, kx_ft, kx_aI, kx_aL, kx_aR, kx_ln, Nat.reduceAdd, Option.toList, List.cons_append, List.nil_append, cf10_7, cf10_4, cf10_0, cf10_6]
    repeat (simp only [h64, hip, hit, h7, kx_eq0, nI_1, nI_add, pk_us, (show (nI cl).toNatClampNeg = cl from nI_clamp (by omega)), (show nI (cl + 1) - 1 = nI cl from pk_sub (by omega : 1 ≤ cl + 1)), cp10_4, cp10_7, ks_eq, ks_ss]; try dsimp only [kx_wp, kx_step, kx_lI, kx_lL, kx_lA, kx_gl, kx_pI, kx_pL, kx_pR, kx_pA, kx_pV, kx_s1, kx_s2, kx_sl, kx_pre, kx_c2, kx_pl, kx_cmp, kx_oF, kx_eqN, kx_nil, kx_c1, kx_ft, kx_aI, kx_aL, kx_aR, kx_ln, Nat.reduceAdd, Option.toList, List.cons_append, List.nil_append, cf10_7, cf10_4, cf10_0, cf10_6])
    repeat' apply And.intro
    all_goals try (first | with_reducible assumption | (with_reducible refine ck_nzI ?_; simp; done) | (with_reducible refine ck_nzL ?_; simp; done) | (with_reducible refine vp_in_nI ?_ ?_ <;> first | omega | decide) | (with_reducible refine Nat.le_of_ble_eq_true ?_; rfl) | omega | exact Nat.le_of_ble_eq_true rfl | decide | trivial | exact vp_in_nI (by omega) (by decide) | exact Or.inl trivial | exact Or.inr trivial | exact Or.inl rfl | exact Or.inr rfl)
    refine hC.1 115 _ _ _ _ _ _ _ 10 _ _ _ _ _ _ _ _ _ _ _ _ lX10_115 (ct_X10_isOnTape l G h64) ⟨by decide, rfl⟩ (h64) rfl rfl (Nat.le_of_ble_eq_true rfl) (by first | decide | omega) (by decide) (by omega) (by omega) dX10_clock_10 ?_
    rw [hit]
    refine hB bX10_clock_13 _ _ _ _ _ _ _ kX10_clock_13 ?_
    dsimp only [bX10_clock_13, kx_wp, kx_step, kx_lI, kx_lL, kx_lA, kx_gl, kx_pI, kx_pL, kx_pR, kx_pA, kx_pV, kx_s1, kx_s2, kx_sl, kx_pre, kx_c2, kx_pl, kx_cmp, kx_oF, kx_eqN, kx_nil, kx_c1, kx_ft, kx_aI, kx_aL, kx_aR, kx_ln, Nat.reduceAdd, Option.toList, List.cons_append, List.nil_append, cf10_7, cf10_4, cf10_0, cf10_6]
    repeat (simp only [h64, hip, hit, h7, kx_eq0, nI_1, nI_add, pk_us, (show (nI cl).toNatClampNeg = cl from nI_clamp (by omega)), (show nI (cl + 1) - 1 = nI cl from pk_sub (by omega : 1 ≤ cl + 1)), cp10_4, cp10_7, ks_eq, ks_ss]; try dsimp only [kx_wp, kx_step, kx_lI, kx_lL, kx_lA, kx_gl, kx_pI, kx_pL, kx_pR, kx_pA, kx_pV, kx_s1, kx_s2, kx_sl, kx_pre, kx_c2, kx_pl, kx_cmp, kx_oF, kx_eqN, kx_nil, kx_c1, kx_ft, kx_aI, kx_aL, kx_aR, kx_ln, Nat.reduceAdd, Option.toList, List.cons_append, List.nil_append, cf10_7, cf10_4, cf10_0, cf10_6])
    repeat' apply And.intro
    all_goals try (first | with_reducible assumption | (with_reducible refine ck_nzI ?_; simp; done) | (with_reducible refine ck_nzL ?_; simp; done) | (with_reducible refine vp_in_nI ?_ ?_ <;> first | omega | decide) | (with_reducible refine Nat.le_of_ble_eq_true ?_; rfl) | omega | exact Nat.le_of_ble_eq_true rfl | decide | trivial | exact vp_in_nI (by omega) (by decide) | exact Or.inl trivial | exact Or.inr trivial | exact Or.inl rfl | exact Or.inr rfl)
    · intro zc13
      first | exact absurd rfl zc13 | exact absurd zc13 (by decide) | exact absurd (by decide) zc13 | (exfalso; first | exact absurd zc5 (by decide) | exact absurd zc13 (by decide) | exact absurd ((nI_ltI (a := cl) (b := 8) (by omega) (by omega)).mpr hcl) zc30 | exact zc48 rfl) | (exfalso; simp_all; done)
    · intro zc13
      have ze13 := zc13
      refine hB bX10_clock_16 _ _ _ _ _ _ _ kX10_clock_16 ?_
      dsimp only [bX10_clock_16, kx_wp, kx_step, kx_lI, kx_lL, kx_lA, kx_gl, kx_pI, kx_pL, kx_pR, kx_pA, kx_pV, kx_s1, kx_s2, kx_sl, kx_pre, kx_c2, kx_pl, kx_cmp, kx_oF, kx_eqN, kx_nil, kx_c1, kx_ft, kx_aI, kx_aL, kx_aR, kx_ln, Nat.reduceAdd, Option.toList, List.cons_append, List.nil_append, cf10_7, cf10_4, cf10_0, cf10_6]
      repeat (simp only [h64, hip, hit, h7, kx_eq0, nI_1, nI_add, pk_us, (show (nI cl).toNatClampNeg = cl from nI_clamp (by omega)), (show nI (cl + 1) - 1 = nI cl from pk_sub (by omega : 1 ≤ cl + 1)), cp10_4, cp10_7, ks_eq, ks_ss]; try dsimp only [kx_wp, kx_step, kx_lI, kx_lL, kx_lA, kx_gl, kx_pI, kx_pL, kx_pR, kx_pA, kx_pV, kx_s1, kx_s2, kx_sl, kx_pre, kx_c2, kx_pl, kx_cmp, kx_oF, kx_eqN, kx_nil, kx_c1, kx_ft, kx_aI, kx_aL, kx_aR, kx_ln, Nat.reduceAdd, Option.toList, List.cons_append, List.nil_append, cf10_7, cf10_4, cf10_0, cf10_6])
      repeat' apply And.intro
      all_goals try (first | with_reducible assumption | (with_reducible refine ck_nzI ?_; simp; done) | (with_reducible refine ck_nzL ?_; simp; done) | (with_reducible refine vp_in_nI ?_ ?_ <;> first | omega | decide) | (with_reducible refine Nat.le_of_ble_eq_true ?_; rfl) | omega | exact Nat.le_of_ble_eq_true rfl | decide | trivial | exact vp_in_nI (by omega) (by decide) | exact Or.inl trivial | exact Or.inr trivial | exact Or.inl rfl | exact Or.inr rfl)
      refine hC.2.1 95 _ _ _ _ _ _ _ _ _ _ _ _ _ _ _ _ _ lX10_95 (ct_X10_need l G (b := 1) (by decide)) rfl rfl (Nat.le_of_ble_eq_true rfl) (by first | decide | omega) (by decide) (by omega) (by omega) dX10_clock_21 ?_
      refine hB bX10_clock_24 _ _ _ _ _ _ _ kX10_clock_24 ?_
      dsimp only [bX10_clock_24, kx_wp, kx_step, kx_lI, kx_lL, kx_lA, kx_gl, kx_pI, kx_pL, kx_pR, kx_pA, kx_pV, kx_s1, kx_s2, kx_sl, kx_pre, kx_c2, kx_pl, kx_cmp, kx_oF, kx_eqN, kx_nil, kx_c1, kx_ft, kx_aI, kx_aL, kx_aR, kx_ln, Nat.reduceAdd, Option.toList, List.cons_append, List.nil_append, cf10_7, cf10_4, cf10_0, cf10_6]
      repeat (simp only [h64, hip, hit, h7, kx_eq0, nI_1, nI_add, pk_us, (show (nI cl).toNatClampNeg = cl from nI_clamp (by omega)), (show nI (cl + 1) - 1 = nI cl from pk_sub (by omega : 1 ≤ cl + 1)), cp10_4, cp10_7, ks_eq, ks_ss]; try dsimp only [kx_wp, kx_step, kx_lI, kx_lL, kx_lA, kx_gl, kx_pI, kx_pL, kx_pR, kx_pA, kx_pV, kx_s1, kx_s2, kx_sl, kx_pre, kx_c2, kx_pl, kx_cmp, kx_oF, kx_eqN, kx_nil, kx_c1, kx_ft, kx_aI, kx_aL, kx_aR, kx_ln, Nat.reduceAdd, Option.toList, List.cons_append, List.nil_append, cf10_7, cf10_4, cf10_0, cf10_6])
      repeat' apply And.intro
      all_goals try (first | with_reducible assumption | (with_reducible refine ck_nzI ?_; simp; done) | (with_reducible refine ck_nzL ?_; simp; done) | (with_reducible refine vp_in_nI ?_ ?_ <;> first | omega | decide) | (with_reducible refine Nat.le_of_ble_eq_true ?_; rfl) | omega | exact Nat.le_of_ble_eq_true rfl | decide | trivial | exact vp_in_nI (by omega) (by decide) | exact Or.inl trivial | exact Or.inr trivial | exact Or.inl rfl | exact Or.inr rfl)
      · intro zc30
        with_reducible first | have ze30 := Int32.not_le.mpr zc30 | have ze30 := zc30
        refine hB bX10_clock_39 _ _ _ _ _ _ _ kX10_clock_39 ?_
        dsimp only [bX10_clock_39, kx_wp, kx_step, kx_lI, kx_lL, kx_lA, kx_gl, kx_pI, kx_pL, kx_pR, kx_pA, kx_pV, kx_s1, kx_s2, kx_sl, kx_pre, kx_c2, kx_pl, kx_cmp, kx_oF, kx_eqN, kx_nil, kx_c1, kx_ft, kx_aI, kx_aL, kx_aR, kx_ln, Nat.reduceAdd, Option.toList, List.cons_append, List.nil_append, cf10_7, cf10_4, cf10_0, cf10_6]
        repeat (simp only [h64, hip, hit, h7, kx_eq0, nI_1, nI_add, pk_us, (show (nI cl).toNatClampNeg = cl from nI_clamp (by omega)), (show nI (cl + 1) - 1 = nI cl from pk_sub (by omega : 1 ≤ cl + 1)), cp10_4, cp10_7, ks_eq, ks_ss]; try dsimp only [kx_wp, kx_step, kx_lI, kx_lL, kx_lA, kx_gl, kx_pI, kx_pL, kx_pR, kx_pA, kx_pV, kx_s1, kx_s2, kx_sl, kx_pre, kx_c2, kx_pl, kx_cmp, kx_oF, kx_eqN, kx_nil, kx_c1, kx_ft, kx_aI, kx_aL, kx_aR, kx_ln, Nat.reduceAdd, Option.toList, List.cons_append, List.nil_append, cf10_7, cf10_4, cf10_0, cf10_6])
        repeat' apply And.intro
        all_goals try (first | with_reducible assumption | (with_reducible refine ck_nzI ?_; simp; done) | (with_reducible refine ck_nzL ?_; simp; done) | (with_reducible refine vp_in_nI ?_ ?_ <;> first | omega | decide) | (with_reducible refine Nat.le_of_ble_eq_true ?_; rfl) | omega | exact Nat.le_of_ble_eq_true rfl | decide | trivial | exact vp_in_nI (by omega) (by decide) | exact Or.inl trivial | exact Or.inr trivial | exact Or.inl rfl | exact Or.inr rfl)
        refine hN.1 122 _ _ _ _ _ _ _ 10 _ _ _ _ _ _ _ _ _ _ lX10_122 (hrs) ⟨by decide, rfl⟩ (h64) rfl rfl (Nat.le_of_ble_eq_true rfl) (by omega) (by decide) (Nat.le_of_ble_eq_true rfl) (Nat.le_of_ble_eq_true rfl) dX10_clock_41 ?_
        rintro r2 P2 s2 ⟨F2, V2, te2, qu2, Fo2, st2, h1, q2, h3, hD2, -⟩
        rw [q2]
        have hD2 := hD2 hk
        rw [if_pos hk] at h1
        subst h1
        rw [hk] at h3
        have w64 : P2 64 = kO 10 (kf (cr10 (.ref sz)) (upd (upd K 2 0) 5 (-1))) := by rw [h3]; exact cx_rw_64
        have a0 : P2 sz = kO 9 (kf (cr9 sz) V2) := by rw [h3]; exact cx_rw_w hw
        have a1 : P2 (sz + 1) = kI 0 24 te2 := by rw [h3]; exact cx_rw_1 hw
        have a2 : P2 (sz + 2) = kI 0 4 qu2 := by rw [h3]; exact cx_rw_2 hw
        have a3 : P2 (sz + 3) = kO 2 (kf (cr2 sz) Fo2) := by rw [h3]; exact cx_rw_3 hw
        have a4 : P2 (sz + 4) = kI 0 400 st2 := by rw [h3]; exact cx_rw_4 hw
        have a5 : P2 (sz + 5) = kI 0 64 (fun _ => 0) := by rw [h3]; exact (cx_rw_o (by omega) (by omega) (Or.inr (by omega))).trans ((ks_ne (by omega)).trans (cx_nw_a).2.2.2.2.2)
        have b65 : P2 65 = kO 0 (kf cr0 Al) := by rw [h3]; exact (cx_rw_o (by decide) (by decide) (Or.inl (by omega))).trans ((ks_ne (by decide)).trans ((cx_nw_o (Or.inl (by omega))).trans hA))
        have b66 : P2 66 = kI 0 1700 Wm := by rw [h3]; exact (cx_rw_o (by decide) (by decide) (Or.inl (by omega))).trans ((ks_ne (by decide)).trans ((cx_nw_o (Or.inl (by omega))).trans hW))
        have b69 : P2 69 = kR 8 (fun i => if i < cl then some (cn i) else none) := by rw [h3]; exact (cx_rw_o (by decide) (by decide) (Or.inl (by omega))).trans ((ks_ne (by decide)).trans ((cx_nw_o (Or.inl (by omega))).trans h69))
        have b1 : P2 1 = kI 5 12 cj_md := by rw [h3]; exact (cx_rw_o (by decide) (by decide) (Or.inl (by omega))).trans ((ks_ne (by decide)).trans ((cx_nw_o (Or.inl (by omega))).trans hmd))
        have hH : cx_R P2 (sz + 6) sz V2 te2 qu2 Fo2 st2 Al Wm := ⟨by omega, by omega, by omega, by omega, by omega, a0, a1, a2, a3, a4, b65, b66, b1⟩
        have hfin : cx_CK (cx_nw P sz) K cl cn sz T n R Al x y dd (sz + 6) (some (.int (nI cl))) (cx_kw P2 (upd (upd K 2 0) 5 (-1)) cl cn sz (sz + 6) V2 Al x y dd) ((sz + 6) + 2) := ⟨F2, V2, te2, qu2, Fo2, st2, rfl, rfl, hD2, by rw [h3]⟩
        have hi1 := ct_X1_init l G (R := P2) (sz := (sz + 6) + 1) (c := (sz + 6)) (x := x) (y := y) (by omega)
        have hb1 := ct_X1_begin l G (sz := (sz + 6) + 1) hH a5 (C := upd (upd (upd (upd (fun _ => 0) 4 1) 5 1) 0 x) 1 y) (by omega) (by omega) (by omega) h0 hd
        clear h3 hD2
        have n64 : ∀ x, kx_set P2 (sz + 6) x 64 = kO 10 (kf (cr10 (.ref sz)) (upd (upd K 2 0) 5 (-1))) := fun x => (ks_ne (by omega)).trans w64
        have n64b : ∀ x y, kx_set (kx_set P2 ((sz + 6) + 1) x) (sz + 6) y 64 = kO 10 (kf (cr10 (.ref sz)) (upd (upd K 2 0) 5 (-1))) := fun x y => (ks_ne (by omega)).trans ((ks_ne (by omega)).trans w64)
        have n69b : ∀ x y z, kx_set (kx_set (kx_set P2 ((sz + 6) + 1) x) (sz + 6) y) 64 z 69 = kR 8 (fun i => if i < cl then some (cn i) else none) := fun x y z => (ks_ne (by decide)).trans ((ks_ne (by omega)).trans ((ks_ne (by omega)).trans b69))
        have nsb : ∀ x y z, kx_set (kx_set (kx_set P2 ((sz + 6) + 1) x) (sz + 6) y) 64 z (sz + 6) = y := fun x y z => (ks_ne (by omega)).trans (ks_eq _ _ _)
        have n64c : ∀ x y z u, kx_set (kx_set (kx_set (kx_set P2 ((sz + 6) + 1) x) (sz + 6) y) 64 z) 69 u 64 = z := fun x y z u => (ks_ne (by decide)).trans (ks_eq _ _ _)
        have u7 : upd (upd K 2 0) 5 (-1) 7 = nI cl := h7
        dsimp only [Option.toList, List.cons_append, List.nil_append]
        refine hB bX10_clock_44 _ _ _ _ _ _ _ kX10_clock_44 ?_
        dsimp only [bX10_clock_44, kx_wp, kx_step, kx_lI, kx_lL, kx_lA, kx_gl, kx_pI, kx_pL, kx_pR, kx_pA, kx_pV, kx_s1, kx_s2, kx_sl, kx_pre, kx_c2, kx_pl, kx_cmp, kx_oF, kx_eqN, kx_nil, kx_c1, kx_ft, kx_aI, kx_aL, kx_aR, kx_ln, Nat.reduceAdd, Option.toList, List.cons_append, List.nil_append, cf10_7, cf10_4, cf10_0, cf10_6]
        repeat (simp only [h64, hip, hit, h7, kx_eq0, nI_1, nI_add, pk_us, (show (nI cl).toNatClampNeg = cl from nI_clamp (by omega)), (show nI (cl + 1) - 1 = nI cl from pk_sub (by omega : 1 ≤ cl + 1)), cp10_4, cp10_7, ks_eq, ks_ss, w64, n64, n64b, n69b, nsb, n64c, u7]; try dsimp only [kx_wp, kx_step, kx_lI, kx_lL, kx_lA, kx_gl, kx_pI, kx_pL, kx_pR, kx_pA, kx_pV, kx_s1, kx_s2, kx_sl, kx_pre, kx_c2, kx_pl, kx_cmp, kx_oF, kx_eqN, kx_nil, kx_c1, kx_ft, kx_aI, kx_aL, kx_aR, kx_ln, Nat.reduceAdd, Option.toList, List.cons_append, List.nil_append, cf10_7, cf10_4, cf10_0, cf10_6])
        repeat' apply And.intro
        all_goals try (first | with_reducible assumption | (with_reducible refine ck_nzI ?_; simp; done) | (with_reducible refine ck_nzL ?_; simp; done) | (with_reducible refine vp_in_nI ?_ ?_ <;> first | omega | decide) | (with_reducible refine Nat.le_of_ble_eq_true ?_; rfl) | omega | exact Nat.le_of_ble_eq_true rfl | decide | trivial | exact vp_in_nI (by omega) (by decide) | exact Or.inl trivial | exact Or.inr trivial | exact Or.inl rfl | exact Or.inr rfl)
        · intro zc48
          have ze48 := zc48
          refine hB bX10_clock_57 _ _ _ _ _ _ _ kX10_clock_57 ?_
          dsimp only [bX10_clock_57, kx_wp, kx_step, kx_lI, kx_lL, kx_lA, kx_gl, kx_pI, kx_pL, kx_pR, kx_pA, kx_pV, kx_s1, kx_s2, kx_sl, kx_pre, kx_c2, kx_pl, kx_cmp, kx_oF, kx_eqN, kx_nil, kx_c1, kx_ft, kx_aI, kx_aL, kx_aR, kx_ln, Nat.reduceAdd, Option.toList, List.cons_append, List.nil_append, cf10_7, cf10_4, cf10_0, cf10_6]
          repeat (simp only [h64, hip, hit, h7, kx_eq0, nI_1, nI_add, pk_us, (show (nI cl).toNatClampNeg = cl from nI_clamp (by omega)), (show nI (cl + 1) - 1 = nI cl from pk_sub (by omega : 1 ≤ cl + 1)), cp10_4, cp10_7, ks_eq, ks_ss, w64, n64, n64b, n69b, nsb, n64c, u7]; try dsimp only [kx_wp, kx_step, kx_lI, kx_lL, kx_lA, kx_gl, kx_pI, kx_pL, kx_pR, kx_pA, kx_pV, kx_s1, kx_s2, kx_sl, kx_pre, kx_c2, kx_pl, kx_cmp, kx_oF, kx_eqN, kx_nil, kx_c1, kx_ft, kx_aI, kx_aL, kx_aR, kx_ln, Nat.reduceAdd, Option.toList, List.cons_append, List.nil_append, cf10_7, cf10_4, cf10_0, cf10_6])
          repeat' apply And.intro
          all_goals try (first | with_reducible assumption | (with_reducible refine ck_nzI ?_; simp; done) | (with_reducible refine ck_nzL ?_; simp; done) | (with_reducible refine vp_in_nI ?_ ?_ <;> first | omega | decide) | (with_reducible refine Nat.le_of_ble_eq_true ?_; rfl) | omega | exact Nat.le_of_ble_eq_true rfl | decide | trivial | exact vp_in_nI (by omega) (by decide) | exact Or.inl trivial | exact Or.inr trivial | exact Or.inl rfl | exact Or.inr rfl)
          refine hC.2.2 47 _ _ _ _ _ _ _ _ _ _ _ _ _ _ _ _ _ (Or.inl lX10_47) (hi1) rfl rfl (Nat.le_of_ble_eq_true rfl) (by first | decide | omega) (by decide) (Nat.le_of_ble_eq_true rfl) (Nat.le_of_ble_eq_true rfl) dX10_clock_63 ?_
          refine hB bX10_clock_66 _ _ _ _ _ _ _ kX10_clock_66 ?_
          dsimp only [bX10_clock_66, kx_wp, kx_step, kx_lI, kx_lL, kx_lA, kx_gl, kx_pI, kx_pL, kx_pR, kx_pA, kx_pV, kx_s1, kx_s2, kx_sl, kx_pre, kx_c2, kx_pl, kx_cmp, kx_oF, kx_eqN, kx_nil, kx_c1, kx_ft, kx_aI, kx_aL, kx_aR, kx_ln, Nat.reduceAdd, Option.toList, List.cons_append, List.nil_append, cf10_7, cf10_4, cf10_0, cf10_6]
          repeat (simp only [h64, hip, hit, h7, kx_eq0, nI_1, nI_add, pk_us, (show (nI cl).toNatClampNeg = cl from nI_clamp (by omega)), (show nI (cl + 1) - 1 = nI cl from pk_sub (by omega : 1 ≤ cl + 1)), cp10_4, cp10_7, ks_eq, ks_ss, w64, n64, n64b, n69b, nsb, n64c, u7]; try dsimp only [kx_wp, kx_step, kx_lI, kx_lL, kx_lA, kx_gl, kx_pI, kx_pL, kx_pR, kx_pA, kx_pV, kx_s1, kx_s2, kx_sl, kx_pre, kx_c2, kx_pl, kx_cmp, kx_oF, kx_eqN, kx_nil, kx_c1, kx_ft, kx_aI, kx_aL, kx_aR, kx_ln, Nat.reduceAdd, Option.toList, List.cons_append, List.nil_append, cf10_7, cf10_4, cf10_0, cf10_6])
          repeat' apply And.intro
          all_goals try (first | with_reducible assumption | (with_reducible refine ck_nzI ?_; simp; done) | (with_reducible refine ck_nzL ?_; simp; done) | (with_reducible refine vp_in_nI ?_ ?_ <;> first | omega | decide) | (with_reducible refine Nat.le_of_ble_eq_true ?_; rfl) | omega | exact Nat.le_of_ble_eq_true rfl | decide | trivial | exact vp_in_nI (by omega) (by decide) | exact Or.inl trivial | exact Or.inr trivial | exact Or.inl rfl | exact Or.inr rfl)
          refine hC.1 125 _ _ _ _ _ _ _ 1 _ _ _ _ _ _ _ _ _ _ _ _ lX10_125 (hb1) ⟨by decide, rfl⟩ (ks_eq _ _ _) rfl rfl (Nat.le_of_ble_eq_true rfl) (by first | decide | omega) (by decide) (Nat.le_of_ble_eq_true rfl) (Nat.le_of_ble_eq_true rfl) dX10_clock_78 ?_
          refine hB bX10_clock_81 _ _ _ _ _ _ _ kX10_clock_81 ?_
          dsimp only [bX10_clock_81, kx_wp, kx_step, kx_lI, kx_lL, kx_lA, kx_gl, kx_pI, kx_pL, kx_pR, kx_pA, kx_pV, kx_s1, kx_s2, kx_sl, kx_pre, kx_c2, kx_pl, kx_cmp, kx_oF, kx_eqN, kx_nil, kx_c1, kx_ft, kx_aI, kx_aL, kx_aR, kx_ln, Nat.reduceAdd, Option.toList, List.cons_append, List.nil_append, cf10_7, cf10_4, cf10_0, cf10_6]
          repeat (simp only [h64, hip, hit, h7, kx_eq0, nI_1, nI_add, pk_us, (show (nI cl).toNatClampNeg = cl from nI_clamp (by omega)), (show nI (cl + 1) - 1 = nI cl from pk_sub (by omega : 1 ≤ cl + 1)), cp10_4, cp10_7, ks_eq, ks_ss, w64, n64, n64b, n69b, nsb, n64c, u7]; try dsimp only [kx_wp, kx_step, kx_lI, kx_lL, kx_lA, kx_gl, kx_pI, kx_pL, kx_pR, kx_pA, kx_pV, kx_s1, kx_s2, kx_sl, kx_pre, kx_c2, kx_pl, kx_cmp, kx_oF, kx_eqN, kx_nil, kx_c1, kx_ft, kx_aI, kx_aL, kx_aR, kx_ln, Nat.reduceAdd, Option.toList, List.cons_append, List.nil_append, cf10_7, cf10_4, cf10_0, cf10_6])
          all_goals (repeat' apply And.intro)
          all_goals ((try clear hB hC); first | exact True.intro | decide | exact hfin | exact vp_in_nI (by omega) (by decide))
        · intro zc48
          first | exact absurd rfl zc48 | exact absurd zc48 (by decide) | exact absurd (by decide) zc48 | (exfalso; first | exact absurd zc5 (by decide) | exact absurd zc13 (by decide) | exact absurd ((nI_ltI (a := cl) (b := 8) (by omega) (by omega)).mpr hcl) zc30 | exact zc48 rfl) | (exfalso; simp_all; done)
      · intro zc30
        first | exact absurd rfl zc30 | exact absurd zc30 (by decide) | exact absurd (by decide) zc30 | (exfalso; first | exact absurd zc5 (by decide) | exact absurd zc13 (by decide) | exact absurd ((nI_ltI (a := cl) (b := 8) (by omega) (by omega)).mpr hcl) zc30 | exact zc48 rfl) | (exfalso; simp_all; done)


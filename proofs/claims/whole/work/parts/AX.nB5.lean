def bX10_warmth_0 : List kx_O := [(.iload_n 1, 1, 0, 0, .null), (.bipush (-30), 0, 0, 0, .int (-30)), (.if_icmp .lt 13, 16, 0, 0, .null)]
theorem kX10_warmth_0 : kx_oks kxL_X10 false cX10_warmth 0 bX10_warmth_0 = true := by decide +kernel
def bX10_warmth_6 : List kx_O := [(.iload_n 1, 1, 0, 0, .null), (.bipush 50, 0, 0, 0, .int 50), (.if_icmp .gt 7, 16, 0, 0, .null)]
theorem kX10_warmth_6 : kx_oks kxL_X10 false cX10_warmth 6 bX10_warmth_6 = true := by decide +kernel
def bX10_warmth_12 : List kx_O := [(.iconst 1, 0, 0, 0, .int 1), (.goto 4, 17, 0, 0, .null)]
theorem kX10_warmth_12 : kx_oks kxL_X10 false cX10_warmth 12 bX10_warmth_12 = true := by decide +kernel
def bX10_warmth_16 : List kx_O := [(.iconst 0, 0, 0, 0, .int 0)]
theorem kX10_warmth_16 : kx_oks kxL_X10 false cX10_warmth 16 bX10_warmth_16 = true := by decide +kernel
def bX10_warmth_20 : List kx_O := [(.aload_n 0, 0, 0, 0, .null), (.getfield 12, 10, 0, 0, .null), (.iload_n 1, 1, 0, 0, .null)]
theorem kX10_warmth_20 : kx_oks kxL_X10 false cX10_warmth 20 bX10_warmth_20 = true := by decide +kernel
def bX10_warmth_28 : List kx_O := [(.ireturn, 0, 0, 0, .null)]
theorem kX10_warmth_28 : kx_oks kxL_X10 false cX10_warmth 28 bX10_warmth_28 = true := by decide +kernel
theorem dX10_warmth_17 : decode cX10_warmth 17 = .ok (.invokestatic 95, 3) := by decide +kernel
theorem dX10_warmth_25 : decode cX10_warmth 25 = .ok (.invokevirtual 99, 3) := by decide +kernel
set_option maxRecDepth 100000 in
set_option maxHeartbeats 4000000 in
theorem ct_X10_warmth_n (l : Launch) (G : kx_G) {P : kx_P} {sz : Nat} {sv : Value} {K : Nat → Int32} (h64 : P 64 = kO 10 (kf (cr10 sv) K)) {F Wm : Nat → Int32} (hA : P 65 = kO 0 (kf cr0 F)) (hW : P 66 = kI 0 1700 Wm) {t : Int32} (ht1 : -30 ≤ t) (ht2 : t ≤ 50) (h3 : F 3 = 1700)  : kx_M l G sX10_warmth 3 0 0 [.ref 64, .int (t)] P sz (some (.int (-1))) P sz := by
  refine kx_mk kx_tab kxLok_X10 (ini := false) [some (.ref 64), some (.int (t))] ⟨by decide, rfl, by decide, by decide⟩ (⟨_, rfl⟩) rfl rfl (fun g hB hC => ?_)
  refine hB bX10_warmth_0 _ _ _ _ _ _ _ kX10_warmth_0 ?_
  dsimp only [bX10_warmth_0, kx_wp, kx_step, kx_lI, kx_lL, kx_lA, kx_gl, kx_pI, kx_pL, kx_pR, kx_pA, kx_pV, kx_s1, kx_s2, kx_sl, kx_pre, kx_c2, kx_pl, kx_cmp, kx_oF, kx_eqN, kx_nil, kx_c1, kx_ft, kx_aI, kx_aL, kx_aR, kx_ln, Nat.reduceAdd, Option.toList, List.cons_append, List.nil_append, cf10_0]
  repeat (simp only [h64, hA, ks_eq, ks_ss]; try dsimp only [kx_wp, kx_step, kx_lI, kx_lL, kx_lA, kx_gl, kx_pI, kx_pL, kx_pR, kx_pA, kx_pV, kx_s1, kx_s2, kx_sl, kx_pre, kx_c2, kx_pl, kx_cmp, kx_oF, kx_eqN, kx_nil, kx_c1, kx_ft, kx_aI, kx_aL, kx_aR, kx_ln, Nat.reduceAdd, Option.toList, List.cons_append, List.nil_append, cf10_0])
  repeat' apply And.intro
  all_goals try (first | with_reducible assumption | (with_reducible refine ck_nzI ?_; simp; done) | (with_reducible refine ck_nzL ?_; simp; done) | (with_reducible refine vp_in_nI ?_ ?_ <;> first | omega | decide) | (with_reducible refine Nat.le_of_ble_eq_true ?_; rfl) | omega | exact Or.inl trivial | exact Or.inr trivial | exact Or.inl rfl | exact Or.inr rfl)
  · intro zc3
    first | exact absurd rfl zc3 | exact absurd zc3 (by decide) | exact absurd (by decide) zc3 | (exfalso; first | exact absurd ht1 (Int32.not_le.mpr zc3) | exact absurd ht2 (Int32.not_le.mpr zc9)) | (exfalso; simp_all; done)
  · intro zc3
    with_reducible first | have ze3 := Int32.not_lt.mp zc3 | have ze3 := zc3
    refine hB bX10_warmth_6 _ _ _ _ _ _ _ kX10_warmth_6 ?_
    dsimp only [bX10_warmth_6, kx_wp, kx_step, kx_lI, kx_lL, kx_lA, kx_gl, kx_pI, kx_pL, kx_pR, kx_pA, kx_pV, kx_s1, kx_s2, kx_sl, kx_pre, kx_c2, kx_pl, kx_cmp, kx_oF, kx_eqN, kx_nil, kx_c1, kx_ft, kx_aI, kx_aL, kx_aR, kx_ln, Nat.reduceAdd, Option.toList, List.cons_append, List.nil_append, cf10_0]
    repeat (simp only [h64, hA, ks_eq, ks_ss]; try dsimp only [kx_wp, kx_step, kx_lI, kx_lL, kx_lA, kx_gl, kx_pI, kx_pL, kx_pR, kx_pA, kx_pV, kx_s1, kx_s2, kx_sl, kx_pre, kx_c2, kx_pl, kx_cmp, kx_oF, kx_eqN, kx_nil, kx_c1, kx_ft, kx_aI, kx_aL, kx_aR, kx_ln, Nat.reduceAdd, Option.toList, List.cons_append, List.nil_append, cf10_0])
    repeat' apply And.intro
    all_goals try (first | with_reducible assumption | (with_reducible refine ck_nzI ?_; simp; done) | (with_reducible refine ck_nzL ?_; simp; done) | (with_reducible refine vp_in_nI ?_ ?_ <;> first | omega | decide) | (with_reducible refine Nat.le_of_ble_eq_true ?_; rfl) | omega | exact Or.inl trivial | exact Or.inr trivial | exact Or.inl rfl | exact Or.inr rfl)
    · intro zc9
      first | exact absurd rfl zc9 | exact absurd zc9 (by decide) | exact absurd (by decide) zc9 | (exfalso; first | exact absurd ht1 (Int32.not_le.mpr zc3) | exact absurd ht2 (Int32.not_le.mpr zc9)) | (exfalso; simp_all; done)
    · intro zc9
      with_reducible first | have ze9 := Int32.not_lt.mp zc9 | have ze9 := zc9
      refine hB bX10_warmth_12 _ _ _ _ _ _ _ kX10_warmth_12 ?_
      dsimp only [bX10_warmth_12, kx_wp, kx_step, kx_lI, kx_lL, kx_lA, kx_gl, kx_pI, kx_pL, kx_pR, kx_pA, kx_pV, kx_s1, kx_s2, kx_sl, kx_pre, kx_c2, kx_pl, kx_cmp, kx_oF, kx_eqN, kx_nil, kx_c1, kx_ft, kx_aI, kx_aL, kx_aR, kx_ln, Nat.reduceAdd, Option.toList, List.cons_append, List.nil_append, cf10_0]
      repeat (simp only [h64, hA, ks_eq, ks_ss]; try dsimp only [kx_wp, kx_step, kx_lI, kx_lL, kx_lA, kx_gl, kx_pI, kx_pL, kx_pR, kx_pA, kx_pV, kx_s1, kx_s2, kx_sl, kx_pre, kx_c2, kx_pl, kx_cmp, kx_oF, kx_eqN, kx_nil, kx_c1, kx_ft, kx_aI, kx_aL, kx_aR, kx_ln, Nat.reduceAdd, Option.toList, List.cons_append, List.nil_append, cf10_0])
      repeat' apply And.intro
      all_goals try (first | with_reducible assumption | (with_reducible refine ck_nzI ?_; simp; done) | (with_reducible refine ck_nzL ?_; simp; done) | (with_reducible refine vp_in_nI ?_ ?_ <;> first | omega | decide) | (with_reducible refine Nat.le_of_ble_eq_true ?_; rfl) | omega | exact Or.inl trivial | exact Or.inr trivial | exact Or.inl rfl | exact Or.inr rfl)
      refine hC.2.1 95 _ _ _ _ _ _ _ _ _ _ _ _ _ _ _ _ _ lX10_95 (ct_X10_need l G (b := 1) (by decide)) rfl rfl (Nat.le_of_ble_eq_true rfl) (by first | decide | omega) (by decide) (by omega) (by omega) dX10_warmth_17 ?_
      refine hB bX10_warmth_20 _ _ _ _ _ _ _ kX10_warmth_20 ?_
      dsimp only [bX10_warmth_20, kx_wp, kx_step, kx_lI, kx_lL, kx_lA, kx_gl, kx_pI, kx_pL, kx_pR, kx_pA, kx_pV, kx_s1, kx_s2, kx_sl, kx_pre, kx_c2, kx_pl, kx_cmp, kx_oF, kx_eqN, kx_nil, kx_c1, kx_ft, kx_aI, kx_aL, kx_aR, kx_ln, Nat.reduceAdd, Option.toList, List.cons_append, List.nil_append, cf10_0]
      repeat (simp only [h64, hA, ks_eq, ks_ss]; try dsimp only [kx_wp, kx_step, kx_lI, kx_lL, kx_lA, kx_gl, kx_pI, kx_pL, kx_pR, kx_pA, kx_pV, kx_s1, kx_s2, kx_sl, kx_pre, kx_c2, kx_pl, kx_cmp, kx_oF, kx_eqN, kx_nil, kx_c1, kx_ft, kx_aI, kx_aL, kx_aR, kx_ln, Nat.reduceAdd, Option.toList, List.cons_append, List.nil_append, cf10_0])
      repeat' apply And.intro
      all_goals try (first | with_reducible assumption | (with_reducible refine ck_nzI ?_; simp; done) | (with_reducible refine ck_nzL ?_; simp; done) | (with_reducible refine vp_in_nI ?_ ?_ <;> first | omega | decide) | (with_reducible refine Nat.le_of_ble_eq_true ?_; rfl) | omega | exact Or.inl trivial | exact Or.inr trivial | exact Or.inl rfl | exact Or.inr rfl)
      refine hC.1 99 _ _ _ _ _ _ _ 0 _ _ _ _ _ _ _ _ _ _ _ _ lX10_99 (ct_X0_tellWarmth_n l G hA hW h3) ⟨by decide, rfl⟩ (by first | exact h64 | exact hA) rfl rfl (Nat.le_of_ble_eq_true rfl) (by first | decide | omega) (by decide) (by omega) (by omega) dX10_warmth_25 ?_
      refine hB bX10_warmth_28 _ _ _ _ _ _ _ kX10_warmth_28 ?_
      dsimp only [bX10_warmth_28, kx_wp, kx_step, kx_lI, kx_lL, kx_lA, kx_gl, kx_pI, kx_pL, kx_pR, kx_pA, kx_pV, kx_s1, kx_s2, kx_sl, kx_pre, kx_c2, kx_pl, kx_cmp, kx_oF, kx_eqN, kx_nil, kx_c1, kx_ft, kx_aI, kx_aL, kx_aR, kx_ln, Nat.reduceAdd, Option.toList, List.cons_append, List.nil_append, cf10_0]
      repeat (simp only [h64, hA, ks_eq, ks_ss]; try dsimp only [kx_wp, kx_step, kx_lI, kx_lL, kx_lA, kx_gl, kx_pI, kx_pL, kx_pR, kx_pA, kx_pV, kx_s1, kx_s2, kx_sl, kx_pre, kx_c2, kx_pl, kx_cmp, kx_oF, kx_eqN, kx_nil, kx_c1, kx_ft, kx_aI, kx_aL, kx_aR, kx_ln, Nat.reduceAdd, Option.toList, List.cons_append, List.nil_append, cf10_0])
      all_goals (repeat' apply And.intro)
      all_goals ((try clear hB hC); first | exact True.intro | with_reducible rfl | with_reducible assumption | (with_reducible refine vp_in_nI ?_ ?_ <;> first | omega | decide) | exact Nat.le_of_ble_eq_true rfl | (with_reducible refine ck_nzI ?_; simp; done) | (with_reducible refine ck_nzL ?_; simp; done) | (simp only [pk_us, pk_uLs, zc3, ze3, zc9, ze9, ↓reduceIte, not_true_eq_false, not_false_eq_true]; done) | (simp only [zc3, ze3, zc9, ze9, ↓reduceIte, not_true_eq_false, not_false_eq_true]; with_reducible rfl) | omega | skip)

set_option maxRecDepth 100000 in
set_option maxHeartbeats 4000000 in
theorem ct_X10_warmth_t (l : Launch) (G : kx_G) {P : kx_P} {sz : Nat} {sv : Value} {K : Nat → Int32} (h64 : P 64 = kO 10 (kf (cr10 sv) K)) {F Wm : Nat → Int32} (hA : P 65 = kO 0 (kf cr0 F)) (hW : P 66 = kI 0 1700 Wm) {t : Int32} (ht1 : -30 ≤ t) (ht2 : t ≤ 50) {k : Nat} (h3 : F 3 = nI k) (hk : k < 1700)  : kx_M l G sX10_warmth 3 0 0 [.ref 64, .int (t)] P sz (some (.int (nI (k + 1)))) (kx_set (kx_set P 66 (kI 0 1700 (upd Wm k t))) 65 (kO 0 (kf cr0 (upd F 3 (nI (k + 1)))))) sz := by
  refine kx_mk kx_tab kxLok_X10 (ini := false) [some (.ref 64), some (.int (t))] ⟨by decide, rfl, by decide, by decide⟩ (⟨_, rfl⟩) rfl rfl (fun g hB hC => ?_)
  refine hB bX10_warmth_0 _ _ _ _ _ _ _ kX10_warmth_0 ?_
  dsimp only [bX10_warmth_0, kx_wp, kx_step, kx_lI, kx_lL, kx_lA, kx_gl, kx_pI, kx_pL, kx_pR, kx_pA, kx_pV, kx_s1, kx_s2, kx_sl, kx_pre, kx_c2, kx_pl, kx_cmp, kx_oF, kx_eqN, kx_nil, kx_c1, kx_ft, kx_aI, kx_aL, kx_aR, kx_ln, Nat.reduceAdd, Option.toList, List.cons_append, List.nil_append, cf10_0]
  repeat (simp only [h64, hA, ks_eq, ks_ss]; try dsimp only [kx_wp, kx_step, kx_lI, kx_lL, kx_lA, kx_gl, kx_pI, kx_pL, kx_pR, kx_pA, kx_pV, kx_s1, kx_s2, kx_sl, kx_pre, kx_c2, kx_pl, kx_cmp, kx_oF, kx_eqN, kx_nil, kx_c1, kx_ft, kx_aI, kx_aL, kx_aR, kx_ln, Nat.reduceAdd, Option.toList, List.cons_append, List.nil_append, cf10_0])
  repeat' apply And.intro
  all_goals try (first | with_reducible assumption | (with_reducible refine ck_nzI ?_; simp; done) | (with_reducible refine ck_nzL ?_; simp; done) | (with_reducible refine vp_in_nI ?_ ?_ <;> first | omega | decide) | (with_reducible refine Nat.le_of_ble_eq_true ?_; rfl) | omega | exact Or.inl trivial | exact Or.inr trivial | exact Or.inl rfl | exact Or.inr rfl)
  · intro zc3
    first | exact absurd rfl zc3 | exact absurd zc3 (by decide) | exact absurd (by decide) zc3 | (exfalso; first | exact absurd ht1 (Int32.not_le.mpr zc3) | exact absurd ht2 (Int32.not_le.mpr zc9)) | (exfalso; simp_all; done)
  · intro zc3
    with_reducible first | have ze3 := Int32.not_lt.mp zc3 | have ze3 := zc3
    refine hB bX10_warmth_6 _ _ _ _ _ _ _ kX10_warmth_6 ?_
    dsimp only [bX10_warmth_6, kx_wp, kx_step, kx_lI, kx_lL, kx_lA, kx_gl, kx_pI, kx_pL, kx_pR, kx_pA, kx_pV, kx_s1, kx_s2, kx_sl, kx_pre, kx_c2, kx_pl, kx_cmp, kx_oF, kx_eqN, kx_nil, kx_c1, kx_ft, kx_aI, kx_aL, kx_aR, kx_ln, Nat.reduceAdd, Option.toList, List.cons_append, List.nil_append, cf10_0]
    repeat (simp only [h64, hA, ks_eq, ks_ss]; try dsimp only [kx_wp, kx_step, kx_lI, kx_lL, kx_lA, kx_gl, kx_pI, kx_pL, kx_pR, kx_pA, kx_pV, kx_s1, kx_s2, kx_sl, kx_pre, kx_c2, kx_pl, kx_cmp, kx_oF, kx_eqN, kx_nil, kx_c1, kx_ft, kx_aI, kx_aL, kx_aR, kx_ln, Nat.reduceAdd, Option.toList, List.cons_append, List.nil_append, cf10_0])
    repeat' apply And.intro
    all_goals try (first | with_reducible assumption | (with_reducible refine ck_nzI ?_; simp; done) | (with_reducible refine ck_nzL ?_; simp; done) | (with_reducible refine vp_in_nI ?_ ?_ <;> first | omega | decide) | (with_reducible refine Nat.le_of_ble_eq_true ?_; rfl) | omega | exact Or.inl trivial | exact Or.inr trivial | exact Or.inl rfl | exact Or.inr rfl)
    · intro zc9
      first | exact absurd rfl zc9 | exact absurd zc9 (by decide) | exact absurd (by decide) zc9 | (exfalso; first | exact absurd ht1 (Int32.not_le.mpr zc3) | exact absurd ht2 (Int32.not_le.mpr zc9)) | (exfalso; simp_all; done)
    · intro zc9
      with_reducible first | have ze9 := Int32.not_lt.mp zc9 | have ze9 := zc9
      refine hB bX10_warmth_12 _ _ _ _ _ _ _ kX10_warmth_12 ?_
      dsimp only [bX10_warmth_12, kx_wp, kx_step, kx_lI, kx_lL, kx_lA, kx_gl, kx_pI, kx_pL, kx_pR, kx_pA, kx_pV, kx_s1, kx_s2, kx_sl, kx_pre, kx_c2, kx_pl, kx_cmp, kx_oF, kx_eqN, kx_nil, kx_c1, kx_ft, kx_aI, kx_aL, kx_aR, kx_ln, Nat.reduceAdd, Option.toList, List.cons_append, List.nil_append, cf10_0]
      repeat (simp only [h64, hA, ks_eq, ks_ss]; try dsimp only [kx_wp, kx_step, kx_lI, kx_lL, kx_lA, kx_gl, kx_pI, kx_pL, kx_pR, kx_pA, kx_pV, kx_s1, kx_s2, kx_sl, kx_pre, kx_c2, kx_pl, kx_cmp, kx_oF, kx_eqN, kx_nil, kx_c1, kx_ft, kx_aI, kx_aL, kx_aR, kx_ln, Nat.reduceAdd, Option.toList, List.cons_append, List.nil_append, cf10_0])
      repeat' apply And.intro
      all_goals try (first | with_reducible assumption | (with_reducible refine ck_nzI ?_; simp; done) | (with_reducible refine ck_nzL ?_; simp; done) | (with_reducible refine vp_in_nI ?_ ?_ <;> first | omega | decide) | (with_reducible refine Nat.le_of_ble_eq_true ?_; rfl) | omega | exact Or.inl trivial | exact Or.inr trivial | exact Or.inl rfl | exact Or.inr rfl)
      refine hC.2.1 95 _ _ _ _ _ _ _ _ _ _ _ _ _ _ _ _ _ lX10_95 (ct_X10_need l G (b := 1) (by decide)) rfl rfl (Nat.le_of_ble_eq_true rfl) (by first | decide | omega) (by decide) (by omega) (by omega) dX10_warmth_17 ?_
      refine hB bX10_warmth_20 _ _ _ _ _ _ _ kX10_warmth_20 ?_
      dsimp only [bX10_warmth_20, kx_wp, kx_step, kx_lI, kx_lL, kx_lA, kx_gl, kx_pI, kx_pL, kx_pR, kx_pA, kx_pV, kx_s1, kx_s2, kx_sl, kx_pre, kx_c2, kx_pl, kx_cmp, kx_oF, kx_eqN, kx_nil, kx_c1, kx_ft, kx_aI, kx_aL, kx_aR, kx_ln, Nat.reduceAdd, Option.toList, List.cons_append, List.nil_append, cf10_0]
      repeat (simp only [h64, hA, ks_eq, ks_ss]; try dsimp only [kx_wp, kx_step, kx_lI, kx_lL, kx_lA, kx_gl, kx_pI, kx_pL, kx_pR, kx_pA, kx_pV, kx_s1, kx_s2, kx_sl, kx_pre, kx_c2, kx_pl, kx_cmp, kx_oF, kx_eqN, kx_nil, kx_c1, kx_ft, kx_aI, kx_aL, kx_aR, kx_ln, Nat.reduceAdd, Option.toList, List.cons_append, List.nil_append, cf10_0])
      repeat' apply And.intro
      all_goals try (first | with_reducible assumption | (with_reducible refine ck_nzI ?_; simp; done) | (with_reducible refine ck_nzL ?_; simp; done) | (with_reducible refine vp_in_nI ?_ ?_ <;> first | omega | decide) | (with_reducible refine Nat.le_of_ble_eq_true ?_; rfl) | omega | exact Or.inl trivial | exact Or.inr trivial | exact Or.inl rfl | exact Or.inr rfl)
      refine hC.1 99 _ _ _ _ _ _ _ 0 _ _ _ _ _ _ _ _ _ _ _ _ lX10_99 (ct_X0_tellWarmth_t l G hA hW h3 hk) ⟨by decide, rfl⟩ (by first | exact h64 | exact hA) rfl rfl (Nat.le_of_ble_eq_true rfl) (by first | decide | omega) (by decide) (by omega) (by omega) dX10_warmth_25 ?_
      refine hB bX10_warmth_28 _ _ _ _ _ _ _ kX10_warmth_28 ?_
      dsimp only [bX10_warmth_28, kx_wp, kx_step, kx_lI, kx_lL, kx_lA, kx_gl, kx_pI, kx_pL, kx_pR, kx_pA, kx_pV, kx_s1, kx_s2, kx_sl, kx_pre, kx_c2, kx_pl, kx_cmp, kx_oF, kx_eqN, kx_nil, kx_c1, kx_ft, kx_aI, kx_aL, kx_aR, kx_ln, Nat.reduceAdd, Option.toList, List.cons_append, List.nil_append, cf10_0]
      repeat (simp only [h64, hA, ks_eq, ks_ss]; try dsimp only [kx_wp, kx_step, kx_lI, kx_lL, kx_lA, kx_gl, kx_pI, kx_pL, kx_pR, kx_pA, kx_pV, kx_s1, kx_s2, kx_sl, kx_pre, kx_c2, kx_pl, kx_cmp, kx_oF, kx_eqN, kx_nil, kx_c1, kx_ft, kx_aI, kx_aL, kx_aR, kx_ln, Nat.reduceAdd, Option.toList, List.cons_append, List.nil_append, cf10_0])
      all_goals (repeat' apply And.intro)
      all_goals ((try clear hB hC); first | exact True.intro | with_reducible rfl | with_reducible assumption | (with_reducible refine vp_in_nI ?_ ?_ <;> first | omega | decide) | exact Nat.le_of_ble_eq_true rfl | (with_reducible refine ck_nzI ?_; simp; done) | (with_reducible refine ck_nzL ?_; simp; done) | (simp only [pk_us, pk_uLs, zc3, ze3, zc9, ze9, ↓reduceIte, not_true_eq_false, not_false_eq_true]; done) | (simp only [zc3, ze3, zc9, ze9, ↓reduceIte, not_true_eq_false, not_false_eq_true]; with_reducible rfl) | omega | skip)

set_option maxRecDepth 100000 in
set_option maxHeartbeats 4000000 in
theorem ct_X10_warmth_b (l : Launch) (G : kx_G) (hst : l.stackTraces = false) {P : kx_P} {sz : Nat} {sv : Value} {K : Nat → Int32} (h64 : P 64 = kO 10 (kf (cr10 sv) K)) {t : Int32} (ht : ¬ (-30 ≤ t ∧ t ≤ 50))  : kx_X l G sX10_warmth 7 [.ref 64, .int (t)] P sz "java/lang/IllegalArgumentException" := by
  refine kx_mkx hst kx_tab kxLok_X10 [some (.ref 64), some (.int (t))] ⟨by decide, rfl, by decide⟩ rfl rfl (fun g hB hC hX hT => ?_)
  refine hB bX10_warmth_0 _ _ _ _ _ _ _ kX10_warmth_0 ?_
  dsimp only [bX10_warmth_0, kx_wp, kx_step, kx_lI, kx_lL, kx_lA, kx_gl, kx_pI, kx_pL, kx_pR, kx_pA, kx_pV, kx_s1, kx_s2, kx_sl, kx_pre, kx_c2, kx_pl, kx_cmp, kx_oF, kx_eqN, kx_nil, kx_c1, kx_ft, kx_aI, kx_aL, kx_aR, kx_ln, Nat.reduceAdd, Option.toList, List.cons_append, List.nil_append, cf10_0]
  repeat (simp only [h64, ks_eq, ks_ss]; try dsimp only [kx_wp, kx_step, kx_lI, kx_lL, kx_lA, kx_gl, kx_pI, kx_pL, kx_pR, kx_pA, kx_pV, kx_s1, kx_s2, kx_sl, kx_pre, kx_c2, kx_pl, kx_cmp, kx_oF, kx_eqN, kx_nil, kx_c1, kx_ft, kx_aI, kx_aL, kx_aR, kx_ln, Nat.reduceAdd, Option.toList, List.cons_append, List.nil_append, cf10_0])
  repeat' apply And.intro
  all_goals try (first | with_reducible assumption | (with_reducible refine ck_nzI ?_; simp; done) | (with_reducible refine ck_nzL ?_; simp; done) | (with_reducible refine vp_in_nI ?_ ?_ <;> first | omega | decide) | (with_reducible refine Nat.le_of_ble_eq_true ?_; rfl) | omega | exact Or.inl trivial | exact Or.inr trivial | exact Or.inl rfl | exact Or.inr rfl)
  · intro zc3
    with_reducible first | have ze3 := Int32.not_le.mpr zc3 | have ze3 := zc3
    refine hB bX10_warmth_16 _ _ _ _ _ _ _ kX10_warmth_16 ?_
    dsimp only [bX10_warmth_16, kx_wp, kx_step, kx_lI, kx_lL, kx_lA, kx_gl, kx_pI, kx_pL, kx_pR, kx_pA, kx_pV, kx_s1, kx_s2, kx_sl, kx_pre, kx_c2, kx_pl, kx_cmp, kx_oF, kx_eqN, kx_nil, kx_c1, kx_ft, kx_aI, kx_aL, kx_aR, kx_ln, Nat.reduceAdd, Option.toList, List.cons_append, List.nil_append, cf10_0]
    repeat (simp only [h64, ks_eq, ks_ss]; try dsimp only [kx_wp, kx_step, kx_lI, kx_lL, kx_lA, kx_gl, kx_pI, kx_pL, kx_pR, kx_pA, kx_pV, kx_s1, kx_s2, kx_sl, kx_pre, kx_c2, kx_pl, kx_cmp, kx_oF, kx_eqN, kx_nil, kx_c1, kx_ft, kx_aI, kx_aL, kx_aR, kx_ln, Nat.reduceAdd, Option.toList, List.cons_append, List.nil_append, cf10_0])
    repeat' apply And.intro
    all_goals try (first | with_reducible assumption | (with_reducible refine ck_nzI ?_; simp; done) | (with_reducible refine ck_nzL ?_; simp; done) | (with_reducible refine vp_in_nI ?_ ?_ <;> first | omega | decide) | (with_reducible refine Nat.le_of_ble_eq_true ?_; rfl) | omega | exact Or.inl trivial | exact Or.inr trivial | exact Or.inl rfl | exact Or.inr rfl)
    exact hX.2 95 _ _ _ _ _ _ _ _ lX10_95 (ct_X10_need_x l G hst) rfl rfl (Nat.le_of_ble_eq_true rfl) (by first | decide | omega) (by decide) dX10_warmth_17
  · intro zc3
    with_reducible first | have ze3 := Int32.not_lt.mp zc3 | have ze3 := zc3
    refine hB bX10_warmth_6 _ _ _ _ _ _ _ kX10_warmth_6 ?_
    dsimp only [bX10_warmth_6, kx_wp, kx_step, kx_lI, kx_lL, kx_lA, kx_gl, kx_pI, kx_pL, kx_pR, kx_pA, kx_pV, kx_s1, kx_s2, kx_sl, kx_pre, kx_c2, kx_pl, kx_cmp, kx_oF, kx_eqN, kx_nil, kx_c1, kx_ft, kx_aI, kx_aL, kx_aR, kx_ln, Nat.reduceAdd, Option.toList, List.cons_append, List.nil_append, cf10_0]
    repeat (simp only [h64, ks_eq, ks_ss]; try dsimp only [kx_wp, kx_step, kx_lI, kx_lL, kx_lA, kx_gl, kx_pI, kx_pL, kx_pR, kx_pA, kx_pV, kx_s1, kx_s2, kx_sl, kx_pre, kx_c2, kx_pl, kx_cmp, kx_oF, kx_eqN, kx_nil, kx_c1, kx_ft, kx_aI, kx_aL, kx_aR, kx_ln, Nat.reduceAdd, Option.toList, List.cons_append, List.nil_append, cf10_0])
    repeat' apply And.intro
    all_goals try (first | with_reducible assumption | (with_reducible refine ck_nzI ?_; simp; done) | (with_reducible refine ck_nzL ?_; simp; done) | (with_reducible refine vp_in_nI ?_ ?_ <;> first | omega | decide) | (with_reducible refine Nat.le_of_ble_eq_true ?_; rfl) | omega | exact Or.inl trivial | exact Or.inr trivial | exact Or.inl rfl | exact Or.inr rfl)
    · intro zc9
      with_reducible first | have ze9 := Int32.not_le.mpr zc9 | have ze9 := zc9
      refine hB bX10_warmth_16 _ _ _ _ _ _ _ kX10_warmth_16 ?_
      dsimp only [bX10_warmth_16, kx_wp, kx_step, kx_lI, kx_lL, kx_lA, kx_gl, kx_pI, kx_pL, kx_pR, kx_pA, kx_pV, kx_s1, kx_s2, kx_sl, kx_pre, kx_c2, kx_pl, kx_cmp, kx_oF, kx_eqN, kx_nil, kx_c1, kx_ft, kx_aI, kx_aL, kx_aR, kx_ln, Nat.reduceAdd, Option.toList, List.cons_append, List.nil_append, cf10_0]
      repeat (simp only [h64, ks_eq, ks_ss]; try dsimp only [kx_wp, kx_step, kx_lI, kx_lL, kx_lA, kx_gl, kx_pI, kx_pL, kx_pR, kx_pA, kx_pV, kx_s1, kx_s2, kx_sl, kx_pre, kx_c2, kx_pl, kx_cmp, kx_oF, kx_eqN, kx_nil, kx_c1, kx_ft, kx_aI, kx_aL, kx_aR, kx_ln, Nat.reduceAdd, Option.toList, List.cons_append, List.nil_append, cf10_0])
      repeat' apply And.intro
      all_goals try (first | with_reducible assumption | (with_reducible refine ck_nzI ?_; simp; done) | (with_reducible refine ck_nzL ?_; simp; done) | (with_reducible refine vp_in_nI ?_ ?_ <;> first | omega | decide) | (with_reducible refine Nat.le_of_ble_eq_true ?_; rfl) | omega | exact Or.inl trivial | exact Or.inr trivial | exact Or.inl rfl | exact Or.inr rfl)
      exact hX.2 95 _ _ _ _ _ _ _ _ lX10_95 (ct_X10_need_x l G hst) rfl rfl (Nat.le_of_ble_eq_true rfl) (by first | decide | omega) (by decide) dX10_warmth_17
    · intro zc9
      with_reducible first | have ze9 := Int32.not_lt.mp zc9 | have ze9 := zc9
      exact absurd ⟨ze3, ze9⟩ ht

def bX10_leap_0 : List kx_O := [(.aload_n 0, 0, 0, 0, .null), (.getfield 12, 10, 0, 0, .null), (.getfield 103, 0, 1, 0, .null), (.istore_n 2, 2, 0, 0, .null), (.aload_n 0, 0, 0, 0, .null), (.getfield 12, 10, 0, 0, .null), (.iload_n 1, 1, 0, 0, .null), (.putfield 103, 0, 1, 2, .null), (.iload_n 2, 2, 0, 0, .null), (.ireturn, 0, 0, 0, .null)]
theorem kX10_leap_0 : kx_oks kxL_X10 false cX10_leap 0 bX10_leap_0 = true := by decide +kernel
set_option maxRecDepth 100000 in
set_option maxHeartbeats 4000000 in
theorem ct_X10_leap_t (l : Launch) (G : kx_G) {P : kx_P} {sz : Nat} {sv : Value} {K : Nat → Int32} (h64 : P 64 = kO 10 (kf (cr10 sv) K)) {F : Nat → Int32} (hA : P 65 = kO 0 (kf cr0 F)) {b : Int32} (hb : b = 0 ∨ b = 1) (h1 : F 1 = 0 ∨ F 1 = 1)  : kx_M l G sX10_leap 1 0 0 [.ref 64, .int (b)] P sz (some (.int (F 1))) (kx_set P 65 (kO 0 (kf cr0 (upd F 1 b)))) sz := by
  refine kx_mk kx_tab kxLok_X10 (ini := false) [some (.ref 64), some (.int (b)), none] ⟨by decide, rfl, by decide, by decide⟩ (by rcases h1 with h | h <;> rw [h] <;> first | exact Or.inl rfl | exact Or.inr rfl) rfl rfl (fun g hB hC => ?_)
  refine hB bX10_leap_0 _ _ _ _ _ _ _ kX10_leap_0 ?_
  dsimp only [bX10_leap_0, kx_wp, kx_step, kx_lI, kx_lL, kx_lA, kx_gl, kx_pI, kx_pL, kx_pR, kx_pA, kx_pV, kx_s1, kx_s2, kx_sl, kx_pre, kx_c2, kx_pl, kx_cmp, kx_oF, kx_eqN, kx_nil, kx_c1, kx_ft, kx_aI, kx_aL, kx_aR, kx_ln, Nat.reduceAdd, Option.toList, List.cons_append, List.nil_append, cf10_0, cf0_1]
  repeat (simp only [h64, hA, cp0_1, ks_eq, ks_ss]; try dsimp only [kx_wp, kx_step, kx_lI, kx_lL, kx_lA, kx_gl, kx_pI, kx_pL, kx_pR, kx_pA, kx_pV, kx_s1, kx_s2, kx_sl, kx_pre, kx_c2, kx_pl, kx_cmp, kx_oF, kx_eqN, kx_nil, kx_c1, kx_ft, kx_aI, kx_aL, kx_aR, kx_ln, Nat.reduceAdd, Option.toList, List.cons_append, List.nil_append, cf10_0, cf0_1])
  all_goals (repeat' apply And.intro)
  all_goals ((try clear hB hC); first | exact True.intro | with_reducible rfl | with_reducible assumption | (with_reducible refine vp_in_nI ?_ ?_ <;> first | omega | decide) | exact Nat.le_of_ble_eq_true rfl | (with_reducible refine ck_nzI ?_; simp; done) | (with_reducible refine ck_nzL ?_; simp; done) | (simp only [pk_us, pk_uLs, ↓reduceIte, not_true_eq_false, not_false_eq_true]; done) | (simp only [↓reduceIte, not_true_eq_false, not_false_eq_true]; with_reducible rfl) | omega | skip)

def bX10_fault_0 : List kx_O := [(.aload_n 0, 0, 0, 0, .null), (.getfield 35, 10, 5, 0, .null), (.ireturn, 0, 0, 0, .null)]
theorem kX10_fault_0 : kx_oks kxL_X10 false cX10_fault 0 bX10_fault_0 = true := by decide +kernel
set_option maxRecDepth 100000 in
set_option maxHeartbeats 4000000 in
theorem ct_X10_fault_t (l : Launch) (G : kx_G) {P : kx_P} {sz : Nat} {sv : Value} {K : Nat → Int32} (h64 : P 64 = kO 10 (kf (cr10 sv) K))  : kx_M l G sX10_fault 1 0 0 [.ref 64] P sz (some (.int (K 5))) P sz := by
  refine kx_mk kx_tab kxLok_X10 (ini := false) [some (.ref 64)] ⟨by decide, rfl, by decide, by decide⟩ (⟨_, rfl⟩) rfl rfl (fun g hB hC => ?_)
  refine hB bX10_fault_0 _ _ _ _ _ _ _ kX10_fault_0 ?_
  dsimp only [bX10_fault_0, kx_wp, kx_step, kx_lI, kx_lL, kx_lA, kx_gl, kx_pI, kx_pL, kx_pR, kx_pA, kx_pV, kx_s1, kx_s2, kx_sl, kx_pre, kx_c2, kx_pl, kx_cmp, kx_oF, kx_eqN, kx_nil, kx_c1, kx_ft, kx_aI, kx_aL, kx_aR, kx_ln, Nat.reduceAdd, Option.toList, List.cons_append, List.nil_append, cf10_5]
  repeat (simp only [h64, ks_eq, ks_ss]; try dsimp only [kx_wp, kx_step, kx_lI, kx_lL, kx_lA, kx_gl, kx_pI, kx_pL, kx_pR, kx_pA, kx_pV, kx_s1, kx_s2, kx_sl, kx_pre, kx_c2, kx_pl, kx_cmp, kx_oF, kx_eqN, kx_nil, kx_c1, kx_ft, kx_aI, kx_aL, kx_aR, kx_ln, Nat.reduceAdd, Option.toList, List.cons_append, List.nil_append, cf10_5])
  all_goals (repeat' apply And.intro)
  all_goals ((try clear hB hC); first | exact True.intro | with_reducible rfl | with_reducible assumption | (with_reducible refine vp_in_nI ?_ ?_ <;> first | omega | decide) | exact Nat.le_of_ble_eq_true rfl | (with_reducible refine ck_nzI ?_; simp; done) | (with_reducible refine ck_nzL ?_; simp; done) | (simp only [pk_us, pk_uLs, ↓reduceIte, not_true_eq_false, not_false_eq_true]; done) | (simp only [↓reduceIte, not_true_eq_false, not_false_eq_true]; with_reducible rfl) | omega | skip)

def bX10_dial_0 : List kx_O := [(.aload_n 0, 0, 0, 0, .null), (.iload_n 1, 1, 0, 0, .null)]
theorem kX10_dial_0 : kx_oks kxL_X10 false cX10_dial 0 bX10_dial_0 = true := by decide +kernel
def bX10_dial_8 : List kx_O := [(.ireturn, 0, 0, 0, .null)]
theorem kX10_dial_8 : kx_oks kxL_X10 false cX10_dial 8 bX10_dial_8 = true := by decide +kernel
theorem dX10_dial_2 : decode cX10_dial 2 = .ok (.invokevirtual 138, 3) := by decide +kernel
theorem dX10_dial_5 : decode cX10_dial 5 = .ok (.invokevirtual 142, 3) := by decide +kernel
set_option maxRecDepth 100000 in
set_option maxHeartbeats 4000000 in
theorem ct_X10_dial_t (l : Launch) (G : kx_G) {P : kx_P} {sz : Nat} {sv : Value} {K : Nat → Int32} (h64 : P 64 = kO 10 (kf (cr10 sv) K)) {cl : Nat} {cn : Nat → Nat} (h69 : P 69 = kR 8 (fun i => if i < cl then some (cn i) else none)) (h7 : K 7 = nI cl) (hcl : cl ≤ 8) {c : Nat} (hc : c < cl) {C : Nat → Int32} {wv hv : Value} {d : Int64} (hq : P (cn c) = kO 1 (kf (cr1 wv d hv) C))  : kx_M l G sX10_dial 3 0 0 [.ref 64, .int (nI c)] P sz (some (.int ((d / 1000).toInt32))) P sz := by
  refine kx_mk kx_tab kxLok_X10 (ini := false) [some (.ref 64), some (.int (nI c))] ⟨by decide, rfl, by decide, by decide⟩ (⟨_, rfl⟩) rfl rfl (fun g hB hC => ?_)
  refine hB bX10_dial_0 _ _ _ _ _ _ _ kX10_dial_0 ?_
  dsimp only [bX10_dial_0, kx_wp, kx_step, kx_lI, kx_lL, kx_lA, kx_gl, kx_pI, kx_pL, kx_pR, kx_pA, kx_pV, kx_s1, kx_s2, kx_sl, kx_pre, kx_c2, kx_pl, kx_cmp, kx_oF, kx_eqN, kx_nil, kx_c1, kx_ft, kx_aI, kx_aL, kx_aR, kx_ln, Nat.reduceAdd, Option.toList, List.cons_append, List.nil_append]
  repeat (simp only [h64, ks_eq, ks_ss]; try dsimp only [kx_wp, kx_step, kx_lI, kx_lL, kx_lA, kx_gl, kx_pI, kx_pL, kx_pR, kx_pA, kx_pV, kx_s1, kx_s2, kx_sl, kx_pre, kx_c2, kx_pl, kx_cmp, kx_oF, kx_eqN, kx_nil, kx_c1, kx_ft, kx_aI, kx_aL, kx_aR, kx_ln, Nat.reduceAdd, Option.toList, List.cons_append, List.nil_append])
  repeat' apply And.intro
  all_goals try (first | with_reducible assumption | (with_reducible refine ck_nzI ?_; simp; done) | (with_reducible refine ck_nzL ?_; simp; done) | (with_reducible refine vp_in_nI ?_ ?_ <;> first | omega | decide) | (with_reducible refine Nat.le_of_ble_eq_true ?_; rfl) | omega | exact Or.inl trivial | exact Or.inr trivial | exact Or.inl rfl | exact Or.inr rfl)
  refine hC.1 138 _ _ _ _ _ _ _ 10 _ _ _ _ _ _ _ _ _ _ _ _ lX10_138 (ct_X10_theClock l G h64 h69 h7 hcl hc) ⟨by decide, rfl⟩ (h64) rfl rfl (Nat.le_of_ble_eq_true rfl) (by first | decide | omega) (by decide) (by omega) (by omega) dX10_dial_2 ?_
  refine hC.1 142 _ _ _ _ _ _ _ 1 _ _ _ _ _ _ _ _ _ _ _ _ lX10_142 (ct_X1_shown l G hq) ⟨by decide, rfl⟩ (hq) rfl rfl (Nat.le_of_ble_eq_true rfl) (by first | decide | omega) (by decide) (by omega) (by omega) dX10_dial_5 ?_
  refine hB bX10_dial_8 _ _ _ _ _ _ _ kX10_dial_8 ?_
  dsimp only [bX10_dial_8, kx_wp, kx_step, kx_lI, kx_lL, kx_lA, kx_gl, kx_pI, kx_pL, kx_pR, kx_pA, kx_pV, kx_s1, kx_s2, kx_sl, kx_pre, kx_c2, kx_pl, kx_cmp, kx_oF, kx_eqN, kx_nil, kx_c1, kx_ft, kx_aI, kx_aL, kx_aR, kx_ln, Nat.reduceAdd, Option.toList, List.cons_append, List.nil_append]
  repeat (simp only [h64, ks_eq, ks_ss]; try dsimp only [kx_wp, kx_step, kx_lI, kx_lL, kx_lA, kx_gl, kx_pI, kx_pL, kx_pR, kx_pA, kx_pV, kx_s1, kx_s2, kx_sl, kx_pre, kx_c2, kx_pl, kx_cmp, kx_oF, kx_eqN, kx_nil, kx_c1, kx_ft, kx_aI, kx_aL, kx_aR, kx_ln, Nat.reduceAdd, Option.toList, List.cons_append, List.nil_append])
  all_goals (repeat' apply And.intro)
  all_goals ((try clear hB hC); first | exact True.intro | with_reducible rfl | with_reducible assumption | (with_reducible refine vp_in_nI ?_ ?_ <;> first | omega | decide) | exact Nat.le_of_ble_eq_true rfl | (with_reducible refine ck_nzI ?_; simp; done) | (with_reducible refine ck_nzL ?_; simp; done) | (simp only [pk_us, pk_uLs, ↓reduceIte, not_true_eq_false, not_false_eq_true]; done) | (simp only [↓reduceIte, not_true_eq_false, not_false_eq_true]; with_reducible rfl) | omega | skip)

set_option maxRecDepth 100000 in
set_option maxHeartbeats 4000000 in
theorem ct_X10_dial_f (l : Launch) (G : kx_G) (hst : l.stackTraces = false) {P : kx_P} {sz : Nat} {sv : Value} {K : Nat → Int32} (h64 : P 64 = kO 10 (kf (cr10 sv) K)) {x : Int32} (hx : x < 0 ∨ K 7 ≤ x)  : kx_X l G sX10_dial 7 [.ref 64, .int (x)] P sz "java/util/NoSuchElementException" := by
  refine kx_mkx hst kx_tab kxLok_X10 [some (.ref 64), some (.int (x))] ⟨by decide, rfl, by decide⟩ rfl rfl (fun g hB hC hX hT => ?_)
  refine hB bX10_dial_0 _ _ _ _ _ _ _ kX10_dial_0 ?_
  dsimp only [bX10_dial_0, kx_wp, kx_step, kx_lI, kx_lL, kx_lA, kx_gl, kx_pI, kx_pL, kx_pR, kx_pA, kx_pV, kx_s1, kx_s2, kx_sl, kx_pre, kx_c2, kx_pl, kx_cmp, kx_oF, kx_eqN, kx_nil, kx_c1, kx_ft, kx_aI, kx_aL, kx_aR, kx_ln, Nat.reduceAdd, Option.toList, List.cons_append, List.nil_append]
  repeat (simp only [ks_eq, ks_ss]; try dsimp only [kx_wp, kx_step, kx_lI, kx_lL, kx_lA, kx_gl, kx_pI, kx_pL, kx_pR, kx_pA, kx_pV, kx_s1, kx_s2, kx_sl, kx_pre, kx_c2, kx_pl, kx_cmp, kx_oF, kx_eqN, kx_nil, kx_c1, kx_ft, kx_aI, kx_aL, kx_aR, kx_ln, Nat.reduceAdd, Option.toList, List.cons_append, List.nil_append])
  repeat' apply And.intro
  all_goals try (first | with_reducible assumption | (with_reducible refine ck_nzI ?_; simp; done) | (with_reducible refine ck_nzL ?_; simp; done) | (with_reducible refine vp_in_nI ?_ ?_ <;> first | omega | decide) | (with_reducible refine Nat.le_of_ble_eq_true ?_; rfl) | omega | exact Or.inl trivial | exact Or.inr trivial | exact Or.inl rfl | exact Or.inr rfl)
  exact hX.1 138 _ _ _ _ _ 10 _ _ _ _ _ lX10_138 (ct_X10_theClock_x l G hst h64 hx) ⟨by decide, rfl⟩ (h64) rfl rfl (Nat.le_of_ble_eq_true rfl) (by first | decide | omega) (by decide) dX10_dial_2

def bX10_error_0 : List kx_O := [(.aload_n 0, 0, 0, 0, .null), (.iload_n 1, 1, 0, 0, .null)]
theorem kX10_error_0 : kx_oks kxL_X10 false cX10_error 0 bX10_error_0 = true := by decide +kernel
def bX10_error_5 : List kx_O := [(.aload_n 0, 0, 0, 0, .null), (.getfield 12, 10, 0, 0, .null), (.getfield 129, 0, 0, 0, .null)]
theorem kX10_error_5 : kx_oks kxL_X10 false cX10_error 5 bX10_error_5 = true := by decide +kernel
def bX10_error_15 : List kx_O := [(.ireturn, 0, 0, 0, .null)]
theorem kX10_error_15 : kx_oks kxL_X10 false cX10_error 15 bX10_error_15 = true := by decide +kernel
theorem dX10_error_2 : decode cX10_error 2 = .ok (.invokevirtual 138, 3) := by decide +kernel
theorem dX10_error_12 : decode cX10_error 12 = .ok (.invokevirtual 146, 3) := by decide +kernel
set_option maxRecDepth 100000 in
set_option maxHeartbeats 4000000 in
theorem ct_X10_error_t (l : Launch) (G : kx_G) {P : kx_P} {sz : Nat} {sv : Value} {K : Nat → Int32} (h64 : P 64 = kO 10 (kf (cr10 sv) K)) {cl : Nat} {cn : Nat → Nat} (h69 : P 69 = kR 8 (fun i => if i < cl then some (cn i) else none)) (h7 : K 7 = nI cl) (hcl : cl ≤ 8) {c : Nat} (hc : c < cl) {Al : Nat → Int32} (hA : P 65 = kO 0 (kf cr0 Al)) {C : Nat → Int32} {wv hv : Value} {a : Nat} (ha : a < 86400000000) (hq : P (cn c) = kO 1 (kf (cr1 wv (lN a) hv) C)) {mi : Nat} (h0 : Al 0 = nI mi) (hmi : mi ≤ 200000)  : kx_M l G sX10_error 3 0 0 [.ref 64, .int (nI c)] P sz (some (.int (ck_err (lN a) (nI mi)))) P sz := by
  refine kx_mk kx_tab kxLok_X10 (ini := false) [some (.ref 64), some (.int (nI c))] ⟨by decide, rfl, by decide, by decide⟩ (⟨_, rfl⟩) rfl rfl (fun g hB hC => ?_)
  refine hB bX10_error_0 _ _ _ _ _ _ _ kX10_error_0 ?_
  dsimp only [bX10_error_0, kx_wp, kx_step, kx_lI, kx_lL, kx_lA, kx_gl, kx_pI, kx_pL, kx_pR, kx_pA, kx_pV, kx_s1, kx_s2, kx_sl, kx_pre, kx_c2, kx_pl, kx_cmp, kx_oF, kx_eqN, kx_nil, kx_c1, kx_ft, kx_aI, kx_aL, kx_aR, kx_ln, Nat.reduceAdd, Option.toList, List.cons_append, List.nil_append, cf10_0, cf0_0]
  repeat (simp only [h64, hA, h0, ks_eq, ks_ss]; try dsimp only [kx_wp, kx_step, kx_lI, kx_lL, kx_lA, kx_gl, kx_pI, kx_pL, kx_pR, kx_pA, kx_pV, kx_s1, kx_s2, kx_sl, kx_pre, kx_c2, kx_pl, kx_cmp, kx_oF, kx_eqN, kx_nil, kx_c1, kx_ft, kx_aI, kx_aL, kx_aR, kx_ln, Nat.reduceAdd, Option.toList, List.cons_append, List.nil_append, cf10_0, cf0_0])
  repeat' apply And.intro
  all_goals try (first | with_reducible assumption | (with_reducible refine ck_nzI ?_; simp; done) | (with_reducible refine ck_nzL ?_; simp; done) | (with_reducible refine vp_in_nI ?_ ?_ <;> first | omega | decide) | (with_reducible refine Nat.le_of_ble_eq_true ?_; rfl) | omega | exact Or.inl trivial | exact Or.inr trivial | exact Or.inl rfl | exact Or.inr rfl)
  refine hC.1 138 _ _ _ _ _ _ _ 10 _ _ _ _ _ _ _ _ _ _ _ _ lX10_138 (ct_X10_theClock l G h64 h69 h7 hcl hc) ⟨by decide, rfl⟩ (h64) rfl rfl (Nat.le_of_ble_eq_true rfl) (by first | decide | omega) (by decide) (by omega) (by omega) dX10_error_2 ?_
  refine hB bX10_error_5 _ _ _ _ _ _ _ kX10_error_5 ?_
  dsimp only [bX10_error_5, kx_wp, kx_step, kx_lI, kx_lL, kx_lA, kx_gl, kx_pI, kx_pL, kx_pR, kx_pA, kx_pV, kx_s1, kx_s2, kx_sl, kx_pre, kx_c2, kx_pl, kx_cmp, kx_oF, kx_eqN, kx_nil, kx_c1, kx_ft, kx_aI, kx_aL, kx_aR, kx_ln, Nat.reduceAdd, Option.toList, List.cons_append, List.nil_append, cf10_0, cf0_0]
  repeat (simp only [h64, hA, h0, ks_eq, ks_ss]; try dsimp only [kx_wp, kx_step, kx_lI, kx_lL, kx_lA, kx_gl, kx_pI, kx_pL, kx_pR, kx_pA, kx_pV, kx_s1, kx_s2, kx_sl, kx_pre, kx_c2, kx_pl, kx_cmp, kx_oF, kx_eqN, kx_nil, kx_c1, kx_ft, kx_aI, kx_aL, kx_aR, kx_ln, Nat.reduceAdd, Option.toList, List.cons_append, List.nil_append, cf10_0, cf0_0])
  repeat' apply And.intro
  all_goals try (first | with_reducible assumption | (with_reducible refine ck_nzI ?_; simp; done) | (with_reducible refine ck_nzL ?_; simp; done) | (with_reducible refine vp_in_nI ?_ ?_ <;> first | omega | decide) | (with_reducible refine Nat.le_of_ble_eq_true ?_; rfl) | omega | exact Or.inl trivial | exact Or.inr trivial | exact Or.inl rfl | exact Or.inr rfl)
  refine hC.1 146 _ _ _ _ _ _ _ 1 _ _ _ _ _ _ _ _ _ _ _ _ lX10_146 (ct_X1_errorIn l G ha hq hmi) ⟨by decide, rfl⟩ (hq) rfl rfl (Nat.le_of_ble_eq_true rfl) (by first | decide | omega) (by decide) (by omega) (by omega) dX10_error_12 ?_
  refine hB bX10_error_15 _ _ _ _ _ _ _ kX10_error_15 ?_
  dsimp only [bX10_error_15, kx_wp, kx_step, kx_lI, kx_lL, kx_lA, kx_gl, kx_pI, kx_pL, kx_pR, kx_pA, kx_pV, kx_s1, kx_s2, kx_sl, kx_pre, kx_c2, kx_pl, kx_cmp, kx_oF, kx_eqN, kx_nil, kx_c1, kx_ft, kx_aI, kx_aL, kx_aR, kx_ln, Nat.reduceAdd, Option.toList, List.cons_append, List.nil_append, cf10_0, cf0_0]
  repeat (simp only [h64, hA, h0, ks_eq, ks_ss]; try dsimp only [kx_wp, kx_step, kx_lI, kx_lL, kx_lA, kx_gl, kx_pI, kx_pL, kx_pR, kx_pA, kx_pV, kx_s1, kx_s2, kx_sl, kx_pre, kx_c2, kx_pl, kx_cmp, kx_oF, kx_eqN, kx_nil, kx_c1, kx_ft, kx_aI, kx_aL, kx_aR, kx_ln, Nat.reduceAdd, Option.toList, List.cons_append, List.nil_append, cf10_0, cf0_0])
  all_goals (repeat' apply And.intro)
  all_goals ((try clear hB hC); first | exact True.intro | with_reducible rfl | with_reducible assumption | (with_reducible refine vp_in_nI ?_ ?_ <;> first | omega | decide) | exact Nat.le_of_ble_eq_true rfl | (with_reducible refine ck_nzI ?_; simp; done) | (with_reducible refine ck_nzL ?_; simp; done) | (simp only [pk_us, pk_uLs, ↓reduceIte, not_true_eq_false, not_false_eq_true]; done) | (simp only [↓reduceIte, not_true_eq_false, not_false_eq_true]; with_reducible rfl) | omega | skip)

set_option maxRecDepth 100000 in
set_option maxHeartbeats 4000000 in
theorem ct_X10_error_f (l : Launch) (G : kx_G) (hst : l.stackTraces = false) {P : kx_P} {sz : Nat} {sv : Value} {K : Nat → Int32} (h64 : P 64 = kO 10 (kf (cr10 sv) K)) {x : Int32} (hx : x < 0 ∨ K 7 ≤ x)  : kx_X l G sX10_error 7 [.ref 64, .int (x)] P sz "java/util/NoSuchElementException" := by
  refine kx_mkx hst kx_tab kxLok_X10 [some (.ref 64), some (.int (x))] ⟨by decide, rfl, by decide⟩ rfl rfl (fun g hB hC hX hT => ?_)
  refine hB bX10_error_0 _ _ _ _ _ _ _ kX10_error_0 ?_
  dsimp only [bX10_error_0, kx_wp, kx_step, kx_lI, kx_lL, kx_lA, kx_gl, kx_pI, kx_pL, kx_pR, kx_pA, kx_pV, kx_s1, kx_s2, kx_sl, kx_pre, kx_c2, kx_pl, kx_cmp, kx_oF, kx_eqN, kx_nil, kx_c1, kx_ft, kx_aI, kx_aL, kx_aR, kx_ln, Nat.reduceAdd, Option.toList, List.cons_append, List.nil_append, cf10_0, cf0_0]
  repeat (simp only [ks_eq, ks_ss]; try dsimp only [kx_wp, kx_step, kx_lI, kx_lL, kx_lA, kx_gl, kx_pI, kx_pL, kx_pR, kx_pA, kx_pV, kx_s1, kx_s2, kx_sl, kx_pre, kx_c2, kx_pl, kx_cmp, kx_oF, kx_eqN, kx_nil, kx_c1, kx_ft, kx_aI, kx_aL, kx_aR, kx_ln, Nat.reduceAdd, Option.toList, List.cons_append, List.nil_append, cf10_0, cf0_0])
  repeat' apply And.intro
  all_goals try (first | with_reducible assumption | (with_reducible refine ck_nzI ?_; simp; done) | (with_reducible refine ck_nzL ?_; simp; done) | (with_reducible refine vp_in_nI ?_ ?_ <;> first | omega | decide) | (with_reducible refine Nat.le_of_ble_eq_true ?_; rfl) | omega | exact Or.inl trivial | exact Or.inr trivial | exact Or.inl rfl | exact Or.inr rfl)
  exact hX.1 138 _ _ _ _ _ 10 _ _ _ _ _ lX10_138 (ct_X10_theClock_x l G hst h64 hx) ⟨by decide, rfl⟩ (h64) rfl rfl (Nat.le_of_ble_eq_true rfl) (by first | decide | omega) (by decide) dX10_error_2

def bX10_rate_0 : List kx_O := [(.aload_n 0, 0, 0, 0, .null), (.iload_n 1, 1, 0, 0, .null)]
theorem kX10_rate_0 : kx_oks kxL_X10 false cX10_rate 0 bX10_rate_0 = true := by decide +kernel
def bX10_rate_5 : List kx_O := [(.aload_n 0, 0, 0, 0, .null), (.getfield 12, 10, 0, 0, .null), (.aload_n 0, 0, 0, 0, .null), (.getfield 12, 10, 0, 0, .null), (.getfield 129, 0, 0, 0, .null)]
theorem kX10_rate_5 : kx_oks kxL_X10 false cX10_rate 5 bX10_rate_5 = true := by decide +kernel
def bX10_rate_19 : List kx_O := [(.ireturn, 0, 0, 0, .null)]
theorem kX10_rate_19 : kx_oks kxL_X10 false cX10_rate 19 bX10_rate_19 = true := by decide +kernel
theorem dX10_rate_2 : decode cX10_rate 2 = .ok (.invokevirtual 138, 3) := by decide +kernel
theorem dX10_rate_16 : decode cX10_rate 16 = .ok (.invokevirtual 149, 3) := by decide +kernel
set_option maxRecDepth 100000 in
set_option maxHeartbeats 4000000 in
theorem ct_X10_rate_t (l : Launch) (G : kx_G) {P : kx_P} {sz : Nat} {sv : Value} {K : Nat → Int32} (h64 : P 64 = kO 10 (kf (cr10 sv) K)) {cl : Nat} {cn : Nat → Nat} (h69 : P 69 = kR 8 (fun i => if i < cl then some (cn i) else none)) (h7 : K 7 = nI cl) (hcl : cl ≤ 8) {c : Nat} (hc : c < cl) {w : Nat} {V T Q Fo St Al Wm S C : Nat → Int32} {d : Int64} {h : Value} (H : cx_R P (cn c) w V T Q Fo St Al Wm) (hs : P (w + 5) = kI 0 64 S) (hq : P (cn c) = kO 1 (kf (cr1 (.ref w) d h) C)) {mi : Nat} (h0 : Al 0 = nI mi) (hmi : mi ≤ 100000)  : kx_M l G sX10_rate 4 0 0 [.ref 64, .int (nI c)] P sz (some (.int (cx_rt V C Al Wm mi))) P sz := by
  have hPW : cW P (cn c) w S d h C = P := by unfold cW; rw [ks_id hs, ks_id hq]
  have hm9 := ct_X1_rateIn l G (sz := sz) H (S := S) (C := C) (d := d) (h := h) hmi
  rw [hPW] at hm9
  have hA : P 65 = kO 0 (kf cr0 Al) := H.2.2.2.2.2.2.2.2.2.2.1
  refine kx_mk kx_tab kxLok_X10 (ini := false) [some (.ref 64), some (.int (nI c))] ⟨by decide, rfl, by decide, by decide⟩ (⟨_, rfl⟩) rfl rfl (fun g hB hC => ?_)
  refine hB bX10_rate_0 _ _ _ _ _ _ _ kX10_rate_0 ?_
  dsimp only [bX10_rate_0, kx_wp, kx_step, kx_lI, kx_lL, kx_lA, kx_gl, kx_pI, kx_pL, kx_pR, kx_pA, kx_pV, kx_s1, kx_s2, kx_sl, kx_pre, kx_c2, kx_pl, kx_cmp, kx_oF, kx_eqN, kx_nil, kx_c1, kx_ft, kx_aI, kx_aL, kx_aR, kx_ln, Nat.reduceAdd, Option.toList, List.cons_append, List.nil_append, cf10_0, cf0_0]
  repeat (simp only [h64, hA, h0, ks_eq, ks_ss]; try dsimp only [kx_wp, kx_step, kx_lI, kx_lL, kx_lA, kx_gl, kx_pI, kx_pL, kx_pR, kx_pA, kx_pV, kx_s1, kx_s2, kx_sl, kx_pre, kx_c2, kx_pl, kx_cmp, kx_oF, kx_eqN, kx_nil, kx_c1, kx_ft, kx_aI, kx_aL, kx_aR, kx_ln, Nat.reduceAdd, Option.toList, List.cons_append, List.nil_append, cf10_0, cf0_0])
  repeat' apply And.intro
  all_goals try (first | with_reducible assumption | (with_reducible refine ck_nzI ?_; simp; done) | (with_reducible refine ck_nzL ?_; simp; done) | (with_reducible refine vp_in_nI ?_ ?_ <;> first | omega | decide) | (with_reducible refine Nat.le_of_ble_eq_true ?_; rfl) | omega | exact Or.inl trivial | exact Or.inr trivial | exact Or.inl rfl | exact Or.inr rfl)
  refine hC.1 138 _ _ _ _ _ _ _ 10 _ _ _ _ _ _ _ _ _ _ _ _ lX10_138 (ct_X10_theClock l G h64 h69 h7 hcl hc) ⟨by decide, rfl⟩ (h64) rfl rfl (Nat.le_of_ble_eq_true rfl) (by first | decide | omega) (by decide) (by omega) (by omega) dX10_rate_2 ?_
  refine hB bX10_rate_5 _ _ _ _ _ _ _ kX10_rate_5 ?_
  dsimp only [bX10_rate_5, kx_wp, kx_step, kx_lI, kx_lL, kx_lA, kx_gl, kx_pI, kx_pL, kx_pR, kx_pA, kx_pV, kx_s1, kx_s2, kx_sl, kx_pre, kx_c2, kx_pl, kx_cmp, kx_oF, kx_eqN, kx_nil, kx_c1, kx_ft, kx_aI, kx_aL, kx_aR, kx_ln, Nat.reduceAdd, Option.toList, List.cons_append, List.nil_append, cf10_0, cf0_0]
  repeat (simp only [h64, hA, h0, ks_eq, ks_ss]; try dsimp only [kx_wp, kx_step, kx_lI, kx_lL, kx_lA, kx_gl, kx_pI, kx_pL, kx_pR, kx_pA, kx_pV, kx_s1, kx_s2, kx_sl, kx_pre, kx_c2, kx_pl, kx_cmp, kx_oF, kx_eqN, kx_nil, kx_c1, kx_ft, kx_aI, kx_aL, kx_aR, kx_ln, Nat.reduceAdd, Option.toList, List.cons_append, List.nil_append, cf10_0, cf0_0])
  repeat' apply And.intro
  all_goals try (first | with_reducible assumption | (with_reducible refine ck_nzI ?_; simp; done) | (with_reducible refine ck_nzL ?_; simp; done) | (with_reducible refine vp_in_nI ?_ ?_ <;> first | omega | decide) | (with_reducible refine Nat.le_of_ble_eq_true ?_; rfl) | omega | exact Or.inl trivial | exact Or.inr trivial | exact Or.inl rfl | exact Or.inr rfl)
  refine hC.1 149 _ _ _ _ _ _ _ 1 _ _ _ _ _ _ _ _ _ _ _ _ lX10_149 (hm9) ⟨by decide, rfl⟩ (hq) rfl rfl (Nat.le_of_ble_eq_true rfl) (by first | decide | omega) (by decide) (by omega) (by omega) dX10_rate_16 ?_
  refine hB bX10_rate_19 _ _ _ _ _ _ _ kX10_rate_19 ?_
  dsimp only [bX10_rate_19, kx_wp, kx_step, kx_lI, kx_lL, kx_lA, kx_gl, kx_pI, kx_pL, kx_pR, kx_pA, kx_pV, kx_s1, kx_s2, kx_sl, kx_pre, kx_c2, kx_pl, kx_cmp, kx_oF, kx_eqN, kx_nil, kx_c1, kx_ft, kx_aI, kx_aL, kx_aR, kx_ln, Nat.reduceAdd, Option.toList, List.cons_append, List.nil_append, cf10_0, cf0_0]
  repeat (simp only [h64, hA, h0, ks_eq, ks_ss]; try dsimp only [kx_wp, kx_step, kx_lI, kx_lL, kx_lA, kx_gl, kx_pI, kx_pL, kx_pR, kx_pA, kx_pV, kx_s1, kx_s2, kx_sl, kx_pre, kx_c2, kx_pl, kx_cmp, kx_oF, kx_eqN, kx_nil, kx_c1, kx_ft, kx_aI, kx_aL, kx_aR, kx_ln, Nat.reduceAdd, Option.toList, List.cons_append, List.nil_append, cf10_0, cf0_0])
  all_goals (repeat' apply And.intro)
  all_goals ((try clear hB hC); first | exact True.intro | with_reducible rfl | with_reducible assumption | (with_reducible refine vp_in_nI ?_ ?_ <;> first | omega | decide) | exact Nat.le_of_ble_eq_true rfl | (with_reducible refine ck_nzI ?_; simp; done) | (with_reducible refine ck_nzL ?_; simp; done) | (simp only [pk_us, pk_uLs, ↓reduceIte, not_true_eq_false, not_false_eq_true]; done) | (simp only [↓reduceIte, not_true_eq_false, not_false_eq_true]; with_reducible rfl) | omega | skip)

set_option maxRecDepth 100000 in
set_option maxHeartbeats 4000000 in
theorem ct_X10_rate_f (l : Launch) (G : kx_G) (hst : l.stackTraces = false) {P : kx_P} {sz : Nat} {sv : Value} {K : Nat → Int32} (h64 : P 64 = kO 10 (kf (cr10 sv) K)) {x : Int32} (hx : x < 0 ∨ K 7 ≤ x)  : kx_X l G sX10_rate 7 [.ref 64, .int (x)] P sz "java/util/NoSuchElementException" := by
  refine kx_mkx hst kx_tab kxLok_X10 [some (.ref 64), some (.int (x))] ⟨by decide, rfl, by decide⟩ rfl rfl (fun g hB hC hX hT => ?_)
  refine hB bX10_rate_0 _ _ _ _ _ _ _ kX10_rate_0 ?_
  dsimp only [bX10_rate_0, kx_wp, kx_step, kx_lI, kx_lL, kx_lA, kx_gl, kx_pI, kx_pL, kx_pR, kx_pA, kx_pV, kx_s1, kx_s2, kx_sl, kx_pre, kx_c2, kx_pl, kx_cmp, kx_oF, kx_eqN, kx_nil, kx_c1, kx_ft, kx_aI, kx_aL, kx_aR, kx_ln, Nat.reduceAdd, Option.toList, List.cons_append, List.nil_append, cf10_0, cf0_0]
  repeat (simp only [ks_eq, ks_ss]; try dsimp only [kx_wp, kx_step, kx_lI, kx_lL, kx_lA, kx_gl, kx_pI, kx_pL, kx_pR, kx_pA, kx_pV, kx_s1, kx_s2, kx_sl, kx_pre, kx_c2, kx_pl, kx_cmp, kx_oF, kx_eqN, kx_nil, kx_c1, kx_ft, kx_aI, kx_aL, kx_aR, kx_ln, Nat.reduceAdd, Option.toList, List.cons_append, List.nil_append, cf10_0, cf0_0])
  repeat' apply And.intro
  all_goals try (first | with_reducible assumption | (with_reducible refine ck_nzI ?_; simp; done) | (with_reducible refine ck_nzL ?_; simp; done) | (with_reducible refine vp_in_nI ?_ ?_ <;> first | omega | decide) | (with_reducible refine Nat.le_of_ble_eq_true ?_; rfl) | omega | exact Or.inl trivial | exact Or.inr trivial | exact Or.inl rfl | exact Or.inr rfl)
  exact hX.1 138 _ _ _ _ _ 10 _ _ _ _ _ lX10_138 (ct_X10_theClock_x l G hst h64 hx) ⟨by decide, rfl⟩ (h64) rfl rfl (Nat.le_of_ble_eq_true rfl) (by first | decide | omega) (by decide) dX10_rate_2

def bX10_oil_0 : List kx_O := [(.aload_n 0, 0, 0, 0, .null), (.iload_n 1, 1, 0, 0, .null)]
theorem kX10_oil_0 : kx_oks kxL_X10 false cX10_oil 0 bX10_oil_0 = true := by decide +kernel
def bX10_oil_5 : List kx_O := [(.astore_n 2, 2, 0, 0, .null), (.aload_n 0, 0, 0, 0, .null), (.getfield 12, 10, 0, 0, .null)]
theorem kX10_oil_5 : kx_oks kxL_X10 false cX10_oil 5 bX10_oil_5 = true := by decide +kernel
def bX10_oil_13 : List kx_O := [(.aload_n 2, 2, 0, 0, .null), (.getfield 194, 1, 10, 0, .null), (.isub, 0, 0, 0, .null), (.istore_n 3, 3, 0, 0, .null), (.aload_n 2, 2, 0, 0, .null), (.aload_n 0, 0, 0, 0, .null), (.getfield 12, 10, 0, 0, .null)]
theorem kX10_oil_13 : kx_oks kxL_X10 false cX10_oil 13 bX10_oil_13 = true := by decide +kernel
def bX10_oil_27 : List kx_O := [(.putfield 194, 1, 10, 0, .null), (.iload_n 3, 3, 0, 0, .null), (.ireturn, 0, 0, 0, .null)]
theorem kX10_oil_27 : kx_oks kxL_X10 false cX10_oil 27 bX10_oil_27 = true := by decide +kernel
theorem dX10_oil_2 : decode cX10_oil 2 = .ok (.invokevirtual 138, 3) := by decide +kernel
theorem dX10_oil_10 : decode cX10_oil 10 = .ok (.invokevirtual 191, 3) := by decide +kernel
theorem dX10_oil_24 : decode cX10_oil 24 = .ok (.invokevirtual 191, 3) := by decide +kernel
set_option maxRecDepth 100000 in
set_option maxHeartbeats 4000000 in
theorem ct_X10_oil_t (l : Launch) (G : kx_G) {P : kx_P} {sz : Nat} {sv : Value} {K : Nat → Int32} (h64 : P 64 = kO 10 (kf (cr10 sv) K)) {cl : Nat} {cn : Nat → Nat} (h69 : P 69 = kR 8 (fun i => if i < cl then some (cn i) else none)) (h7 : K 7 = nI cl) (hcl : cl ≤ 8) {c : Nat} (hc : c < cl) {Al : Nat → Int32} (hA : P 65 = kO 0 (kf cr0 Al)) {C : Nat → Int32} {wv hv : Value} {d : Int64} (hq : P (cn c) = kO 1 (kf (cr1 wv d hv) C)) (hcn : ¬ cn c = 65) (h64c : 64 ≤ cn c)  : kx_M l G sX10_oil 3 0 0 [.ref 64, .int (nI c)] P sz (some (.int (Al 0 / 1440 - C 10))) (kx_set P (cn c) (kO 1 (kf (cr1 wv d hv) (upd C 10 (Al 0 / 1440))))) sz := by
  refine kx_mk kx_tab kxLok_X10 (ini := false) [some (.ref 64), some (.int (nI c)), none, none] ⟨by decide, rfl, by decide, by decide⟩ (⟨_, rfl⟩) rfl rfl (fun g hB hC => ?_)
  refine hB bX10_oil_0 _ _ _ _ _ _ _ kX10_oil_0 ?_
  dsimp only [bX10_oil_0, kx_wp, kx_step, kx_lI, kx_lL, kx_lA, kx_gl, kx_pI, kx_pL, kx_pR, kx_pA, kx_pV, kx_s1, kx_s2, kx_sl, kx_pre, kx_c2, kx_pl, kx_cmp, kx_oF, kx_eqN, kx_nil, kx_c1, kx_ft, kx_aI, kx_aL, kx_aR, kx_ln, Nat.reduceAdd, Option.toList, List.cons_append, List.nil_append, cf10_0, cf1_10]
  repeat (simp only [h64, hA, hq, cp1_10, ks_eq, ks_ss]; try dsimp only [kx_wp, kx_step, kx_lI, kx_lL, kx_lA, kx_gl, kx_pI, kx_pL, kx_pR, kx_pA, kx_pV, kx_s1, kx_s2, kx_sl, kx_pre, kx_c2, kx_pl, kx_cmp, kx_oF, kx_eqN, kx_nil, kx_c1, kx_ft, kx_aI, kx_aL, kx_aR, kx_ln, Nat.reduceAdd, Option.toList, List.cons_append, List.nil_append, cf10_0, cf1_10])
  repeat' apply And.intro
  all_goals try (first | with_reducible assumption | (with_reducible refine ck_nzI ?_; simp; done) | (with_reducible refine ck_nzL ?_; simp; done) | (with_reducible refine vp_in_nI ?_ ?_ <;> first | omega | decide) | (with_reducible refine Nat.le_of_ble_eq_true ?_; rfl) | omega | exact Or.inl trivial | exact Or.inr trivial | exact Or.inl rfl | exact Or.inr rfl)
  refine hC.1 138 _ _ _ _ _ _ _ 10 _ _ _ _ _ _ _ _ _ _ _ _ lX10_138 (ct_X10_theClock l G h64 h69 h7 hcl hc) ⟨by decide, rfl⟩ (h64) rfl rfl (Nat.le_of_ble_eq_true rfl) (by first | decide | omega) (by decide) (by omega) (by omega) dX10_oil_2 ?_
  refine hB bX10_oil_5 _ _ _ _ _ _ _ kX10_oil_5 ?_
  dsimp only [bX10_oil_5, kx_wp, kx_step, kx_lI, kx_lL, kx_lA, kx_gl, kx_pI, kx_pL, kx_pR, kx_pA, kx_pV, kx_s1, kx_s2, kx_sl, kx_pre, kx_c2, kx_pl, kx_cmp, kx_oF, kx_eqN, kx_nil, kx_c1, kx_ft, kx_aI, kx_aL, kx_aR, kx_ln, Nat.reduceAdd, Option.toList, List.cons_append, List.nil_append, cf10_0, cf1_10]
  repeat (simp only [h64, hA, hq, cp1_10, ks_eq, ks_ss]; try dsimp only [kx_wp, kx_step, kx_lI, kx_lL, kx_lA, kx_gl, kx_pI, kx_pL, kx_pR, kx_pA, kx_pV, kx_s1, kx_s2, kx_sl, kx_pre, kx_c2, kx_pl, kx_cmp, kx_oF, kx_eqN, kx_nil, kx_c1, kx_ft, kx_aI, kx_aL, kx_aR, kx_ln, Nat.reduceAdd, Option.toList, List.cons_append, List.nil_append, cf10_0, cf1_10])
  repeat' apply And.intro
  all_goals try (first | with_reducible assumption | (with_reducible refine ck_nzI ?_; simp; done) | (with_reducible refine ck_nzL ?_; simp; done) | (with_reducible refine vp_in_nI ?_ ?_ <;> first | omega | decide) | (with_reducible refine Nat.le_of_ble_eq_true ?_; rfl) | omega | exact Or.inl trivial | exact Or.inr trivial | exact Or.inl rfl | exact Or.inr rfl)
  refine hC.1 191 _ _ _ _ _ _ _ 0 _ _ _ _ _ _ _ _ _ _ _ _ lX10_191 (ct_X0_today l G hA) ⟨by decide, rfl⟩ (hA) rfl rfl (Nat.le_of_ble_eq_true rfl) (by first | decide | omega) (by decide) (by omega) (by omega) dX10_oil_10 ?_
  refine hB bX10_oil_13 _ _ _ _ _ _ _ kX10_oil_13 ?_
  dsimp only [bX10_oil_13, kx_wp, kx_step, kx_lI, kx_lL, kx_lA, kx_gl, kx_pI, kx_pL, kx_pR, kx_pA, kx_pV, kx_s1, kx_s2, kx_sl, kx_pre, kx_c2, kx_pl, kx_cmp, kx_oF, kx_eqN, kx_nil, kx_c1, kx_ft, kx_aI, kx_aL, kx_aR, kx_ln, Nat.reduceAdd, Option.toList, List.cons_append, List.nil_append, cf10_0, cf1_10]
  repeat (simp only [h64, hA, hq, cp1_10, ks_eq, ks_ss]; try dsimp only [kx_wp, kx_step, kx_lI, kx_lL, kx_lA, kx_gl, kx_pI, kx_pL, kx_pR, kx_pA, kx_pV, kx_s1, kx_s2, kx_sl, kx_pre, kx_c2, kx_pl, kx_cmp, kx_oF, kx_eqN, kx_nil, kx_c1, kx_ft, kx_aI, kx_aL, kx_aR, kx_ln, Nat.reduceAdd, Option.toList, List.cons_append, List.nil_append, cf10_0, cf1_10])
  repeat' apply And.intro
  all_goals try (first | with_reducible assumption | (with_reducible refine ck_nzI ?_; simp; done) | (with_reducible refine ck_nzL ?_; simp; done) | (with_reducible refine vp_in_nI ?_ ?_ <;> first | omega | decide) | (with_reducible refine Nat.le_of_ble_eq_true ?_; rfl) | omega | exact Or.inl trivial | exact Or.inr trivial | exact Or.inl rfl | exact Or.inr rfl)
  refine hC.1 191 _ _ _ _ _ _ _ 0 _ _ _ _ _ _ _ _ _ _ _ _ lX10_191 (ct_X0_today l G hA) ⟨by decide, rfl⟩ (hA) rfl rfl (Nat.le_of_ble_eq_true rfl) (by first | decide | omega) (by decide) (by omega) (by omega) dX10_oil_24 ?_
  refine hB bX10_oil_27 _ _ _ _ _ _ _ kX10_oil_27 ?_
  dsimp only [bX10_oil_27, kx_wp, kx_step, kx_lI, kx_lL, kx_lA, kx_gl, kx_pI, kx_pL, kx_pR, kx_pA, kx_pV, kx_s1, kx_s2, kx_sl, kx_pre, kx_c2, kx_pl, kx_cmp, kx_oF, kx_eqN, kx_nil, kx_c1, kx_ft, kx_aI, kx_aL, kx_aR, kx_ln, Nat.reduceAdd, Option.toList, List.cons_append, List.nil_append, cf10_0, cf1_10]
  repeat (simp only [h64, hA, hq, cp1_10, ks_eq, ks_ss]; try dsimp only [kx_wp, kx_step, kx_lI, kx_lL, kx_lA, kx_gl, kx_pI, kx_pL, kx_pR, kx_pA, kx_pV, kx_s1, kx_s2, kx_sl, kx_pre, kx_c2, kx_pl, kx_cmp, kx_oF, kx_eqN, kx_nil, kx_c1, kx_ft, kx_aI, kx_aL, kx_aR, kx_ln, Nat.reduceAdd, Option.toList, List.cons_append, List.nil_append, cf10_0, cf1_10])
  all_goals (repeat' apply And.intro)
  all_goals ((try clear hB hC); first | exact True.intro | with_reducible rfl | with_reducible assumption | (with_reducible refine vp_in_nI ?_ ?_ <;> first | omega | decide) | exact Nat.le_of_ble_eq_true rfl | (with_reducible refine ck_nzI ?_; simp; done) | (with_reducible refine ck_nzL ?_; simp; done) | (simp only [pk_us, pk_uLs, ↓reduceIte, not_true_eq_false, not_false_eq_true]; done) | (simp only [↓reduceIte, not_true_eq_false, not_false_eq_true]; with_reducible rfl) | omega | skip)

set_option maxRecDepth 100000 in
set_option maxHeartbeats 4000000 in
theorem ct_X10_oil_f (l : Launch) (G : kx_G) (hst : l.stackTraces = false) {P : kx_P} {sz : Nat} {sv : Value} {K : Nat → Int32} (h64 : P 64 = kO 10 (kf (cr10 sv) K)) {x : Int32} (hx : x < 0 ∨ K 7 ≤ x)  : kx_X l G sX10_oil 7 [.ref 64, .int (x)] P sz "java/util/NoSuchElementException" := by
  refine kx_mkx hst kx_tab kxLok_X10 [some (.ref 64), some (.int (x)), none, none] ⟨by decide, rfl, by decide⟩ rfl rfl (fun g hB hC hX hT => ?_)
  refine hB bX10_oil_0 _ _ _ _ _ _ _ kX10_oil_0 ?_
  dsimp only [bX10_oil_0, kx_wp, kx_step, kx_lI, kx_lL, kx_lA, kx_gl, kx_pI, kx_pL, kx_pR, kx_pA, kx_pV, kx_s1, kx_s2, kx_sl, kx_pre, kx_c2, kx_pl, kx_cmp, kx_oF, kx_eqN, kx_nil, kx_c1, kx_ft, kx_aI, kx_aL, kx_aR, kx_ln, Nat.reduceAdd, Option.toList, List.cons_append, List.nil_append, cf10_0, cf1_10]
  repeat (simp only [cp1_10, ks_eq, ks_ss]; try dsimp only [kx_wp, kx_step, kx_lI, kx_lL, kx_lA, kx_gl, kx_pI, kx_pL, kx_pR, kx_pA, kx_pV, kx_s1, kx_s2, kx_sl, kx_pre, kx_c2, kx_pl, kx_cmp, kx_oF, kx_eqN, kx_nil, kx_c1, kx_ft, kx_aI, kx_aL, kx_aR, kx_ln, Nat.reduceAdd, Option.toList, List.cons_append, List.nil_append, cf10_0, cf1_10])
  repeat' apply And.intro
  all_goals try (first | with_reducible assumption | (with_reducible refine ck_nzI ?_; simp; done) | (with_reducible refine ck_nzL ?_; simp; done) | (with_reducible refine vp_in_nI ?_ ?_ <;> first | omega | decide) | (with_reducible refine Nat.le_of_ble_eq_true ?_; rfl) | omega | exact Or.inl trivial | exact Or.inr trivial | exact Or.inl rfl | exact Or.inr rfl)
  exact hX.1 138 _ _ _ _ _ 10 _ _ _ _ _ lX10_138 (ct_X10_theClock_x l G hst h64 hx) ⟨by decide, rfl⟩ (h64) rfl rfl (Nat.le_of_ble_eq_true rfl) (by first | decide | omega) (by decide) dX10_oil_2

def bX10_pennies_0 : List kx_O := [(.aload_n 0, 0, 0, 0, .null), (.iload_n 1, 1, 0, 0, .null)]
theorem kX10_pennies_0 : kx_oks kxL_X10 false cX10_pennies 0 bX10_pennies_0 = true := by decide +kernel
def bX10_pennies_5 : List kx_O := [(.astore_n 3, 3, 0, 0, .null), (.iload_n 2, 2, 0, 0, .null), (.bipush (-20), 0, 0, 0, .int (-20)), (.if_icmp .lt 13, 22, 0, 0, .null)]
theorem kX10_pennies_5 : kx_oks kxL_X10 false cX10_pennies 5 bX10_pennies_5 = true := by decide +kernel
def bX10_pennies_12 : List kx_O := [(.iload_n 2, 2, 0, 0, .null), (.bipush 20, 0, 0, 0, .int 20), (.if_icmp .gt 7, 22, 0, 0, .null)]
theorem kX10_pennies_12 : kx_oks kxL_X10 false cX10_pennies 12 bX10_pennies_12 = true := by decide +kernel
def bX10_pennies_18 : List kx_O := [(.iconst 1, 0, 0, 0, .int 1), (.goto 4, 23, 0, 0, .null)]
theorem kX10_pennies_18 : kx_oks kxL_X10 false cX10_pennies 18 bX10_pennies_18 = true := by decide +kernel
def bX10_pennies_22 : List kx_O := [(.iconst 0, 0, 0, 0, .int 0)]
theorem kX10_pennies_22 : kx_oks kxL_X10 false cX10_pennies 22 bX10_pennies_22 = true := by decide +kernel
def bX10_pennies_26 : List kx_O := [(.aload_n 3, 3, 0, 0, .null), (.getfield 207, 1, 9, 0, .null), (.istore 4, 4, 0, 0, .null), (.aload_n 3, 3, 0, 0, .null), (.iload_n 2, 2, 0, 0, .null), (.putfield 207, 1, 9, 0, .null), (.iload 4, 4, 0, 0, .null), (.ireturn, 0, 0, 0, .null)]
theorem kX10_pennies_26 : kx_oks kxL_X10 false cX10_pennies 26 bX10_pennies_26 = true := by decide +kernel
theorem dX10_pennies_2 : decode cX10_pennies 2 = .ok (.invokevirtual 138, 3) := by decide +kernel
theorem dX10_pennies_23 : decode cX10_pennies 23 = .ok (.invokestatic 95, 3) := by decide +kernel
set_option maxRecDepth 100000 in
set_option maxHeartbeats 4000000 in
theorem ct_X10_pennies_t (l : Launch) (G : kx_G) {P : kx_P} {sz : Nat} {sv : Value} {K : Nat → Int32} (h64 : P 64 = kO 10 (kf (cr10 sv) K)) {cl : Nat} {cn : Nat → Nat} (h69 : P 69 = kR 8 (fun i => if i < cl then some (cn i) else none)) (h7 : K 7 = nI cl) (hcl : cl ≤ 8) {c : Nat} (hc : c < cl) {C : Nat → Int32} {wv hv : Value} {d : Int64} (hq : P (cn c) = kO 1 (kf (cr1 wv d hv) C)) {p : Int32} (h64c : 64 ≤ cn c) (hp1 : -20 ≤ p) (hp2 : p ≤ 20)  : kx_M l G sX10_pennies 3 0 0 [.ref 64, .int (nI c), .int (p)] P sz (some (.int (C 9))) (kx_set P (cn c) (kO 1 (kf (cr1 wv d hv) (upd C 9 p)))) sz := by
  refine kx_mk kx_tab kxLok_X10 (ini := false) [some (.ref 64), some (.int (nI c)), some (.int (p)), none, none] ⟨by decide, rfl, by decide, by decide⟩ (⟨_, rfl⟩) rfl rfl (fun g hB hC => ?_)
  refine hB bX10_pennies_0 _ _ _ _ _ _ _ kX10_pennies_0 ?_
  dsimp only [bX10_pennies_0, kx_wp, kx_step, kx_lI, kx_lL, kx_lA, kx_gl, kx_pI, kx_pL, kx_pR, kx_pA, kx_pV, kx_s1, kx_s2, kx_sl, kx_pre, kx_c2, kx_pl, kx_cmp, kx_oF, kx_eqN, kx_nil, kx_c1, kx_ft, kx_aI, kx_aL, kx_aR, kx_ln, Nat.reduceAdd, Option.toList, List.cons_append, List.nil_append, cf1_9]
  repeat (simp only [h64, hq, cp1_9, ks_eq, ks_ss]; try dsimp only [kx_wp, kx_step, kx_lI, kx_lL, kx_lA, kx_gl, kx_pI, kx_pL, kx_pR, kx_pA, kx_pV, kx_s1, kx_s2, kx_sl, kx_pre, kx_c2, kx_pl, kx_cmp, kx_oF, kx_eqN, kx_nil, kx_c1, kx_ft, kx_aI, kx_aL, kx_aR, kx_ln, Nat.reduceAdd, Option.toList, List.cons_append, List.nil_append, cf1_9])
  repeat' apply And.intro
  all_goals try (first | with_reducible assumption | (with_reducible refine ck_nzI ?_; simp; done) | (with_reducible refine ck_nzL ?_; simp; done) | (with_reducible refine vp_in_nI ?_ ?_ <;> first | omega | decide) | (with_reducible refine Nat.le_of_ble_eq_true ?_; rfl) | omega | exact Or.inl trivial | exact Or.inr trivial | exact Or.inl rfl | exact Or.inr rfl)
  refine hC.1 138 _ _ _ _ _ _ _ 10 _ _ _ _ _ _ _ _ _ _ _ _ lX10_138 (ct_X10_theClock l G h64 h69 h7 hcl hc) ⟨by decide, rfl⟩ (h64) rfl rfl (Nat.le_of_ble_eq_true rfl) (by first | decide | omega) (by decide) (by omega) (by omega) dX10_pennies_2 ?_
  refine hB bX10_pennies_5 _ _ _ _ _ _ _ kX10_pennies_5 ?_
  dsimp only [bX10_pennies_5, kx_wp, kx_step, kx_lI, kx_lL, kx_lA, kx_gl, kx_pI, kx_pL, kx_pR, kx_pA, kx_pV, kx_s1, kx_s2, kx_sl, kx_pre, kx_c2, kx_pl, kx_cmp, kx_oF, kx_eqN, kx_nil, kx_c1, kx_ft, kx_aI, kx_aL, kx_aR, kx_ln, Nat.reduceAdd, Option.toList, List.cons_append, List.nil_append, cf1_9]
  repeat (simp only [h64, hq, cp1_9, ks_eq, ks_ss]; try dsimp only [kx_wp, kx_step, kx_lI, kx_lL, kx_lA, kx_gl, kx_pI, kx_pL, kx_pR, kx_pA, kx_pV, kx_s1, kx_s2, kx_sl, kx_pre, kx_c2, kx_pl, kx_cmp, kx_oF, kx_eqN, kx_nil, kx_c1, kx_ft, kx_aI, kx_aL, kx_aR, kx_ln, Nat.reduceAdd, Option.toList, List.cons_append, List.nil_append, cf1_9])
  repeat' apply And.intro
  all_goals try (first | with_reducible assumption | (with_reducible refine ck_nzI ?_; simp; done) | (with_reducible refine ck_nzL ?_; simp; done) | (with_reducible refine vp_in_nI ?_ ?_ <;> first | omega | decide) | (with_reducible refine Nat.le_of_ble_eq_true ?_; rfl) | omega | exact Or.inl trivial | exact Or.inr trivial | exact Or.inl rfl | exact Or.inr rfl)
  · intro zc9
    first | exact absurd rfl zc9 | exact absurd zc9 (by decide) | exact absurd (by decide) zc9 | (exfalso; first | exact absurd hp1 (Int32.not_le.mpr zc9) | exact absurd hp2 (Int32.not_le.mpr zc15)) | (exfalso; simp_all; done)
  · intro zc9
    with_reducible first | have ze9 := Int32.not_lt.mp zc9 | have ze9 := zc9
    refine hB bX10_pennies_12 _ _ _ _ _ _ _ kX10_pennies_12 ?_
    dsimp only [bX10_pennies_12, kx_wp, kx_step, kx_lI, kx_lL, kx_lA, kx_gl, kx_pI, kx_pL, kx_pR, kx_pA, kx_pV, kx_s1, kx_s2, kx_sl, kx_pre, kx_c2, kx_pl, kx_cmp, kx_oF, kx_eqN, kx_nil, kx_c1, kx_ft, kx_aI, kx_aL, kx_aR, kx_ln, Nat.reduceAdd, Option.toList, List.cons_append, List.nil_append, cf1_9]
    repeat (simp only [h64, hq, cp1_9, ks_eq, ks_ss]; try dsimp only [kx_wp, kx_step, kx_lI, kx_lL, kx_lA, kx_gl, kx_pI, kx_pL, kx_pR, kx_pA, kx_pV, kx_s1, kx_s2, kx_sl, kx_pre, kx_c2, kx_pl, kx_cmp, kx_oF, kx_eqN, kx_nil, kx_c1, kx_ft, kx_aI, kx_aL, kx_aR, kx_ln, Nat.reduceAdd, Option.toList, List.cons_append, List.nil_append, cf1_9])
    repeat' apply And.intro
    all_goals try (first | with_reducible assumption | (with_reducible refine ck_nzI ?_; simp; done) | (with_reducible refine ck_nzL ?_; simp; done) | (with_reducible refine vp_in_nI ?_ ?_ <;> first | omega | decide) | (with_reducible refine Nat.le_of_ble_eq_true ?_; rfl) | omega | exact Or.inl trivial | exact Or.inr trivial | exact Or.inl rfl | exact Or.inr rfl)
    · intro zc15
      first | exact absurd rfl zc15 | exact absurd zc15 (by decide) | exact absurd (by decide) zc15 | (exfalso; first | exact absurd hp1 (Int32.not_le.mpr zc9) | exact absurd hp2 (Int32.not_le.mpr zc15)) | (exfalso; simp_all; done)
    · intro zc15
      with_reducible first | have ze15 := Int32.not_lt.mp zc15 | have ze15 := zc15
      refine hB bX10_pennies_18 _ _ _ _ _ _ _ kX10_pennies_18 ?_
      dsimp only [bX10_pennies_18, kx_wp, kx_step, kx_lI, kx_lL, kx_lA, kx_gl, kx_pI, kx_pL, kx_pR, kx_pA, kx_pV, kx_s1, kx_s2, kx_sl, kx_pre, kx_c2, kx_pl, kx_cmp, kx_oF, kx_eqN, kx_nil, kx_c1, kx_ft, kx_aI, kx_aL, kx_aR, kx_ln, Nat.reduceAdd, Option.toList, List.cons_append, List.nil_append, cf1_9]
      repeat (simp only [h64, hq, cp1_9, ks_eq, ks_ss]; try dsimp only [kx_wp, kx_step, kx_lI, kx_lL, kx_lA, kx_gl, kx_pI, kx_pL, kx_pR, kx_pA, kx_pV, kx_s1, kx_s2, kx_sl, kx_pre, kx_c2, kx_pl, kx_cmp, kx_oF, kx_eqN, kx_nil, kx_c1, kx_ft, kx_aI, kx_aL, kx_aR, kx_ln, Nat.reduceAdd, Option.toList, List.cons_append, List.nil_append, cf1_9])
      repeat' apply And.intro
      all_goals try (first | with_reducible assumption | (with_reducible refine ck_nzI ?_; simp; done) | (with_reducible refine ck_nzL ?_; simp; done) | (with_reducible refine vp_in_nI ?_ ?_ <;> first | omega | decide) | (with_reducible refine Nat.le_of_ble_eq_true ?_; rfl) | omega | exact Or.inl trivial | exact Or.inr trivial | exact Or.inl rfl | exact Or.inr rfl)
      refine hC.2.1 95 _ _ _ _ _ _ _ _ _ _ _ _ _ _ _ _ _ lX10_95 (ct_X10_need l G (b := 1) (by decide)) rfl rfl (Nat.le_of_ble_eq_true rfl) (by first | decide | omega) (by decide) (by omega) (by omega) dX10_pennies_23 ?_
      refine hB bX10_pennies_26 _ _ _ _ _ _ _ kX10_pennies_26 ?_
      dsimp only [bX10_pennies_26, kx_wp, kx_step, kx_lI, kx_lL, kx_lA, kx_gl, kx_pI, kx_pL, kx_pR, kx_pA, kx_pV, kx_s1, kx_s2, kx_sl, kx_pre, kx_c2, kx_pl, kx_cmp, kx_oF, kx_eqN, kx_nil, kx_c1, kx_ft, kx_aI, kx_aL, kx_aR, kx_ln, Nat.reduceAdd, Option.toList, List.cons_append, List.nil_append, cf1_9]
      repeat (simp only [h64, hq, cp1_9, ks_eq, ks_ss]; try dsimp only [kx_wp, kx_step, kx_lI, kx_lL, kx_lA, kx_gl, kx_pI, kx_pL, kx_pR, kx_pA, kx_pV, kx_s1, kx_s2, kx_sl, kx_pre, kx_c2, kx_pl, kx_cmp, kx_oF, kx_eqN, kx_nil, kx_c1, kx_ft, kx_aI, kx_aL, kx_aR, kx_ln, Nat.reduceAdd, Option.toList, List.cons_append, List.nil_append, cf1_9])
      all_goals (repeat' apply And.intro)
      all_goals ((try clear hB hC); first | exact True.intro | with_reducible rfl | with_reducible assumption | (with_reducible refine vp_in_nI ?_ ?_ <;> first | omega | decide) | exact Nat.le_of_ble_eq_true rfl | (with_reducible refine ck_nzI ?_; simp; done) | (with_reducible refine ck_nzL ?_; simp; done) | (simp only [pk_us, pk_uLs, zc9, ze9, zc15, ze15, ↓reduceIte, not_true_eq_false, not_false_eq_true]; done) | (simp only [zc9, ze9, zc15, ze15, ↓reduceIte, not_true_eq_false, not_false_eq_true]; with_reducible rfl) | omega | skip)

set_option maxRecDepth 100000 in
set_option maxHeartbeats 4000000 in
theorem ct_X10_pennies_b (l : Launch) (G : kx_G) (hst : l.stackTraces = false) {P : kx_P} {sz : Nat} {sv : Value} {K : Nat → Int32} (h64 : P 64 = kO 10 (kf (cr10 sv) K)) {cl : Nat} {cn : Nat → Nat} (h69 : P 69 = kR 8 (fun i => if i < cl then some (cn i) else none)) (h7 : K 7 = nI cl) (hcl : cl ≤ 8) {c : Nat} (hc : c < cl) {p : Int32} (hp : ¬ (-20 ≤ p ∧ p ≤ 20))  : kx_X l G sX10_pennies 7 [.ref 64, .int (nI c), .int (p)] P sz "java/lang/IllegalArgumentException" := by
  refine kx_mkx hst kx_tab kxLok_X10 [some (.ref 64), some (.int (nI c)), some (.int (p)), none, none] ⟨by decide, rfl, by decide⟩ rfl rfl (fun g hB hC hX hT => ?_)
  refine hB bX10_pennies_0 _ _ _ _ _ _ _ kX10_pennies_0 ?_
  dsimp only [bX10_pennies_0, kx_wp, kx_step, kx_lI, kx_lL, kx_lA, kx_gl, kx_pI, kx_pL, kx_pR, kx_pA, kx_pV, kx_s1, kx_s2, kx_sl, kx_pre, kx_c2, kx_pl, kx_cmp, kx_oF, kx_eqN, kx_nil, kx_c1, kx_ft, kx_aI, kx_aL, kx_aR, kx_ln, Nat.reduceAdd, Option.toList, List.cons_append, List.nil_append, cf1_9]
  repeat (simp only [h64, cp1_9, ks_eq, ks_ss]; try dsimp only [kx_wp, kx_step, kx_lI, kx_lL, kx_lA, kx_gl, kx_pI, kx_pL, kx_pR, kx_pA, kx_pV, kx_s1, kx_s2, kx_sl, kx_pre, kx_c2, kx_pl, kx_cmp, kx_oF, kx_eqN, kx_nil, kx_c1, kx_ft, kx_aI, kx_aL, kx_aR, kx_ln, Nat.reduceAdd, Option.toList, List.cons_append, List.nil_append, cf1_9])
  repeat' apply And.intro
  all_goals try (first | with_reducible assumption | (with_reducible refine ck_nzI ?_; simp; done) | (with_reducible refine ck_nzL ?_; simp; done) | (with_reducible refine vp_in_nI ?_ ?_ <;> first | omega | decide) | (with_reducible refine Nat.le_of_ble_eq_true ?_; rfl) | omega | exact Or.inl trivial | exact Or.inr trivial | exact Or.inl rfl | exact Or.inr rfl)
  refine hC.1 138 _ _ _ _ _ _ _ 10 _ _ _ _ _ _ _ _ _ _ _ _ lX10_138 (ct_X10_theClock l G h64 h69 h7 hcl hc) ⟨by decide, rfl⟩ (h64) rfl rfl (Nat.le_of_ble_eq_true rfl) (by first | decide | omega) (by decide) (by omega) (by omega) dX10_pennies_2 ?_
  refine hB bX10_pennies_5 _ _ _ _ _ _ _ kX10_pennies_5 ?_
  dsimp only [bX10_pennies_5, kx_wp, kx_step, kx_lI, kx_lL, kx_lA, kx_gl, kx_pI, kx_pL, kx_pR, kx_pA, kx_pV, kx_s1, kx_s2, kx_sl, kx_pre, kx_c2, kx_pl, kx_cmp, kx_oF, kx_eqN, kx_nil, kx_c1, kx_ft, kx_aI, kx_aL, kx_aR, kx_ln, Nat.reduceAdd, Option.toList, List.cons_append, List.nil_append, cf1_9]
  repeat (simp only [h64, cp1_9, ks_eq, ks_ss]; try dsimp only [kx_wp, kx_step, kx_lI, kx_lL, kx_lA, kx_gl, kx_pI, kx_pL, kx_pR, kx_pA, kx_pV, kx_s1, kx_s2, kx_sl, kx_pre, kx_c2, kx_pl, kx_cmp, kx_oF, kx_eqN, kx_nil, kx_c1, kx_ft, kx_aI, kx_aL, kx_aR, kx_ln, Nat.reduceAdd, Option.toList, List.cons_append, List.nil_append, cf1_9])
  repeat' apply And.intro
  all_goals try (first | with_reducible assumption | (with_reducible refine ck_nzI ?_; simp; done) | (with_reducible refine ck_nzL ?_; simp; done) | (with_reducible refine vp_in_nI ?_ ?_ <;> first | omega | decide) | (with_reducible refine Nat.le_of_ble_eq_true ?_; rfl) | omega | exact Or.inl trivial | exact Or.inr trivial | exact Or.inl rfl | exact Or.inr rfl)
  · intro zc9
    with_reducible first | have ze9 := Int32.not_le.mpr zc9 | have ze9 := zc9
    refine hB bX10_pennies_22 _ _ _ _ _ _ _ kX10_pennies_22 ?_
    dsimp only [bX10_pennies_22, kx_wp, kx_step, kx_lI, kx_lL, kx_lA, kx_gl, kx_pI, kx_pL, kx_pR, kx_pA, kx_pV, kx_s1, kx_s2, kx_sl, kx_pre, kx_c2, kx_pl, kx_cmp, kx_oF, kx_eqN, kx_nil, kx_c1, kx_ft, kx_aI, kx_aL, kx_aR, kx_ln, Nat.reduceAdd, Option.toList, List.cons_append, List.nil_append, cf1_9]
    repeat (simp only [h64, cp1_9, ks_eq, ks_ss]; try dsimp only [kx_wp, kx_step, kx_lI, kx_lL, kx_lA, kx_gl, kx_pI, kx_pL, kx_pR, kx_pA, kx_pV, kx_s1, kx_s2, kx_sl, kx_pre, kx_c2, kx_pl, kx_cmp, kx_oF, kx_eqN, kx_nil, kx_c1, kx_ft, kx_aI, kx_aL, kx_aR, kx_ln, Nat.reduceAdd, Option.toList, List.cons_append, List.nil_append, cf1_9])
    repeat' apply And.intro
    all_goals try (first | with_reducible assumption | (with_reducible refine ck_nzI ?_; simp; done) | (with_reducible refine ck_nzL ?_; simp; done) | (with_reducible refine vp_in_nI ?_ ?_ <;> first | omega | decide) | (with_reducible refine Nat.le_of_ble_eq_true ?_; rfl) | omega | exact Or.inl trivial | exact Or.inr trivial | exact Or.inl rfl | exact Or.inr rfl)
    exact hX.2 95 _ _ _ _ _ _ _ _ lX10_95 (ct_X10_need_x l G hst) rfl rfl (Nat.le_of_ble_eq_true rfl) (by first | decide | omega) (by decide) dX10_pennies_23
  · intro zc9
    with_reducible first | have ze9 := Int32.not_lt.mp zc9 | have ze9 := zc9
    refine hB bX10_pennies_12 _ _ _ _ _ _ _ kX10_pennies_12 ?_
    dsimp only [bX10_pennies_12, kx_wp, kx_step, kx_lI, kx_lL, kx_lA, kx_gl, kx_pI, kx_pL, kx_pR, kx_pA, kx_pV, kx_s1, kx_s2, kx_sl, kx_pre, kx_c2, kx_pl, kx_cmp, kx_oF, kx_eqN, kx_nil, kx_c1, kx_ft, kx_aI, kx_aL, kx_aR, kx_ln, Nat.reduceAdd, Option.toList, List.cons_append, List.nil_append, cf1_9]
    repeat (simp only [h64, cp1_9, ks_eq, ks_ss]; try dsimp only [kx_wp, kx_step, kx_lI, kx_lL, kx_lA, kx_gl, kx_pI, kx_pL, kx_pR, kx_pA, kx_pV, kx_s1, kx_s2, kx_sl, kx_pre, kx_c2, kx_pl, kx_cmp, kx_oF, kx_eqN, kx_nil, kx_c1, kx_ft, kx_aI, kx_aL, kx_aR, kx_ln, Nat.reduceAdd, Option.toList, List.cons_append, List.nil_append, cf1_9])
    repeat' apply And.intro
    all_goals try (first | with_reducible assumption | (with_reducible refine ck_nzI ?_; simp; done) | (with_reducible refine ck_nzL ?_; simp; done) | (with_reducible refine vp_in_nI ?_ ?_ <;> first | omega | decide) | (with_reducible refine Nat.le_of_ble_eq_true ?_; rfl) | omega | exact Or.inl trivial | exact Or.inr trivial | exact Or.inl rfl | exact Or.inr rfl)
    · intro zc15
      with_reducible first | have ze15 := Int32.not_le.mpr zc15 | have ze15 := zc15
      refine hB bX10_pennies_22 _ _ _ _ _ _ _ kX10_pennies_22 ?_
      dsimp only [bX10_pennies_22, kx_wp, kx_step, kx_lI, kx_lL, kx_lA, kx_gl, kx_pI, kx_pL, kx_pR, kx_pA, kx_pV, kx_s1, kx_s2, kx_sl, kx_pre, kx_c2, kx_pl, kx_cmp, kx_oF, kx_eqN, kx_nil, kx_c1, kx_ft, kx_aI, kx_aL, kx_aR, kx_ln, Nat.reduceAdd, Option.toList, List.cons_append, List.nil_append, cf1_9]
      repeat (simp only [h64, cp1_9, ks_eq, ks_ss]; try dsimp only [kx_wp, kx_step, kx_lI, kx_lL, kx_lA, kx_gl, kx_pI, kx_pL, kx_pR, kx_pA, kx_pV, kx_s1, kx_s2, kx_sl, kx_pre, kx_c2, kx_pl, kx_cmp, kx_oF, kx_eqN, kx_nil, kx_c1, kx_ft, kx_aI, kx_aL, kx_aR, kx_ln, Nat.reduceAdd, Option.toList, List.cons_append, List.nil_append, cf1_9])
      repeat' apply And.intro
      all_goals try (first | with_reducible assumption | (with_reducible refine ck_nzI ?_; simp; done) | (with_reducible refine ck_nzL ?_; simp; done) | (with_reducible refine vp_in_nI ?_ ?_ <;> first | omega | decide) | (with_reducible refine Nat.le_of_ble_eq_true ?_; rfl) | omega | exact Or.inl trivial | exact Or.inr trivial | exact Or.inl rfl | exact Or.inr rfl)
      exact hX.2 95 _ _ _ _ _ _ _ _ lX10_95 (ct_X10_need_x l G hst) rfl rfl (Nat.le_of_ble_eq_true rfl) (by first | decide | omega) (by decide) dX10_pennies_23
    · intro zc15
      with_reducible first | have ze15 := Int32.not_lt.mp zc15 | have ze15 := zc15
      exact absurd ⟨ze9, ze15⟩ hp

set_option maxRecDepth 100000 in
set_option maxHeartbeats 4000000 in
theorem ct_X10_pennies_f (l : Launch) (G : kx_G) (hst : l.stackTraces = false) {P : kx_P} {sz : Nat} {sv : Value} {K : Nat → Int32} (h64 : P 64 = kO 10 (kf (cr10 sv) K)) {p : Int32} {x : Int32} (hx : x < 0 ∨ K 7 ≤ x)  : kx_X l G sX10_pennies 7 [.ref 64, .int (x), .int (p)] P sz "java/util/NoSuchElementException" := by
  refine kx_mkx hst kx_tab kxLok_X10 [some (.ref 64), some (.int (x)), some (.int (p)), none, none] ⟨by decide, rfl, by decide⟩ rfl rfl (fun g hB hC hX hT => ?_)
  refine hB bX10_pennies_0 _ _ _ _ _ _ _ kX10_pennies_0 ?_
  dsimp only [bX10_pennies_0, kx_wp, kx_step, kx_lI, kx_lL, kx_lA, kx_gl, kx_pI, kx_pL, kx_pR, kx_pA, kx_pV, kx_s1, kx_s2, kx_sl, kx_pre, kx_c2, kx_pl, kx_cmp, kx_oF, kx_eqN, kx_nil, kx_c1, kx_ft, kx_aI, kx_aL, kx_aR, kx_ln, Nat.reduceAdd, Option.toList, List.cons_append, List.nil_append, cf1_9]
  repeat (simp only [cp1_9, ks_eq, ks_ss]; try dsimp only [kx_wp, kx_step, kx_lI, kx_lL, kx_lA, kx_gl, kx_pI, kx_pL, kx_pR, kx_pA, kx_pV, kx_s1, kx_s2, kx_sl, kx_pre, kx_c2, kx_pl, kx_cmp, kx_oF, kx_eqN, kx_nil, kx_c1, kx_ft, kx_aI, kx_aL, kx_aR, kx_ln, Nat.reduceAdd, Option.toList, List.cons_append, List.nil_append, cf1_9])
  repeat' apply And.intro
  all_goals try (first | with_reducible assumption | (with_reducible refine ck_nzI ?_; simp; done) | (with_reducible refine ck_nzL ?_; simp; done) | (with_reducible refine vp_in_nI ?_ ?_ <;> first | omega | decide) | (with_reducible refine Nat.le_of_ble_eq_true ?_; rfl) | omega | exact Or.inl trivial | exact Or.inr trivial | exact Or.inl rfl | exact Or.inr rfl)
  exact hX.1 138 _ _ _ _ _ 10 _ _ _ _ _ lX10_138 (ct_X10_theClock_x l G hst h64 hx) ⟨by decide, rfl⟩ (h64) rfl rfl (Nat.le_of_ble_eq_true rfl) (by first | decide | omega) (by decide) dX10_pennies_2


def cx_4 (T : Nat → Int32) (tp : Nat) (v : Int32) : Nat → (Nat → Int32)
  | 0 => T
  | j + 1 => upd (cx_4 T tp v j) (tp + j) ((v.toUInt32 >>> ((nI (24 - 8 * j)).toUInt32 &&& Int32.toUInt32 31)).toInt32 &&& 255)
def bX10_putOnTape_0 : List kx_O := [(.bipush 24, 0, 0, 0, .int 24), (.istore_n 2, 2, 0, 0, .null)]
theorem kX10_putOnTape_0 : kx_oks kxL_X10 false cX10_putOnTape 0 bX10_putOnTape_0 = true := by decide +kernel
def bX10_putOnTape_3 : List kx_O := [(.iload_n 2, 2, 0, 0, .null), (.ifCond .lt 47, 51, 0, 0, .null)]
theorem kX10_putOnTape_3 : kx_oks kxL_X10 false cX10_putOnTape 3 bX10_putOnTape_3 = true := by decide +kernel
def bX10_putOnTape_7 : List kx_O := [(.aload_n 0, 0, 0, 0, .null), (.getfield 20, 10, 2, 0, .null), (.aload_n 0, 0, 0, 0, .null), (.getfield 16, 10, 1, 0, .null), (.arraylength, 0, 0, 0, .null), (.if_icmp .ge 35, 51, 0, 0, .null)]
theorem kX10_putOnTape_7 : kx_oks kxL_X10 false cX10_putOnTape 7 bX10_putOnTape_7 = true := by decide +kernel
def bX10_putOnTape_19 : List kx_O := [(.aload_n 0, 0, 0, 0, .null), (.getfield 16, 10, 1, 0, .null), (.aload_n 0, 0, 0, 0, .null), (.getfield 20, 10, 2, 0, .null), (.iload_n 1, 1, 0, 0, .null), (.iload_n 2, 2, 0, 0, .null), (.iushr, 0, 0, 0, .null), (.sipush 255, 0, 0, 0, .int 255), (.iand, 0, 0, 0, .null), (.iastore, 0, 0, 0, .null), (.aload_n 0, 0, 0, 0, .null), (.dup, 0, 0, 0, .null), (.getfield 20, 10, 2, 0, .null), (.iconst 1, 0, 0, 0, .int 1), (.iadd, 0, 0, 0, .null), (.putfield 20, 10, 2, 0, .null), (.iinc 2 (-8), 2, 0, 0, .int (-8)), (.goto (-45), 3, 0, 0, .null)]
theorem kX10_putOnTape_19 : kx_oks kxL_X10 false cX10_putOnTape 19 bX10_putOnTape_19 = true := by decide +kernel
def bX10_putOnTape_51 : List kx_O := [(.return_, 0, 0, 0, .null)]
theorem kX10_putOnTape_51 : kx_oks kxL_X10 false cX10_putOnTape 51 bX10_putOnTape_51 = true := by decide +kernel
set_option maxRecDepth 100000 in
set_option maxHeartbeats 4000000 in
theorem ct_X10_putOnTape (l : Launch) (G : kx_G) {P : kx_P} {sz : Nat} {sv : Value} {K : Nat → Int32} (h64 : P 64 = kO 10 (kf (cr10 sv) K)) {T : Nat → Int32} (h67 : P 67 = kI 0 400 T) {tp : Nat} (h2 : K 2 = nI tp) (htp : tp + 4 ≤ 400) {v : Int32}  : kx_M l G sX10_putOnTape 2 0 0 [.ref 64, .int (v)] P sz none (kx_set (kx_set P 67 (kI 0 400 (cx_4 T tp v 4))) 64 (kO 10 (kf (cr10 sv) (upd K 2 (nI (tp + 4)))))) sz := by
  have hP0 : (kx_set (kx_set P 67 (kI 0 400 (cx_4 T tp v 0))) 64 (kO 10 (kf (cr10 sv) (upd K 2 (nI (tp + 0)))))) = P := by
    rw [show upd K 2 (nI (tp + 0)) = K from by rw [Nat.add_zero, ← h2]; exact ck_upself, ks_id (P := P) (x := kI 0 400 (cx_4 T tp v 0)) h67, ks_id h64]
  refine kx_mk kx_tab kxLok_X10 (ini := false) [some (.ref 64), some (.int (v)), none] ⟨by decide, rfl, by decide, by decide⟩ (rfl) rfl rfl (fun g hB hC => ?_)
  have s4 : g 3 [some (.ref 64), some (.int v), some (.int (-8))] [] (kx_set (kx_set P 67 (kI 0 400 (cx_4 T tp v 4))) 64 (kO 10 (kf (cr10 sv) (upd K 2 (nI (tp + 4)))))) sz 0 0 := by
    refine hB bX10_putOnTape_3 _ _ _ _ _ _ _ kX10_putOnTape_3 ?_
    dsimp only [bX10_putOnTape_3, kx_wp, kx_step, kx_lI, kx_lL, kx_lA, kx_gl, kx_pI, kx_pL, kx_pR, kx_pA, kx_pV, kx_s1, kx_s2, kx_sl, kx_pre, kx_c2, kx_pl, kx_cmp, kx_oF, kx_eqN, kx_nil, kx_c1, kx_ft, kx_aI, kx_aL, kx_aR, kx_ln, Nat.reduceAdd, Option.toList, List.cons_append, List.nil_append, cf10_2, cf10_1]
    repeat (simp only [cp10_2, ks_eq, ks_ss]; try dsimp only [kx_wp, kx_step, kx_lI, kx_lL, kx_lA, kx_gl, kx_pI, kx_pL, kx_pR, kx_pA, kx_pV, kx_s1, kx_s2, kx_sl, kx_pre, kx_c2, kx_pl, kx_cmp, kx_oF, kx_eqN, kx_nil, kx_c1, kx_ft, kx_aI, kx_aL, kx_aR, kx_ln, Nat.reduceAdd, Option.toList, List.cons_append, List.nil_append, cf10_2, cf10_1])
    repeat' apply And.intro
    all_goals try (first | with_reducible assumption | (with_reducible refine ck_nzI ?_; simp; done) | (with_reducible refine ck_nzL ?_; simp; done) | (with_reducible refine vp_in_nI ?_ ?_ <;> first | omega | decide) | (with_reducible refine Nat.le_of_ble_eq_true ?_; rfl) | omega | exact Or.inl trivial | exact Or.inr trivial | exact Or.inl rfl | exact Or.inr rfl)
    · intro zc4
      with_reducible first | have ze4 := Int32.not_le.mpr zc4 | have ze4 := zc4
      refine hB bX10_putOnTape_51 _ _ _ _ _ _ _ kX10_putOnTape_51 ?_
      dsimp only [bX10_putOnTape_51, kx_wp, kx_step, kx_lI, kx_lL, kx_lA, kx_gl, kx_pI, kx_pL, kx_pR, kx_pA, kx_pV, kx_s1, kx_s2, kx_sl, kx_pre, kx_c2, kx_pl, kx_cmp, kx_oF, kx_eqN, kx_nil, kx_c1, kx_ft, kx_aI, kx_aL, kx_aR, kx_ln, Nat.reduceAdd, Option.toList, List.cons_append, List.nil_append, cf10_2, cf10_1]
      repeat (simp only [cp10_2, ks_eq, ks_ss]; try dsimp only [kx_wp, kx_step, kx_lI, kx_lL, kx_lA, kx_gl, kx_pI, kx_pL, kx_pR, kx_pA, kx_pV, kx_s1, kx_s2, kx_sl, kx_pre, kx_c2, kx_pl, kx_cmp, kx_oF, kx_eqN, kx_nil, kx_c1, kx_ft, kx_aI, kx_aL, kx_aR, kx_ln, Nat.reduceAdd, Option.toList, List.cons_append, List.nil_append, cf10_2, cf10_1])
      all_goals (repeat' apply And.intro)
      all_goals ((try clear hB hC); first | exact True.intro | rfl)
    · intro zc4
      first | exact absurd rfl zc4 | exact absurd zc4 (by decide) | exact absurd (by decide) zc4 | (exfalso; ((try clear hB hC); simp only [ck_lt, ck_le, ck_eq, not_true_eq_false, not_false_eq_true, Int32.reduceToInt, Int32.reduceAdd, Int32.reduceSub, Int32.reduceMul] at * <;> omega)) | (exfalso; simp_all; done)
  have s3 : g 3 [some (.ref 64), some (.int v), some (.int (0))] [] (kx_set (kx_set P 67 (kI 0 400 (cx_4 T tp v 3))) 64 (kO 10 (kf (cr10 sv) (upd K 2 (nI (tp + 3)))))) sz 0 0 := by
    refine hB bX10_putOnTape_3 _ _ _ _ _ _ _ kX10_putOnTape_3 ?_
    dsimp only [bX10_putOnTape_3, kx_wp, kx_step, kx_lI, kx_lL, kx_lA, kx_gl, kx_pI, kx_pL, kx_pR, kx_pA, kx_pV, kx_s1, kx_s2, kx_sl, kx_pre, kx_c2, kx_pl, kx_cmp, kx_oF, kx_eqN, kx_nil, kx_c1, kx_ft, kx_aI, kx_aL, kx_aR, kx_ln, Nat.reduceAdd, Option.toList, List.cons_append, List.nil_append, cf10_2, cf10_1]
    repeat (simp only [cp10_2, ks_eq, ks_ss, ks_n93 (a := 64) (n := 67) (show ¬ (64 : Nat) = 67 by decide), ks_93 (a := 64) (n := 67) (show ¬ (67 : Nat) = 64 by decide), ks_n93 (a := 67) (n := 64) (show ¬ (67 : Nat) = 64 by decide), ks_93 (a := 67) (n := 64) (show ¬ (64 : Nat) = 67 by decide), pk_us, nI_1, nI_add, show (0 : Int32) + (-8) = -8 from by decide, (show (nI (tp + 3)).toNatClampNeg = tp + 3 from nI_clamp (by omega)), kz_uu]; try dsimp only [kx_wp, kx_step, kx_lI, kx_lL, kx_lA, kx_gl, kx_pI, kx_pL, kx_pR, kx_pA, kx_pV, kx_s1, kx_s2, kx_sl, kx_pre, kx_c2, kx_pl, kx_cmp, kx_oF, kx_eqN, kx_nil, kx_c1, kx_ft, kx_aI, kx_aL, kx_aR, kx_ln, Nat.reduceAdd, Option.toList, List.cons_append, List.nil_append, cf10_2, cf10_1])
    repeat' apply And.intro
    all_goals try (first | with_reducible assumption | (with_reducible refine ck_nzI ?_; simp; done) | (with_reducible refine ck_nzL ?_; simp; done) | (with_reducible refine vp_in_nI ?_ ?_ <;> first | omega | decide) | (with_reducible refine Nat.le_of_ble_eq_true ?_; rfl) | omega | exact Or.inl trivial | exact Or.inr trivial | exact Or.inl rfl | exact Or.inr rfl | exact vp_in_nI (by omega) (by decide))
    · intro zc4
      first | exact absurd rfl zc4 | exact absurd zc4 (by decide) | exact absurd (by decide) zc4 | (exfalso; first | exact absurd zc4 (by decide) | exact absurd ((nI_leI (a := 400) (b := tp + 3) (by omega) (by omega)).mp zc16) (by omega)) | (exfalso; simp_all; done)
    · intro zc4
      with_reducible first | have ze4 := Int32.not_lt.mp zc4 | have ze4 := zc4
      refine hB bX10_putOnTape_7 _ _ _ _ _ _ _ kX10_putOnTape_7 ?_
      dsimp only [bX10_putOnTape_7, kx_wp, kx_step, kx_lI, kx_lL, kx_lA, kx_gl, kx_pI, kx_pL, kx_pR, kx_pA, kx_pV, kx_s1, kx_s2, kx_sl, kx_pre, kx_c2, kx_pl, kx_cmp, kx_oF, kx_eqN, kx_nil, kx_c1, kx_ft, kx_aI, kx_aL, kx_aR, kx_ln, Nat.reduceAdd, Option.toList, List.cons_append, List.nil_append, cf10_2, cf10_1]
      repeat (simp only [cp10_2, ks_eq, ks_ss, ks_n93 (a := 64) (n := 67) (show ¬ (64 : Nat) = 67 by decide), ks_93 (a := 64) (n := 67) (show ¬ (67 : Nat) = 64 by decide), ks_n93 (a := 67) (n := 64) (show ¬ (67 : Nat) = 64 by decide), ks_93 (a := 67) (n := 64) (show ¬ (64 : Nat) = 67 by decide), pk_us, nI_1, nI_add, show (0 : Int32) + (-8) = -8 from by decide, (show (nI (tp + 3)).toNatClampNeg = tp + 3 from nI_clamp (by omega)), kz_uu]; try dsimp only [kx_wp, kx_step, kx_lI, kx_lL, kx_lA, kx_gl, kx_pI, kx_pL, kx_pR, kx_pA, kx_pV, kx_s1, kx_s2, kx_sl, kx_pre, kx_c2, kx_pl, kx_cmp, kx_oF, kx_eqN, kx_nil, kx_c1, kx_ft, kx_aI, kx_aL, kx_aR, kx_ln, Nat.reduceAdd, Option.toList, List.cons_append, List.nil_append, cf10_2, cf10_1])
      repeat' apply And.intro
      all_goals try (first | with_reducible assumption | (with_reducible refine ck_nzI ?_; simp; done) | (with_reducible refine ck_nzL ?_; simp; done) | (with_reducible refine vp_in_nI ?_ ?_ <;> first | omega | decide) | (with_reducible refine Nat.le_of_ble_eq_true ?_; rfl) | omega | exact Or.inl trivial | exact Or.inr trivial | exact Or.inl rfl | exact Or.inr rfl | exact vp_in_nI (by omega) (by decide))
      · intro zc16
        first | exact absurd rfl zc16 | exact absurd zc16 (by decide) | exact absurd (by decide) zc16 | (exfalso; first | exact absurd zc4 (by decide) | exact absurd ((nI_leI (a := 400) (b := tp + 3) (by omega) (by omega)).mp zc16) (by omega)) | (exfalso; simp_all; done)
      · intro zc16
        with_reducible first | have ze16 := Int32.not_le.mp zc16 | have ze16 := zc16
        refine hB bX10_putOnTape_19 _ _ _ _ _ _ _ kX10_putOnTape_19 ?_
        dsimp only [bX10_putOnTape_19, kx_wp, kx_step, kx_lI, kx_lL, kx_lA, kx_gl, kx_pI, kx_pL, kx_pR, kx_pA, kx_pV, kx_s1, kx_s2, kx_sl, kx_pre, kx_c2, kx_pl, kx_cmp, kx_oF, kx_eqN, kx_nil, kx_c1, kx_ft, kx_aI, kx_aL, kx_aR, kx_ln, Nat.reduceAdd, Option.toList, List.cons_append, List.nil_append, cf10_2, cf10_1]
        repeat (simp only [cp10_2, ks_eq, ks_ss, ks_n93 (a := 64) (n := 67) (show ¬ (64 : Nat) = 67 by decide), ks_93 (a := 64) (n := 67) (show ¬ (67 : Nat) = 64 by decide), ks_n93 (a := 67) (n := 64) (show ¬ (67 : Nat) = 64 by decide), ks_93 (a := 67) (n := 64) (show ¬ (64 : Nat) = 67 by decide), pk_us, nI_1, nI_add, show (0 : Int32) + (-8) = -8 from by decide, (show (nI (tp + 3)).toNatClampNeg = tp + 3 from nI_clamp (by omega)), kz_uu]; try dsimp only [kx_wp, kx_step, kx_lI, kx_lL, kx_lA, kx_gl, kx_pI, kx_pL, kx_pR, kx_pA, kx_pV, kx_s1, kx_s2, kx_sl, kx_pre, kx_c2, kx_pl, kx_cmp, kx_oF, kx_eqN, kx_nil, kx_c1, kx_ft, kx_aI, kx_aL, kx_aR, kx_ln, Nat.reduceAdd, Option.toList, List.cons_append, List.nil_append, cf10_2, cf10_1])
        repeat' apply And.intro
        all_goals try (first | with_reducible assumption | (with_reducible refine ck_nzI ?_; simp; done) | (with_reducible refine ck_nzL ?_; simp; done) | (with_reducible refine vp_in_nI ?_ ?_ <;> first | omega | decide) | (with_reducible refine Nat.le_of_ble_eq_true ?_; rfl) | omega | exact Or.inl trivial | exact Or.inr trivial | exact Or.inl rfl | exact Or.inr rfl | exact vp_in_nI (by omega) (by decide))
        have hs9 := s4
        rw [show tp + 4 = tp + 3 + 1 from rfl] at hs9
        first | exact hs9 | (rw [cx_4] at hs9; rw [ks_co (a := 67) (b := 64) _ _ (by decide)]; exact hs9) | (rw [cx_4, ks_co (a := 67) (b := 64) _ _ (by decide)] at hs9; exact hs9)
  have s2 : g 3 [some (.ref 64), some (.int v), some (.int (8))] [] (kx_set (kx_set P 67 (kI 0 400 (cx_4 T tp v 2))) 64 (kO 10 (kf (cr10 sv) (upd K 2 (nI (tp + 2)))))) sz 0 0 := by
    refine hB bX10_putOnTape_3 _ _ _ _ _ _ _ kX10_putOnTape_3 ?_
    dsimp only [bX10_putOnTape_3, kx_wp, kx_step, kx_lI, kx_lL, kx_lA, kx_gl, kx_pI, kx_pL, kx_pR, kx_pA, kx_pV, kx_s1, kx_s2, kx_sl, kx_pre, kx_c2, kx_pl, kx_cmp, kx_oF, kx_eqN, kx_nil, kx_c1, kx_ft, kx_aI, kx_aL, kx_aR, kx_ln, Nat.reduceAdd, Option.toList, List.cons_append, List.nil_append, cf10_2, cf10_1]
    repeat (simp only [cp10_2, ks_eq, ks_ss, ks_n93 (a := 64) (n := 67) (show ¬ (64 : Nat) = 67 by decide), ks_93 (a := 64) (n := 67) (show ¬ (67 : Nat) = 64 by decide), ks_n93 (a := 67) (n := 64) (show ¬ (67 : Nat) = 64 by decide), ks_93 (a := 67) (n := 64) (show ¬ (64 : Nat) = 67 by decide), pk_us, nI_1, nI_add, show (8 : Int32) + (-8) = 0 from by decide, (show (nI (tp + 2)).toNatClampNeg = tp + 2 from nI_clamp (by omega)), kz_uu]; try dsimp only [kx_wp, kx_step, kx_lI, kx_lL, kx_lA, kx_gl, kx_pI, kx_pL, kx_pR, kx_pA, kx_pV, kx_s1, kx_s2, kx_sl, kx_pre, kx_c2, kx_pl, kx_cmp, kx_oF, kx_eqN, kx_nil, kx_c1, kx_ft, kx_aI, kx_aL, kx_aR, kx_ln, Nat.reduceAdd, Option.toList, List.cons_append, List.nil_append, cf10_2, cf10_1])
    repeat' apply And.intro
    all_goals try (first | with_reducible assumption | (with_reducible refine ck_nzI ?_; simp; done) | (with_reducible refine ck_nzL ?_; simp; done) | (with_reducible refine vp_in_nI ?_ ?_ <;> first | omega | decide) | (with_reducible refine Nat.le_of_ble_eq_true ?_; rfl) | omega | exact Or.inl trivial | exact Or.inr trivial | exact Or.inl rfl | exact Or.inr rfl | exact vp_in_nI (by omega) (by decide) | exact vp_in_nI (by omega) (by decide))
    · intro zc4
      first | exact absurd rfl zc4 | exact absurd zc4 (by decide) | exact absurd (by decide) zc4 | (exfalso; first | exact absurd zc4 (by decide) | exact absurd ((nI_leI (a := 400) (b := tp + 2) (by omega) (by omega)).mp zc16) (by omega)) | (exfalso; simp_all; done)
    · intro zc4
      with_reducible first | have ze4 := Int32.not_lt.mp zc4 | have ze4 := zc4
      refine hB bX10_putOnTape_7 _ _ _ _ _ _ _ kX10_putOnTape_7 ?_
      dsimp only [bX10_putOnTape_7, kx_wp, kx_step, kx_lI, kx_lL, kx_lA, kx_gl, kx_pI, kx_pL, kx_pR, kx_pA, kx_pV, kx_s1, kx_s2, kx_sl, kx_pre, kx_c2, kx_pl, kx_cmp, kx_oF, kx_eqN, kx_nil, kx_c1, kx_ft, kx_aI, kx_aL, kx_aR, kx_ln, Nat.reduceAdd, Option.toList, List.cons_append, List.nil_append, cf10_2, cf10_1]
      repeat (simp only [cp10_2, ks_eq, ks_ss, ks_n93 (a := 64) (n := 67) (show ¬ (64 : Nat) = 67 by decide), ks_93 (a := 64) (n := 67) (show ¬ (67 : Nat) = 64 by decide), ks_n93 (a := 67) (n := 64) (show ¬ (67 : Nat) = 64 by decide), ks_93 (a := 67) (n := 64) (show ¬ (64 : Nat) = 67 by decide), pk_us, nI_1, nI_add, show (8 : Int32) + (-8) = 0 from by decide, (show (nI (tp + 2)).toNatClampNeg = tp + 2 from nI_clamp (by omega)), kz_uu]; try dsimp only [kx_wp, kx_step, kx_lI, kx_lL, kx_lA, kx_gl, kx_pI, kx_pL, kx_pR, kx_pA, kx_pV, kx_s1, kx_s2, kx_sl, kx_pre, kx_c2, kx_pl, kx_cmp, kx_oF, kx_eqN, kx_nil, kx_c1, kx_ft, kx_aI, kx_aL, kx_aR, kx_ln, Nat.reduceAdd, Option.toList, List.cons_append, List.nil_append, cf10_2, cf10_1])
      repeat' apply And.intro
      all_goals try (first | with_reducible assumption | (with_reducible refine ck_nzI ?_; simp; done) | (with_reducible refine ck_nzL ?_; simp; done) | (with_reducible refine vp_in_nI ?_ ?_ <;> first | omega | decide) | (with_reducible refine Nat.le_of_ble_eq_true ?_; rfl) | omega | exact Or.inl trivial | exact Or.inr trivial | exact Or.inl rfl | exact Or.inr rfl | exact vp_in_nI (by omega) (by decide) | exact vp_in_nI (by omega) (by decide))
      · intro zc16
        first | exact absurd rfl zc16 | exact absurd zc16 (by decide) | exact absurd (by decide) zc16 | (exfalso; first | exact absurd zc4 (by decide) | exact absurd ((nI_leI (a := 400) (b := tp + 2) (by omega) (by omega)).mp zc16) (by omega)) | (exfalso; simp_all; done)
      · intro zc16
        with_reducible first | have ze16 := Int32.not_le.mp zc16 | have ze16 := zc16
        refine hB bX10_putOnTape_19 _ _ _ _ _ _ _ kX10_putOnTape_19 ?_
        dsimp only [bX10_putOnTape_19, kx_wp, kx_step, kx_lI, kx_lL, kx_lA, kx_gl, kx_pI, kx_pL, kx_pR, kx_pA, kx_pV, kx_s1, kx_s2, kx_sl, kx_pre, kx_c2, kx_pl, kx_cmp, kx_oF, kx_eqN, kx_nil, kx_c1, kx_ft, kx_aI, kx_aL, kx_aR, kx_ln, Nat.reduceAdd, Option.toList, List.cons_append, List.nil_append, cf10_2, cf10_1]
        repeat (simp only [cp10_2, ks_eq, ks_ss, ks_n93 (a := 64) (n := 67) (show ¬ (64 : Nat) = 67 by decide), ks_93 (a := 64) (n := 67) (show ¬ (67 : Nat) = 64 by decide), ks_n93 (a := 67) (n := 64) (show ¬ (67 : Nat) = 64 by decide), ks_93 (a := 67) (n := 64) (show ¬ (64 : Nat) = 67 by decide), pk_us, nI_1, nI_add, show (8 : Int32) + (-8) = 0 from by decide, (show (nI (tp + 2)).toNatClampNeg = tp + 2 from nI_clamp (by omega)), kz_uu]; try dsimp only [kx_wp, kx_step, kx_lI, kx_lL, kx_lA, kx_gl, kx_pI, kx_pL, kx_pR, kx_pA, kx_pV, kx_s1, kx_s2, kx_sl, kx_pre, kx_c2, kx_pl, kx_cmp, kx_oF, kx_eqN, kx_nil, kx_c1, kx_ft, kx_aI, kx_aL, kx_aR, kx_ln, Nat.reduceAdd, Option.toList, List.cons_append, List.nil_append, cf10_2, cf10_1])
        repeat' apply And.intro
        all_goals try (first | with_reducible assumption | (with_reducible refine ck_nzI ?_; simp; done) | (with_reducible refine ck_nzL ?_; simp; done) | (with_reducible refine vp_in_nI ?_ ?_ <;> first | omega | decide) | (with_reducible refine Nat.le_of_ble_eq_true ?_; rfl) | omega | exact Or.inl trivial | exact Or.inr trivial | exact Or.inl rfl | exact Or.inr rfl | exact vp_in_nI (by omega) (by decide) | exact vp_in_nI (by omega) (by decide))
        have hs9 := s3
        rw [show tp + 3 = tp + 2 + 1 from rfl] at hs9
        first | exact hs9 | (rw [cx_4] at hs9; rw [ks_co (a := 67) (b := 64) _ _ (by decide)]; exact hs9) | (rw [cx_4, ks_co (a := 67) (b := 64) _ _ (by decide)] at hs9; exact hs9)
  have s1 : g 3 [some (.ref 64), some (.int v), some (.int (16))] [] (kx_set (kx_set P 67 (kI 0 400 (cx_4 T tp v 1))) 64 (kO 10 (kf (cr10 sv) (upd K 2 (nI (tp + 1)))))) sz 0 0 := by
    refine hB bX10_putOnTape_3 _ _ _ _ _ _ _ kX10_putOnTape_3 ?_
    dsimp only [bX10_putOnTape_3, kx_wp, kx_step, kx_lI, kx_lL, kx_lA, kx_gl, kx_pI, kx_pL, kx_pR, kx_pA, kx_pV, kx_s1, kx_s2, kx_sl, kx_pre, kx_c2, kx_pl, kx_cmp, kx_oF, kx_eqN, kx_nil, kx_c1, kx_ft, kx_aI, kx_aL, kx_aR, kx_ln, Nat.reduceAdd, Option.toList, List.cons_append, List.nil_append, cf10_2, cf10_1]
    repeat (simp only [cp10_2, ks_eq, ks_ss, ks_n93 (a := 64) (n := 67) (show ¬ (64 : Nat) = 67 by decide), ks_93 (a := 64) (n := 67) (show ¬ (67 : Nat) = 64 by decide), ks_n93 (a := 67) (n := 64) (show ¬ (67 : Nat) = 64 by decide), ks_93 (a := 67) (n := 64) (show ¬ (64 : Nat) = 67 by decide), pk_us, nI_1, nI_add, show (16 : Int32) + (-8) = 8 from by decide, (show (nI (tp + 1)).toNatClampNeg = tp + 1 from nI_clamp (by omega)), kz_uu]; try dsimp only [kx_wp, kx_step, kx_lI, kx_lL, kx_lA, kx_gl, kx_pI, kx_pL, kx_pR, kx_pA, kx_pV, kx_s1, kx_s2, kx_sl, kx_pre, kx_c2, kx_pl, kx_cmp, kx_oF, kx_eqN, kx_nil, kx_c1, kx_ft, kx_aI, kx_aL, kx_aR, kx_ln, Nat.reduceAdd, Option.toList, List.cons_append, List.nil_append, cf10_2, cf10_1])
    repeat' apply And.intro
    all_goals try (first | with_reducible assumption | (with_reducible refine ck_nzI ?_; simp; done) | (with_reducible refine ck_nzL ?_; simp; done) | (with_reducible refine vp_in_nI ?_ ?_ <;> first | omega | decide) | (with_reducible refine Nat.le_of_ble_eq_true ?_; rfl) | omega | exact Or.inl trivial | exact Or.inr trivial | exact Or.inl rfl | exact Or.inr rfl | exact vp_in_nI (by omega) (by decide) | exact vp_in_nI (by omega) (by decide) | exact vp_in_nI (by omega) (by decide))
    · intro zc4
      first | exact absurd rfl zc4 | exact absurd zc4 (by decide) | exact absurd (by decide) zc4 | (exfalso; first | exact absurd zc4 (by decide) | exact absurd ((nI_leI (a := 400) (b := tp + 1) (by omega) (by omega)).mp zc16) (by omega)) | (exfalso; simp_all; done)
    · intro zc4
      with_reducible first | have ze4 := Int32.not_lt.mp zc4 | have ze4 := zc4
      refine hB bX10_putOnTape_7 _ _ _ _ _ _ _ kX10_putOnTape_7 ?_
      dsimp only [bX10_putOnTape_7, kx_wp, kx_step, kx_lI, kx_lL, kx_lA, kx_gl, kx_pI, kx_pL, kx_pR, kx_pA, kx_pV, kx_s1, kx_s2, kx_sl, kx_pre, kx_c2, kx_pl, kx_cmp, kx_oF, kx_eqN, kx_nil, kx_c1, kx_ft, kx_aI, kx_aL, kx_aR, kx_ln, Nat.reduceAdd, Option.toList, List.cons_append, List.nil_append, cf10_2, cf10_1]
      repeat (simp only [cp10_2, ks_eq, ks_ss, ks_n93 (a := 64) (n := 67) (show ¬ (64 : Nat) = 67 by decide), ks_93 (a := 64) (n := 67) (show ¬ (67 : Nat) = 64 by decide), ks_n93 (a := 67) (n := 64) (show ¬ (67 : Nat) = 64 by decide), ks_93 (a := 67) (n := 64) (show ¬ (64 : Nat) = 67 by decide), pk_us, nI_1, nI_add, show (16 : Int32) + (-8) = 8 from by decide, (show (nI (tp + 1)).toNatClampNeg = tp + 1 from nI_clamp (by omega)), kz_uu]; try dsimp only [kx_wp, kx_step, kx_lI, kx_lL, kx_lA, kx_gl, kx_pI, kx_pL, kx_pR, kx_pA, kx_pV, kx_s1, kx_s2, kx_sl, kx_pre, kx_c2, kx_pl, kx_cmp, kx_oF, kx_eqN, kx_nil, kx_c1, kx_ft, kx_aI, kx_aL, kx_aR, kx_ln, Nat.reduceAdd, Option.toList, List.cons_append, List.nil_append, cf10_2, cf10_1])
      repeat' apply And.intro
      all_goals try (first | with_reducible assumption | (with_reducible refine ck_nzI ?_; simp; done) | (with_reducible refine ck_nzL ?_; simp; done) | (with_reducible refine vp_in_nI ?_ ?_ <;> first | omega | decide) | (with_reducible refine Nat.le_of_ble_eq_true ?_; rfl) | omega | exact Or.inl trivial | exact Or.inr trivial | exact Or.inl rfl | exact Or.inr rfl | exact vp_in_nI (by omega) (by decide) | exact vp_in_nI (by omega) (by decide) | exact vp_in_nI (by omega) (by decide))
      · intro zc16
        first | exact absurd rfl zc16 | exact absurd zc16 (by decide) | exact absurd (by decide) zc16 | (exfalso; first | exact absurd zc4 (by decide) | exact absurd ((nI_leI (a := 400) (b := tp + 1) (by omega) (by omega)).mp zc16) (by omega)) | (exfalso; simp_all; done)
      · intro zc16
        with_reducible first | have ze16 := Int32.not_le.mp zc16 | have ze16 := zc16
        refine hB bX10_putOnTape_19 _ _ _ _ _ _ _ kX10_putOnTape_19 ?_
        dsimp only [bX10_putOnTape_19, kx_wp, kx_step, kx_lI, kx_lL, kx_lA, kx_gl, kx_pI, kx_pL, kx_pR, kx_pA, kx_pV, kx_s1, kx_s2, kx_sl, kx_pre, kx_c2, kx_pl, kx_cmp, kx_oF, kx_eqN, kx_nil, kx_c1, kx_ft, kx_aI, kx_aL, kx_aR, kx_ln, Nat.reduceAdd, Option.toList, List.cons_append, List.nil_append, cf10_2, cf10_1]
        repeat (simp only [cp10_2, ks_eq, ks_ss, ks_n93 (a := 64) (n := 67) (show ¬ (64 : Nat) = 67 by decide), ks_93 (a := 64) (n := 67) (show ¬ (67 : Nat) = 64 by decide), ks_n93 (a := 67) (n := 64) (show ¬ (67 : Nat) = 64 by decide), ks_93 (a := 67) (n := 64) (show ¬ (64 : Nat) = 67 by decide), pk_us, nI_1, nI_add, show (16 : Int32) + (-8) = 8 from by decide, (show (nI (tp + 1)).toNatClampNeg = tp + 1 from nI_clamp (by omega)), kz_uu]; try dsimp only [kx_wp, kx_step, kx_lI, kx_lL, kx_lA, kx_gl, kx_pI, kx_pL, kx_pR, kx_pA, kx_pV, kx_s1, kx_s2, kx_sl, kx_pre, kx_c2, kx_pl, kx_cmp, kx_oF, kx_eqN, kx_nil, kx_c1, kx_ft, kx_aI, kx_aL, kx_aR, kx_ln, Nat.reduceAdd, Option.toList, List.cons_append, List.nil_append, cf10_2, cf10_1])
        repeat' apply And.intro
        all_goals try (first | with_reducible assumption | (with_reducible refine ck_nzI ?_; simp; done) | (with_reducible refine ck_nzL ?_; simp; done) | (with_reducible refine vp_in_nI ?_ ?_ <;> first | omega | decide) | (with_reducible refine Nat.le_of_ble_eq_true ?_; rfl) | omega | exact Or.inl trivial | exact Or.inr trivial | exact Or.inl rfl | exact Or.inr rfl | exact vp_in_nI (by omega) (by decide) | exact vp_in_nI (by omega) (by decide) | exact vp_in_nI (by omega) (by decide))
        have hs9 := s2
        rw [show tp + 2 = tp + 1 + 1 from rfl] at hs9
        first | exact hs9 | (rw [cx_4] at hs9; rw [ks_co (a := 67) (b := 64) _ _ (by decide)]; exact hs9) | (rw [cx_4, ks_co (a := 67) (b := 64) _ _ (by decide)] at hs9; exact hs9)
  have s0 : g 3 [some (.ref 64), some (.int v), some (.int (24))] [] (kx_set (kx_set P 67 (kI 0 400 (cx_4 T tp v 0))) 64 (kO 10 (kf (cr10 sv) (upd K 2 (nI (tp + 0)))))) sz 0 0 := by
    refine hB bX10_putOnTape_3 _ _ _ _ _ _ _ kX10_putOnTape_3 ?_
    dsimp only [bX10_putOnTape_3, kx_wp, kx_step, kx_lI, kx_lL, kx_lA, kx_gl, kx_pI, kx_pL, kx_pR, kx_pA, kx_pV, kx_s1, kx_s2, kx_sl, kx_pre, kx_c2, kx_pl, kx_cmp, kx_oF, kx_eqN, kx_nil, kx_c1, kx_ft, kx_aI, kx_aL, kx_aR, kx_ln, Nat.reduceAdd, Option.toList, List.cons_append, List.nil_append, cf10_2, cf10_1]
    repeat (simp only [cp10_2, ks_eq, ks_ss, ks_n93 (a := 64) (n := 67) (show ¬ (64 : Nat) = 67 by decide), ks_93 (a := 64) (n := 67) (show ¬ (67 : Nat) = 64 by decide), ks_n93 (a := 67) (n := 64) (show ¬ (67 : Nat) = 64 by decide), ks_93 (a := 67) (n := 64) (show ¬ (64 : Nat) = 67 by decide), pk_us, nI_1, nI_add, show (24 : Int32) + (-8) = 16 from by decide, (show (nI (tp + 0)).toNatClampNeg = tp + 0 from nI_clamp (by omega)), kz_uu]; try dsimp only [kx_wp, kx_step, kx_lI, kx_lL, kx_lA, kx_gl, kx_pI, kx_pL, kx_pR, kx_pA, kx_pV, kx_s1, kx_s2, kx_sl, kx_pre, kx_c2, kx_pl, kx_cmp, kx_oF, kx_eqN, kx_nil, kx_c1, kx_ft, kx_aI, kx_aL, kx_aR, kx_ln, Nat.reduceAdd, Option.toList, List.cons_append, List.nil_append, cf10_2, cf10_1])
    repeat' apply And.intro
    all_goals try (first | with_reducible assumption | (with_reducible refine ck_nzI ?_; simp; done) | (with_reducible refine ck_nzL ?_; simp; done) | (with_reducible refine vp_in_nI ?_ ?_ <;> first | omega | decide) | (with_reducible refine Nat.le_of_ble_eq_true ?_; rfl) | omega | exact Or.inl trivial | exact Or.inr trivial | exact Or.inl rfl | exact Or.inr rfl | exact vp_in_nI (by omega) (by decide) | exact vp_in_nI (by omega) (by decide) | exact vp_in_nI (by omega) (by decide) | exact vp_in_nI (by omega) (by decide))
    · intro zc4
      first | exact absurd rfl zc4 | exact absurd zc4 (by decide) | exact absurd (by decide) zc4 | (exfalso; first | exact absurd zc4 (by decide) | exact absurd ((nI_leI (a := 400) (b := tp + 0) (by omega) (by omega)).mp zc16) (by omega)) | (exfalso; simp_all; done)
    · intro zc4
      with_reducible first | have ze4 := Int32.not_lt.mp zc4 | have ze4 := zc4
      refine hB bX10_putOnTape_7 _ _ _ _ _ _ _ kX10_putOnTape_7 ?_
      dsimp only [bX10_putOnTape_7, kx_wp, kx_step, kx_lI, kx_lL, kx_lA, kx_gl, kx_pI, kx_pL, kx_pR, kx_pA, kx_pV, kx_s1, kx_s2, kx_sl, kx_pre, kx_c2, kx_pl, kx_cmp, kx_oF, kx_eqN, kx_nil, kx_c1, kx_ft, kx_aI, kx_aL, kx_aR, kx_ln, Nat.reduceAdd, Option.toList, List.cons_append, List.nil_append, cf10_2, cf10_1]
      repeat (simp only [cp10_2, ks_eq, ks_ss, ks_n93 (a := 64) (n := 67) (show ¬ (64 : Nat) = 67 by decide), ks_93 (a := 64) (n := 67) (show ¬ (67 : Nat) = 64 by decide), ks_n93 (a := 67) (n := 64) (show ¬ (67 : Nat) = 64 by decide), ks_93 (a := 67) (n := 64) (show ¬ (64 : Nat) = 67 by decide), pk_us, nI_1, nI_add, show (24 : Int32) + (-8) = 16 from by decide, (show (nI (tp + 0)).toNatClampNeg = tp + 0 from nI_clamp (by omega)), kz_uu]; try dsimp only [kx_wp, kx_step, kx_lI, kx_lL, kx_lA, kx_gl, kx_pI, kx_pL, kx_pR, kx_pA, kx_pV, kx_s1, kx_s2, kx_sl, kx_pre, kx_c2, kx_pl, kx_cmp, kx_oF, kx_eqN, kx_nil, kx_c1, kx_ft, kx_aI, kx_aL, kx_aR, kx_ln, Nat.reduceAdd, Option.toList, List.cons_append, List.nil_append, cf10_2, cf10_1])
      repeat' apply And.intro
      all_goals try (first | with_reducible assumption | (with_reducible refine ck_nzI ?_; simp; done) | (with_reducible refine ck_nzL ?_; simp; done) | (with_reducible refine vp_in_nI ?_ ?_ <;> first | omega | decide) | (with_reducible refine Nat.le_of_ble_eq_true ?_; rfl) | omega | exact Or.inl trivial | exact Or.inr trivial | exact Or.inl rfl | exact Or.inr rfl | exact vp_in_nI (by omega) (by decide) | exact vp_in_nI (by omega) (by decide) | exact vp_in_nI (by omega) (by decide) | exact vp_in_nI (by omega) (by decide))
      · intro zc16
        first | exact absurd rfl zc16 | exact absurd zc16 (by decide) | exact absurd (by decide) zc16 | (exfalso; first | exact absurd zc4 (by decide) | exact absurd ((nI_leI (a := 400) (b := tp + 0) (by omega) (by omega)).mp zc16) (by omega)) | (exfalso; simp_all; done)
      · intro zc16
        with_reducible first | have ze16 := Int32.not_le.mp zc16 | have ze16 := zc16
        refine hB bX10_putOnTape_19 _ _ _ _ _ _ _ kX10_putOnTape_19 ?_
        dsimp only [bX10_putOnTape_19, kx_wp, kx_step, kx_lI, kx_lL, kx_lA, kx_gl, kx_pI, kx_pL, kx_pR, kx_pA, kx_pV, kx_s1, kx_s2, kx_sl, kx_pre, kx_c2, kx_pl, kx_cmp, kx_oF, kx_eqN, kx_nil, kx_c1, kx_ft, kx_aI, kx_aL, kx_aR, kx_ln, Nat.reduceAdd, Option.toList, List.cons_append, List.nil_append, cf10_2, cf10_1]
        repeat (simp only [cp10_2, ks_eq, ks_ss, ks_n93 (a := 64) (n := 67) (show ¬ (64 : Nat) = 67 by decide), ks_93 (a := 64) (n := 67) (show ¬ (67 : Nat) = 64 by decide), ks_n93 (a := 67) (n := 64) (show ¬ (67 : Nat) = 64 by decide), ks_93 (a := 67) (n := 64) (show ¬ (64 : Nat) = 67 by decide), pk_us, nI_1, nI_add, show (24 : Int32) + (-8) = 16 from by decide, (show (nI (tp + 0)).toNatClampNeg = tp + 0 from nI_clamp (by omega)), kz_uu]; try dsimp only [kx_wp, kx_step, kx_lI, kx_lL, kx_lA, kx_gl, kx_pI, kx_pL, kx_pR, kx_pA, kx_pV, kx_s1, kx_s2, kx_sl, kx_pre, kx_c2, kx_pl, kx_cmp, kx_oF, kx_eqN, kx_nil, kx_c1, kx_ft, kx_aI, kx_aL, kx_aR, kx_ln, Nat.reduceAdd, Option.toList, List.cons_append, List.nil_append, cf10_2, cf10_1])
        repeat' apply And.intro
        all_goals try (first | with_reducible assumption | (with_reducible refine ck_nzI ?_; simp; done) | (with_reducible refine ck_nzL ?_; simp; done) | (with_reducible refine vp_in_nI ?_ ?_ <;> first | omega | decide) | (with_reducible refine Nat.le_of_ble_eq_true ?_; rfl) | omega | exact Or.inl trivial | exact Or.inr trivial | exact Or.inl rfl | exact Or.inr rfl | exact vp_in_nI (by omega) (by decide) | exact vp_in_nI (by omega) (by decide) | exact vp_in_nI (by omega) (by decide) | exact vp_in_nI (by omega) (by decide))
        have hs9 := s1
        rw [show tp + 1 = tp + 0 + 1 from rfl] at hs9
        first | exact hs9 | (rw [cx_4] at hs9; rw [ks_co (a := 67) (b := 64) _ _ (by decide)]; exact hs9) | (rw [cx_4, ks_co (a := 67) (b := 64) _ _ (by decide)] at hs9; exact hs9)
  refine hB bX10_putOnTape_0 _ _ _ _ _ _ _ kX10_putOnTape_0 ?_
  dsimp only [bX10_putOnTape_0, kx_wp, kx_step, kx_lI, kx_lL, kx_lA, kx_gl, kx_pI, kx_pL, kx_pR, kx_pA, kx_pV, kx_s1, kx_s2, kx_sl, kx_pre, kx_c2, kx_pl, kx_cmp, kx_oF, kx_eqN, kx_nil, kx_c1, kx_ft, kx_aI, kx_aL, kx_aR, kx_ln, Nat.reduceAdd, Option.toList, List.cons_append, List.nil_append, cf10_2, cf10_1]
  repeat (simp only [cp10_2, ks_eq, ks_ss]; try dsimp only [kx_wp, kx_step, kx_lI, kx_lL, kx_lA, kx_gl, kx_pI, kx_pL, kx_pR, kx_pA, kx_pV, kx_s1, kx_s2, kx_sl, kx_pre, kx_c2, kx_pl, kx_cmp, kx_oF, kx_eqN, kx_nil, kx_c1, kx_ft, kx_aI, kx_aL, kx_aR, kx_ln, Nat.reduceAdd, Option.toList, List.cons_append, List.nil_append, cf10_2, cf10_1])
  repeat' apply And.intro
  all_goals try (first | with_reducible assumption | (with_reducible refine ck_nzI ?_; simp; done) | (with_reducible refine ck_nzL ?_; simp; done) | (with_reducible refine vp_in_nI ?_ ?_ <;> first | omega | decide) | (with_reducible refine Nat.le_of_ble_eq_true ?_; rfl) | omega | exact Or.inl trivial | exact Or.inr trivial | exact Or.inl rfl | exact Or.inr rfl | exact vp_in_nI (by omega) (by decide) | exact vp_in_nI (by omega) (by decide) | exact vp_in_nI (by omega) (by decide) | exact vp_in_nI (by omega) (by decide))
  have h0 := s0
  rw [hP0] at h0
  exact h0

def cx_20 (T : Nat → Int32) (tp : Nat) (a b c d e : Int32) : Nat → Int32 := cx_4 (cx_4 (cx_4 (cx_4 (cx_4 T tp a 4) (tp + 4) b 4) (tp + 4 + 4) c 4) (tp + 4 + 4 + 4) d 4) (tp + 4 + 4 + 4 + 4) e 4
def bX10_feed_0 : List kx_O := [(.aload_n 0, 0, 0, 0, .null), (.getfield 20, 10, 2, 0, .null), (.bipush 20, 0, 0, 0, .int 20), (.iadd, 0, 0, 0, .null), (.sipush 400, 0, 0, 0, .int 400), (.if_icmp .le 5, 15, 0, 0, .null)]
theorem kX10_feed_0 : kx_oks kxL_X10 false cX10_feed 0 bX10_feed_0 = true := by decide +kernel
def bX10_feed_13 : List kx_O := [(.iconst (-1), 0, 0, 0, .int (-1)), (.ireturn, 0, 0, 0, .null)]
theorem kX10_feed_13 : kx_oks kxL_X10 false cX10_feed 13 bX10_feed_13 = true := by decide +kernel
def bX10_feed_15 : List kx_O := [(.aload_n 0, 0, 0, 0, .null), (.iload_n 1, 1, 0, 0, .null)]
theorem kX10_feed_15 : kx_oks kxL_X10 false cX10_feed 15 bX10_feed_15 = true := by decide +kernel
def bX10_feed_20 : List kx_O := [(.aload_n 0, 0, 0, 0, .null), (.iload_n 2, 2, 0, 0, .null)]
theorem kX10_feed_20 : kx_oks kxL_X10 false cX10_feed 20 bX10_feed_20 = true := by decide +kernel
def bX10_feed_25 : List kx_O := [(.aload_n 0, 0, 0, 0, .null), (.iload_n 3, 3, 0, 0, .null)]
theorem kX10_feed_25 : kx_oks kxL_X10 false cX10_feed 25 bX10_feed_25 = true := by decide +kernel
def bX10_feed_30 : List kx_O := [(.aload_n 0, 0, 0, 0, .null), (.iload 4, 4, 0, 0, .null)]
theorem kX10_feed_30 : kx_oks kxL_X10 false cX10_feed 30 bX10_feed_30 = true := by decide +kernel
def bX10_feed_36 : List kx_O := [(.aload_n 0, 0, 0, 0, .null), (.iload 5, 5, 0, 0, .null)]
theorem kX10_feed_36 : kx_oks kxL_X10 false cX10_feed 36 bX10_feed_36 = true := by decide +kernel
def bX10_feed_42 : List kx_O := [(.aload_n 0, 0, 0, 0, .null), (.getfield 20, 10, 2, 0, .null), (.ireturn, 0, 0, 0, .null)]
theorem kX10_feed_42 : kx_oks kxL_X10 false cX10_feed 42 bX10_feed_42 = true := by decide +kernel
theorem dX10_feed_17 : decode cX10_feed 17 = .ok (.invokevirtual 107, 3) := by decide +kernel
theorem dX10_feed_22 : decode cX10_feed 22 = .ok (.invokevirtual 107, 3) := by decide +kernel
theorem dX10_feed_27 : decode cX10_feed 27 = .ok (.invokevirtual 107, 3) := by decide +kernel
theorem dX10_feed_33 : decode cX10_feed 33 = .ok (.invokevirtual 107, 3) := by decide +kernel
theorem dX10_feed_39 : decode cX10_feed 39 = .ok (.invokevirtual 107, 3) := by decide +kernel
set_option maxRecDepth 100000 in
set_option maxHeartbeats 4000000 in
theorem ct_X10_feed_n (l : Launch) (G : kx_G) {P : kx_P} {sz : Nat} {sv : Value} {K : Nat → Int32} (h64 : P 64 = kO 10 (kf (cr10 sv) K)) {T : Nat → Int32} (h67 : P 67 = kI 0 400 T) {tp : Nat} (h2 : K 2 = nI tp) {a b c d e : Int32} (htp : tp ≤ 400) (hf : 400 < tp + 20)  : kx_M l G sX10_feed 3 0 0 [.ref 64, .int (a), .int (b), .int (c), .int (d), .int (e)] P sz (some (.int (-1))) P sz := by
  refine kx_mk kx_tab kxLok_X10 (ini := false) [some (.ref 64), some (.int (a)), some (.int (b)), some (.int (c)), some (.int (d)), some (.int (e))] ⟨by decide, rfl, by decide, by decide⟩ (⟨_, rfl⟩) rfl rfl (fun g hB hC => ?_)
  refine hB bX10_feed_0 _ _ _ _ _ _ _ kX10_feed_0 ?_
  dsimp only [bX10_feed_0, kx_wp, kx_step, kx_lI, kx_lL, kx_lA, kx_gl, kx_pI, kx_pL, kx_pR, kx_pA, kx_pV, kx_s1, kx_s2, kx_sl, kx_pre, kx_c2, kx_pl, kx_cmp, kx_oF, kx_eqN, kx_nil, kx_c1, kx_ft, kx_aI, kx_aL, kx_aR, kx_ln, Nat.reduceAdd, Option.toList, List.cons_append, List.nil_append, cf10_2]
  repeat (simp only [h64, h2, nI_add, (show (20 : Int32) = nI 20 from rfl), ks_eq, ks_ss]; try dsimp only [kx_wp, kx_step, kx_lI, kx_lL, kx_lA, kx_gl, kx_pI, kx_pL, kx_pR, kx_pA, kx_pV, kx_s1, kx_s2, kx_sl, kx_pre, kx_c2, kx_pl, kx_cmp, kx_oF, kx_eqN, kx_nil, kx_c1, kx_ft, kx_aI, kx_aL, kx_aR, kx_ln, Nat.reduceAdd, Option.toList, List.cons_append, List.nil_append, cf10_2])
  repeat' apply And.intro
  all_goals try (first | with_reducible assumption | (with_reducible refine ck_nzI ?_; simp; done) | (with_reducible refine ck_nzL ?_; simp; done) | (with_reducible refine vp_in_nI ?_ ?_ <;> first | omega | decide) | (with_reducible refine Nat.le_of_ble_eq_true ?_; rfl) | omega | exact Or.inl trivial | exact Or.inr trivial | exact Or.inl rfl | exact Or.inr rfl)
  · intro zc10
    first | exact absurd rfl zc10 | exact absurd zc10 (by decide) | exact absurd (by decide) zc10 | (exfalso; exact absurd ((nI_leI (a := tp + 20) (b := 400) (by omega) (by omega)).mp zc10) (by omega)) | (exfalso; simp_all; done)
  · intro zc10
    with_reducible first | have ze10 := Int32.not_le.mp zc10 | have ze10 := zc10
    refine hB bX10_feed_13 _ _ _ _ _ _ _ kX10_feed_13 ?_
    dsimp only [bX10_feed_13, kx_wp, kx_step, kx_lI, kx_lL, kx_lA, kx_gl, kx_pI, kx_pL, kx_pR, kx_pA, kx_pV, kx_s1, kx_s2, kx_sl, kx_pre, kx_c2, kx_pl, kx_cmp, kx_oF, kx_eqN, kx_nil, kx_c1, kx_ft, kx_aI, kx_aL, kx_aR, kx_ln, Nat.reduceAdd, Option.toList, List.cons_append, List.nil_append, cf10_2]
    repeat (simp only [h64, h2, nI_add, (show (20 : Int32) = nI 20 from rfl), ks_eq, ks_ss]; try dsimp only [kx_wp, kx_step, kx_lI, kx_lL, kx_lA, kx_gl, kx_pI, kx_pL, kx_pR, kx_pA, kx_pV, kx_s1, kx_s2, kx_sl, kx_pre, kx_c2, kx_pl, kx_cmp, kx_oF, kx_eqN, kx_nil, kx_c1, kx_ft, kx_aI, kx_aL, kx_aR, kx_ln, Nat.reduceAdd, Option.toList, List.cons_append, List.nil_append, cf10_2])
    all_goals (repeat' apply And.intro)
    all_goals ((try clear hB hC); first | exact True.intro | with_reducible rfl | with_reducible assumption | (with_reducible refine vp_in_nI ?_ ?_ <;> first | omega | decide) | exact Nat.le_of_ble_eq_true rfl | (with_reducible refine ck_nzI ?_; simp; done) | (with_reducible refine ck_nzL ?_; simp; done) | (simp only [pk_us, pk_uLs, zc10, ze10, ↓reduceIte, not_true_eq_false, not_false_eq_true]; done) | (simp only [zc10, ze10, ↓reduceIte, not_true_eq_false, not_false_eq_true]; with_reducible rfl) | omega | skip)

set_option maxRecDepth 100000 in
set_option maxHeartbeats 4000000 in
theorem ct_X10_feed_t (l : Launch) (G : kx_G) {P : kx_P} {sz : Nat} {sv : Value} {K : Nat → Int32} (h64 : P 64 = kO 10 (kf (cr10 sv) K)) {T : Nat → Int32} (h67 : P 67 = kI 0 400 T) {tp : Nat} (h2 : K 2 = nI tp) {a b c d e : Int32} (htp : tp + 20 ≤ 400)  : kx_M l G sX10_feed 3 0 0 [.ref 64, .int (a), .int (b), .int (c), .int (d), .int (e)] P sz (some (.int (nI (tp + 20)))) (kx_set (kx_set P 67 (kI 0 400 (cx_20 T tp a b c d e))) 64 (kO 10 (kf (cr10 sv) (upd K 2 (nI (tp + 20)))))) sz := by
  have hp0 := ct_X10_putOnTape l G (sz := sz) (P := P) (sv := sv) (K := K) (h64) (T := T) (h67) (tp := tp) (h2) (by omega) (v := a)
  have hp1 := ct_X10_putOnTape l G (sz := sz) (P := (kx_set (kx_set P 67 (kI 0 400 (cx_4 T (tp) a 4))) 64 (kO 10 (kf (cr10 sv) (upd K 2 (nI (tp + 4))))))) (sv := sv) (K := (upd K 2 (nI (tp + 4)))) (ks_eq _ _ _) (T := (cx_4 T (tp) a 4)) ((ks_ne (by decide)).trans (ks_eq _ _ _)) (tp := tp + 4) (pk_us) (by omega) (v := b)
  have hw1 : kx_set (kx_set (kx_set (kx_set P 67 (kI 0 400 (cx_4 T (tp) a 4))) 64 (kO 10 (kf (cr10 sv) (upd K 2 (nI (tp + 4)))))) 67 (kI 0 400 (cx_4 (cx_4 T (tp) a 4) (tp + 4) b 4))) 64 (kO 10 (kf (cr10 sv) (upd (upd K 2 (nI (tp + 4))) 2 (nI (tp + 4 + 4))))) = (kx_set (kx_set P 67 (kI 0 400 (cx_4 (cx_4 T (tp) a 4) (tp + 4) b 4))) 64 (kO 10 (kf (cr10 sv) (upd K 2 (nI (tp + 4 + 4)))))) := by rw [kz_uu, ks_93 (a := 64) (n := 67) (by decide), ks_ss]
  have hp2 := ct_X10_putOnTape l G (sz := sz) (P := (kx_set (kx_set P 67 (kI 0 400 (cx_4 (cx_4 T (tp) a 4) (tp + 4) b 4))) 64 (kO 10 (kf (cr10 sv) (upd K 2 (nI (tp + 4 + 4))))))) (sv := sv) (K := (upd K 2 (nI (tp + 4 + 4)))) (ks_eq _ _ _) (T := (cx_4 (cx_4 T (tp) a 4) (tp + 4) b 4)) ((ks_ne (by decide)).trans (ks_eq _ _ _)) (tp := tp + 4 + 4) (pk_us) (by omega) (v := c)
  have hw2 : kx_set (kx_set (kx_set (kx_set P 67 (kI 0 400 (cx_4 (cx_4 T (tp) a 4) (tp + 4) b 4))) 64 (kO 10 (kf (cr10 sv) (upd K 2 (nI (tp + 4 + 4)))))) 67 (kI 0 400 (cx_4 (cx_4 (cx_4 T (tp) a 4) (tp + 4) b 4) (tp + 4 + 4) c 4))) 64 (kO 10 (kf (cr10 sv) (upd (upd K 2 (nI (tp + 4 + 4))) 2 (nI (tp + 4 + 4 + 4))))) = (kx_set (kx_set P 67 (kI 0 400 (cx_4 (cx_4 (cx_4 T (tp) a 4) (tp + 4) b 4) (tp + 4 + 4) c 4))) 64 (kO 10 (kf (cr10 sv) (upd K 2 (nI (tp + 4 + 4 + 4)))))) := by rw [kz_uu, ks_93 (a := 64) (n := 67) (by decide), ks_ss]
  have hp3 := ct_X10_putOnTape l G (sz := sz) (P := (kx_set (kx_set P 67 (kI 0 400 (cx_4 (cx_4 (cx_4 T (tp) a 4) (tp + 4) b 4) (tp + 4 + 4) c 4))) 64 (kO 10 (kf (cr10 sv) (upd K 2 (nI (tp + 4 + 4 + 4))))))) (sv := sv) (K := (upd K 2 (nI (tp + 4 + 4 + 4)))) (ks_eq _ _ _) (T := (cx_4 (cx_4 (cx_4 T (tp) a 4) (tp + 4) b 4) (tp + 4 + 4) c 4)) ((ks_ne (by decide)).trans (ks_eq _ _ _)) (tp := tp + 4 + 4 + 4) (pk_us) (by omega) (v := d)
  have hw3 : kx_set (kx_set (kx_set (kx_set P 67 (kI 0 400 (cx_4 (cx_4 (cx_4 T (tp) a 4) (tp + 4) b 4) (tp + 4 + 4) c 4))) 64 (kO 10 (kf (cr10 sv) (upd K 2 (nI (tp + 4 + 4 + 4)))))) 67 (kI 0 400 (cx_4 (cx_4 (cx_4 (cx_4 T (tp) a 4) (tp + 4) b 4) (tp + 4 + 4) c 4) (tp + 4 + 4 + 4) d 4))) 64 (kO 10 (kf (cr10 sv) (upd (upd K 2 (nI (tp + 4 + 4 + 4))) 2 (nI (tp + 4 + 4 + 4 + 4))))) = (kx_set (kx_set P 67 (kI 0 400 (cx_4 (cx_4 (cx_4 (cx_4 T (tp) a 4) (tp + 4) b 4) (tp + 4 + 4) c 4) (tp + 4 + 4 + 4) d 4))) 64 (kO 10 (kf (cr10 sv) (upd K 2 (nI (tp + 4 + 4 + 4 + 4)))))) := by rw [kz_uu, ks_93 (a := 64) (n := 67) (by decide), ks_ss]
  have hp4 := ct_X10_putOnTape l G (sz := sz) (P := (kx_set (kx_set P 67 (kI 0 400 (cx_4 (cx_4 (cx_4 (cx_4 T (tp) a 4) (tp + 4) b 4) (tp + 4 + 4) c 4) (tp + 4 + 4 + 4) d 4))) 64 (kO 10 (kf (cr10 sv) (upd K 2 (nI (tp + 4 + 4 + 4 + 4))))))) (sv := sv) (K := (upd K 2 (nI (tp + 4 + 4 + 4 + 4)))) (ks_eq _ _ _) (T := (cx_4 (cx_4 (cx_4 (cx_4 T (tp) a 4) (tp + 4) b 4) (tp + 4 + 4) c 4) (tp + 4 + 4 + 4) d 4)) ((ks_ne (by decide)).trans (ks_eq _ _ _)) (tp := tp + 4 + 4 + 4 + 4) (pk_us) (by omega) (v := e)
  have hw4 : kx_set (kx_set (kx_set (kx_set P 67 (kI 0 400 (cx_4 (cx_4 (cx_4 (cx_4 T (tp) a 4) (tp + 4) b 4) (tp + 4 + 4) c 4) (tp + 4 + 4 + 4) d 4))) 64 (kO 10 (kf (cr10 sv) (upd K 2 (nI (tp + 4 + 4 + 4 + 4)))))) 67 (kI 0 400 (cx_4 (cx_4 (cx_4 (cx_4 (cx_4 T (tp) a 4) (tp + 4) b 4) (tp + 4 + 4) c 4) (tp + 4 + 4 + 4) d 4) (tp + 4 + 4 + 4 + 4) e 4))) 64 (kO 10 (kf (cr10 sv) (upd (upd K 2 (nI (tp + 4 + 4 + 4 + 4))) 2 (nI (tp + 4 + 4 + 4 + 4 + 4))))) = (kx_set (kx_set P 67 (kI 0 400 (cx_4 (cx_4 (cx_4 (cx_4 (cx_4 T (tp) a 4) (tp + 4) b 4) (tp + 4 + 4) c 4) (tp + 4 + 4 + 4) d 4) (tp + 4 + 4 + 4 + 4) e 4))) 64 (kO 10 (kf (cr10 sv) (upd K 2 (nI (tp + 4 + 4 + 4 + 4 + 4)))))) := by rw [kz_uu, ks_93 (a := 64) (n := 67) (by decide), ks_ss]
  refine kx_mk kx_tab kxLok_X10 (ini := false) [some (.ref 64), some (.int (a)), some (.int (b)), some (.int (c)), some (.int (d)), some (.int (e))] ⟨by decide, rfl, by decide, by decide⟩ (⟨_, rfl⟩) rfl rfl (fun g hB hC => ?_)
  refine hB bX10_feed_0 _ _ _ _ _ _ _ kX10_feed_0 ?_
  dsimp only [bX10_feed_0, kx_wp, kx_step, kx_lI, kx_lL, kx_lA, kx_gl, kx_pI, kx_pL, kx_pR, kx_pA, kx_pV, kx_s1, kx_s2, kx_sl, kx_pre, kx_c2, kx_pl, kx_cmp, kx_oF, kx_eqN, kx_nil, kx_c1, kx_ft, kx_aI, kx_aL, kx_aR, kx_ln, Nat.reduceAdd, Option.toList, List.cons_append, List.nil_append, cf10_2]
  repeat (simp only [h64, h2, nI_add, (show (20 : Int32) = nI 20 from rfl), pk_us, ks_eq, ks_ss]; try dsimp only [kx_wp, kx_step, kx_lI, kx_lL, kx_lA, kx_gl, kx_pI, kx_pL, kx_pR, kx_pA, kx_pV, kx_s1, kx_s2, kx_sl, kx_pre, kx_c2, kx_pl, kx_cmp, kx_oF, kx_eqN, kx_nil, kx_c1, kx_ft, kx_aI, kx_aL, kx_aR, kx_ln, Nat.reduceAdd, Option.toList, List.cons_append, List.nil_append, cf10_2])
  repeat' apply And.intro
  all_goals try (first | with_reducible assumption | (with_reducible refine ck_nzI ?_; simp; done) | (with_reducible refine ck_nzL ?_; simp; done) | (with_reducible refine vp_in_nI ?_ ?_ <;> first | omega | decide) | (with_reducible refine Nat.le_of_ble_eq_true ?_; rfl) | omega | exact Or.inl trivial | exact Or.inr trivial | exact Or.inl rfl | exact Or.inr rfl)
  · intro zc10
    with_reducible first | have ze10 := Int32.not_lt.mpr zc10 | have ze10 := zc10
    refine hB bX10_feed_15 _ _ _ _ _ _ _ kX10_feed_15 ?_
    dsimp only [bX10_feed_15, kx_wp, kx_step, kx_lI, kx_lL, kx_lA, kx_gl, kx_pI, kx_pL, kx_pR, kx_pA, kx_pV, kx_s1, kx_s2, kx_sl, kx_pre, kx_c2, kx_pl, kx_cmp, kx_oF, kx_eqN, kx_nil, kx_c1, kx_ft, kx_aI, kx_aL, kx_aR, kx_ln, Nat.reduceAdd, Option.toList, List.cons_append, List.nil_append, cf10_2]
    repeat (simp only [h64, h2, nI_add, (show (20 : Int32) = nI 20 from rfl), pk_us, ks_eq, ks_ss]; try dsimp only [kx_wp, kx_step, kx_lI, kx_lL, kx_lA, kx_gl, kx_pI, kx_pL, kx_pR, kx_pA, kx_pV, kx_s1, kx_s2, kx_sl, kx_pre, kx_c2, kx_pl, kx_cmp, kx_oF, kx_eqN, kx_nil, kx_c1, kx_ft, kx_aI, kx_aL, kx_aR, kx_ln, Nat.reduceAdd, Option.toList, List.cons_append, List.nil_append, cf10_2])
    repeat' apply And.intro
    all_goals try (first | with_reducible assumption | (with_reducible refine ck_nzI ?_; simp; done) | (with_reducible refine ck_nzL ?_; simp; done) | (with_reducible refine vp_in_nI ?_ ?_ <;> first | omega | decide) | (with_reducible refine Nat.le_of_ble_eq_true ?_; rfl) | omega | exact Or.inl trivial | exact Or.inr trivial | exact Or.inl rfl | exact Or.inr rfl)
    refine hC.1 107 _ _ _ _ _ _ _ 10 _ _ _ _ _ _ _ _ _ _ _ _ lX10_107 (hp0) ⟨by decide, rfl⟩ (h64) rfl rfl (Nat.le_of_ble_eq_true rfl) (by first | decide | omega) (by decide) (by omega) (by omega) dX10_feed_17 ?_
    refine hB bX10_feed_20 _ _ _ _ _ _ _ kX10_feed_20 ?_
    dsimp only [bX10_feed_20, kx_wp, kx_step, kx_lI, kx_lL, kx_lA, kx_gl, kx_pI, kx_pL, kx_pR, kx_pA, kx_pV, kx_s1, kx_s2, kx_sl, kx_pre, kx_c2, kx_pl, kx_cmp, kx_oF, kx_eqN, kx_nil, kx_c1, kx_ft, kx_aI, kx_aL, kx_aR, kx_ln, Nat.reduceAdd, Option.toList, List.cons_append, List.nil_append, cf10_2]
    repeat (simp only [h64, h2, nI_add, (show (20 : Int32) = nI 20 from rfl), pk_us, ks_eq, ks_ss]; try dsimp only [kx_wp, kx_step, kx_lI, kx_lL, kx_lA, kx_gl, kx_pI, kx_pL, kx_pR, kx_pA, kx_pV, kx_s1, kx_s2, kx_sl, kx_pre, kx_c2, kx_pl, kx_cmp, kx_oF, kx_eqN, kx_nil, kx_c1, kx_ft, kx_aI, kx_aL, kx_aR, kx_ln, Nat.reduceAdd, Option.toList, List.cons_append, List.nil_append, cf10_2])
    repeat' apply And.intro
    all_goals try (first | with_reducible assumption | (with_reducible refine ck_nzI ?_; simp; done) | (with_reducible refine ck_nzL ?_; simp; done) | (with_reducible refine vp_in_nI ?_ ?_ <;> first | omega | decide) | (with_reducible refine Nat.le_of_ble_eq_true ?_; rfl) | omega | exact Or.inl trivial | exact Or.inr trivial | exact Or.inl rfl | exact Or.inr rfl)
    refine hC.1 107 _ _ _ _ _ _ _ 10 _ _ _ _ _ _ _ _ _ _ _ _ lX10_107 (hp1) ⟨by decide, rfl⟩ (ks_eq _ _ _) rfl rfl (Nat.le_of_ble_eq_true rfl) (by first | decide | omega) (by decide) (by omega) (by omega) dX10_feed_22 ?_
    rw [hw1]
    refine hB bX10_feed_25 _ _ _ _ _ _ _ kX10_feed_25 ?_
    dsimp only [bX10_feed_25, kx_wp, kx_step, kx_lI, kx_lL, kx_lA, kx_gl, kx_pI, kx_pL, kx_pR, kx_pA, kx_pV, kx_s1, kx_s2, kx_sl, kx_pre, kx_c2, kx_pl, kx_cmp, kx_oF, kx_eqN, kx_nil, kx_c1, kx_ft, kx_aI, kx_aL, kx_aR, kx_ln, Nat.reduceAdd, Option.toList, List.cons_append, List.nil_append, cf10_2]
    repeat (simp only [h64, h2, nI_add, (show (20 : Int32) = nI 20 from rfl), pk_us, ks_eq, ks_ss]; try dsimp only [kx_wp, kx_step, kx_lI, kx_lL, kx_lA, kx_gl, kx_pI, kx_pL, kx_pR, kx_pA, kx_pV, kx_s1, kx_s2, kx_sl, kx_pre, kx_c2, kx_pl, kx_cmp, kx_oF, kx_eqN, kx_nil, kx_c1, kx_ft, kx_aI, kx_aL, kx_aR, kx_ln, Nat.reduceAdd, Option.toList, List.cons_append, List.nil_append, cf10_2])
    repeat' apply And.intro
    all_goals try (first | with_reducible assumption | (with_reducible refine ck_nzI ?_; simp; done) | (with_reducible refine ck_nzL ?_; simp; done) | (with_reducible refine vp_in_nI ?_ ?_ <;> first | omega | decide) | (with_reducible refine Nat.le_of_ble_eq_true ?_; rfl) | omega | exact Or.inl trivial | exact Or.inr trivial | exact Or.inl rfl | exact Or.inr rfl)
    refine hC.1 107 _ _ _ _ _ _ _ 10 _ _ _ _ _ _ _ _ _ _ _ _ lX10_107 (hp2) ⟨by decide, rfl⟩ (ks_eq _ _ _) rfl rfl (Nat.le_of_ble_eq_true rfl) (by first | decide | omega) (by decide) (by omega) (by omega) dX10_feed_27 ?_
    rw [hw2]
    refine hB bX10_feed_30 _ _ _ _ _ _ _ kX10_feed_30 ?_
    dsimp only [bX10_feed_30, kx_wp, kx_step, kx_lI, kx_lL, kx_lA, kx_gl, kx_pI, kx_pL, kx_pR, kx_pA, kx_pV, kx_s1, kx_s2, kx_sl, kx_pre, kx_c2, kx_pl, kx_cmp, kx_oF, kx_eqN, kx_nil, kx_c1, kx_ft, kx_aI, kx_aL, kx_aR, kx_ln, Nat.reduceAdd, Option.toList, List.cons_append, List.nil_append, cf10_2]
    repeat (simp only [h64, h2, nI_add, (show (20 : Int32) = nI 20 from rfl), pk_us, ks_eq, ks_ss]; try dsimp only [kx_wp, kx_step, kx_lI, kx_lL, kx_lA, kx_gl, kx_pI, kx_pL, kx_pR, kx_pA, kx_pV, kx_s1, kx_s2, kx_sl, kx_pre, kx_c2, kx_pl, kx_cmp, kx_oF, kx_eqN, kx_nil, kx_c1, kx_ft, kx_aI, kx_aL, kx_aR, kx_ln, Nat.reduceAdd, Option.toList, List.cons_append, List.nil_append, cf10_2])
    repeat' apply And.intro
    all_goals try (first | with_reducible assumption | (with_reducible refine ck_nzI ?_; simp; done) | (with_reducible refine ck_nzL ?_; simp; done) | (with_reducible refine vp_in_nI ?_ ?_ <;> first | omega | decide) | (with_reducible refine Nat.le_of_ble_eq_true ?_; rfl) | omega | exact Or.inl trivial | exact Or.inr trivial | exact Or.inl rfl | exact Or.inr rfl)
    refine hC.1 107 _ _ _ _ _ _ _ 10 _ _ _ _ _ _ _ _ _ _ _ _ lX10_107 (hp3) ⟨by decide, rfl⟩ (ks_eq _ _ _) rfl rfl (Nat.le_of_ble_eq_true rfl) (by first | decide | omega) (by decide) (by omega) (by omega) dX10_feed_33 ?_
    rw [hw3]
    refine hB bX10_feed_36 _ _ _ _ _ _ _ kX10_feed_36 ?_
    dsimp only [bX10_feed_36, kx_wp, kx_step, kx_lI, kx_lL, kx_lA, kx_gl, kx_pI, kx_pL, kx_pR, kx_pA, kx_pV, kx_s1, kx_s2, kx_sl, kx_pre, kx_c2, kx_pl, kx_cmp, kx_oF, kx_eqN, kx_nil, kx_c1, kx_ft, kx_aI, kx_aL, kx_aR, kx_ln, Nat.reduceAdd, Option.toList, List.cons_append, List.nil_append, cf10_2]
    repeat (simp only [h64, h2, nI_add, (show (20 : Int32) = nI 20 from rfl), pk_us, ks_eq, ks_ss]; try dsimp only [kx_wp, kx_step, kx_lI, kx_lL, kx_lA, kx_gl, kx_pI, kx_pL, kx_pR, kx_pA, kx_pV, kx_s1, kx_s2, kx_sl, kx_pre, kx_c2, kx_pl, kx_cmp, kx_oF, kx_eqN, kx_nil, kx_c1, kx_ft, kx_aI, kx_aL, kx_aR, kx_ln, Nat.reduceAdd, Option.toList, List.cons_append, List.nil_append, cf10_2])
    repeat' apply And.intro
    all_goals try (first | with_reducible assumption | (with_reducible refine ck_nzI ?_; simp; done) | (with_reducible refine ck_nzL ?_; simp; done) | (with_reducible refine vp_in_nI ?_ ?_ <;> first | omega | decide) | (with_reducible refine Nat.le_of_ble_eq_true ?_; rfl) | omega | exact Or.inl trivial | exact Or.inr trivial | exact Or.inl rfl | exact Or.inr rfl)
    refine hC.1 107 _ _ _ _ _ _ _ 10 _ _ _ _ _ _ _ _ _ _ _ _ lX10_107 (hp4) ⟨by decide, rfl⟩ (ks_eq _ _ _) rfl rfl (Nat.le_of_ble_eq_true rfl) (by first | decide | omega) (by decide) (by omega) (by omega) dX10_feed_39 ?_
    rw [hw4]
    refine hB bX10_feed_42 _ _ _ _ _ _ _ kX10_feed_42 ?_
    dsimp only [bX10_feed_42, kx_wp, kx_step, kx_lI, kx_lL, kx_lA, kx_gl, kx_pI, kx_pL, kx_pR, kx_pA, kx_pV, kx_s1, kx_s2, kx_sl, kx_pre, kx_c2, kx_pl, kx_cmp, kx_oF, kx_eqN, kx_nil, kx_c1, kx_ft, kx_aI, kx_aL, kx_aR, kx_ln, Nat.reduceAdd, Option.toList, List.cons_append, List.nil_append, cf10_2]
    repeat (simp only [h64, h2, nI_add, (show (20 : Int32) = nI 20 from rfl), pk_us, ks_eq, ks_ss]; try dsimp only [kx_wp, kx_step, kx_lI, kx_lL, kx_lA, kx_gl, kx_pI, kx_pL, kx_pR, kx_pA, kx_pV, kx_s1, kx_s2, kx_sl, kx_pre, kx_c2, kx_pl, kx_cmp, kx_oF, kx_eqN, kx_nil, kx_c1, kx_ft, kx_aI, kx_aL, kx_aR, kx_ln, Nat.reduceAdd, Option.toList, List.cons_append, List.nil_append, cf10_2])
    all_goals (repeat' apply And.intro)
    all_goals ((try clear hB hC); first | exact True.intro | rfl)
  · intro zc10
    first | exact absurd rfl zc10 | exact absurd zc10 (by decide) | exact absurd (by decide) zc10 | (exfalso; exact zc10 ((nI_leI (a := tp + 20) (b := 400) (by omega) (by omega)).mpr (by omega))) | (exfalso; simp_all; done)


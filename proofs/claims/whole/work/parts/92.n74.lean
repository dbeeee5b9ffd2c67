/-- strokes heard, one behind another -/
def cx_hs (b bit : Int32) (Z : (Nat → Int32) × (Nat → Int32)) : Nat → (Nat → Int32) × (Nat → Int32)
  | 0 => Z
  | n + 1 =>
    let Q := cx_hs b bit Z n
    let s := b + 2 * nI n
    if s < 0 then Q else if 120 ≤ s then Q else (upd Q.1 s.toNatClampNeg (Q.1 s.toNatClampNeg + 1), upd Q.2 s.toNatClampNeg (Q.2 s.toNatClampNeg ||| bit))
theorem cx_hs_s (b bit : Int32) (Z : (Nat → Int32) × (Nat → Int32)) (n : Nat) : cx_hs b bit Z (n + 1) = if b + 2 * nI n < 0 then cx_hs b bit Z n else if 120 ≤ b + 2 * nI n then cx_hs b bit Z n else (upd (cx_hs b bit Z n).1 (b + 2 * nI n).toNatClampNeg ((cx_hs b bit Z n).1 (b + 2 * nI n).toNatClampNeg + 1), upd (cx_hs b bit Z n).2 (b + 2 * nI n).toNatClampNeg ((cx_hs b bit Z n).2 (b + 2 * nI n).toNatClampNeg ||| bit)) := rfl
theorem kz_in120 {x : Int32} (h1 : ¬ x < 0) (h2 : ¬ 120 ≤ x) : vp_in x 120 := kz_in (n := 120) h1 h2 (by decide)
theorem cx_s2 {b : Int32} {n : Nat} (hb : -100000000 ≤ b.toInt ∧ b.toInt ≤ 100000000) (hn : n ≤ 100000) : (b + 2 * nI n).toInt = b.toInt + 2 * n := by
  have e : (2 : Int32) * nI n = nI (2 * n) := pk_mul 2 n
  rw [e, Int32.toInt_add, nI_toInt (by omega), Int.bmod_eq_of_le (by omega) (by omega)]
  omega
theorem cx_hs_e {b bit : Int32} {Z : (Nat → Int32) × (Nat → Int32)} (hb : -100000000 ≤ b.toInt ∧ b.toInt ≤ 100000000) {k : Nat} (h : 120 ≤ b + 2 * nI k) : ∀ n, n ≤ 100000 → k ≤ n → cx_hs b bit Z n = cx_hs b bit Z k := by
  intro n
  induction n with
  | zero => intro _ hk; obtain rfl : k = 0 := by omega
            rfl
  | succ n ih =>
    intro hn hk
    by_cases e : k = n + 1
    · rw [e]
    · rw [cx_hs_s, ih (by omega) (by omega)]
      have h2 : 120 ≤ b + 2 * nI n := by
        rw [Int32.le_iff_toInt_le, cx_s2 hb (by omega)] at h ⊢
        omega
      rw [if_pos h2, ite_self]
def bX7_hearStrokes_0 : List kx_O := [(.iload_n 1, 1, 0, 0, .null), (.istore 4, 4, 0, 0, .null), (.iconst 0, 0, 0, 0, .int 0), (.istore 5, 5, 0, 0, .null)]
theorem kX7_hearStrokes_0 : kx_oks kxL_X7 false cX7_hearStrokes 0 bX7_hearStrokes_0 = true := by decide +kernel
def bX7_hearStrokes_6 : List kx_O := [(.iload 5, 5, 0, 0, .null), (.iload_n 2, 2, 0, 0, .null), (.if_icmp .ge 46, 55, 0, 0, .null)]
theorem kX7_hearStrokes_6 : kx_oks kxL_X7 false cX7_hearStrokes 6 bX7_hearStrokes_6 = true := by decide +kernel
def bX7_hearStrokes_12 : List kx_O := [(.iload 4, 4, 0, 0, .null), (.bipush 120, 0, 0, 0, .int 120), (.if_icmp .ge 39, 55, 0, 0, .null)]
theorem kX7_hearStrokes_12 : kx_oks kxL_X7 false cX7_hearStrokes 12 bX7_hearStrokes_12 = true := by decide +kernel
def bX7_hearStrokes_19 : List kx_O := [(.iload 4, 4, 0, 0, .null), (.ifCond .lt 25, 46, 0, 0, .null)]
theorem kX7_hearStrokes_19 : kx_oks kxL_X7 false cX7_hearStrokes 19 bX7_hearStrokes_19 = true := by decide +kernel
def bX7_hearStrokes_24 : List kx_O := [(.aload_n 0, 0, 0, 0, .null), (.getfield 28, 7, 5, 0, .null), (.iload 4, 4, 0, 0, .null), (.dup2, 0, 0, 0, .null), (.iaload, 0, 0, 0, .null), (.iconst 1, 0, 0, 0, .int 1), (.iadd, 0, 0, 0, .null), (.iastore, 0, 0, 0, .null), (.aload_n 0, 0, 0, 0, .null), (.getfield 31, 7, 6, 0, .null), (.iload 4, 4, 0, 0, .null), (.dup2, 0, 0, 0, .null), (.iaload, 0, 0, 0, .null), (.iload_n 3, 3, 0, 0, .null), (.ior, 0, 0, 0, .null), (.iastore, 0, 0, 0, .null)]
theorem kX7_hearStrokes_24 : kx_oks kxL_X7 false cX7_hearStrokes 24 bX7_hearStrokes_24 = true := by decide +kernel
def bX7_hearStrokes_46 : List kx_O := [(.iinc 4 2, 4, 0, 0, .int 2), (.iinc 5 1, 5, 0, 0, .int 1), (.goto (-46), 6, 0, 0, .null)]
theorem kX7_hearStrokes_46 : kx_oks kxL_X7 false cX7_hearStrokes 46 bX7_hearStrokes_46 = true := by decide +kernel
def bX7_hearStrokes_55 : List kx_O := [(.return_, 0, 0, 0, .null)]
theorem kX7_hearStrokes_55 : kx_oks kxL_X7 false cX7_hearStrokes 55 bX7_hearStrokes_55 = true := by decide +kernel
set_option maxRecDepth 100000 in
set_option maxHeartbeats 4000000 in
theorem ct_X7_hearStrokes (l : Launch) (G : kx_G) {P : kx_P} {sz : Nat} {F X Y : Nat → Int32} {b bit : Int32} {nn : Nat} (hb : -100000000 ≤ b.toInt ∧ b.toInt ≤ 100000000) (hn : nn ≤ 100000)  : kx_M l G sX7_hearStrokes 1 0 0 [.ref 71, .int (b), .int (nI nn), .int (bit)] (sW P (F) (X) (Y)) sz none (sW P (F) ((cx_hs b bit (X, Y) nn).1) ((cx_hs b bit (X, Y) nn).2)) sz := by
  refine kx_mk kx_tab kxLok_X7 (ini := false) [some (.ref 71), some (.int (b)), some (.int (nI nn)), some (.int (bit)), none, none] ⟨by decide, rfl, by decide, by decide⟩ (rfl) rfl rfl (fun g hB hC => ?_)
  have loop6 : ∀ (n9 : Nat) (k : Nat), k + n9 = nn → g 6 [some (.ref 71), some (.int (b)), some (.int (nI nn)), some (.int (bit)), some (.int (b + 2 * nI k)), some (.int (nI k))] [] (sW P (F) ((cx_hs b bit (X, Y) k).1) ((cx_hs b bit (X, Y) k).2)) sz 0 0 := by
    intro n9
    induction n9 with
    | zero =>
      intro k hk
      obtain rfl : k = nn := by omega
      refine hB bX7_hearStrokes_6 _ _ _ _ _ _ _ kX7_hearStrokes_6 ?_
      dsimp only [bX7_hearStrokes_6, kx_wp, kx_step, kx_lI, kx_lL, kx_lA, kx_gl, kx_pI, kx_pL, kx_pR, kx_pA, kx_pV, kx_s1, kx_s2, kx_sl, kx_pre, kx_c2, kx_pl, kx_cmp, kx_oF, kx_eqN, kx_nil, kx_c1, kx_ft, kx_aI, kx_aL, kx_aR, kx_ln, Nat.reduceAdd, Option.toList, List.cons_append, List.nil_append, cf7_5, cf7_6]
      repeat (simp only [sW_71, sW_76, sW_77, sW_p71, sW_p76, sW_p77, nI_1, pk_us, pk_un, ne_eq, Nat.reduceEqDiff, not_false_eq_true, ks_eq, ks_ss, zs]; try dsimp only [kx_wp, kx_step, kx_lI, kx_lL, kx_lA, kx_gl, kx_pI, kx_pL, kx_pR, kx_pA, kx_pV, kx_s1, kx_s2, kx_sl, kx_pre, kx_c2, kx_pl, kx_cmp, kx_oF, kx_eqN, kx_nil, kx_c1, kx_ft, kx_aI, kx_aL, kx_aR, kx_ln, Nat.reduceAdd, Option.toList, List.cons_append, List.nil_append, cf7_5, cf7_6])
      repeat' apply And.intro
      all_goals try (first | with_reducible assumption | (with_reducible refine ck_nzI ?_; simp; done) | (with_reducible refine ck_nzL ?_; simp; done) | (with_reducible refine vp_in_nI ?_ ?_ <;> first | omega | decide) | (with_reducible refine Nat.le_of_ble_eq_true ?_; rfl) | omega | exact Or.inl trivial | exact Or.inr trivial | exact Or.inl rfl | exact Or.inr rfl | exact Nat.le_of_ble_eq_true rfl | exact kz_in120 zc21 zc16)
      · intro zc9
        with_reducible first | have ze9 := Int32.not_lt.mpr zc9 | have ze9 := zc9
        refine hB bX7_hearStrokes_55 _ _ _ _ _ _ _ kX7_hearStrokes_55 ?_
        dsimp only [bX7_hearStrokes_55, kx_wp, kx_step, kx_lI, kx_lL, kx_lA, kx_gl, kx_pI, kx_pL, kx_pR, kx_pA, kx_pV, kx_s1, kx_s2, kx_sl, kx_pre, kx_c2, kx_pl, kx_cmp, kx_oF, kx_eqN, kx_nil, kx_c1, kx_ft, kx_aI, kx_aL, kx_aR, kx_ln, Nat.reduceAdd, Option.toList, List.cons_append, List.nil_append, cf7_5, cf7_6]
        repeat (simp only [sW_71, sW_76, sW_77, sW_p71, sW_p76, sW_p77, nI_1, pk_us, pk_un, ne_eq, Nat.reduceEqDiff, not_false_eq_true, ks_eq, ks_ss, zs]; try dsimp only [kx_wp, kx_step, kx_lI, kx_lL, kx_lA, kx_gl, kx_pI, kx_pL, kx_pR, kx_pA, kx_pV, kx_s1, kx_s2, kx_sl, kx_pre, kx_c2, kx_pl, kx_cmp, kx_oF, kx_eqN, kx_nil, kx_c1, kx_ft, kx_aI, kx_aL, kx_aR, kx_ln, Nat.reduceAdd, Option.toList, List.cons_append, List.nil_append, cf7_5, cf7_6])
        all_goals (repeat' apply And.intro)
        all_goals ((try clear hB hC); first | exact True.intro | rfl | (rw [cx_hs_e hb (by assumption) nn hn (by omega)]))
      · intro zc9
        first | exact absurd rfl zc9 | exact absurd zc9 (by decide) | exact absurd (by decide) zc9 | (exfalso; first | exact absurd ((nI_leI (a := nn) (b := k) (by omega) (by omega)).mp zc9) (by omega) | exact absurd ((nI_leI (a := k) (b := k) (by omega) (by omega)).mpr (by omega)) zc9) | (exfalso; simp_all; done)
    | succ n9 ih =>
      intro k hk
      have zs : b + 2 * nI k + 2 = b + 2 * nI (k + 1) := by rw [Int32.add_assoc]; congr 1; rw [← nI_1, Int32.mul_add]; rfl
      refine hB bX7_hearStrokes_6 _ _ _ _ _ _ _ kX7_hearStrokes_6 ?_
      dsimp only [bX7_hearStrokes_6, kx_wp, kx_step, kx_lI, kx_lL, kx_lA, kx_gl, kx_pI, kx_pL, kx_pR, kx_pA, kx_pV, kx_s1, kx_s2, kx_sl, kx_pre, kx_c2, kx_pl, kx_cmp, kx_oF, kx_eqN, kx_nil, kx_c1, kx_ft, kx_aI, kx_aL, kx_aR, kx_ln, Nat.reduceAdd, Option.toList, List.cons_append, List.nil_append, cf7_5, cf7_6]
      repeat (simp only [sW_71, sW_76, sW_77, sW_p71, sW_p76, sW_p77, nI_1, pk_us, pk_un, ne_eq, Nat.reduceEqDiff, not_false_eq_true, ks_eq, ks_ss, zs]; try dsimp only [kx_wp, kx_step, kx_lI, kx_lL, kx_lA, kx_gl, kx_pI, kx_pL, kx_pR, kx_pA, kx_pV, kx_s1, kx_s2, kx_sl, kx_pre, kx_c2, kx_pl, kx_cmp, kx_oF, kx_eqN, kx_nil, kx_c1, kx_ft, kx_aI, kx_aL, kx_aR, kx_ln, Nat.reduceAdd, Option.toList, List.cons_append, List.nil_append, cf7_5, cf7_6])
      repeat' apply And.intro
      all_goals try (first | with_reducible assumption | (with_reducible refine ck_nzI ?_; simp; done) | (with_reducible refine ck_nzL ?_; simp; done) | (with_reducible refine vp_in_nI ?_ ?_ <;> first | omega | decide) | (with_reducible refine Nat.le_of_ble_eq_true ?_; rfl) | omega | exact Or.inl trivial | exact Or.inr trivial | exact Or.inl rfl | exact Or.inr rfl | exact Nat.le_of_ble_eq_true rfl | exact kz_in120 zc21 zc16)
      · intro zc9
        first | exact absurd rfl zc9 | exact absurd zc9 (by decide) | exact absurd (by decide) zc9 | (exfalso; first | exact absurd ((nI_leI (a := nn) (b := k) (by omega) (by omega)).mp zc9) (by omega) | exact absurd ((nI_leI (a := k) (b := k) (by omega) (by omega)).mpr (by omega)) zc9) | (exfalso; simp_all; done)
      · intro zc9
        with_reducible first | have ze9 := Int32.not_le.mp zc9 | have ze9 := zc9
        refine hB bX7_hearStrokes_12 _ _ _ _ _ _ _ kX7_hearStrokes_12 ?_
        dsimp only [bX7_hearStrokes_12, kx_wp, kx_step, kx_lI, kx_lL, kx_lA, kx_gl, kx_pI, kx_pL, kx_pR, kx_pA, kx_pV, kx_s1, kx_s2, kx_sl, kx_pre, kx_c2, kx_pl, kx_cmp, kx_oF, kx_eqN, kx_nil, kx_c1, kx_ft, kx_aI, kx_aL, kx_aR, kx_ln, Nat.reduceAdd, Option.toList, List.cons_append, List.nil_append, cf7_5, cf7_6]
        repeat (simp only [sW_71, sW_76, sW_77, sW_p71, sW_p76, sW_p77, nI_1, pk_us, pk_un, ne_eq, Nat.reduceEqDiff, not_false_eq_true, ks_eq, ks_ss, zs]; try dsimp only [kx_wp, kx_step, kx_lI, kx_lL, kx_lA, kx_gl, kx_pI, kx_pL, kx_pR, kx_pA, kx_pV, kx_s1, kx_s2, kx_sl, kx_pre, kx_c2, kx_pl, kx_cmp, kx_oF, kx_eqN, kx_nil, kx_c1, kx_ft, kx_aI, kx_aL, kx_aR, kx_ln, Nat.reduceAdd, Option.toList, List.cons_append, List.nil_append, cf7_5, cf7_6])
        repeat' apply And.intro
        all_goals try (first | with_reducible assumption | (with_reducible refine ck_nzI ?_; simp; done) | (with_reducible refine ck_nzL ?_; simp; done) | (with_reducible refine vp_in_nI ?_ ?_ <;> first | omega | decide) | (with_reducible refine Nat.le_of_ble_eq_true ?_; rfl) | omega | exact Or.inl trivial | exact Or.inr trivial | exact Or.inl rfl | exact Or.inr rfl | exact Nat.le_of_ble_eq_true rfl | exact kz_in120 zc21 zc16)
        · intro zc16
          with_reducible first | have ze16 := Int32.not_lt.mpr zc16 | have ze16 := zc16
          refine hB bX7_hearStrokes_55 _ _ _ _ _ _ _ kX7_hearStrokes_55 ?_
          dsimp only [bX7_hearStrokes_55, kx_wp, kx_step, kx_lI, kx_lL, kx_lA, kx_gl, kx_pI, kx_pL, kx_pR, kx_pA, kx_pV, kx_s1, kx_s2, kx_sl, kx_pre, kx_c2, kx_pl, kx_cmp, kx_oF, kx_eqN, kx_nil, kx_c1, kx_ft, kx_aI, kx_aL, kx_aR, kx_ln, Nat.reduceAdd, Option.toList, List.cons_append, List.nil_append, cf7_5, cf7_6]
          repeat (simp only [sW_71, sW_76, sW_77, sW_p71, sW_p76, sW_p77, nI_1, pk_us, pk_un, ne_eq, Nat.reduceEqDiff, not_false_eq_true, ks_eq, ks_ss, zs]; try dsimp only [kx_wp, kx_step, kx_lI, kx_lL, kx_lA, kx_gl, kx_pI, kx_pL, kx_pR, kx_pA, kx_pV, kx_s1, kx_s2, kx_sl, kx_pre, kx_c2, kx_pl, kx_cmp, kx_oF, kx_eqN, kx_nil, kx_c1, kx_ft, kx_aI, kx_aL, kx_aR, kx_ln, Nat.reduceAdd, Option.toList, List.cons_append, List.nil_append, cf7_5, cf7_6])
          all_goals (repeat' apply And.intro)
          all_goals ((try clear hB hC); first | exact True.intro | rfl | (rw [cx_hs_e hb (by assumption) nn hn (by omega)]))
        · intro zc16
          with_reducible first | have ze16 := Int32.not_le.mp zc16 | have ze16 := zc16
          refine hB bX7_hearStrokes_19 _ _ _ _ _ _ _ kX7_hearStrokes_19 ?_
          dsimp only [bX7_hearStrokes_19, kx_wp, kx_step, kx_lI, kx_lL, kx_lA, kx_gl, kx_pI, kx_pL, kx_pR, kx_pA, kx_pV, kx_s1, kx_s2, kx_sl, kx_pre, kx_c2, kx_pl, kx_cmp, kx_oF, kx_eqN, kx_nil, kx_c1, kx_ft, kx_aI, kx_aL, kx_aR, kx_ln, Nat.reduceAdd, Option.toList, List.cons_append, List.nil_append, cf7_5, cf7_6]
          repeat (simp only [sW_71, sW_76, sW_77, sW_p71, sW_p76, sW_p77, nI_1, pk_us, pk_un, ne_eq, Nat.reduceEqDiff, not_false_eq_true, ks_eq, ks_ss, zs]; try dsimp only [kx_wp, kx_step, kx_lI, kx_lL, kx_lA, kx_gl, kx_pI, kx_pL, kx_pR, kx_pA, kx_pV, kx_s1, kx_s2, kx_sl, kx_pre, kx_c2, kx_pl, kx_cmp, kx_oF, kx_eqN, kx_nil, kx_c1, kx_ft, kx_aI, kx_aL, kx_aR, kx_ln, Nat.reduceAdd, Option.toList, List.cons_append, List.nil_append, cf7_5, cf7_6])
          repeat' apply And.intro
          all_goals try (first | with_reducible assumption | (with_reducible refine ck_nzI ?_; simp; done) | (with_reducible refine ck_nzL ?_; simp; done) | (with_reducible refine vp_in_nI ?_ ?_ <;> first | omega | decide) | (with_reducible refine Nat.le_of_ble_eq_true ?_; rfl) | omega | exact Or.inl trivial | exact Or.inr trivial | exact Or.inl rfl | exact Or.inr rfl | exact Nat.le_of_ble_eq_true rfl | exact kz_in120 zc21 zc16)
          · intro zc21
            with_reducible first | have ze21 := Int32.not_le.mpr zc21 | have ze21 := zc21
            refine hB bX7_hearStrokes_46 _ _ _ _ _ _ _ kX7_hearStrokes_46 ?_
            dsimp only [bX7_hearStrokes_46, kx_wp, kx_step, kx_lI, kx_lL, kx_lA, kx_gl, kx_pI, kx_pL, kx_pR, kx_pA, kx_pV, kx_s1, kx_s2, kx_sl, kx_pre, kx_c2, kx_pl, kx_cmp, kx_oF, kx_eqN, kx_nil, kx_c1, kx_ft, kx_aI, kx_aL, kx_aR, kx_ln, Nat.reduceAdd, Option.toList, List.cons_append, List.nil_append, cf7_5, cf7_6]
            repeat (simp only [sW_71, sW_76, sW_77, sW_p71, sW_p76, sW_p77, nI_1, pk_us, pk_un, ne_eq, Nat.reduceEqDiff, not_false_eq_true, ks_eq, ks_ss, zs]; try dsimp only [kx_wp, kx_step, kx_lI, kx_lL, kx_lA, kx_gl, kx_pI, kx_pL, kx_pR, kx_pA, kx_pV, kx_s1, kx_s2, kx_sl, kx_pre, kx_c2, kx_pl, kx_cmp, kx_oF, kx_eqN, kx_nil, kx_c1, kx_ft, kx_aI, kx_aL, kx_aR, kx_ln, Nat.reduceAdd, Option.toList, List.cons_append, List.nil_append, cf7_5, cf7_6])
            repeat' apply And.intro
            all_goals try (first | with_reducible assumption | (with_reducible refine ck_nzI ?_; simp; done) | (with_reducible refine ck_nzL ?_; simp; done) | (with_reducible refine vp_in_nI ?_ ?_ <;> first | omega | decide) | (with_reducible refine Nat.le_of_ble_eq_true ?_; rfl) | omega | exact Or.inl trivial | exact Or.inr trivial | exact Or.inl rfl | exact Or.inr rfl | exact Nat.le_of_ble_eq_true rfl | exact kz_in120 zc21 zc16)
            have zi := ih (k + 1) (by omega)
            rw [cx_hs_s] at zi
            simp only [zc9, ze9, zc16, ze16, zc21, ze21, ↓reduceIte] at zi
            exact zi
          · intro zc21
            with_reducible first | have ze21 := Int32.not_lt.mp zc21 | have ze21 := zc21
            refine hB bX7_hearStrokes_24 _ _ _ _ _ _ _ kX7_hearStrokes_24 ?_
            dsimp only [bX7_hearStrokes_24, kx_wp, kx_step, kx_lI, kx_lL, kx_lA, kx_gl, kx_pI, kx_pL, kx_pR, kx_pA, kx_pV, kx_s1, kx_s2, kx_sl, kx_pre, kx_c2, kx_pl, kx_cmp, kx_oF, kx_eqN, kx_nil, kx_c1, kx_ft, kx_aI, kx_aL, kx_aR, kx_ln, Nat.reduceAdd, Option.toList, List.cons_append, List.nil_append, cf7_5, cf7_6]
            repeat (simp only [sW_71, sW_76, sW_77, sW_p71, sW_p76, sW_p77, nI_1, pk_us, pk_un, ne_eq, Nat.reduceEqDiff, not_false_eq_true, ks_eq, ks_ss, zs]; try dsimp only [kx_wp, kx_step, kx_lI, kx_lL, kx_lA, kx_gl, kx_pI, kx_pL, kx_pR, kx_pA, kx_pV, kx_s1, kx_s2, kx_sl, kx_pre, kx_c2, kx_pl, kx_cmp, kx_oF, kx_eqN, kx_nil, kx_c1, kx_ft, kx_aI, kx_aL, kx_aR, kx_ln, Nat.reduceAdd, Option.toList, List.cons_append, List.nil_append, cf7_5, cf7_6])
            repeat' apply And.intro
            all_goals try (first | with_reducible assumption | (with_reducible refine ck_nzI ?_; simp; done) | (with_reducible refine ck_nzL ?_; simp; done) | (with_reducible refine vp_in_nI ?_ ?_ <;> first | omega | decide) | (with_reducible refine Nat.le_of_ble_eq_true ?_; rfl) | omega | exact Or.inl trivial | exact Or.inr trivial | exact Or.inl rfl | exact Or.inr rfl | exact Nat.le_of_ble_eq_true rfl | exact kz_in120 zc21 zc16)
            refine hB bX7_hearStrokes_46 _ _ _ _ _ _ _ kX7_hearStrokes_46 ?_
            dsimp only [bX7_hearStrokes_46, kx_wp, kx_step, kx_lI, kx_lL, kx_lA, kx_gl, kx_pI, kx_pL, kx_pR, kx_pA, kx_pV, kx_s1, kx_s2, kx_sl, kx_pre, kx_c2, kx_pl, kx_cmp, kx_oF, kx_eqN, kx_nil, kx_c1, kx_ft, kx_aI, kx_aL, kx_aR, kx_ln, Nat.reduceAdd, Option.toList, List.cons_append, List.nil_append, cf7_5, cf7_6]
            repeat (simp only [sW_71, sW_76, sW_77, sW_p71, sW_p76, sW_p77, nI_1, pk_us, pk_un, ne_eq, Nat.reduceEqDiff, not_false_eq_true, ks_eq, ks_ss, zs]; try dsimp only [kx_wp, kx_step, kx_lI, kx_lL, kx_lA, kx_gl, kx_pI, kx_pL, kx_pR, kx_pA, kx_pV, kx_s1, kx_s2, kx_sl, kx_pre, kx_c2, kx_pl, kx_cmp, kx_oF, kx_eqN, kx_nil, kx_c1, kx_ft, kx_aI, kx_aL, kx_aR, kx_ln, Nat.reduceAdd, Option.toList, List.cons_append, List.nil_append, cf7_5, cf7_6])
            repeat' apply And.intro
            all_goals try (first | with_reducible assumption | (with_reducible refine ck_nzI ?_; simp; done) | (with_reducible refine ck_nzL ?_; simp; done) | (with_reducible refine vp_in_nI ?_ ?_ <;> first | omega | decide) | (with_reducible refine Nat.le_of_ble_eq_true ?_; rfl) | omega | exact Or.inl trivial | exact Or.inr trivial | exact Or.inl rfl | exact Or.inr rfl | exact Nat.le_of_ble_eq_true rfl | exact kz_in120 zc21 zc16)
            have zi := ih (k + 1) (by omega)
            rw [cx_hs_s] at zi
            simp only [zc9, ze9, zc16, ze16, zc21, ze21, ↓reduceIte] at zi
            exact zi
  refine hB bX7_hearStrokes_0 _ _ _ _ _ _ _ kX7_hearStrokes_0 ?_
  dsimp only [bX7_hearStrokes_0, kx_wp, kx_step, kx_lI, kx_lL, kx_lA, kx_gl, kx_pI, kx_pL, kx_pR, kx_pA, kx_pV, kx_s1, kx_s2, kx_sl, kx_pre, kx_c2, kx_pl, kx_cmp, kx_oF, kx_eqN, kx_nil, kx_c1, kx_ft, kx_aI, kx_aL, kx_aR, kx_ln, Nat.reduceAdd, Option.toList, List.cons_append, List.nil_append, cf7_5, cf7_6]
  repeat (simp only [sW_71, sW_76, sW_77, sW_p71, sW_p76, sW_p77, nI_1, pk_us, pk_un, ne_eq, Nat.reduceEqDiff, not_false_eq_true, ks_eq, ks_ss]; try dsimp only [kx_wp, kx_step, kx_lI, kx_lL, kx_lA, kx_gl, kx_pI, kx_pL, kx_pR, kx_pA, kx_pV, kx_s1, kx_s2, kx_sl, kx_pre, kx_c2, kx_pl, kx_cmp, kx_oF, kx_eqN, kx_nil, kx_c1, kx_ft, kx_aI, kx_aL, kx_aR, kx_ln, Nat.reduceAdd, Option.toList, List.cons_append, List.nil_append, cf7_5, cf7_6])
  repeat' apply And.intro
  all_goals try (first | with_reducible assumption | (with_reducible refine ck_nzI ?_; simp; done) | (with_reducible refine ck_nzL ?_; simp; done) | (with_reducible refine vp_in_nI ?_ ?_ <;> first | omega | decide) | (with_reducible refine Nat.le_of_ble_eq_true ?_; rfl) | omega | exact Or.inl trivial | exact Or.inr trivial | exact Or.inl rfl | exact Or.inr rfl | exact Nat.le_of_ble_eq_true rfl | exact kz_in120 zc21 zc16)
  have zi := loop6 nn 0 (by omega)
  rw [show b + 2 * nI 0 = b by rw [show (2 : Int32) * nI 0 = 0 from rfl, Int32.add_zero], show cx_hs b bit (X, Y) 0 = (X, Y) from rfl] at zi
  exact zi

/-- the first run of strokes: how many, whose -/
def cx_cf (X Y : Nat → Int32) : Nat → Nat → Int32 → Int32 → Int32 → Int32 × Int32
  | 0, _, ct, bt, _ => (ct, bt)
  | n + 1, s, ct, bt, la => if 3 < nI s - la then (ct, bt) else if X s ≤ 0 then cx_cf X Y n (s + 1) ct bt la else cx_cf X Y n (s + 1) (ct + X s) (bt ||| Y s) (nI s)
def bX7_countFirstRun_0 : List kx_O := [(.aload_n 0, 0, 0, 0, .null), (.iconst 0, 0, 0, 0, .int 0), (.putfield 34, 7, 7, 0, .null), (.aload_n 0, 0, 0, 0, .null), (.iconst 0, 0, 0, 0, .int 0), (.putfield 37, 7, 8, 0, .null), (.bipush 120, 0, 0, 0, .int 120), (.istore_n 1, 1, 0, 0, .null), (.iconst 0, 0, 0, 0, .int 0), (.istore_n 2, 2, 0, 0, .null)]
theorem kX7_countFirstRun_0 : kx_oks kxL_X7 false cX7_countFirstRun 0 bX7_countFirstRun_0 = true := by decide +kernel
def bX7_countFirstRun_15 : List kx_O := [(.iload_n 2, 2, 0, 0, .null), (.bipush 120, 0, 0, 0, .int 120), (.if_icmp .ge 57, 75, 0, 0, .null)]
theorem kX7_countFirstRun_15 : kx_oks kxL_X7 false cX7_countFirstRun 15 bX7_countFirstRun_15 = true := by decide +kernel
def bX7_countFirstRun_21 : List kx_O := [(.iload_n 2, 2, 0, 0, .null), (.iload_n 1, 1, 0, 0, .null), (.isub, 0, 0, 0, .null), (.iconst 3, 0, 0, 0, .int 3), (.if_icmp .gt 50, 75, 0, 0, .null)]
theorem kX7_countFirstRun_21 : kx_oks kxL_X7 false cX7_countFirstRun 21 bX7_countFirstRun_21 = true := by decide +kernel
def bX7_countFirstRun_28 : List kx_O := [(.aload_n 0, 0, 0, 0, .null), (.getfield 28, 7, 5, 0, .null), (.iload_n 2, 2, 0, 0, .null), (.iaload, 0, 0, 0, .null), (.ifCond .le 35, 69, 0, 0, .null)]
theorem kX7_countFirstRun_28 : kx_oks kxL_X7 false cX7_countFirstRun 28 bX7_countFirstRun_28 = true := by decide +kernel
def bX7_countFirstRun_37 : List kx_O := [(.aload_n 0, 0, 0, 0, .null), (.dup, 0, 0, 0, .null), (.getfield 34, 7, 7, 0, .null), (.aload_n 0, 0, 0, 0, .null), (.getfield 28, 7, 5, 0, .null), (.iload_n 2, 2, 0, 0, .null), (.iaload, 0, 0, 0, .null), (.iadd, 0, 0, 0, .null), (.putfield 34, 7, 7, 0, .null), (.aload_n 0, 0, 0, 0, .null), (.dup, 0, 0, 0, .null), (.getfield 37, 7, 8, 0, .null), (.aload_n 0, 0, 0, 0, .null), (.getfield 31, 7, 6, 0, .null), (.iload_n 2, 2, 0, 0, .null), (.iaload, 0, 0, 0, .null), (.ior, 0, 0, 0, .null), (.putfield 37, 7, 8, 0, .null), (.iload_n 2, 2, 0, 0, .null), (.istore_n 1, 1, 0, 0, .null)]
theorem kX7_countFirstRun_37 : kx_oks kxL_X7 false cX7_countFirstRun 37 bX7_countFirstRun_37 = true := by decide +kernel
def bX7_countFirstRun_69 : List kx_O := [(.iinc 2 1, 2, 0, 0, .int 1), (.goto (-57), 15, 0, 0, .null)]
theorem kX7_countFirstRun_69 : kx_oks kxL_X7 false cX7_countFirstRun 69 bX7_countFirstRun_69 = true := by decide +kernel
def bX7_countFirstRun_75 : List kx_O := [(.return_, 0, 0, 0, .null)]
theorem kX7_countFirstRun_75 : kx_oks kxL_X7 false cX7_countFirstRun 75 bX7_countFirstRun_75 = true := by decide +kernel
set_option maxRecDepth 100000 in
set_option maxHeartbeats 4000000 in
theorem ct_X7_countFirstRun (l : Launch) (G : kx_G) {P : kx_P} {sz : Nat} {F X Y : Nat → Int32}  : kx_M l G sX7_countFirstRun 1 0 0 [.ref 71] (sW P (F) (X) (Y)) sz none (sW P (upd (upd F 7 (cx_cf X Y 120 0 0 0 120).1) 8 (cx_cf X Y 120 0 0 0 120).2) (X) (Y)) sz := by
  refine kx_mk kx_tab kxLok_X7 (ini := false) [some (.ref 71), none, none] ⟨by decide, rfl, by decide, by decide⟩ (rfl) rfl rfl (fun g hB hC => ?_)
  have loop15 : ∀ (n9 k : Nat) (ct bt la : Int32), k + n9 = 120 → cx_cf X Y n9 k ct bt la = cx_cf X Y 120 0 0 0 120 → g 15 [some (.ref 71), some (.int la), some (.int (nI k))] [] (sW P (upd (upd F 7 ct) 8 bt) (X) (Y)) sz 0 0 := by
    intro n9
    induction n9 with
    | zero =>
      intro k ct bt la hk he
      obtain rfl : k = 120 := by omega
      rw [cx_cf] at he
      refine hB bX7_countFirstRun_15 _ _ _ _ _ _ _ kX7_countFirstRun_15 ?_
      dsimp only [bX7_countFirstRun_15, kx_wp, kx_step, kx_lI, kx_lL, kx_lA, kx_gl, kx_pI, kx_pL, kx_pR, kx_pA, kx_pV, kx_s1, kx_s2, kx_sl, kx_pre, kx_c2, kx_pl, kx_cmp, kx_oF, kx_eqN, kx_nil, kx_c1, kx_ft, kx_aI, kx_aL, kx_aR, kx_ln, Nat.reduceAdd, Option.toList, List.cons_append, List.nil_append, cf7_7, cf7_8, cf7_5, cf7_6]
      repeat (simp only [sW_71, sW_76, sW_77, sW_p71, sW_p76, sW_p77, nI_1, pk_uu, pk_us, pk_un, ne_eq, Nat.reduceEqDiff, not_false_eq_true, cp7_7, cp7_8, ks_eq, ks_ss]; try dsimp only [kx_wp, kx_step, kx_lI, kx_lL, kx_lA, kx_gl, kx_pI, kx_pL, kx_pR, kx_pA, kx_pV, kx_s1, kx_s2, kx_sl, kx_pre, kx_c2, kx_pl, kx_cmp, kx_oF, kx_eqN, kx_nil, kx_c1, kx_ft, kx_aI, kx_aL, kx_aR, kx_ln, Nat.reduceAdd, Option.toList, List.cons_append, List.nil_append, cf7_7, cf7_8, cf7_5, cf7_6])
      repeat' apply And.intro
      all_goals try (first | with_reducible assumption | (with_reducible refine ck_nzI ?_; simp; done) | (with_reducible refine ck_nzL ?_; simp; done) | (with_reducible refine vp_in_nI ?_ ?_ <;> first | omega | decide) | (with_reducible refine Nat.le_of_ble_eq_true ?_; rfl) | omega | exact Or.inl trivial | exact Or.inr trivial | exact Or.inl rfl | exact Or.inr rfl)
      · intro zc18
        with_reducible first | have ze18 := Int32.not_lt.mpr zc18 | have ze18 := zc18
        refine hB bX7_countFirstRun_75 _ _ _ _ _ _ _ kX7_countFirstRun_75 ?_
        dsimp only [bX7_countFirstRun_75, kx_wp, kx_step, kx_lI, kx_lL, kx_lA, kx_gl, kx_pI, kx_pL, kx_pR, kx_pA, kx_pV, kx_s1, kx_s2, kx_sl, kx_pre, kx_c2, kx_pl, kx_cmp, kx_oF, kx_eqN, kx_nil, kx_c1, kx_ft, kx_aI, kx_aL, kx_aR, kx_ln, Nat.reduceAdd, Option.toList, List.cons_append, List.nil_append, cf7_7, cf7_8, cf7_5, cf7_6]
        repeat (simp only [sW_71, sW_76, sW_77, sW_p71, sW_p76, sW_p77, nI_1, pk_uu, pk_us, pk_un, ne_eq, Nat.reduceEqDiff, not_false_eq_true, cp7_7, cp7_8, ks_eq, ks_ss]; try dsimp only [kx_wp, kx_step, kx_lI, kx_lL, kx_lA, kx_gl, kx_pI, kx_pL, kx_pR, kx_pA, kx_pV, kx_s1, kx_s2, kx_sl, kx_pre, kx_c2, kx_pl, kx_cmp, kx_oF, kx_eqN, kx_nil, kx_c1, kx_ft, kx_aI, kx_aL, kx_aR, kx_ln, Nat.reduceAdd, Option.toList, List.cons_append, List.nil_append, cf7_7, cf7_8, cf7_5, cf7_6])
        all_goals (repeat' apply And.intro)
        all_goals ((try clear hB hC); first | exact True.intro | (simp only [zc18, ze18, ↓reduceIte] at he; rw [← he]; done) | (rw [← he]))
      · intro zc18
        first | exact absurd rfl zc18 | exact absurd zc18 (by decide) | exact absurd (by decide) zc18 | (exfalso; first | exact absurd ((nI_leI (a := 120) (b := k) (by omega) (by omega)).mp zc18) (by omega) | exact absurd ((nI_leI (a := 120) (b := k) (by omega) (by omega)).mpr (by omega)) zc18) | (exfalso; simp_all; done)
    | succ n9 ih =>
      intro k ct bt la hk he
      rw [cx_cf] at he
      refine hB bX7_countFirstRun_15 _ _ _ _ _ _ _ kX7_countFirstRun_15 ?_
      dsimp only [bX7_countFirstRun_15, kx_wp, kx_step, kx_lI, kx_lL, kx_lA, kx_gl, kx_pI, kx_pL, kx_pR, kx_pA, kx_pV, kx_s1, kx_s2, kx_sl, kx_pre, kx_c2, kx_pl, kx_cmp, kx_oF, kx_eqN, kx_nil, kx_c1, kx_ft, kx_aI, kx_aL, kx_aR, kx_ln, Nat.reduceAdd, Option.toList, List.cons_append, List.nil_append, cf7_7, cf7_8, cf7_5, cf7_6]
      repeat (simp only [sW_71, sW_76, sW_77, sW_p71, sW_p76, sW_p77, nI_1, pk_uu, pk_us, pk_un, ne_eq, Nat.reduceEqDiff, not_false_eq_true, cp7_7, cp7_8, ks_eq, ks_ss, nI_clamp (show k < 2 ^ 31 by omega), show upd (upd (upd (upd F 7 ct) 8 bt) 7 (ct + X k)) 8 (bt ||| Y k) = upd (upd F 7 (ct + X k)) 8 (bt ||| Y k) from by funext z; unfold upd; split <;> (try split) <;> (try split) <;> simp_all]; try dsimp only [kx_wp, kx_step, kx_lI, kx_lL, kx_lA, kx_gl, kx_pI, kx_pL, kx_pR, kx_pA, kx_pV, kx_s1, kx_s2, kx_sl, kx_pre, kx_c2, kx_pl, kx_cmp, kx_oF, kx_eqN, kx_nil, kx_c1, kx_ft, kx_aI, kx_aL, kx_aR, kx_ln, Nat.reduceAdd, Option.toList, List.cons_append, List.nil_append, cf7_7, cf7_8, cf7_5, cf7_6])
      repeat' apply And.intro
      all_goals try (first | with_reducible assumption | (with_reducible refine ck_nzI ?_; simp; done) | (with_reducible refine ck_nzL ?_; simp; done) | (with_reducible refine vp_in_nI ?_ ?_ <;> first | omega | decide) | (with_reducible refine Nat.le_of_ble_eq_true ?_; rfl) | omega | exact Or.inl trivial | exact Or.inr trivial | exact Or.inl rfl | exact Or.inr rfl | exact vp_in_nI (by omega) (by decide))
      · intro zc18
        first | exact absurd rfl zc18 | exact absurd zc18 (by decide) | exact absurd (by decide) zc18 | (exfalso; first | exact absurd ((nI_leI (a := 120) (b := k) (by omega) (by omega)).mp zc18) (by omega) | exact absurd ((nI_leI (a := 120) (b := k) (by omega) (by omega)).mpr (by omega)) zc18) | (exfalso; simp_all; done)
      · intro zc18
        with_reducible first | have ze18 := Int32.not_le.mp zc18 | have ze18 := zc18
        refine hB bX7_countFirstRun_21 _ _ _ _ _ _ _ kX7_countFirstRun_21 ?_
        dsimp only [bX7_countFirstRun_21, kx_wp, kx_step, kx_lI, kx_lL, kx_lA, kx_gl, kx_pI, kx_pL, kx_pR, kx_pA, kx_pV, kx_s1, kx_s2, kx_sl, kx_pre, kx_c2, kx_pl, kx_cmp, kx_oF, kx_eqN, kx_nil, kx_c1, kx_ft, kx_aI, kx_aL, kx_aR, kx_ln, Nat.reduceAdd, Option.toList, List.cons_append, List.nil_append, cf7_7, cf7_8, cf7_5, cf7_6]
        repeat (simp only [sW_71, sW_76, sW_77, sW_p71, sW_p76, sW_p77, nI_1, pk_uu, pk_us, pk_un, ne_eq, Nat.reduceEqDiff, not_false_eq_true, cp7_7, cp7_8, ks_eq, ks_ss, nI_clamp (show k < 2 ^ 31 by omega), show upd (upd (upd (upd F 7 ct) 8 bt) 7 (ct + X k)) 8 (bt ||| Y k) = upd (upd F 7 (ct + X k)) 8 (bt ||| Y k) from by funext z; unfold upd; split <;> (try split) <;> (try split) <;> simp_all]; try dsimp only [kx_wp, kx_step, kx_lI, kx_lL, kx_lA, kx_gl, kx_pI, kx_pL, kx_pR, kx_pA, kx_pV, kx_s1, kx_s2, kx_sl, kx_pre, kx_c2, kx_pl, kx_cmp, kx_oF, kx_eqN, kx_nil, kx_c1, kx_ft, kx_aI, kx_aL, kx_aR, kx_ln, Nat.reduceAdd, Option.toList, List.cons_append, List.nil_append, cf7_7, cf7_8, cf7_5, cf7_6])
        repeat' apply And.intro
        all_goals try (first | with_reducible assumption | (with_reducible refine ck_nzI ?_; simp; done) | (with_reducible refine ck_nzL ?_; simp; done) | (with_reducible refine vp_in_nI ?_ ?_ <;> first | omega | decide) | (with_reducible refine Nat.le_of_ble_eq_true ?_; rfl) | omega | exact Or.inl trivial | exact Or.inr trivial | exact Or.inl rfl | exact Or.inr rfl | exact vp_in_nI (by omega) (by decide))
        · intro zc25
          with_reducible first | have ze25 := Int32.not_le.mpr zc25 | have ze25 := zc25
          refine hB bX7_countFirstRun_75 _ _ _ _ _ _ _ kX7_countFirstRun_75 ?_
          dsimp only [bX7_countFirstRun_75, kx_wp, kx_step, kx_lI, kx_lL, kx_lA, kx_gl, kx_pI, kx_pL, kx_pR, kx_pA, kx_pV, kx_s1, kx_s2, kx_sl, kx_pre, kx_c2, kx_pl, kx_cmp, kx_oF, kx_eqN, kx_nil, kx_c1, kx_ft, kx_aI, kx_aL, kx_aR, kx_ln, Nat.reduceAdd, Option.toList, List.cons_append, List.nil_append, cf7_7, cf7_8, cf7_5, cf7_6]
          repeat (simp only [sW_71, sW_76, sW_77, sW_p71, sW_p76, sW_p77, nI_1, pk_uu, pk_us, pk_un, ne_eq, Nat.reduceEqDiff, not_false_eq_true, cp7_7, cp7_8, ks_eq, ks_ss, nI_clamp (show k < 2 ^ 31 by omega), show upd (upd (upd (upd F 7 ct) 8 bt) 7 (ct + X k)) 8 (bt ||| Y k) = upd (upd F 7 (ct + X k)) 8 (bt ||| Y k) from by funext z; unfold upd; split <;> (try split) <;> (try split) <;> simp_all]; try dsimp only [kx_wp, kx_step, kx_lI, kx_lL, kx_lA, kx_gl, kx_pI, kx_pL, kx_pR, kx_pA, kx_pV, kx_s1, kx_s2, kx_sl, kx_pre, kx_c2, kx_pl, kx_cmp, kx_oF, kx_eqN, kx_nil, kx_c1, kx_ft, kx_aI, kx_aL, kx_aR, kx_ln, Nat.reduceAdd, Option.toList, List.cons_append, List.nil_append, cf7_7, cf7_8, cf7_5, cf7_6])
          all_goals (repeat' apply And.intro)
          all_goals ((try clear hB hC); first | exact True.intro | (simp only [zc18, ze18, zc25, ze25, ↓reduceIte] at he; rw [← he]; done) | (rw [← he]))
        · intro zc25
          with_reducible first | have ze25 := Int32.not_lt.mp zc25 | have ze25 := zc25
          refine hB bX7_countFirstRun_28 _ _ _ _ _ _ _ kX7_countFirstRun_28 ?_
          dsimp only [bX7_countFirstRun_28, kx_wp, kx_step, kx_lI, kx_lL, kx_lA, kx_gl, kx_pI, kx_pL, kx_pR, kx_pA, kx_pV, kx_s1, kx_s2, kx_sl, kx_pre, kx_c2, kx_pl, kx_cmp, kx_oF, kx_eqN, kx_nil, kx_c1, kx_ft, kx_aI, kx_aL, kx_aR, kx_ln, Nat.reduceAdd, Option.toList, List.cons_append, List.nil_append, cf7_7, cf7_8, cf7_5, cf7_6]
          repeat (simp only [sW_71, sW_76, sW_77, sW_p71, sW_p76, sW_p77, nI_1, pk_uu, pk_us, pk_un, ne_eq, Nat.reduceEqDiff, not_false_eq_true, cp7_7, cp7_8, ks_eq, ks_ss, nI_clamp (show k < 2 ^ 31 by omega), show upd (upd (upd (upd F 7 ct) 8 bt) 7 (ct + X k)) 8 (bt ||| Y k) = upd (upd F 7 (ct + X k)) 8 (bt ||| Y k) from by funext z; unfold upd; split <;> (try split) <;> (try split) <;> simp_all]; try dsimp only [kx_wp, kx_step, kx_lI, kx_lL, kx_lA, kx_gl, kx_pI, kx_pL, kx_pR, kx_pA, kx_pV, kx_s1, kx_s2, kx_sl, kx_pre, kx_c2, kx_pl, kx_cmp, kx_oF, kx_eqN, kx_nil, kx_c1, kx_ft, kx_aI, kx_aL, kx_aR, kx_ln, Nat.reduceAdd, Option.toList, List.cons_append, List.nil_append, cf7_7, cf7_8, cf7_5, cf7_6])
          repeat' apply And.intro
          all_goals try (first | with_reducible assumption | (with_reducible refine ck_nzI ?_; simp; done) | (with_reducible refine ck_nzL ?_; simp; done) | (with_reducible refine vp_in_nI ?_ ?_ <;> first | omega | decide) | (with_reducible refine Nat.le_of_ble_eq_true ?_; rfl) | omega | exact Or.inl trivial | exact Or.inr trivial | exact Or.inl rfl | exact Or.inr rfl | exact vp_in_nI (by omega) (by decide))
          · intro zc34
            with_reducible first | have ze34 := Int32.not_lt.mpr zc34 | have ze34 := zc34
            refine hB bX7_countFirstRun_69 _ _ _ _ _ _ _ kX7_countFirstRun_69 ?_
            dsimp only [bX7_countFirstRun_69, kx_wp, kx_step, kx_lI, kx_lL, kx_lA, kx_gl, kx_pI, kx_pL, kx_pR, kx_pA, kx_pV, kx_s1, kx_s2, kx_sl, kx_pre, kx_c2, kx_pl, kx_cmp, kx_oF, kx_eqN, kx_nil, kx_c1, kx_ft, kx_aI, kx_aL, kx_aR, kx_ln, Nat.reduceAdd, Option.toList, List.cons_append, List.nil_append, cf7_7, cf7_8, cf7_5, cf7_6]
            repeat (simp only [sW_71, sW_76, sW_77, sW_p71, sW_p76, sW_p77, nI_1, pk_uu, pk_us, pk_un, ne_eq, Nat.reduceEqDiff, not_false_eq_true, cp7_7, cp7_8, ks_eq, ks_ss, nI_clamp (show k < 2 ^ 31 by omega), show upd (upd (upd (upd F 7 ct) 8 bt) 7 (ct + X k)) 8 (bt ||| Y k) = upd (upd F 7 (ct + X k)) 8 (bt ||| Y k) from by funext z; unfold upd; split <;> (try split) <;> (try split) <;> simp_all]; try dsimp only [kx_wp, kx_step, kx_lI, kx_lL, kx_lA, kx_gl, kx_pI, kx_pL, kx_pR, kx_pA, kx_pV, kx_s1, kx_s2, kx_sl, kx_pre, kx_c2, kx_pl, kx_cmp, kx_oF, kx_eqN, kx_nil, kx_c1, kx_ft, kx_aI, kx_aL, kx_aR, kx_ln, Nat.reduceAdd, Option.toList, List.cons_append, List.nil_append, cf7_7, cf7_8, cf7_5, cf7_6])
            repeat' apply And.intro
            all_goals try (first | with_reducible assumption | (with_reducible refine ck_nzI ?_; simp; done) | (with_reducible refine ck_nzL ?_; simp; done) | (with_reducible refine vp_in_nI ?_ ?_ <;> first | omega | decide) | (with_reducible refine Nat.le_of_ble_eq_true ?_; rfl) | omega | exact Or.inl trivial | exact Or.inr trivial | exact Or.inl rfl | exact Or.inr rfl | exact vp_in_nI (by omega) (by decide))
            simp only [zc18, ze18, zc25, ze25, zc34, ze34, ↓reduceIte] at he
            exact ih (k + 1) _ _ _ (by omega) he
          · intro zc34
            with_reducible first | have ze34 := Int32.not_le.mp zc34 | have ze34 := zc34
            refine hB bX7_countFirstRun_37 _ _ _ _ _ _ _ kX7_countFirstRun_37 ?_
            dsimp only [bX7_countFirstRun_37, kx_wp, kx_step, kx_lI, kx_lL, kx_lA, kx_gl, kx_pI, kx_pL, kx_pR, kx_pA, kx_pV, kx_s1, kx_s2, kx_sl, kx_pre, kx_c2, kx_pl, kx_cmp, kx_oF, kx_eqN, kx_nil, kx_c1, kx_ft, kx_aI, kx_aL, kx_aR, kx_ln, Nat.reduceAdd, Option.toList, List.cons_append, List.nil_append, cf7_7, cf7_8, cf7_5, cf7_6]
            repeat (simp only [sW_71, sW_76, sW_77, sW_p71, sW_p76, sW_p77, nI_1, pk_uu, pk_us, pk_un, ne_eq, Nat.reduceEqDiff, not_false_eq_true, cp7_7, cp7_8, ks_eq, ks_ss, nI_clamp (show k < 2 ^ 31 by omega), show upd (upd (upd (upd F 7 ct) 8 bt) 7 (ct + X k)) 8 (bt ||| Y k) = upd (upd F 7 (ct + X k)) 8 (bt ||| Y k) from by funext z; unfold upd; split <;> (try split) <;> (try split) <;> simp_all]; try dsimp only [kx_wp, kx_step, kx_lI, kx_lL, kx_lA, kx_gl, kx_pI, kx_pL, kx_pR, kx_pA, kx_pV, kx_s1, kx_s2, kx_sl, kx_pre, kx_c2, kx_pl, kx_cmp, kx_oF, kx_eqN, kx_nil, kx_c1, kx_ft, kx_aI, kx_aL, kx_aR, kx_ln, Nat.reduceAdd, Option.toList, List.cons_append, List.nil_append, cf7_7, cf7_8, cf7_5, cf7_6])
            repeat' apply And.intro
            all_goals try (first | with_reducible assumption | (with_reducible refine ck_nzI ?_; simp; done) | (with_reducible refine ck_nzL ?_; simp; done) | (with_reducible refine vp_in_nI ?_ ?_ <;> first | omega | decide) | (with_reducible refine Nat.le_of_ble_eq_true ?_; rfl) | omega | exact Or.inl trivial | exact Or.inr trivial | exact Or.inl rfl | exact Or.inr rfl | exact vp_in_nI (by omega) (by decide))
            refine hB bX7_countFirstRun_69 _ _ _ _ _ _ _ kX7_countFirstRun_69 ?_
            dsimp only [bX7_countFirstRun_69, kx_wp, kx_step, kx_lI, kx_lL, kx_lA, kx_gl, kx_pI, kx_pL, kx_pR, kx_pA, kx_pV, kx_s1, kx_s2, kx_sl, kx_pre, kx_c2, kx_pl, kx_cmp, kx_oF, kx_eqN, kx_nil, kx_c1, kx_ft, kx_aI, kx_aL, kx_aR, kx_ln, Nat.reduceAdd, Option.toList, List.cons_append, List.nil_append, cf7_7, cf7_8, cf7_5, cf7_6]
            repeat (simp only [sW_71, sW_76, sW_77, sW_p71, sW_p76, sW_p77, nI_1, pk_uu, pk_us, pk_un, ne_eq, Nat.reduceEqDiff, not_false_eq_true, cp7_7, cp7_8, ks_eq, ks_ss, nI_clamp (show k < 2 ^ 31 by omega), show upd (upd (upd (upd F 7 ct) 8 bt) 7 (ct + X k)) 8 (bt ||| Y k) = upd (upd F 7 (ct + X k)) 8 (bt ||| Y k) from by funext z; unfold upd; split <;> (try split) <;> (try split) <;> simp_all]; try dsimp only [kx_wp, kx_step, kx_lI, kx_lL, kx_lA, kx_gl, kx_pI, kx_pL, kx_pR, kx_pA, kx_pV, kx_s1, kx_s2, kx_sl, kx_pre, kx_c2, kx_pl, kx_cmp, kx_oF, kx_eqN, kx_nil, kx_c1, kx_ft, kx_aI, kx_aL, kx_aR, kx_ln, Nat.reduceAdd, Option.toList, List.cons_append, List.nil_append, cf7_7, cf7_8, cf7_5, cf7_6])
            repeat' apply And.intro
            all_goals try (first | with_reducible assumption | (with_reducible refine ck_nzI ?_; simp; done) | (with_reducible refine ck_nzL ?_; simp; done) | (with_reducible refine vp_in_nI ?_ ?_ <;> first | omega | decide) | (with_reducible refine Nat.le_of_ble_eq_true ?_; rfl) | omega | exact Or.inl trivial | exact Or.inr trivial | exact Or.inl rfl | exact Or.inr rfl | exact vp_in_nI (by omega) (by decide))
            simp only [zc18, ze18, zc25, ze25, zc34, ze34, ↓reduceIte] at he
            exact ih (k + 1) _ _ _ (by omega) he
  refine hB bX7_countFirstRun_0 _ _ _ _ _ _ _ kX7_countFirstRun_0 ?_
  dsimp only [bX7_countFirstRun_0, kx_wp, kx_step, kx_lI, kx_lL, kx_lA, kx_gl, kx_pI, kx_pL, kx_pR, kx_pA, kx_pV, kx_s1, kx_s2, kx_sl, kx_pre, kx_c2, kx_pl, kx_cmp, kx_oF, kx_eqN, kx_nil, kx_c1, kx_ft, kx_aI, kx_aL, kx_aR, kx_ln, Nat.reduceAdd, Option.toList, List.cons_append, List.nil_append, cf7_7, cf7_8, cf7_5, cf7_6]
  repeat (simp only [sW_71, sW_76, sW_77, sW_p71, sW_p76, sW_p77, nI_1, pk_uu, pk_us, pk_un, ne_eq, Nat.reduceEqDiff, not_false_eq_true, cp7_7, cp7_8, ks_eq, ks_ss]; try dsimp only [kx_wp, kx_step, kx_lI, kx_lL, kx_lA, kx_gl, kx_pI, kx_pL, kx_pR, kx_pA, kx_pV, kx_s1, kx_s2, kx_sl, kx_pre, kx_c2, kx_pl, kx_cmp, kx_oF, kx_eqN, kx_nil, kx_c1, kx_ft, kx_aI, kx_aL, kx_aR, kx_ln, Nat.reduceAdd, Option.toList, List.cons_append, List.nil_append, cf7_7, cf7_8, cf7_5, cf7_6])
  repeat' apply And.intro
  all_goals try (first | with_reducible assumption | (with_reducible refine ck_nzI ?_; simp; done) | (with_reducible refine ck_nzL ?_; simp; done) | (with_reducible refine vp_in_nI ?_ ?_ <;> first | omega | decide) | (with_reducible refine Nat.le_of_ble_eq_true ?_; rfl) | omega | exact Or.inl trivial | exact Or.inr trivial | exact Or.inl rfl | exact Or.inr rfl | exact vp_in_nI (by omega) (by decide))
  exact loop15 120 0 0 0 120 (by omega) rfl


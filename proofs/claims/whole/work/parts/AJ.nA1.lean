theorem cx_PD.rn {Q : kx_P} {w : Nat} {T : Nat → Int32} {n : Nat} {R : ck_Qt} {sz : Nat} {r : Option Value} {P2 : kx_P} {s2 : Nat} (h : cx_PD Q w T n R sz cx_rn r P2 s2) : r = none := by
  obtain ⟨F, V, te, qu, Fo, st, h1, -⟩ := h
  exact h1
theorem cx_PD.rb {Q : kx_P} {w : Nat} {T : Nat → Int32} {n : Nat} {R : ck_Qt} {sz : Nat} {r : Option Value} {P2 : kx_P} {s2 : Nat} (h : cx_PD Q w T n R sz cx_rb r P2 s2) : kx_rok (some .boolean) r := by
  obtain ⟨F, V, te, qu, Fo, st, h1, -⟩ := h
  exact h1
theorem ck_qtr_s (T : Nat → Int32) (n a : Nat) (k : Int32) (t : Nat → Int32) (i : Nat) : ck_qtr T n a k t (i + 1) = ((ck_num T n 0 16 (ck_qtr T n a k t i).1 (ck_qtr T n a k t i).2.1 (ck_qtr T n a k t i).2.2.1).2.1, (ck_num T n 0 16 (ck_qtr T n a k t i).1 (ck_qtr T n a k t i).2.1 (ck_qtr T n a k t i).2.2.1).2.2.1, (ck_num T n 0 16 (ck_qtr T n a k t i).1 (ck_qtr T n a k t i).2.1 (ck_qtr T n a k t i).2.2.1).2.2.2, upd (ck_qtr T n a k t i).2.2.2 (6 + i) (ck_num T n 0 16 (ck_qtr T n a k t i).1 (ck_qtr T n a k t i).2.1 (ck_qtr T n a k t i).2.2.1).1) := rfl
theorem ck_qtr_f (T : Nat → Int32) (n a : Nat) (k : Int32) (t : Nat → Int32) (i : Nat) (h : ¬ (ck_qtr T n a k t i).2.1 = -1) : ∀ j, (ck_qtr T n a k t (i + j)).2.1 = (ck_qtr T n a k t i).2.1 ∧ (ck_qtr T n a k t (i + j)).2.2.1 = (ck_qtr T n a k t i).2.2.1 := by
  intro j
  induction j with
  | zero => exact ⟨rfl, rfl⟩
  | succ j ih =>
    have hb : ¬ (ck_qtr T n a k t (i + j)).2.1 = -1 := fun q => h (ih.1.symm.trans q)
    rw [show i + (j + 1) = i + j + 1 from rfl, ck_qtr_s]
    generalize ck_qtr T n a k t (i + j) = r at hb ih ⊢
    unfold ck_num
    rw [if_neg hb]
    exact ih
theorem cx_V.q {t V qu : Nat → Int32} (hv : cx_V t V qu) {i : Nat} (hi : i < 4) (v : Int32) : cx_V (upd t (6 + i) v) V (upd qu i v) := by
  obtain ⟨a0, a1, a2, a3, a4, a5, a6, a7, a8, a9, a10, a11, a12⟩ := hv
  refine ⟨a0.trans (pk_un (by omega)).symm, a1.trans (pk_un (by omega)).symm, a2.trans (pk_un (by omega)).symm, a3.trans (pk_un (by omega)).symm, a4.trans (pk_un (by omega)).symm, a5.trans (pk_un (by omega)).symm, a6.trans (pk_un (by omega)).symm, a7.trans (pk_un (by omega)).symm, a8.trans (pk_un (by omega)).symm, a9.trans (pk_un (by omega)).symm, a10.trans (pk_un (by omega)).symm, a11.trans (pk_un (by omega)).symm, fun j hj => ?_⟩
  by_cases h : j = i
  · subst h; rw [pk_us, pk_us]
  · rw [pk_un h, pk_un (show 6 + j ≠ 6 + i by omega)]; exact a12 j hj
def bX8_readQuarters_0 : List kx_O := [(.iconst 0, 0, 0, 0, .int 0), (.istore_n 1, 1, 0, 0, .null)]
theorem kX8_readQuarters_0 : kx_oks kxL_X8 false cX8_readQuarters 0 bX8_readQuarters_0 = true := by decide +kernel
def bX8_readQuarters_2 : List kx_O := [(.aload_n 0, 0, 0, 0, .null), (.getfield 34, 8, 4, 0, .null), (.ifCond .ne 37, 43, 0, 0, .null)]
theorem kX8_readQuarters_2 : kx_oks kxL_X8 false cX8_readQuarters 2 bX8_readQuarters_2 = true := by decide +kernel
def bX8_readQuarters_9 : List kx_O := [(.iload_n 1, 1, 0, 0, .null), (.aload_n 0, 0, 0, 0, .null), (.getfield 37, 8, 9, 0, .null), (.getfield 178, 9, 15, 0, .null), (.arraylength, 0, 0, 0, .null), (.if_icmp .ge 25, 43, 0, 0, .null)]
theorem kX8_readQuarters_9 : kx_oks kxL_X8 false cX8_readQuarters 9 bX8_readQuarters_9 = true := by decide +kernel
def bX8_readQuarters_21 : List kx_O := [(.aload_n 0, 0, 0, 0, .null), (.getfield 37, 8, 9, 0, .null), (.getfield 178, 9, 15, 0, .null), (.iload_n 1, 1, 0, 0, .null), (.aload_n 0, 0, 0, 0, .null), (.iconst 0, 0, 0, 0, .int 0), (.bipush 16, 0, 0, 0, .int 16)]
theorem kX8_readQuarters_21 : kx_oks kxL_X8 false cX8_readQuarters 21 bX8_readQuarters_21 = true := by decide +kernel
def bX8_readQuarters_36 : List kx_O := [(.iastore, 0, 0, 0, .null), (.iinc 1 1, 1, 0, 0, .int 1), (.goto (-38), 2, 0, 0, .null)]
theorem kX8_readQuarters_36 : kx_oks kxL_X8 false cX8_readQuarters 36 bX8_readQuarters_36 = true := by decide +kernel
def bX8_readQuarters_43 : List kx_O := [(.return_, 0, 0, 0, .null)]
theorem kX8_readQuarters_43 : kx_oks kxL_X8 false cX8_readQuarters 43 bX8_readQuarters_43 = true := by decide +kernel
theorem dX8_readQuarters_33 : decode cX8_readQuarters 33 = .ok (.invokevirtual 85, 3) := by decide +kernel
set_option maxRecDepth 100000 in
set_option maxHeartbeats 4000000 in
theorem ct_X8_readQuarters (l : Launch) (G : kx_G) {P : kx_P} {sz : Nat} {Q : kx_P} {w : Nat} (hw : 144 ≤ w) {F V te qu Fo st T : Nat → Int32} (hQ : Q 67 = kI 0 400 T) {n : Nat} (hn : n ≤ 400) {S : ck_R} (hs : S.2.1 = -1) (ha : S.1 ≤ n) {p wc : Nat} {h : Int32} {t e : Nat → Int32} (hD : cx_D T n (S, p, wc, h, t, e) F V te qu Fo st) {m : Nat} (hm : m = 4)  : kx_Mn l G sX8_readQuarters 3 0 0 [.ref 68] (cx_8 (cx_fW (cx_vW Q w (V) (te) (qu)) w (Fo) (st)) (.ref w) (F)) sz (cx_PD Q w T n (((ck_qtr T n S.1 S.2.2.1 t m).1, (ck_qtr T n S.1 S.2.2.1 t m).2.1, (ck_qtr T n S.1 S.2.2.1 t m).2.2.1, S.2.2.2), p, wc, h, (ck_qtr T n S.1 S.2.2.1 t m).2.2.2, e) sz cx_rn) := by
  have hT2 : ∀ V te qu Fo st, cx_fW (cx_vW Q w V te qu) w Fo st 67 = kI 0 400 T := fun _ _ _ _ _ => (cx_f67 hw).trans ((cx_v67 hw).trans hQ)
  obtain ⟨he, hv, hth⟩ := hD
  have hv : cx_V t V qu := hv
  have hth : cx_Th h wc e V te := hth
  refine kx_mkn kx_tab kxLok_X8 (ini := false) [some (.ref 68), none] ⟨by decide, rfl, by decide, by decide⟩ (fun _ _ _ h => h.rn) rfl rfl (fun g hB hC hN => ?_)
  have loop2 : ∀ (n9 : Nat) (i : Nat) (FA qA : Nat → Int32), i + n9 = m → (ck_qtr T n S.1 S.2.2.1 t i).1 ≤ n → ((ck_qtr T n S.1 S.2.2.1 t i).2.1 = -1 → cx_E0 T n ((ck_qtr T n S.1 S.2.2.1 t i).1, (ck_qtr T n S.1 S.2.2.1 t i).2.1, (ck_qtr T n S.1 S.2.2.1 t i).2.2.1, S.2.2.2) FA Fo st ∧ cx_V (ck_qtr T n S.1 S.2.2.1 t i).2.2.2 V qA) → (¬ (ck_qtr T n S.1 S.2.2.1 t i).2.1 = -1 → FA 4 = (ck_qtr T n S.1 S.2.2.1 t i).2.2.1 ∧ FA 5 = (ck_qtr T n S.1 S.2.2.1 t i).2.1 ∧ ¬ FA 4 = 0) → g 2 [some (.ref 68), some (.int (nI i))] [] (cx_8 (cx_fW (cx_vW Q w V te qA) w Fo st) (.ref w) FA) sz 0 0 := by
    intro n9
    induction n9 with
    | zero =>
      intro i FA qA hi hla hgood hbad
      rcases Classical.em ((ck_qtr T n S.1 S.2.2.1 t i).2.1 = -1) with hg | hg
      · obtain ⟨hE, hV⟩ := hgood hg
        have hf4 := hE.2.2.2.1
        obtain rfl : i = m := by omega
        have hfin : cx_PD Q w T n (((ck_qtr T n S.1 S.2.2.1 t i).1, (ck_qtr T n S.1 S.2.2.1 t i).2.1, (ck_qtr T n S.1 S.2.2.1 t i).2.2.1, S.2.2.2), p, wc, h, (ck_qtr T n S.1 S.2.2.1 t i).2.2.2, e) sz cx_rn none (cx_8 (cx_fW (cx_vW Q w V te qA) w Fo st) (.ref w) FA) sz := cx_PD.t rfl hg ⟨hE, hV, hth⟩
        refine hB bX8_readQuarters_2 _ _ _ _ _ _ _ kX8_readQuarters_2 ?_
        dsimp only [bX8_readQuarters_2, kx_wp, kx_step, kx_lI, kx_lL, kx_lA, kx_gl, kx_pI, kx_pL, kx_pR, kx_pA, kx_pV, kx_s1, kx_s2, kx_sl, kx_pre, kx_c2, kx_pl, kx_cmp, kx_oF, kx_eqN, kx_nil, kx_c1, kx_ft, kx_aI, kx_aL, kx_aR, kx_ln, Nat.reduceAdd, Option.toList, List.cons_append, List.nil_append, cf8_4, cf8_9, cf9_15]
        repeat (simp only [cx_8o, cx_8s, cx_83 hw, cx_84 hw, cx_dq0 hw, cx_dq1 hw, cx_dq2 hw, cx_dp0 hw, cx_dp1 hw, cx_dp2 hw, cx_8f3 hw, cx_8f4 hw, pk_us, pk_un, ne_eq, Nat.reduceEqDiff, not_false_eq_true, nI_1, hf4, nI_clamp (show i < 2 ^ 31 by omega), ks_eq, ks_ss]; try dsimp only [kx_wp, kx_step, kx_lI, kx_lL, kx_lA, kx_gl, kx_pI, kx_pL, kx_pR, kx_pA, kx_pV, kx_s1, kx_s2, kx_sl, kx_pre, kx_c2, kx_pl, kx_cmp, kx_oF, kx_eqN, kx_nil, kx_c1, kx_ft, kx_aI, kx_aL, kx_aR, kx_ln, Nat.reduceAdd, Option.toList, List.cons_append, List.nil_append, cf8_4, cf8_9, cf9_15])
        repeat' apply And.intro
        all_goals try (first | with_reducible assumption | (with_reducible refine ck_nzI ?_; simp; done) | (with_reducible refine ck_nzL ?_; simp; done) | (with_reducible refine vp_in_nI ?_ ?_ <;> first | omega | decide) | (with_reducible refine Nat.le_of_ble_eq_true ?_; rfl) | omega | exact Or.inl trivial | exact Or.inr trivial | exact Or.inl rfl | exact Or.inr rfl)
        · intro zc6
          first | exact absurd rfl zc6 | exact absurd zc6 (by decide) | exact absurd (by decide) zc6 | (exfalso; first | exact hf9 zc6 | exact zc6 hf4 | exact zc6 rfl | exact absurd ((nI_leI (a := 4) (b := i) (by omega) (by omega)).mp zc18) (by omega) | exact absurd ((nI_leI (a := 4) (b := i) (by omega) (by omega)).mpr (by omega)) zc18) | (exfalso; simp_all; done)
        · intro zc6
          with_reducible first | have ze6 := Decidable.not_not.mp zc6 | have ze6 := zc6
          refine hB bX8_readQuarters_9 _ _ _ _ _ _ _ kX8_readQuarters_9 ?_
          dsimp only [bX8_readQuarters_9, kx_wp, kx_step, kx_lI, kx_lL, kx_lA, kx_gl, kx_pI, kx_pL, kx_pR, kx_pA, kx_pV, kx_s1, kx_s2, kx_sl, kx_pre, kx_c2, kx_pl, kx_cmp, kx_oF, kx_eqN, kx_nil, kx_c1, kx_ft, kx_aI, kx_aL, kx_aR, kx_ln, Nat.reduceAdd, Option.toList, List.cons_append, List.nil_append, cf8_4, cf8_9, cf9_15]
          repeat (simp only [cx_8o, cx_8s, cx_83 hw, cx_84 hw, cx_dq0 hw, cx_dq1 hw, cx_dq2 hw, cx_dp0 hw, cx_dp1 hw, cx_dp2 hw, cx_8f3 hw, cx_8f4 hw, pk_us, pk_un, ne_eq, Nat.reduceEqDiff, not_false_eq_true, nI_1, hf4, nI_clamp (show i < 2 ^ 31 by omega), ks_eq, ks_ss]; try dsimp only [kx_wp, kx_step, kx_lI, kx_lL, kx_lA, kx_gl, kx_pI, kx_pL, kx_pR, kx_pA, kx_pV, kx_s1, kx_s2, kx_sl, kx_pre, kx_c2, kx_pl, kx_cmp, kx_oF, kx_eqN, kx_nil, kx_c1, kx_ft, kx_aI, kx_aL, kx_aR, kx_ln, Nat.reduceAdd, Option.toList, List.cons_append, List.nil_append, cf8_4, cf8_9, cf9_15])
          repeat' apply And.intro
          all_goals try (first | with_reducible assumption | (with_reducible refine ck_nzI ?_; simp; done) | (with_reducible refine ck_nzL ?_; simp; done) | (with_reducible refine vp_in_nI ?_ ?_ <;> first | omega | decide) | (with_reducible refine Nat.le_of_ble_eq_true ?_; rfl) | omega | exact Or.inl trivial | exact Or.inr trivial | exact Or.inl rfl | exact Or.inr rfl)
          · intro zc18
            with_reducible first | have ze18 := Int32.not_lt.mpr zc18 | have ze18 := zc18
            refine hB bX8_readQuarters_43 _ _ _ _ _ _ _ kX8_readQuarters_43 ?_
            dsimp only [bX8_readQuarters_43, kx_wp, kx_step, kx_lI, kx_lL, kx_lA, kx_gl, kx_pI, kx_pL, kx_pR, kx_pA, kx_pV, kx_s1, kx_s2, kx_sl, kx_pre, kx_c2, kx_pl, kx_cmp, kx_oF, kx_eqN, kx_nil, kx_c1, kx_ft, kx_aI, kx_aL, kx_aR, kx_ln, Nat.reduceAdd, Option.toList, List.cons_append, List.nil_append, cf8_4, cf8_9, cf9_15]
            repeat (simp only [cx_8o, cx_8s, cx_83 hw, cx_84 hw, cx_dq0 hw, cx_dq1 hw, cx_dq2 hw, cx_dp0 hw, cx_dp1 hw, cx_dp2 hw, cx_8f3 hw, cx_8f4 hw, pk_us, pk_un, ne_eq, Nat.reduceEqDiff, not_false_eq_true, nI_1, hf4, nI_clamp (show i < 2 ^ 31 by omega), ks_eq, ks_ss]; try dsimp only [kx_wp, kx_step, kx_lI, kx_lL, kx_lA, kx_gl, kx_pI, kx_pL, kx_pR, kx_pA, kx_pV, kx_s1, kx_s2, kx_sl, kx_pre, kx_c2, kx_pl, kx_cmp, kx_oF, kx_eqN, kx_nil, kx_c1, kx_ft, kx_aI, kx_aL, kx_aR, kx_ln, Nat.reduceAdd, Option.toList, List.cons_append, List.nil_append, cf8_4, cf8_9, cf9_15])
            all_goals (repeat' apply And.intro)
            all_goals ((try clear hB hC); first | exact True.intro | exact hfin)
          · intro zc18
            first | exact absurd rfl zc18 | exact absurd zc18 (by decide) | exact absurd (by decide) zc18 | (exfalso; first | exact hf9 zc6 | exact zc6 hf4 | exact zc6 rfl | exact absurd ((nI_leI (a := 4) (b := i) (by omega) (by omega)).mp zc18) (by omega) | exact absurd ((nI_leI (a := 4) (b := i) (by omega) (by omega)).mpr (by omega)) zc18) | (exfalso; simp_all; done)
      · obtain ⟨f1, f2⟩ := ck_qtr_f T n S.1 S.2.2.1 t i hg (m - i)
        rw [show i + (m - i) = m by omega] at f1 f2
        obtain ⟨x4, x5, hf9⟩ := hbad hg
        have hf4 : FA 4 = FA 4 := rfl
        have hfin : cx_PD Q w T n (((ck_qtr T n S.1 S.2.2.1 t m).1, (ck_qtr T n S.1 S.2.2.1 t m).2.1, (ck_qtr T n S.1 S.2.2.1 t m).2.2.1, S.2.2.2), p, wc, h, (ck_qtr T n S.1 S.2.2.1 t m).2.2.2, e) sz cx_rn none (cx_8 (cx_fW (cx_vW Q w V te qA) w Fo st) (.ref w) FA) sz := cx_PD.f rfl (fun z => hg (f1.symm.trans z)) ⟨x4.trans f2.symm, x5.trans f1.symm, fun z => hf9 (x4.trans (f2.symm.trans z))⟩
        refine hB bX8_readQuarters_2 _ _ _ _ _ _ _ kX8_readQuarters_2 ?_
        dsimp only [bX8_readQuarters_2, kx_wp, kx_step, kx_lI, kx_lL, kx_lA, kx_gl, kx_pI, kx_pL, kx_pR, kx_pA, kx_pV, kx_s1, kx_s2, kx_sl, kx_pre, kx_c2, kx_pl, kx_cmp, kx_oF, kx_eqN, kx_nil, kx_c1, kx_ft, kx_aI, kx_aL, kx_aR, kx_ln, Nat.reduceAdd, Option.toList, List.cons_append, List.nil_append, cf8_4, cf8_9, cf9_15]
        repeat (simp only [cx_8o, cx_8s, cx_83 hw, cx_84 hw, cx_dq0 hw, cx_dq1 hw, cx_dq2 hw, cx_dp0 hw, cx_dp1 hw, cx_dp2 hw, cx_8f3 hw, cx_8f4 hw, pk_us, pk_un, ne_eq, Nat.reduceEqDiff, not_false_eq_true, nI_1, hf4, nI_clamp (show i < 2 ^ 31 by omega), ks_eq, ks_ss]; try dsimp only [kx_wp, kx_step, kx_lI, kx_lL, kx_lA, kx_gl, kx_pI, kx_pL, kx_pR, kx_pA, kx_pV, kx_s1, kx_s2, kx_sl, kx_pre, kx_c2, kx_pl, kx_cmp, kx_oF, kx_eqN, kx_nil, kx_c1, kx_ft, kx_aI, kx_aL, kx_aR, kx_ln, Nat.reduceAdd, Option.toList, List.cons_append, List.nil_append, cf8_4, cf8_9, cf9_15])
        repeat' apply And.intro
        all_goals try (first | with_reducible assumption | (with_reducible refine ck_nzI ?_; simp; done) | (with_reducible refine ck_nzL ?_; simp; done) | (with_reducible refine vp_in_nI ?_ ?_ <;> first | omega | decide) | (with_reducible refine Nat.le_of_ble_eq_true ?_; rfl) | omega | exact Or.inl trivial | exact Or.inr trivial | exact Or.inl rfl | exact Or.inr rfl)
        · intro zc6
          have ze6 := zc6
          refine hB bX8_readQuarters_43 _ _ _ _ _ _ _ kX8_readQuarters_43 ?_
          dsimp only [bX8_readQuarters_43, kx_wp, kx_step, kx_lI, kx_lL, kx_lA, kx_gl, kx_pI, kx_pL, kx_pR, kx_pA, kx_pV, kx_s1, kx_s2, kx_sl, kx_pre, kx_c2, kx_pl, kx_cmp, kx_oF, kx_eqN, kx_nil, kx_c1, kx_ft, kx_aI, kx_aL, kx_aR, kx_ln, Nat.reduceAdd, Option.toList, List.cons_append, List.nil_append, cf8_4, cf8_9, cf9_15]
          repeat (simp only [cx_8o, cx_8s, cx_83 hw, cx_84 hw, cx_dq0 hw, cx_dq1 hw, cx_dq2 hw, cx_dp0 hw, cx_dp1 hw, cx_dp2 hw, cx_8f3 hw, cx_8f4 hw, pk_us, pk_un, ne_eq, Nat.reduceEqDiff, not_false_eq_true, nI_1, hf4, nI_clamp (show i < 2 ^ 31 by omega), ks_eq, ks_ss]; try dsimp only [kx_wp, kx_step, kx_lI, kx_lL, kx_lA, kx_gl, kx_pI, kx_pL, kx_pR, kx_pA, kx_pV, kx_s1, kx_s2, kx_sl, kx_pre, kx_c2, kx_pl, kx_cmp, kx_oF, kx_eqN, kx_nil, kx_c1, kx_ft, kx_aI, kx_aL, kx_aR, kx_ln, Nat.reduceAdd, Option.toList, List.cons_append, List.nil_append, cf8_4, cf8_9, cf9_15])
          all_goals (repeat' apply And.intro)
          all_goals ((try clear hB hC); first | exact True.intro | exact hfin)
        · intro zc6
          first | exact absurd rfl zc6 | exact absurd zc6 (by decide) | exact absurd (by decide) zc6 | (exfalso; first | exact hf9 zc6 | exact zc6 hf4 | exact zc6 rfl | exact absurd ((nI_leI (a := 4) (b := i) (by omega) (by omega)).mp zc18) (by omega) | exact absurd ((nI_leI (a := 4) (b := i) (by omega) (by omega)).mpr (by omega)) zc18) | (exfalso; simp_all; done)
    | succ n9 ih =>
      intro i FA qA hi hla hgood hbad
      rcases Classical.em ((ck_qtr T n S.1 S.2.2.1 t i).2.1 = -1) with hg | hg
      · obtain ⟨hE, hV⟩ := hgood hg
        have hf4 := hE.2.2.2.1
        obtain ⟨v, FB, hM, ht, hf⟩ := cx_nu (l := l) (G := G) (sz := sz) (x := .ref w) (hT2 V te qA Fo st) (F := FA) (n := n) (a := (ck_qtr T n S.1 S.2.2.1 t i).1) hE.1 hn hE.2.1 hla hf4 (lo := 0) (hi := 16) (by omega) (ck_qtr T n S.1 S.2.2.1 t i).2.2.1
        have hs9 := ck_qtr_s T n S.1 S.2.2.1 t i
        rw [hg] at hs9
        have hla2 := (ck_num_a (T := T) (n := n) (lo := 0) (hi := 16) (b := -1) (k := (ck_qtr T n S.1 S.2.2.1 t i).2.2.1) hla).2
        refine hB bX8_readQuarters_2 _ _ _ _ _ _ _ kX8_readQuarters_2 ?_
        dsimp only [bX8_readQuarters_2, kx_wp, kx_step, kx_lI, kx_lL, kx_lA, kx_gl, kx_pI, kx_pL, kx_pR, kx_pA, kx_pV, kx_s1, kx_s2, kx_sl, kx_pre, kx_c2, kx_pl, kx_cmp, kx_oF, kx_eqN, kx_nil, kx_c1, kx_ft, kx_aI, kx_aL, kx_aR, kx_ln, Nat.reduceAdd, Option.toList, List.cons_append, List.nil_append, cf8_4, cf8_9, cf9_15]
        repeat (simp only [cx_8o, cx_8s, cx_83 hw, cx_84 hw, cx_dq0 hw, cx_dq1 hw, cx_dq2 hw, cx_dp0 hw, cx_dp1 hw, cx_dp2 hw, cx_8f3 hw, cx_8f4 hw, pk_us, pk_un, ne_eq, Nat.reduceEqDiff, not_false_eq_true, nI_1, hf4, nI_clamp (show i < 2 ^ 31 by omega), ks_eq, ks_ss]; try dsimp only [kx_wp, kx_step, kx_lI, kx_lL, kx_lA, kx_gl, kx_pI, kx_pL, kx_pR, kx_pA, kx_pV, kx_s1, kx_s2, kx_sl, kx_pre, kx_c2, kx_pl, kx_cmp, kx_oF, kx_eqN, kx_nil, kx_c1, kx_ft, kx_aI, kx_aL, kx_aR, kx_ln, Nat.reduceAdd, Option.toList, List.cons_append, List.nil_append, cf8_4, cf8_9, cf9_15])
        repeat' apply And.intro
        all_goals try (first | with_reducible assumption | (with_reducible refine ck_nzI ?_; simp; done) | (with_reducible refine ck_nzL ?_; simp; done) | (with_reducible refine vp_in_nI ?_ ?_ <;> first | omega | decide) | (with_reducible refine Nat.le_of_ble_eq_true ?_; rfl) | omega | exact Or.inl trivial | exact Or.inr trivial | exact Or.inl rfl | exact Or.inr rfl)
        · intro zc6
          first | exact absurd rfl zc6 | exact absurd zc6 (by decide) | exact absurd (by decide) zc6 | (exfalso; first | exact hf9 zc6 | exact zc6 hf4 | exact zc6 rfl | exact absurd ((nI_leI (a := 4) (b := i) (by omega) (by omega)).mp zc18) (by omega) | exact absurd ((nI_leI (a := 4) (b := i) (by omega) (by omega)).mpr (by omega)) zc18) | (exfalso; simp_all; done)
        · intro zc6
          with_reducible first | have ze6 := Decidable.not_not.mp zc6 | have ze6 := zc6
          refine hB bX8_readQuarters_9 _ _ _ _ _ _ _ kX8_readQuarters_9 ?_
          dsimp only [bX8_readQuarters_9, kx_wp, kx_step, kx_lI, kx_lL, kx_lA, kx_gl, kx_pI, kx_pL, kx_pR, kx_pA, kx_pV, kx_s1, kx_s2, kx_sl, kx_pre, kx_c2, kx_pl, kx_cmp, kx_oF, kx_eqN, kx_nil, kx_c1, kx_ft, kx_aI, kx_aL, kx_aR, kx_ln, Nat.reduceAdd, Option.toList, List.cons_append, List.nil_append, cf8_4, cf8_9, cf9_15]
          repeat (simp only [cx_8o, cx_8s, cx_83 hw, cx_84 hw, cx_dq0 hw, cx_dq1 hw, cx_dq2 hw, cx_dp0 hw, cx_dp1 hw, cx_dp2 hw, cx_8f3 hw, cx_8f4 hw, pk_us, pk_un, ne_eq, Nat.reduceEqDiff, not_false_eq_true, nI_1, hf4, nI_clamp (show i < 2 ^ 31 by omega), ks_eq, ks_ss]; try dsimp only [kx_wp, kx_step, kx_lI, kx_lL, kx_lA, kx_gl, kx_pI, kx_pL, kx_pR, kx_pA, kx_pV, kx_s1, kx_s2, kx_sl, kx_pre, kx_c2, kx_pl, kx_cmp, kx_oF, kx_eqN, kx_nil, kx_c1, kx_ft, kx_aI, kx_aL, kx_aR, kx_ln, Nat.reduceAdd, Option.toList, List.cons_append, List.nil_append, cf8_4, cf8_9, cf9_15])
          repeat' apply And.intro
          all_goals try (first | with_reducible assumption | (with_reducible refine ck_nzI ?_; simp; done) | (with_reducible refine ck_nzL ?_; simp; done) | (with_reducible refine vp_in_nI ?_ ?_ <;> first | omega | decide) | (with_reducible refine Nat.le_of_ble_eq_true ?_; rfl) | omega | exact Or.inl trivial | exact Or.inr trivial | exact Or.inl rfl | exact Or.inr rfl)
          · intro zc18
            first | exact absurd rfl zc18 | exact absurd zc18 (by decide) | exact absurd (by decide) zc18 | (exfalso; first | exact hf9 zc6 | exact zc6 hf4 | exact zc6 rfl | exact absurd ((nI_leI (a := 4) (b := i) (by omega) (by omega)).mp zc18) (by omega) | exact absurd ((nI_leI (a := 4) (b := i) (by omega) (by omega)).mpr (by omega)) zc18) | (exfalso; simp_all; done)
          · intro zc18
            with_reducible first | have ze18 := Int32.not_le.mp zc18 | have ze18 := zc18
            refine hB bX8_readQuarters_21 _ _ _ _ _ _ _ kX8_readQuarters_21 ?_
            dsimp only [bX8_readQuarters_21, kx_wp, kx_step, kx_lI, kx_lL, kx_lA, kx_gl, kx_pI, kx_pL, kx_pR, kx_pA, kx_pV, kx_s1, kx_s2, kx_sl, kx_pre, kx_c2, kx_pl, kx_cmp, kx_oF, kx_eqN, kx_nil, kx_c1, kx_ft, kx_aI, kx_aL, kx_aR, kx_ln, Nat.reduceAdd, Option.toList, List.cons_append, List.nil_append, cf8_4, cf8_9, cf9_15]
            repeat (simp only [cx_8o, cx_8s, cx_83 hw, cx_84 hw, cx_dq0 hw, cx_dq1 hw, cx_dq2 hw, cx_dp0 hw, cx_dp1 hw, cx_dp2 hw, cx_8f3 hw, cx_8f4 hw, pk_us, pk_un, ne_eq, Nat.reduceEqDiff, not_false_eq_true, nI_1, hf4, nI_clamp (show i < 2 ^ 31 by omega), ks_eq, ks_ss]; try dsimp only [kx_wp, kx_step, kx_lI, kx_lL, kx_lA, kx_gl, kx_pI, kx_pL, kx_pR, kx_pA, kx_pV, kx_s1, kx_s2, kx_sl, kx_pre, kx_c2, kx_pl, kx_cmp, kx_oF, kx_eqN, kx_nil, kx_c1, kx_ft, kx_aI, kx_aL, kx_aR, kx_ln, Nat.reduceAdd, Option.toList, List.cons_append, List.nil_append, cf8_4, cf8_9, cf9_15])
            repeat' apply And.intro
            all_goals try (first | with_reducible assumption | (with_reducible refine ck_nzI ?_; simp; done) | (with_reducible refine ck_nzL ?_; simp; done) | (with_reducible refine vp_in_nI ?_ ?_ <;> first | omega | decide) | (with_reducible refine Nat.le_of_ble_eq_true ?_; rfl) | omega | exact Or.inl trivial | exact Or.inr trivial | exact Or.inl rfl | exact Or.inr rfl)
            refine hC.1 85 _ _ _ _ _ _ _ 8 _ _ _ _ _ _ _ _ _ _ _ _ lX8_85 (hM) ⟨by decide, rfl⟩ (cx_8o) rfl rfl (Nat.le_of_ble_eq_true rfl) (by first | decide | omega) (by decide) (by omega) (by omega) dX8_readQuarters_33 ?_
            refine hB bX8_readQuarters_36 _ _ _ _ _ _ _ kX8_readQuarters_36 ?_
            dsimp only [bX8_readQuarters_36, kx_wp, kx_step, kx_lI, kx_lL, kx_lA, kx_gl, kx_pI, kx_pL, kx_pR, kx_pA, kx_pV, kx_s1, kx_s2, kx_sl, kx_pre, kx_c2, kx_pl, kx_cmp, kx_oF, kx_eqN, kx_nil, kx_c1, kx_ft, kx_aI, kx_aL, kx_aR, kx_ln, Nat.reduceAdd, Option.toList, List.cons_append, List.nil_append, cf8_4, cf8_9, cf9_15]
            repeat (simp only [cx_8o, cx_8s, cx_83 hw, cx_84 hw, cx_dq0 hw, cx_dq1 hw, cx_dq2 hw, cx_dp0 hw, cx_dp1 hw, cx_dp2 hw, cx_8f3 hw, cx_8f4 hw, pk_us, pk_un, ne_eq, Nat.reduceEqDiff, not_false_eq_true, nI_1, hf4, nI_clamp (show i < 2 ^ 31 by omega), ks_eq, ks_ss]; try dsimp only [kx_wp, kx_step, kx_lI, kx_lL, kx_lA, kx_gl, kx_pI, kx_pL, kx_pR, kx_pA, kx_pV, kx_s1, kx_s2, kx_sl, kx_pre, kx_c2, kx_pl, kx_cmp, kx_oF, kx_eqN, kx_nil, kx_c1, kx_ft, kx_aI, kx_aL, kx_aR, kx_ln, Nat.reduceAdd, Option.toList, List.cons_append, List.nil_append, cf8_4, cf8_9, cf9_15])
            repeat' apply And.intro
            all_goals try (first | with_reducible assumption | (with_reducible refine ck_nzI ?_; simp; done) | (with_reducible refine ck_nzL ?_; simp; done) | (with_reducible refine vp_in_nI ?_ ?_ <;> first | omega | decide) | (with_reducible refine Nat.le_of_ble_eq_true ?_; rfl) | omega | exact Or.inl trivial | exact Or.inr trivial | exact Or.inl rfl | exact Or.inr rfl)
            refine ih (i + 1) FB _ (by omega) (by rw [hs9]; exact hla2) (fun q => ?_) (fun q => ?_)
            · rw [hs9] at q ⊢
              obtain ⟨e0, e1, e2, e3, e4, e5, -⟩ := ht q
              refine ⟨⟨e1, e2, e3.trans hE.2.2.1, e4, e5.trans hE.2.2.2.2.1, hE.2.2.2.2.2.1, hE.2.2.2.2.2.2⟩, ?_⟩
              have hV9 := hV.q (i := i) (by omega) v
              rw [e0] at hV9 ⊢
              exact hV9
            · rw [hs9] at q ⊢
              exact hf q
      · obtain ⟨f1, f2⟩ := ck_qtr_f T n S.1 S.2.2.1 t i hg (m - i)
        rw [show i + (m - i) = m by omega] at f1 f2
        obtain ⟨x4, x5, hf9⟩ := hbad hg
        have hf4 : FA 4 = FA 4 := rfl
        have hfin : cx_PD Q w T n (((ck_qtr T n S.1 S.2.2.1 t m).1, (ck_qtr T n S.1 S.2.2.1 t m).2.1, (ck_qtr T n S.1 S.2.2.1 t m).2.2.1, S.2.2.2), p, wc, h, (ck_qtr T n S.1 S.2.2.1 t m).2.2.2, e) sz cx_rn none (cx_8 (cx_fW (cx_vW Q w V te qA) w Fo st) (.ref w) FA) sz := cx_PD.f rfl (fun z => hg (f1.symm.trans z)) ⟨x4.trans f2.symm, x5.trans f1.symm, fun z => hf9 (x4.trans (f2.symm.trans z))⟩
        refine hB bX8_readQuarters_2 _ _ _ _ _ _ _ kX8_readQuarters_2 ?_
        dsimp only [bX8_readQuarters_2, kx_wp, kx_step, kx_lI, kx_lL, kx_lA, kx_gl, kx_pI, kx_pL, kx_pR, kx_pA, kx_pV, kx_s1, kx_s2, kx_sl, kx_pre, kx_c2, kx_pl, kx_cmp, kx_oF, kx_eqN, kx_nil, kx_c1, kx_ft, kx_aI, kx_aL, kx_aR, kx_ln, Nat.reduceAdd, Option.toList, List.cons_append, List.nil_append, cf8_4, cf8_9, cf9_15]
        repeat (simp only [cx_8o, cx_8s, cx_83 hw, cx_84 hw, cx_dq0 hw, cx_dq1 hw, cx_dq2 hw, cx_dp0 hw, cx_dp1 hw, cx_dp2 hw, cx_8f3 hw, cx_8f4 hw, pk_us, pk_un, ne_eq, Nat.reduceEqDiff, not_false_eq_true, nI_1, hf4, nI_clamp (show i < 2 ^ 31 by omega), ks_eq, ks_ss]; try dsimp only [kx_wp, kx_step, kx_lI, kx_lL, kx_lA, kx_gl, kx_pI, kx_pL, kx_pR, kx_pA, kx_pV, kx_s1, kx_s2, kx_sl, kx_pre, kx_c2, kx_pl, kx_cmp, kx_oF, kx_eqN, kx_nil, kx_c1, kx_ft, kx_aI, kx_aL, kx_aR, kx_ln, Nat.reduceAdd, Option.toList, List.cons_append, List.nil_append, cf8_4, cf8_9, cf9_15])
        repeat' apply And.intro
        all_goals try (first | with_reducible assumption | (with_reducible refine ck_nzI ?_; simp; done) | (with_reducible refine ck_nzL ?_; simp; done) | (with_reducible refine vp_in_nI ?_ ?_ <;> first | omega | decide) | (with_reducible refine Nat.le_of_ble_eq_true ?_; rfl) | omega | exact Or.inl trivial | exact Or.inr trivial | exact Or.inl rfl | exact Or.inr rfl)
        · intro zc6
          have ze6 := zc6
          refine hB bX8_readQuarters_43 _ _ _ _ _ _ _ kX8_readQuarters_43 ?_
          dsimp only [bX8_readQuarters_43, kx_wp, kx_step, kx_lI, kx_lL, kx_lA, kx_gl, kx_pI, kx_pL, kx_pR, kx_pA, kx_pV, kx_s1, kx_s2, kx_sl, kx_pre, kx_c2, kx_pl, kx_cmp, kx_oF, kx_eqN, kx_nil, kx_c1, kx_ft, kx_aI, kx_aL, kx_aR, kx_ln, Nat.reduceAdd, Option.toList, List.cons_append, List.nil_append, cf8_4, cf8_9, cf9_15]
          repeat (simp only [cx_8o, cx_8s, cx_83 hw, cx_84 hw, cx_dq0 hw, cx_dq1 hw, cx_dq2 hw, cx_dp0 hw, cx_dp1 hw, cx_dp2 hw, cx_8f3 hw, cx_8f4 hw, pk_us, pk_un, ne_eq, Nat.reduceEqDiff, not_false_eq_true, nI_1, hf4, nI_clamp (show i < 2 ^ 31 by omega), ks_eq, ks_ss]; try dsimp only [kx_wp, kx_step, kx_lI, kx_lL, kx_lA, kx_gl, kx_pI, kx_pL, kx_pR, kx_pA, kx_pV, kx_s1, kx_s2, kx_sl, kx_pre, kx_c2, kx_pl, kx_cmp, kx_oF, kx_eqN, kx_nil, kx_c1, kx_ft, kx_aI, kx_aL, kx_aR, kx_ln, Nat.reduceAdd, Option.toList, List.cons_append, List.nil_append, cf8_4, cf8_9, cf9_15])
          all_goals (repeat' apply And.intro)
          all_goals ((try clear hB hC); first | exact True.intro | exact hfin)
        · intro zc6
          first | exact absurd rfl zc6 | exact absurd zc6 (by decide) | exact absurd (by decide) zc6 | (exfalso; first | exact hf9 zc6 | exact zc6 hf4 | exact zc6 rfl | exact absurd ((nI_leI (a := 4) (b := i) (by omega) (by omega)).mp zc18) (by omega) | exact absurd ((nI_leI (a := 4) (b := i) (by omega) (by omega)).mpr (by omega)) zc18) | (exfalso; simp_all; done)
  refine hB bX8_readQuarters_0 _ _ _ _ _ _ _ kX8_readQuarters_0 ?_
  dsimp only [bX8_readQuarters_0, kx_wp, kx_step, kx_lI, kx_lL, kx_lA, kx_gl, kx_pI, kx_pL, kx_pR, kx_pA, kx_pV, kx_s1, kx_s2, kx_sl, kx_pre, kx_c2, kx_pl, kx_cmp, kx_oF, kx_eqN, kx_nil, kx_c1, kx_ft, kx_aI, kx_aL, kx_aR, kx_ln, Nat.reduceAdd, Option.toList, List.cons_append, List.nil_append, cf8_4, cf8_9, cf9_15]
  repeat (simp only [cx_8o, cx_8s, cx_83 hw, cx_84 hw, cx_dq0 hw, cx_dq1 hw, cx_dq2 hw, cx_dp0 hw, cx_dp1 hw, cx_dp2 hw, cx_8f3 hw, cx_8f4 hw, pk_us, pk_un, ne_eq, Nat.reduceEqDiff, not_false_eq_true, nI_1, hf4, nI_clamp (show i < 2 ^ 31 by omega), ks_eq, ks_ss]; try dsimp only [kx_wp, kx_step, kx_lI, kx_lL, kx_lA, kx_gl, kx_pI, kx_pL, kx_pR, kx_pA, kx_pV, kx_s1, kx_s2, kx_sl, kx_pre, kx_c2, kx_pl, kx_cmp, kx_oF, kx_eqN, kx_nil, kx_c1, kx_ft, kx_aI, kx_aL, kx_aR, kx_ln, Nat.reduceAdd, Option.toList, List.cons_append, List.nil_append, cf8_4, cf8_9, cf9_15])
  repeat' apply And.intro
  all_goals try (first | with_reducible assumption | (with_reducible refine ck_nzI ?_; simp; done) | (with_reducible refine ck_nzL ?_; simp; done) | (with_reducible refine vp_in_nI ?_ ?_ <;> first | omega | decide) | (with_reducible refine Nat.le_of_ble_eq_true ?_; rfl) | omega | exact Or.inl trivial | exact Or.inr trivial | exact Or.inl rfl | exact Or.inr rfl)
  exact loop2 m 0 F qu (by omega) ha (fun _ => ⟨⟨he.1, he.2.1, he.2.2.1, he.2.2.2.1, he.2.2.2.2.1, he.2.2.2.2.2.1, he.2.2.2.2.2.2⟩, hv⟩) (fun q => absurd rfl q)


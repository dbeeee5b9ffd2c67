theorem ck_rds_b {T : Nat → Int32} {n f : Nat} {Q : ck_Qt} (h : ¬ Q.1.2.1 = -1) : ck_rds T n f Q = Q := by
  cases f with
  | zero => rfl
  | succ f => exact if_neg h
theorem ck_rds_e {T : Nat → Int32} {n f : Nat} {Q : ck_Qt} (h : Q.1.2.1 = -1) (hl : ¬ ck_sk T n Q.1.1 < n) : ck_rds T n (f + 1) Q = ((ck_sk T n Q.1.1, Q.1.2), Q.2) :=
  (if_pos h).trans (if_neg hl)
theorem ck_rds_g {T : Nat → Int32} {n f : Nat} {Q : ck_Qt} (h : Q.1.2.1 = -1) (hl : ck_sk T n Q.1.1 < n) : ck_rds T n (f + 1) Q = ck_rds T n f (ck_par T n ((ck_sk T n Q.1.1, Q.1.2), Q.2)) :=
  (if_pos h).trans (if_pos hl)
theorem cx_V0 (t V qu : Nat → Int32) : cx_V (ck_t0 t) (upd (upd (upd (upd (upd (upd (upd (upd (upd (upd (upd (upd (upd (upd V 0 8) 1 0) 2 0) 3 0) 4 0) 5 4) 6 400) 7 30) 8 0) 9 0) 10 0) 11 0) 12 0) 14 0) (ck_cp qu (fun _ => 0) 4) := by
  refine ⟨rfl, rfl, rfl, rfl, rfl, rfl, rfl, rfl, rfl, rfl, rfl, rfl, fun j hj => ?_⟩
  rcases (show j = 0 ∨ j = 1 ∨ j = 2 ∨ j = 3 by omega) with rfl | rfl | rfl | rfl <;> rfl
theorem cx_cd0 (C N st : Nat → Int32) : ∀ j, j < 7 → cx_cd (ck_rC C j) (ck_rN N j) ((upd (upd (upd (upd (upd (upd (upd st 0 (-1)) 1 11) 2 (-4)) 3 12) 4 (-8)) 5 1) 6 (-4)) j) := by
  intro j hj
  rcases (show j = 0 ∨ j = 1 ∨ j = 2 ∨ j = 3 ∨ j = 4 ∨ j = 5 ∨ j = 6 by omega) with rfl | rfl | rfl | rfl | rfl | rfl | rfl
  · exact Or.inr ⟨1, by decide, by decide, rfl, rfl⟩
  · exact Or.inl ⟨rfl, rfl, show (0 : Int32) ≤ 11 by decide⟩
  · exact Or.inr ⟨4, by decide, by decide, rfl, rfl⟩
  · exact Or.inl ⟨rfl, rfl, show (0 : Int32) ≤ 12 by decide⟩
  · exact Or.inr ⟨8, by decide, by decide, rfl, rfl⟩
  · exact Or.inl ⟨rfl, rfl, show (0 : Int32) ≤ 1 by decide⟩
  · exact Or.inr ⟨4, by decide, by decide, rfl, rfl⟩
theorem cx_D0 {T F V te qu Fo st t C N e : Nat → Int32} {n : Nat} {k0 o0 : Int32} (h1 : F 1 = nI n) (h2 : F 2 = nI (ck_sk T n 0)) (h3 : F 3 = 0) (h4 : F 4 = 0) (h5 : F 5 = -1) : cx_D T n ((0, -1, k0, o0, 7, ck_rC C, ck_rN N), 0, 0, 0, ck_t0 t, e) F (upd (upd (upd (upd (upd (upd (upd (upd (upd (upd (upd (upd (upd (upd V 0 8) 1 0) 2 0) 3 0) 4 0) 5 4) 6 400) 7 30) 8 0) 9 0) 10 0) 11 0) 12 0) 14 0) te (ck_cp qu (fun _ => 0) 4) (upd Fo 1 7) (upd (upd (upd (upd (upd (upd (upd st 0 (-1)) 1 11) 2 (-4)) 3 12) 4 (-8)) 5 1) 6 (-4)) :=
  ⟨⟨h1, h2, h3, h4, h5, pk_us, cx_cd0 C N st⟩, cx_V0 t V qu, rfl, fun z => absurd z (show ¬ (0 : Int32) = 1 by decide)⟩
def bX8_readWorks_0 : List kx_O := [(.aload_n 0, 0, 0, 0, .null), (.aload_n 1, 1, 0, 0, .null), (.putfield 15, 8, 0, 3, .null), (.aload_n 0, 0, 0, 0, .null), (.iload_n 2, 2, 0, 0, .null), (.aload_n 1, 1, 0, 0, .null), (.arraylength, 0, 0, 0, .null)]
theorem kX8_readWorks_0 : kx_oks kxL_X8 false cX8_readWorks 0 bX8_readWorks_0 = true := by decide +kernel
def bX8_readWorks_12 : List kx_O := [(.putfield 25, 8, 1, 0, .null), (.aload_n 0, 0, 0, 0, .null), (.iconst 0, 0, 0, 0, .int 0), (.putfield 28, 8, 2, 0, .null), (.aload_n 0, 0, 0, 0, .null), (.iconst 0, 0, 0, 0, .int 0), (.putfield 31, 8, 3, 0, .null), (.aload_n 0, 0, 0, 0, .null), (.iconst 0, 0, 0, 0, .int 0), (.putfield 34, 8, 4, 0, .null), (.aload_n 0, 0, 0, 0, .null), (.iconst (-1), 0, 0, 0, .int (-1)), (.putfield 9, 8, 5, 0, .null), (.aload_n 0, 0, 0, 0, .null), (.aload_n 3, 3, 0, 0, .null), (.putfield 37, 8, 9, 3, .null), (.aload_n 3, 3, 0, 0, .null)]
theorem kX8_readWorks_12 : kx_oks kxL_X8 false cX8_readWorks 12 bX8_readWorks_12 = true := by decide +kernel
def bX8_readWorks_44 : List kx_O := [(.aload_n 0, 0, 0, 0, .null), (.iconst 0, 0, 0, 0, .int 0)]
theorem kX8_readWorks_44 : kx_oks kxL_X8 false cX8_readWorks 44 bX8_readWorks_44 = true := by decide +kernel
def bX8_readWorks_49 : List kx_O := [(.iconst 0, 0, 0, 0, .int 0), (.istore 4, 4, 0, 0, .null)]
theorem kX8_readWorks_49 : kx_oks kxL_X8 false cX8_readWorks 49 bX8_readWorks_49 = true := by decide +kernel
def bX8_readWorks_52 : List kx_O := [(.iload 4, 4, 0, 0, .null), (.bipush 16, 0, 0, 0, .int 16), (.if_icmp .gt 34, 90, 0, 0, .null)]
theorem kX8_readWorks_52 : kx_oks kxL_X8 false cX8_readWorks 52 bX8_readWorks_52 = true := by decide +kernel
def bX8_readWorks_59 : List kx_O := [(.aload_n 0, 0, 0, 0, .null), (.getfield 34, 8, 4, 0, .null), (.ifCond .ne 27, 90, 0, 0, .null)]
theorem kX8_readWorks_59 : kx_oks kxL_X8 false cX8_readWorks 59 bX8_readWorks_59 = true := by decide +kernel
def bX8_readWorks_66 : List kx_O := [(.aload_n 0, 0, 0, 0, .null), (.getfield 28, 8, 2, 0, .null), (.aload_n 0, 0, 0, 0, .null), (.getfield 25, 8, 1, 0, .null), (.if_icmp .ge 16, 90, 0, 0, .null)]
theorem kX8_readWorks_66 : kx_oks kxL_X8 false cX8_readWorks 66 bX8_readWorks_66 = true := by decide +kernel
def bX8_readWorks_77 : List kx_O := [(.aload_n 0, 0, 0, 0, .null), (.iload 4, 4, 0, 0, .null)]
theorem kX8_readWorks_77 : kx_oks kxL_X8 false cX8_readWorks 77 bX8_readWorks_77 = true := by decide +kernel
def bX8_readWorks_83 : List kx_O := [(.pop, 0, 0, 0, .null), (.iinc 4 1, 4, 0, 0, .int 1), (.goto (-35), 52, 0, 0, .null)]
theorem kX8_readWorks_83 : kx_oks kxL_X8 false cX8_readWorks 83 bX8_readWorks_83 = true := by decide +kernel
def bX8_readWorks_90 : List kx_O := [(.aload_n 0, 0, 0, 0, .null), (.getfield 34, 8, 4, 0, .null), (.ireturn, 0, 0, 0, .null)]
theorem kX8_readWorks_90 : kx_oks kxL_X8 false cX8_readWorks 90 bX8_readWorks_90 = true := by decide +kernel
theorem dX8_readWorks_9 : decode cX8_readWorks 9 = .ok (.invokestatic 19, 3) := by decide +kernel
theorem dX8_readWorks_41 : decode cX8_readWorks 41 = .ok (.invokevirtual 41, 3) := by decide +kernel
theorem dX8_readWorks_46 : decode cX8_readWorks 46 = .ok (.invokevirtual 46, 3) := by decide +kernel
theorem dX8_readWorks_80 : decode cX8_readWorks 80 = .ok (.invokevirtual 50, 3) := by decide +kernel
set_option maxRecDepth 100000 in
set_option maxHeartbeats 4000000 in
theorem ct_X8_readWorks (l : Launch) (G : kx_G) {P : kx_P} {sz : Nat} {Q : kx_P} {w : Nat} (hw : 144 ≤ w) {F0 V te qu Fo st T t C N e : Nat → Int32} {t0 x0 : Value} (hQ : Q 67 = kI 0 400 T) {n : Nat} (hn : n ≤ 400) (k0 o0 : Int32) {R : ck_Qt} (hR : ck_rds T n (n + 1) ((0, -1, k0, o0, 7, ck_rC C, ck_rN N), 0, 0, 0, ck_t0 t, e) = R)  : kx_Mn l G sX8_readWorks 47 0 0 [.ref 68, .ref 67, .int (nI n), .ref w] (kx_set (cx_fW (cx_vW Q w V te qu) w Fo st) 68 (kO 8 (kf (cr8 t0 x0) F0))) sz (cx_PD Q w T n R sz (fun r => r = some (.int (if R.1.2.1 = -1 then 0 else R.1.2.2.1)))) := by
  have hmn : cj_min (nI n) (Int32.ofNat 400) = nI n := (cj_min_n (a := n) (b := 400) (by omega) (by omega)).trans (by rw [Nat.min_eq_left hn])
  have hn9 : n < 2 ^ 31 := by omega
  have hT2 : ∀ V te qu Fo st, cx_fW (cx_vW Q w V te qu) w Fo st 67 = kI 0 400 T := fun _ _ _ _ _ => (cx_f67 hw).trans ((cx_v67 hw).trans hQ)
  refine kx_mkn kx_tab kxLok_X8 (ini := false) [some (.ref 68), some (.ref 67), some (.int (nI n)), some (.ref w), none] ⟨by decide, rfl, by decide, by decide⟩ (fun _ _ _ h => h.ri) rfl rfl (fun g hB hC hN => ?_)
  have loop52 : ∀ (n9 : Nat) (qq : ck_Qt) (i : Nat) (FA VA tA qA FoA sA : Nat → Int32), (qq.1.2.1 = -1 → n - qq.1.1 < n9 ∧ qq.2.1 = i) → qq.1.1 ≤ n → qq.2.1 ≤ 16 → i ≤ 17 → (qq.1.2.1 = -1 → cx_D T n qq FA VA tA qA FoA sA) → (¬ qq.1.2.1 = -1 → cx_X qq.1 FA) → ck_rds T n n9 qq = R → g 52 [some (.ref 68), some (.ref 67), some (.int (nI n)), some (.ref w), some (.int (nI i))] [] (cx_8 (cx_fW (cx_vW Q w VA tA qA) w FoA sA) (.ref w) FA) sz 0 0 := by
    intro n9
    induction n9 with
    | zero =>
      intro qq i FA VA tA qA FoA sA hgo hle9 hp9 hi9 hD hX hRR
      have hg : ¬ qq.1.2.1 = -1 := fun z => absurd (hgo z).1 (Nat.not_lt_zero _)
      · obtain ⟨x4, x5, x6⟩ := hX hg
        have hx0 : ¬ FA 4 = 0 := fun z => x6 (x4.symm.trans z)
        rw [ck_rds_b hg] at hRR
        subst hRR
        have hfin : cx_PD Q w T n qq sz (fun r => r = some (.int (if qq.1.2.1 = -1 then 0 else qq.1.2.2.1))) (some (.int (FA 4))) (cx_8 (cx_fW (cx_vW Q w VA tA qA) w FoA sA) (.ref w) FA) sz := cx_PD.f (by rw [if_neg hg, x4]) hg ⟨x4, x5, x6⟩
        refine hB bX8_readWorks_52 _ _ _ _ _ _ _ kX8_readWorks_52 ?_
        dsimp only [bX8_readWorks_52, kx_wp, kx_step, kx_lI, kx_lL, kx_lA, kx_gl, kx_pI, kx_pL, kx_pR, kx_pA, kx_pV, kx_s1, kx_s2, kx_sl, kx_pre, kx_c2, kx_pl, kx_cmp, kx_oF, kx_eqN, kx_nil, kx_c1, kx_ft, kx_aI, kx_aL, kx_aR, kx_ln, Nat.reduceAdd, Option.toList, List.cons_append, List.nil_append, cf8_0, cf8_1, cf8_2, cf8_3, cf8_4, cf8_5, cf8_9]
        repeat (simp only [cx_8o, cx_8s, cx_83 hw, cx_84 hw, cx_dq0 hw, cx_dq1 hw, cx_dq2 hw, cx_dp0 hw, cx_dp1 hw, cx_dp2 hw, cx_8f3 hw, cx_8f4 hw, pk_us, pk_un, ne_eq, Nat.reduceEqDiff, not_false_eq_true, ks_eq, ks_ss, cx_8n (show ¬ (67:Nat) = 68 by decide), cx_f67 hw, cx_v67 hw, hQ, show ∀ x F, kx_set (cx_fW (cx_vW Q w V te qu) w Fo st) 68 (kO 8 (kf (cr8 (.ref 67) x) F)) = cx_8 (cx_fW (cx_vW Q w V te qu) w Fo st) x F from fun _ _ => rfl, ks_ne (show ¬ (67:Nat) = 68 by decide), hmn, nI_1, kz_uu, cp8_0, cp8_1, cp8_2, cp8_3, cp8_4, cp8_5, cp8_9, ks_eq, ks_ss]; try dsimp only [kx_wp, kx_step, kx_lI, kx_lL, kx_lA, kx_gl, kx_pI, kx_pL, kx_pR, kx_pA, kx_pV, kx_s1, kx_s2, kx_sl, kx_pre, kx_c2, kx_pl, kx_cmp, kx_oF, kx_eqN, kx_nil, kx_c1, kx_ft, kx_aI, kx_aL, kx_aR, kx_ln, Nat.reduceAdd, Option.toList, List.cons_append, List.nil_append, cf8_0, cf8_1, cf8_2, cf8_3, cf8_4, cf8_5, cf8_9])
        repeat' apply And.intro
        all_goals try (first | with_reducible assumption | (with_reducible refine ck_nzI ?_; simp; done) | (with_reducible refine ck_nzL ?_; simp; done) | (with_reducible refine vp_in_nI ?_ ?_ <;> first | omega | decide) | (with_reducible refine Nat.le_of_ble_eq_true ?_; rfl) | omega | exact Or.inl trivial | exact Or.inr trivial | exact Or.inl rfl | exact Or.inr rfl)
        · intro zc56
          with_reducible first | have ze56 := Int32.not_le.mpr zc56 | have ze56 := zc56
          refine hB bX8_readWorks_90 _ _ _ _ _ _ _ kX8_readWorks_90 ?_
          dsimp only [bX8_readWorks_90, kx_wp, kx_step, kx_lI, kx_lL, kx_lA, kx_gl, kx_pI, kx_pL, kx_pR, kx_pA, kx_pV, kx_s1, kx_s2, kx_sl, kx_pre, kx_c2, kx_pl, kx_cmp, kx_oF, kx_eqN, kx_nil, kx_c1, kx_ft, kx_aI, kx_aL, kx_aR, kx_ln, Nat.reduceAdd, Option.toList, List.cons_append, List.nil_append, cf8_0, cf8_1, cf8_2, cf8_3, cf8_4, cf8_5, cf8_9]
          repeat (simp only [cx_8o, cx_8s, cx_83 hw, cx_84 hw, cx_dq0 hw, cx_dq1 hw, cx_dq2 hw, cx_dp0 hw, cx_dp1 hw, cx_dp2 hw, cx_8f3 hw, cx_8f4 hw, pk_us, pk_un, ne_eq, Nat.reduceEqDiff, not_false_eq_true, ks_eq, ks_ss, cx_8n (show ¬ (67:Nat) = 68 by decide), cx_f67 hw, cx_v67 hw, hQ, show ∀ x F, kx_set (cx_fW (cx_vW Q w V te qu) w Fo st) 68 (kO 8 (kf (cr8 (.ref 67) x) F)) = cx_8 (cx_fW (cx_vW Q w V te qu) w Fo st) x F from fun _ _ => rfl, ks_ne (show ¬ (67:Nat) = 68 by decide), hmn, nI_1, kz_uu, cp8_0, cp8_1, cp8_2, cp8_3, cp8_4, cp8_5, cp8_9, ks_eq, ks_ss]; try dsimp only [kx_wp, kx_step, kx_lI, kx_lL, kx_lA, kx_gl, kx_pI, kx_pL, kx_pR, kx_pA, kx_pV, kx_s1, kx_s2, kx_sl, kx_pre, kx_c2, kx_pl, kx_cmp, kx_oF, kx_eqN, kx_nil, kx_c1, kx_ft, kx_aI, kx_aL, kx_aR, kx_ln, Nat.reduceAdd, Option.toList, List.cons_append, List.nil_append, cf8_0, cf8_1, cf8_2, cf8_3, cf8_4, cf8_5, cf8_9])
          all_goals (repeat' apply And.intro)
          all_goals ((try clear hB hC); first | exact True.intro | exact hfin)
        · intro zc56
          with_reducible first | have ze56 := Int32.not_lt.mp zc56 | have ze56 := zc56
          refine hB bX8_readWorks_59 _ _ _ _ _ _ _ kX8_readWorks_59 ?_
          dsimp only [bX8_readWorks_59, kx_wp, kx_step, kx_lI, kx_lL, kx_lA, kx_gl, kx_pI, kx_pL, kx_pR, kx_pA, kx_pV, kx_s1, kx_s2, kx_sl, kx_pre, kx_c2, kx_pl, kx_cmp, kx_oF, kx_eqN, kx_nil, kx_c1, kx_ft, kx_aI, kx_aL, kx_aR, kx_ln, Nat.reduceAdd, Option.toList, List.cons_append, List.nil_append, cf8_0, cf8_1, cf8_2, cf8_3, cf8_4, cf8_5, cf8_9]
          repeat (simp only [cx_8o, cx_8s, cx_83 hw, cx_84 hw, cx_dq0 hw, cx_dq1 hw, cx_dq2 hw, cx_dp0 hw, cx_dp1 hw, cx_dp2 hw, cx_8f3 hw, cx_8f4 hw, pk_us, pk_un, ne_eq, Nat.reduceEqDiff, not_false_eq_true, ks_eq, ks_ss, cx_8n (show ¬ (67:Nat) = 68 by decide), cx_f67 hw, cx_v67 hw, hQ, show ∀ x F, kx_set (cx_fW (cx_vW Q w V te qu) w Fo st) 68 (kO 8 (kf (cr8 (.ref 67) x) F)) = cx_8 (cx_fW (cx_vW Q w V te qu) w Fo st) x F from fun _ _ => rfl, ks_ne (show ¬ (67:Nat) = 68 by decide), hmn, nI_1, kz_uu, cp8_0, cp8_1, cp8_2, cp8_3, cp8_4, cp8_5, cp8_9, ks_eq, ks_ss]; try dsimp only [kx_wp, kx_step, kx_lI, kx_lL, kx_lA, kx_gl, kx_pI, kx_pL, kx_pR, kx_pA, kx_pV, kx_s1, kx_s2, kx_sl, kx_pre, kx_c2, kx_pl, kx_cmp, kx_oF, kx_eqN, kx_nil, kx_c1, kx_ft, kx_aI, kx_aL, kx_aR, kx_ln, Nat.reduceAdd, Option.toList, List.cons_append, List.nil_append, cf8_0, cf8_1, cf8_2, cf8_3, cf8_4, cf8_5, cf8_9])
          repeat' apply And.intro
          all_goals try (first | with_reducible assumption | (with_reducible refine ck_nzI ?_; simp; done) | (with_reducible refine ck_nzL ?_; simp; done) | (with_reducible refine vp_in_nI ?_ ?_ <;> first | omega | decide) | (with_reducible refine Nat.le_of_ble_eq_true ?_; rfl) | omega | exact Or.inl trivial | exact Or.inr trivial | exact Or.inl rfl | exact Or.inr rfl)
          · intro zc63
            have ze63 := zc63
            refine hB bX8_readWorks_90 _ _ _ _ _ _ _ kX8_readWorks_90 ?_
            dsimp only [bX8_readWorks_90, kx_wp, kx_step, kx_lI, kx_lL, kx_lA, kx_gl, kx_pI, kx_pL, kx_pR, kx_pA, kx_pV, kx_s1, kx_s2, kx_sl, kx_pre, kx_c2, kx_pl, kx_cmp, kx_oF, kx_eqN, kx_nil, kx_c1, kx_ft, kx_aI, kx_aL, kx_aR, kx_ln, Nat.reduceAdd, Option.toList, List.cons_append, List.nil_append, cf8_0, cf8_1, cf8_2, cf8_3, cf8_4, cf8_5, cf8_9]
            repeat (simp only [cx_8o, cx_8s, cx_83 hw, cx_84 hw, cx_dq0 hw, cx_dq1 hw, cx_dq2 hw, cx_dp0 hw, cx_dp1 hw, cx_dp2 hw, cx_8f3 hw, cx_8f4 hw, pk_us, pk_un, ne_eq, Nat.reduceEqDiff, not_false_eq_true, ks_eq, ks_ss, cx_8n (show ¬ (67:Nat) = 68 by decide), cx_f67 hw, cx_v67 hw, hQ, show ∀ x F, kx_set (cx_fW (cx_vW Q w V te qu) w Fo st) 68 (kO 8 (kf (cr8 (.ref 67) x) F)) = cx_8 (cx_fW (cx_vW Q w V te qu) w Fo st) x F from fun _ _ => rfl, ks_ne (show ¬ (67:Nat) = 68 by decide), hmn, nI_1, kz_uu, cp8_0, cp8_1, cp8_2, cp8_3, cp8_4, cp8_5, cp8_9, ks_eq, ks_ss]; try dsimp only [kx_wp, kx_step, kx_lI, kx_lL, kx_lA, kx_gl, kx_pI, kx_pL, kx_pR, kx_pA, kx_pV, kx_s1, kx_s2, kx_sl, kx_pre, kx_c2, kx_pl, kx_cmp, kx_oF, kx_eqN, kx_nil, kx_c1, kx_ft, kx_aI, kx_aL, kx_aR, kx_ln, Nat.reduceAdd, Option.toList, List.cons_append, List.nil_append, cf8_0, cf8_1, cf8_2, cf8_3, cf8_4, cf8_5, cf8_9])
            all_goals (repeat' apply And.intro)
            all_goals ((try clear hB hC); first | exact True.intro | exact hfin)
          · intro zc63
            first | exact absurd rfl zc63 | exact absurd zc63 (by decide) | exact absurd (by decide) zc63 | (exfalso; first | exact absurd ((nI_ltI (a := 16) (b := qq.2.1) (by omega) (by omega)).mp zc56) (by omega) | exact absurd ((nI_ltI (a := 16) (b := i) (by omega) (by omega)).mp zc56) (by omega) | exact zc63 hx0 | exact zc63 hf4 | exact zc63 rfl | exact absurd ((nI_leI (a := n) (b := ck_sk T n qq.1.1) (by omega) (by omega)).mp zc74) (by omega) | exact absurd ((nI_leI (a := n) (b := ck_sk T n qq.1.1) (by omega) (by omega)).mpr (by omega)) zc74) | (exfalso; simp_all; done)
    | succ n9 ih =>
      intro qq i FA VA tA qA FoA sA hgo hle9 hp9 hi9 hD hX hRR
      have hcase : (¬ qq.1.2.1 = -1) ∨ (qq.1.2.1 = -1 ∧ ¬ ck_sk T n qq.1.1 < n) ∨ (qq.1.2.1 = -1 ∧ ck_sk T n qq.1.1 < n) := by
        by_cases z1 : qq.1.2.1 = -1
        · by_cases z2 : ck_sk T n qq.1.1 < n
          · exact Or.inr (Or.inr ⟨z1, z2⟩)
          · exact Or.inr (Or.inl ⟨z1, z2⟩)
        · exact Or.inl z1
      rcases hcase with hg | ⟨hg, hlt⟩ | ⟨hg, hlt⟩
      · obtain ⟨x4, x5, x6⟩ := hX hg
        have hx0 : ¬ FA 4 = 0 := fun z => x6 (x4.symm.trans z)
        rw [ck_rds_b hg] at hRR
        subst hRR
        have hfin : cx_PD Q w T n qq sz (fun r => r = some (.int (if qq.1.2.1 = -1 then 0 else qq.1.2.2.1))) (some (.int (FA 4))) (cx_8 (cx_fW (cx_vW Q w VA tA qA) w FoA sA) (.ref w) FA) sz := cx_PD.f (by rw [if_neg hg, x4]) hg ⟨x4, x5, x6⟩
        refine hB bX8_readWorks_52 _ _ _ _ _ _ _ kX8_readWorks_52 ?_
        dsimp only [bX8_readWorks_52, kx_wp, kx_step, kx_lI, kx_lL, kx_lA, kx_gl, kx_pI, kx_pL, kx_pR, kx_pA, kx_pV, kx_s1, kx_s2, kx_sl, kx_pre, kx_c2, kx_pl, kx_cmp, kx_oF, kx_eqN, kx_nil, kx_c1, kx_ft, kx_aI, kx_aL, kx_aR, kx_ln, Nat.reduceAdd, Option.toList, List.cons_append, List.nil_append, cf8_0, cf8_1, cf8_2, cf8_3, cf8_4, cf8_5, cf8_9]
        repeat (simp only [cx_8o, cx_8s, cx_83 hw, cx_84 hw, cx_dq0 hw, cx_dq1 hw, cx_dq2 hw, cx_dp0 hw, cx_dp1 hw, cx_dp2 hw, cx_8f3 hw, cx_8f4 hw, pk_us, pk_un, ne_eq, Nat.reduceEqDiff, not_false_eq_true, ks_eq, ks_ss, cx_8n (show ¬ (67:Nat) = 68 by decide), cx_f67 hw, cx_v67 hw, hQ, show ∀ x F, kx_set (cx_fW (cx_vW Q w V te qu) w Fo st) 68 (kO 8 (kf (cr8 (.ref 67) x) F)) = cx_8 (cx_fW (cx_vW Q w V te qu) w Fo st) x F from fun _ _ => rfl, ks_ne (show ¬ (67:Nat) = 68 by decide), hmn, nI_1, kz_uu, cp8_0, cp8_1, cp8_2, cp8_3, cp8_4, cp8_5, cp8_9, ks_eq, ks_ss]; try dsimp only [kx_wp, kx_step, kx_lI, kx_lL, kx_lA, kx_gl, kx_pI, kx_pL, kx_pR, kx_pA, kx_pV, kx_s1, kx_s2, kx_sl, kx_pre, kx_c2, kx_pl, kx_cmp, kx_oF, kx_eqN, kx_nil, kx_c1, kx_ft, kx_aI, kx_aL, kx_aR, kx_ln, Nat.reduceAdd, Option.toList, List.cons_append, List.nil_append, cf8_0, cf8_1, cf8_2, cf8_3, cf8_4, cf8_5, cf8_9])
        repeat' apply And.intro
        all_goals try (first | with_reducible assumption | (with_reducible refine ck_nzI ?_; simp; done) | (with_reducible refine ck_nzL ?_; simp; done) | (with_reducible refine vp_in_nI ?_ ?_ <;> first | omega | decide) | (with_reducible refine Nat.le_of_ble_eq_true ?_; rfl) | omega | exact Or.inl trivial | exact Or.inr trivial | exact Or.inl rfl | exact Or.inr rfl)
        · intro zc56
          with_reducible first | have ze56 := Int32.not_le.mpr zc56 | have ze56 := zc56
          refine hB bX8_readWorks_90 _ _ _ _ _ _ _ kX8_readWorks_90 ?_
          dsimp only [bX8_readWorks_90, kx_wp, kx_step, kx_lI, kx_lL, kx_lA, kx_gl, kx_pI, kx_pL, kx_pR, kx_pA, kx_pV, kx_s1, kx_s2, kx_sl, kx_pre, kx_c2, kx_pl, kx_cmp, kx_oF, kx_eqN, kx_nil, kx_c1, kx_ft, kx_aI, kx_aL, kx_aR, kx_ln, Nat.reduceAdd, Option.toList, List.cons_append, List.nil_append, cf8_0, cf8_1, cf8_2, cf8_3, cf8_4, cf8_5, cf8_9]
          repeat (simp only [cx_8o, cx_8s, cx_83 hw, cx_84 hw, cx_dq0 hw, cx_dq1 hw, cx_dq2 hw, cx_dp0 hw, cx_dp1 hw, cx_dp2 hw, cx_8f3 hw, cx_8f4 hw, pk_us, pk_un, ne_eq, Nat.reduceEqDiff, not_false_eq_true, ks_eq, ks_ss, cx_8n (show ¬ (67:Nat) = 68 by decide), cx_f67 hw, cx_v67 hw, hQ, show ∀ x F, kx_set (cx_fW (cx_vW Q w V te qu) w Fo st) 68 (kO 8 (kf (cr8 (.ref 67) x) F)) = cx_8 (cx_fW (cx_vW Q w V te qu) w Fo st) x F from fun _ _ => rfl, ks_ne (show ¬ (67:Nat) = 68 by decide), hmn, nI_1, kz_uu, cp8_0, cp8_1, cp8_2, cp8_3, cp8_4, cp8_5, cp8_9, ks_eq, ks_ss]; try dsimp only [kx_wp, kx_step, kx_lI, kx_lL, kx_lA, kx_gl, kx_pI, kx_pL, kx_pR, kx_pA, kx_pV, kx_s1, kx_s2, kx_sl, kx_pre, kx_c2, kx_pl, kx_cmp, kx_oF, kx_eqN, kx_nil, kx_c1, kx_ft, kx_aI, kx_aL, kx_aR, kx_ln, Nat.reduceAdd, Option.toList, List.cons_append, List.nil_append, cf8_0, cf8_1, cf8_2, cf8_3, cf8_4, cf8_5, cf8_9])
          all_goals (repeat' apply And.intro)
          all_goals ((try clear hB hC); first | exact True.intro | exact hfin)
        · intro zc56
          with_reducible first | have ze56 := Int32.not_lt.mp zc56 | have ze56 := zc56
          refine hB bX8_readWorks_59 _ _ _ _ _ _ _ kX8_readWorks_59 ?_
          dsimp only [bX8_readWorks_59, kx_wp, kx_step, kx_lI, kx_lL, kx_lA, kx_gl, kx_pI, kx_pL, kx_pR, kx_pA, kx_pV, kx_s1, kx_s2, kx_sl, kx_pre, kx_c2, kx_pl, kx_cmp, kx_oF, kx_eqN, kx_nil, kx_c1, kx_ft, kx_aI, kx_aL, kx_aR, kx_ln, Nat.reduceAdd, Option.toList, List.cons_append, List.nil_append, cf8_0, cf8_1, cf8_2, cf8_3, cf8_4, cf8_5, cf8_9]
          repeat (simp only [cx_8o, cx_8s, cx_83 hw, cx_84 hw, cx_dq0 hw, cx_dq1 hw, cx_dq2 hw, cx_dp0 hw, cx_dp1 hw, cx_dp2 hw, cx_8f3 hw, cx_8f4 hw, pk_us, pk_un, ne_eq, Nat.reduceEqDiff, not_false_eq_true, ks_eq, ks_ss, cx_8n (show ¬ (67:Nat) = 68 by decide), cx_f67 hw, cx_v67 hw, hQ, show ∀ x F, kx_set (cx_fW (cx_vW Q w V te qu) w Fo st) 68 (kO 8 (kf (cr8 (.ref 67) x) F)) = cx_8 (cx_fW (cx_vW Q w V te qu) w Fo st) x F from fun _ _ => rfl, ks_ne (show ¬ (67:Nat) = 68 by decide), hmn, nI_1, kz_uu, cp8_0, cp8_1, cp8_2, cp8_3, cp8_4, cp8_5, cp8_9, ks_eq, ks_ss]; try dsimp only [kx_wp, kx_step, kx_lI, kx_lL, kx_lA, kx_gl, kx_pI, kx_pL, kx_pR, kx_pA, kx_pV, kx_s1, kx_s2, kx_sl, kx_pre, kx_c2, kx_pl, kx_cmp, kx_oF, kx_eqN, kx_nil, kx_c1, kx_ft, kx_aI, kx_aL, kx_aR, kx_ln, Nat.reduceAdd, Option.toList, List.cons_append, List.nil_append, cf8_0, cf8_1, cf8_2, cf8_3, cf8_4, cf8_5, cf8_9])
          repeat' apply And.intro
          all_goals try (first | with_reducible assumption | (with_reducible refine ck_nzI ?_; simp; done) | (with_reducible refine ck_nzL ?_; simp; done) | (with_reducible refine vp_in_nI ?_ ?_ <;> first | omega | decide) | (with_reducible refine Nat.le_of_ble_eq_true ?_; rfl) | omega | exact Or.inl trivial | exact Or.inr trivial | exact Or.inl rfl | exact Or.inr rfl)
          · intro zc63
            have ze63 := zc63
            refine hB bX8_readWorks_90 _ _ _ _ _ _ _ kX8_readWorks_90 ?_
            dsimp only [bX8_readWorks_90, kx_wp, kx_step, kx_lI, kx_lL, kx_lA, kx_gl, kx_pI, kx_pL, kx_pR, kx_pA, kx_pV, kx_s1, kx_s2, kx_sl, kx_pre, kx_c2, kx_pl, kx_cmp, kx_oF, kx_eqN, kx_nil, kx_c1, kx_ft, kx_aI, kx_aL, kx_aR, kx_ln, Nat.reduceAdd, Option.toList, List.cons_append, List.nil_append, cf8_0, cf8_1, cf8_2, cf8_3, cf8_4, cf8_5, cf8_9]
            repeat (simp only [cx_8o, cx_8s, cx_83 hw, cx_84 hw, cx_dq0 hw, cx_dq1 hw, cx_dq2 hw, cx_dp0 hw, cx_dp1 hw, cx_dp2 hw, cx_8f3 hw, cx_8f4 hw, pk_us, pk_un, ne_eq, Nat.reduceEqDiff, not_false_eq_true, ks_eq, ks_ss, cx_8n (show ¬ (67:Nat) = 68 by decide), cx_f67 hw, cx_v67 hw, hQ, show ∀ x F, kx_set (cx_fW (cx_vW Q w V te qu) w Fo st) 68 (kO 8 (kf (cr8 (.ref 67) x) F)) = cx_8 (cx_fW (cx_vW Q w V te qu) w Fo st) x F from fun _ _ => rfl, ks_ne (show ¬ (67:Nat) = 68 by decide), hmn, nI_1, kz_uu, cp8_0, cp8_1, cp8_2, cp8_3, cp8_4, cp8_5, cp8_9, ks_eq, ks_ss]; try dsimp only [kx_wp, kx_step, kx_lI, kx_lL, kx_lA, kx_gl, kx_pI, kx_pL, kx_pR, kx_pA, kx_pV, kx_s1, kx_s2, kx_sl, kx_pre, kx_c2, kx_pl, kx_cmp, kx_oF, kx_eqN, kx_nil, kx_c1, kx_ft, kx_aI, kx_aL, kx_aR, kx_ln, Nat.reduceAdd, Option.toList, List.cons_append, List.nil_append, cf8_0, cf8_1, cf8_2, cf8_3, cf8_4, cf8_5, cf8_9])
            all_goals (repeat' apply And.intro)
            all_goals ((try clear hB hC); first | exact True.intro | exact hfin)
          · intro zc63
            first | exact absurd rfl zc63 | exact absurd zc63 (by decide) | exact absurd (by decide) zc63 | (exfalso; first | exact absurd ((nI_ltI (a := 16) (b := qq.2.1) (by omega) (by omega)).mp zc56) (by omega) | exact absurd ((nI_ltI (a := 16) (b := i) (by omega) (by omega)).mp zc56) (by omega) | exact zc63 hx0 | exact zc63 hf4 | exact zc63 rfl | exact absurd ((nI_leI (a := n) (b := ck_sk T n qq.1.1) (by omega) (by omega)).mp zc74) (by omega) | exact absurd ((nI_leI (a := n) (b := ck_sk T n qq.1.1) (by omega) (by omega)).mpr (by omega)) zc74) | (exfalso; simp_all; done)
      · obtain ⟨hE, hV, hH⟩ := hD hg
        have hf4 : FA 4 = 0 := hE.2.2.2.1
        have h29 : FA 2 = nI (ck_sk T n qq.1.1) := hE.2.1
        have h19 : FA 1 = nI n := hE.1
        have hsl := (ck_sk_le T hle9).2
        obtain ⟨hgo1, hgo2⟩ := hgo hg
        subst hgo2
        have hDs : cx_D T n ((ck_sk T n qq.1.1, qq.1.2), qq.2) FA VA tA qA FoA sA := ⟨⟨hE.1, by rw [ck_skk]; exact hE.2.1, hE.2.2.1, hE.2.2.2.1, hE.2.2.2.2.1, hE.2.2.2.2.2.1, hE.2.2.2.2.2.2⟩, hV, hH⟩
        rw [ck_rds_e hg hlt] at hRR
        subst hRR
        have hfin : cx_PD Q w T n ((ck_sk T n qq.1.1, qq.1.2), qq.2) sz (fun r => r = some (.int (if qq.1.2.1 = -1 then 0 else qq.1.2.2.1))) (some (.int 0)) (cx_8 (cx_fW (cx_vW Q w VA tA qA) w FoA sA) (.ref w) FA) sz := cx_PD.t (by rw [if_pos hg]) hg hDs
        refine hB bX8_readWorks_52 _ _ _ _ _ _ _ kX8_readWorks_52 ?_
        dsimp only [bX8_readWorks_52, kx_wp, kx_step, kx_lI, kx_lL, kx_lA, kx_gl, kx_pI, kx_pL, kx_pR, kx_pA, kx_pV, kx_s1, kx_s2, kx_sl, kx_pre, kx_c2, kx_pl, kx_cmp, kx_oF, kx_eqN, kx_nil, kx_c1, kx_ft, kx_aI, kx_aL, kx_aR, kx_ln, Nat.reduceAdd, Option.toList, List.cons_append, List.nil_append, cf8_0, cf8_1, cf8_2, cf8_3, cf8_4, cf8_5, cf8_9]
        repeat (simp only [cx_8o, cx_8s, cx_83 hw, cx_84 hw, cx_dq0 hw, cx_dq1 hw, cx_dq2 hw, cx_dp0 hw, cx_dp1 hw, cx_dp2 hw, cx_8f3 hw, cx_8f4 hw, pk_us, pk_un, ne_eq, Nat.reduceEqDiff, not_false_eq_true, ks_eq, ks_ss, cx_8n (show ¬ (67:Nat) = 68 by decide), cx_f67 hw, cx_v67 hw, hQ, show ∀ x F, kx_set (cx_fW (cx_vW Q w V te qu) w Fo st) 68 (kO 8 (kf (cr8 (.ref 67) x) F)) = cx_8 (cx_fW (cx_vW Q w V te qu) w Fo st) x F from fun _ _ => rfl, ks_ne (show ¬ (67:Nat) = 68 by decide), hmn, nI_1, kz_uu, cp8_0, cp8_1, cp8_2, cp8_3, cp8_4, cp8_5, cp8_9, ks_eq, ks_ss, hf4, h29, h19]; try dsimp only [kx_wp, kx_step, kx_lI, kx_lL, kx_lA, kx_gl, kx_pI, kx_pL, kx_pR, kx_pA, kx_pV, kx_s1, kx_s2, kx_sl, kx_pre, kx_c2, kx_pl, kx_cmp, kx_oF, kx_eqN, kx_nil, kx_c1, kx_ft, kx_aI, kx_aL, kx_aR, kx_ln, Nat.reduceAdd, Option.toList, List.cons_append, List.nil_append, cf8_0, cf8_1, cf8_2, cf8_3, cf8_4, cf8_5, cf8_9])
        repeat' apply And.intro
        all_goals try (first | with_reducible assumption | (with_reducible refine ck_nzI ?_; simp; done) | (with_reducible refine ck_nzL ?_; simp; done) | (with_reducible refine vp_in_nI ?_ ?_ <;> first | omega | decide) | (with_reducible refine Nat.le_of_ble_eq_true ?_; rfl) | omega | exact Or.inl trivial | exact Or.inr trivial | exact Or.inl rfl | exact Or.inr rfl)
        · intro zc56
          first | exact absurd rfl zc56 | exact absurd zc56 (by decide) | exact absurd (by decide) zc56 | (exfalso; first | exact absurd ((nI_ltI (a := 16) (b := qq.2.1) (by omega) (by omega)).mp zc56) (by omega) | exact absurd ((nI_ltI (a := 16) (b := i) (by omega) (by omega)).mp zc56) (by omega) | exact zc63 hx0 | exact zc63 hf4 | exact zc63 rfl | exact absurd ((nI_leI (a := n) (b := ck_sk T n qq.1.1) (by omega) (by omega)).mp zc74) (by omega) | exact absurd ((nI_leI (a := n) (b := ck_sk T n qq.1.1) (by omega) (by omega)).mpr (by omega)) zc74) | (exfalso; simp_all; done)
        · intro zc56
          with_reducible first | have ze56 := Int32.not_lt.mp zc56 | have ze56 := zc56
          refine hB bX8_readWorks_59 _ _ _ _ _ _ _ kX8_readWorks_59 ?_
          dsimp only [bX8_readWorks_59, kx_wp, kx_step, kx_lI, kx_lL, kx_lA, kx_gl, kx_pI, kx_pL, kx_pR, kx_pA, kx_pV, kx_s1, kx_s2, kx_sl, kx_pre, kx_c2, kx_pl, kx_cmp, kx_oF, kx_eqN, kx_nil, kx_c1, kx_ft, kx_aI, kx_aL, kx_aR, kx_ln, Nat.reduceAdd, Option.toList, List.cons_append, List.nil_append, cf8_0, cf8_1, cf8_2, cf8_3, cf8_4, cf8_5, cf8_9]
          repeat (simp only [cx_8o, cx_8s, cx_83 hw, cx_84 hw, cx_dq0 hw, cx_dq1 hw, cx_dq2 hw, cx_dp0 hw, cx_dp1 hw, cx_dp2 hw, cx_8f3 hw, cx_8f4 hw, pk_us, pk_un, ne_eq, Nat.reduceEqDiff, not_false_eq_true, ks_eq, ks_ss, cx_8n (show ¬ (67:Nat) = 68 by decide), cx_f67 hw, cx_v67 hw, hQ, show ∀ x F, kx_set (cx_fW (cx_vW Q w V te qu) w Fo st) 68 (kO 8 (kf (cr8 (.ref 67) x) F)) = cx_8 (cx_fW (cx_vW Q w V te qu) w Fo st) x F from fun _ _ => rfl, ks_ne (show ¬ (67:Nat) = 68 by decide), hmn, nI_1, kz_uu, cp8_0, cp8_1, cp8_2, cp8_3, cp8_4, cp8_5, cp8_9, ks_eq, ks_ss, hf4, h29, h19]; try dsimp only [kx_wp, kx_step, kx_lI, kx_lL, kx_lA, kx_gl, kx_pI, kx_pL, kx_pR, kx_pA, kx_pV, kx_s1, kx_s2, kx_sl, kx_pre, kx_c2, kx_pl, kx_cmp, kx_oF, kx_eqN, kx_nil, kx_c1, kx_ft, kx_aI, kx_aL, kx_aR, kx_ln, Nat.reduceAdd, Option.toList, List.cons_append, List.nil_append, cf8_0, cf8_1, cf8_2, cf8_3, cf8_4, cf8_5, cf8_9])
          repeat' apply And.intro
          all_goals try (first | with_reducible assumption | (with_reducible refine ck_nzI ?_; simp; done) | (with_reducible refine ck_nzL ?_; simp; done) | (with_reducible refine vp_in_nI ?_ ?_ <;> first | omega | decide) | (with_reducible refine Nat.le_of_ble_eq_true ?_; rfl) | omega | exact Or.inl trivial | exact Or.inr trivial | exact Or.inl rfl | exact Or.inr rfl)
          · intro zc63
            first | exact absurd rfl zc63 | exact absurd zc63 (by decide) | exact absurd (by decide) zc63 | (exfalso; first | exact absurd ((nI_ltI (a := 16) (b := qq.2.1) (by omega) (by omega)).mp zc56) (by omega) | exact absurd ((nI_ltI (a := 16) (b := i) (by omega) (by omega)).mp zc56) (by omega) | exact zc63 hx0 | exact zc63 hf4 | exact zc63 rfl | exact absurd ((nI_leI (a := n) (b := ck_sk T n qq.1.1) (by omega) (by omega)).mp zc74) (by omega) | exact absurd ((nI_leI (a := n) (b := ck_sk T n qq.1.1) (by omega) (by omega)).mpr (by omega)) zc74) | (exfalso; simp_all; done)
          · intro zc63
            with_reducible first | have ze63 := Decidable.not_not.mp zc63 | have ze63 := zc63
            refine hB bX8_readWorks_66 _ _ _ _ _ _ _ kX8_readWorks_66 ?_
            dsimp only [bX8_readWorks_66, kx_wp, kx_step, kx_lI, kx_lL, kx_lA, kx_gl, kx_pI, kx_pL, kx_pR, kx_pA, kx_pV, kx_s1, kx_s2, kx_sl, kx_pre, kx_c2, kx_pl, kx_cmp, kx_oF, kx_eqN, kx_nil, kx_c1, kx_ft, kx_aI, kx_aL, kx_aR, kx_ln, Nat.reduceAdd, Option.toList, List.cons_append, List.nil_append, cf8_0, cf8_1, cf8_2, cf8_3, cf8_4, cf8_5, cf8_9]
            repeat (simp only [cx_8o, cx_8s, cx_83 hw, cx_84 hw, cx_dq0 hw, cx_dq1 hw, cx_dq2 hw, cx_dp0 hw, cx_dp1 hw, cx_dp2 hw, cx_8f3 hw, cx_8f4 hw, pk_us, pk_un, ne_eq, Nat.reduceEqDiff, not_false_eq_true, ks_eq, ks_ss, cx_8n (show ¬ (67:Nat) = 68 by decide), cx_f67 hw, cx_v67 hw, hQ, show ∀ x F, kx_set (cx_fW (cx_vW Q w V te qu) w Fo st) 68 (kO 8 (kf (cr8 (.ref 67) x) F)) = cx_8 (cx_fW (cx_vW Q w V te qu) w Fo st) x F from fun _ _ => rfl, ks_ne (show ¬ (67:Nat) = 68 by decide), hmn, nI_1, kz_uu, cp8_0, cp8_1, cp8_2, cp8_3, cp8_4, cp8_5, cp8_9, ks_eq, ks_ss, hf4, h29, h19]; try dsimp only [kx_wp, kx_step, kx_lI, kx_lL, kx_lA, kx_gl, kx_pI, kx_pL, kx_pR, kx_pA, kx_pV, kx_s1, kx_s2, kx_sl, kx_pre, kx_c2, kx_pl, kx_cmp, kx_oF, kx_eqN, kx_nil, kx_c1, kx_ft, kx_aI, kx_aL, kx_aR, kx_ln, Nat.reduceAdd, Option.toList, List.cons_append, List.nil_append, cf8_0, cf8_1, cf8_2, cf8_3, cf8_4, cf8_5, cf8_9])
            repeat' apply And.intro
            all_goals try (first | with_reducible assumption | (with_reducible refine ck_nzI ?_; simp; done) | (with_reducible refine ck_nzL ?_; simp; done) | (with_reducible refine vp_in_nI ?_ ?_ <;> first | omega | decide) | (with_reducible refine Nat.le_of_ble_eq_true ?_; rfl) | omega | exact Or.inl trivial | exact Or.inr trivial | exact Or.inl rfl | exact Or.inr rfl)
            · intro zc74
              with_reducible first | have ze74 := Int32.not_lt.mpr zc74 | have ze74 := zc74
              refine hB bX8_readWorks_90 _ _ _ _ _ _ _ kX8_readWorks_90 ?_
              dsimp only [bX8_readWorks_90, kx_wp, kx_step, kx_lI, kx_lL, kx_lA, kx_gl, kx_pI, kx_pL, kx_pR, kx_pA, kx_pV, kx_s1, kx_s2, kx_sl, kx_pre, kx_c2, kx_pl, kx_cmp, kx_oF, kx_eqN, kx_nil, kx_c1, kx_ft, kx_aI, kx_aL, kx_aR, kx_ln, Nat.reduceAdd, Option.toList, List.cons_append, List.nil_append, cf8_0, cf8_1, cf8_2, cf8_3, cf8_4, cf8_5, cf8_9]
              repeat (simp only [cx_8o, cx_8s, cx_83 hw, cx_84 hw, cx_dq0 hw, cx_dq1 hw, cx_dq2 hw, cx_dp0 hw, cx_dp1 hw, cx_dp2 hw, cx_8f3 hw, cx_8f4 hw, pk_us, pk_un, ne_eq, Nat.reduceEqDiff, not_false_eq_true, ks_eq, ks_ss, cx_8n (show ¬ (67:Nat) = 68 by decide), cx_f67 hw, cx_v67 hw, hQ, show ∀ x F, kx_set (cx_fW (cx_vW Q w V te qu) w Fo st) 68 (kO 8 (kf (cr8 (.ref 67) x) F)) = cx_8 (cx_fW (cx_vW Q w V te qu) w Fo st) x F from fun _ _ => rfl, ks_ne (show ¬ (67:Nat) = 68 by decide), hmn, nI_1, kz_uu, cp8_0, cp8_1, cp8_2, cp8_3, cp8_4, cp8_5, cp8_9, ks_eq, ks_ss, hf4, h29, h19]; try dsimp only [kx_wp, kx_step, kx_lI, kx_lL, kx_lA, kx_gl, kx_pI, kx_pL, kx_pR, kx_pA, kx_pV, kx_s1, kx_s2, kx_sl, kx_pre, kx_c2, kx_pl, kx_cmp, kx_oF, kx_eqN, kx_nil, kx_c1, kx_ft, kx_aI, kx_aL, kx_aR, kx_ln, Nat.reduceAdd, Option.toList, List.cons_append, List.nil_append, cf8_0, cf8_1, cf8_2, cf8_3, cf8_4, cf8_5, cf8_9])
              all_goals (repeat' apply And.intro)
              all_goals ((try clear hB hC); first | exact True.intro | exact hfin)
            · intro zc74
              first | exact absurd rfl zc74 | exact absurd zc74 (by decide) | exact absurd (by decide) zc74 | (exfalso; first | exact absurd ((nI_ltI (a := 16) (b := qq.2.1) (by omega) (by omega)).mp zc56) (by omega) | exact absurd ((nI_ltI (a := 16) (b := i) (by omega) (by omega)).mp zc56) (by omega) | exact zc63 hx0 | exact zc63 hf4 | exact zc63 rfl | exact absurd ((nI_leI (a := n) (b := ck_sk T n qq.1.1) (by omega) (by omega)).mp zc74) (by omega) | exact absurd ((nI_leI (a := n) (b := ck_sk T n qq.1.1) (by omega) (by omega)).mpr (by omega)) zc74) | (exfalso; simp_all; done)
      · obtain ⟨hE, hV, hH⟩ := hD hg
        have hf4 : FA 4 = 0 := hE.2.2.2.1
        have h29 : FA 2 = nI (ck_sk T n qq.1.1) := hE.2.1
        have h19 : FA 1 = nI n := hE.1
        have hsl := (ck_sk_le T hle9).2
        obtain ⟨hgo1, hgo2⟩ := hgo hg
        subst hgo2
        have hDs : cx_D T n ((ck_sk T n qq.1.1, qq.1.2), qq.2) FA VA tA qA FoA sA := ⟨⟨hE.1, by rw [ck_skk]; exact hE.2.1, hE.2.2.1, hE.2.2.2.1, hE.2.2.2.2.1, hE.2.2.2.2.2.1, hE.2.2.2.2.2.2⟩, hV, hH⟩
        rw [ck_rds_g hg hlt] at hRR
        have hpg := ck_par_g (T := T) hn9 (Q := ((ck_sk T n qq.1.1, qq.1.2), qq.2)) hsl hp9
        have hle0 := (ck_sk_le T hle9).1
        have hpar := cx_par (l := l) (G := G) (sz := sz) hw hQ hn hsl hp9 hDs
        refine hB bX8_readWorks_52 _ _ _ _ _ _ _ kX8_readWorks_52 ?_
        dsimp only [bX8_readWorks_52, kx_wp, kx_step, kx_lI, kx_lL, kx_lA, kx_gl, kx_pI, kx_pL, kx_pR, kx_pA, kx_pV, kx_s1, kx_s2, kx_sl, kx_pre, kx_c2, kx_pl, kx_cmp, kx_oF, kx_eqN, kx_nil, kx_c1, kx_ft, kx_aI, kx_aL, kx_aR, kx_ln, Nat.reduceAdd, Option.toList, List.cons_append, List.nil_append, cf8_0, cf8_1, cf8_2, cf8_3, cf8_4, cf8_5, cf8_9]
        repeat (simp only [cx_8o, cx_8s, cx_83 hw, cx_84 hw, cx_dq0 hw, cx_dq1 hw, cx_dq2 hw, cx_dp0 hw, cx_dp1 hw, cx_dp2 hw, cx_8f3 hw, cx_8f4 hw, pk_us, pk_un, ne_eq, Nat.reduceEqDiff, not_false_eq_true, ks_eq, ks_ss, cx_8n (show ¬ (67:Nat) = 68 by decide), cx_f67 hw, cx_v67 hw, hQ, show ∀ x F, kx_set (cx_fW (cx_vW Q w V te qu) w Fo st) 68 (kO 8 (kf (cr8 (.ref 67) x) F)) = cx_8 (cx_fW (cx_vW Q w V te qu) w Fo st) x F from fun _ _ => rfl, ks_ne (show ¬ (67:Nat) = 68 by decide), hmn, nI_1, kz_uu, cp8_0, cp8_1, cp8_2, cp8_3, cp8_4, cp8_5, cp8_9, ks_eq, ks_ss, hf4, h29, h19]; try dsimp only [kx_wp, kx_step, kx_lI, kx_lL, kx_lA, kx_gl, kx_pI, kx_pL, kx_pR, kx_pA, kx_pV, kx_s1, kx_s2, kx_sl, kx_pre, kx_c2, kx_pl, kx_cmp, kx_oF, kx_eqN, kx_nil, kx_c1, kx_ft, kx_aI, kx_aL, kx_aR, kx_ln, Nat.reduceAdd, Option.toList, List.cons_append, List.nil_append, cf8_0, cf8_1, cf8_2, cf8_3, cf8_4, cf8_5, cf8_9])
        repeat' apply And.intro
        all_goals try (first | with_reducible assumption | (with_reducible refine ck_nzI ?_; simp; done) | (with_reducible refine ck_nzL ?_; simp; done) | (with_reducible refine vp_in_nI ?_ ?_ <;> first | omega | decide) | (with_reducible refine Nat.le_of_ble_eq_true ?_; rfl) | omega | exact Or.inl trivial | exact Or.inr trivial | exact Or.inl rfl | exact Or.inr rfl)
        · intro zc56
          first | exact absurd rfl zc56 | exact absurd zc56 (by decide) | exact absurd (by decide) zc56 | (exfalso; first | exact absurd ((nI_ltI (a := 16) (b := qq.2.1) (by omega) (by omega)).mp zc56) (by omega) | exact absurd ((nI_ltI (a := 16) (b := i) (by omega) (by omega)).mp zc56) (by omega) | exact zc63 hx0 | exact zc63 hf4 | exact zc63 rfl | exact absurd ((nI_leI (a := n) (b := ck_sk T n qq.1.1) (by omega) (by omega)).mp zc74) (by omega) | exact absurd ((nI_leI (a := n) (b := ck_sk T n qq.1.1) (by omega) (by omega)).mpr (by omega)) zc74) | (exfalso; simp_all; done)
        · intro zc56
          with_reducible first | have ze56 := Int32.not_lt.mp zc56 | have ze56 := zc56
          refine hB bX8_readWorks_59 _ _ _ _ _ _ _ kX8_readWorks_59 ?_
          dsimp only [bX8_readWorks_59, kx_wp, kx_step, kx_lI, kx_lL, kx_lA, kx_gl, kx_pI, kx_pL, kx_pR, kx_pA, kx_pV, kx_s1, kx_s2, kx_sl, kx_pre, kx_c2, kx_pl, kx_cmp, kx_oF, kx_eqN, kx_nil, kx_c1, kx_ft, kx_aI, kx_aL, kx_aR, kx_ln, Nat.reduceAdd, Option.toList, List.cons_append, List.nil_append, cf8_0, cf8_1, cf8_2, cf8_3, cf8_4, cf8_5, cf8_9]
          repeat (simp only [cx_8o, cx_8s, cx_83 hw, cx_84 hw, cx_dq0 hw, cx_dq1 hw, cx_dq2 hw, cx_dp0 hw, cx_dp1 hw, cx_dp2 hw, cx_8f3 hw, cx_8f4 hw, pk_us, pk_un, ne_eq, Nat.reduceEqDiff, not_false_eq_true, ks_eq, ks_ss, cx_8n (show ¬ (67:Nat) = 68 by decide), cx_f67 hw, cx_v67 hw, hQ, show ∀ x F, kx_set (cx_fW (cx_vW Q w V te qu) w Fo st) 68 (kO 8 (kf (cr8 (.ref 67) x) F)) = cx_8 (cx_fW (cx_vW Q w V te qu) w Fo st) x F from fun _ _ => rfl, ks_ne (show ¬ (67:Nat) = 68 by decide), hmn, nI_1, kz_uu, cp8_0, cp8_1, cp8_2, cp8_3, cp8_4, cp8_5, cp8_9, ks_eq, ks_ss, hf4, h29, h19]; try dsimp only [kx_wp, kx_step, kx_lI, kx_lL, kx_lA, kx_gl, kx_pI, kx_pL, kx_pR, kx_pA, kx_pV, kx_s1, kx_s2, kx_sl, kx_pre, kx_c2, kx_pl, kx_cmp, kx_oF, kx_eqN, kx_nil, kx_c1, kx_ft, kx_aI, kx_aL, kx_aR, kx_ln, Nat.reduceAdd, Option.toList, List.cons_append, List.nil_append, cf8_0, cf8_1, cf8_2, cf8_3, cf8_4, cf8_5, cf8_9])
          repeat' apply And.intro
          all_goals try (first | with_reducible assumption | (with_reducible refine ck_nzI ?_; simp; done) | (with_reducible refine ck_nzL ?_; simp; done) | (with_reducible refine vp_in_nI ?_ ?_ <;> first | omega | decide) | (with_reducible refine Nat.le_of_ble_eq_true ?_; rfl) | omega | exact Or.inl trivial | exact Or.inr trivial | exact Or.inl rfl | exact Or.inr rfl)
          · intro zc63
            first | exact absurd rfl zc63 | exact absurd zc63 (by decide) | exact absurd (by decide) zc63 | (exfalso; first | exact absurd ((nI_ltI (a := 16) (b := qq.2.1) (by omega) (by omega)).mp zc56) (by omega) | exact absurd ((nI_ltI (a := 16) (b := i) (by omega) (by omega)).mp zc56) (by omega) | exact zc63 hx0 | exact zc63 hf4 | exact zc63 rfl | exact absurd ((nI_leI (a := n) (b := ck_sk T n qq.1.1) (by omega) (by omega)).mp zc74) (by omega) | exact absurd ((nI_leI (a := n) (b := ck_sk T n qq.1.1) (by omega) (by omega)).mpr (by omega)) zc74) | (exfalso; simp_all; done)
          · intro zc63
            with_reducible first | have ze63 := Decidable.not_not.mp zc63 | have ze63 := zc63
            refine hB bX8_readWorks_66 _ _ _ _ _ _ _ kX8_readWorks_66 ?_
            dsimp only [bX8_readWorks_66, kx_wp, kx_step, kx_lI, kx_lL, kx_lA, kx_gl, kx_pI, kx_pL, kx_pR, kx_pA, kx_pV, kx_s1, kx_s2, kx_sl, kx_pre, kx_c2, kx_pl, kx_cmp, kx_oF, kx_eqN, kx_nil, kx_c1, kx_ft, kx_aI, kx_aL, kx_aR, kx_ln, Nat.reduceAdd, Option.toList, List.cons_append, List.nil_append, cf8_0, cf8_1, cf8_2, cf8_3, cf8_4, cf8_5, cf8_9]
            repeat (simp only [cx_8o, cx_8s, cx_83 hw, cx_84 hw, cx_dq0 hw, cx_dq1 hw, cx_dq2 hw, cx_dp0 hw, cx_dp1 hw, cx_dp2 hw, cx_8f3 hw, cx_8f4 hw, pk_us, pk_un, ne_eq, Nat.reduceEqDiff, not_false_eq_true, ks_eq, ks_ss, cx_8n (show ¬ (67:Nat) = 68 by decide), cx_f67 hw, cx_v67 hw, hQ, show ∀ x F, kx_set (cx_fW (cx_vW Q w V te qu) w Fo st) 68 (kO 8 (kf (cr8 (.ref 67) x) F)) = cx_8 (cx_fW (cx_vW Q w V te qu) w Fo st) x F from fun _ _ => rfl, ks_ne (show ¬ (67:Nat) = 68 by decide), hmn, nI_1, kz_uu, cp8_0, cp8_1, cp8_2, cp8_3, cp8_4, cp8_5, cp8_9, ks_eq, ks_ss, hf4, h29, h19]; try dsimp only [kx_wp, kx_step, kx_lI, kx_lL, kx_lA, kx_gl, kx_pI, kx_pL, kx_pR, kx_pA, kx_pV, kx_s1, kx_s2, kx_sl, kx_pre, kx_c2, kx_pl, kx_cmp, kx_oF, kx_eqN, kx_nil, kx_c1, kx_ft, kx_aI, kx_aL, kx_aR, kx_ln, Nat.reduceAdd, Option.toList, List.cons_append, List.nil_append, cf8_0, cf8_1, cf8_2, cf8_3, cf8_4, cf8_5, cf8_9])
            repeat' apply And.intro
            all_goals try (first | with_reducible assumption | (with_reducible refine ck_nzI ?_; simp; done) | (with_reducible refine ck_nzL ?_; simp; done) | (with_reducible refine vp_in_nI ?_ ?_ <;> first | omega | decide) | (with_reducible refine Nat.le_of_ble_eq_true ?_; rfl) | omega | exact Or.inl trivial | exact Or.inr trivial | exact Or.inl rfl | exact Or.inr rfl)
            · intro zc74
              first | exact absurd rfl zc74 | exact absurd zc74 (by decide) | exact absurd (by decide) zc74 | (exfalso; first | exact absurd ((nI_ltI (a := 16) (b := qq.2.1) (by omega) (by omega)).mp zc56) (by omega) | exact absurd ((nI_ltI (a := 16) (b := i) (by omega) (by omega)).mp zc56) (by omega) | exact zc63 hx0 | exact zc63 hf4 | exact zc63 rfl | exact absurd ((nI_leI (a := n) (b := ck_sk T n qq.1.1) (by omega) (by omega)).mp zc74) (by omega) | exact absurd ((nI_leI (a := n) (b := ck_sk T n qq.1.1) (by omega) (by omega)).mpr (by omega)) zc74) | (exfalso; simp_all; done)
            · intro zc74
              with_reducible first | have ze74 := Int32.not_le.mp zc74 | have ze74 := zc74
              refine hB bX8_readWorks_77 _ _ _ _ _ _ _ kX8_readWorks_77 ?_
              dsimp only [bX8_readWorks_77, kx_wp, kx_step, kx_lI, kx_lL, kx_lA, kx_gl, kx_pI, kx_pL, kx_pR, kx_pA, kx_pV, kx_s1, kx_s2, kx_sl, kx_pre, kx_c2, kx_pl, kx_cmp, kx_oF, kx_eqN, kx_nil, kx_c1, kx_ft, kx_aI, kx_aL, kx_aR, kx_ln, Nat.reduceAdd, Option.toList, List.cons_append, List.nil_append, cf8_0, cf8_1, cf8_2, cf8_3, cf8_4, cf8_5, cf8_9]
              repeat (simp only [cx_8o, cx_8s, cx_83 hw, cx_84 hw, cx_dq0 hw, cx_dq1 hw, cx_dq2 hw, cx_dp0 hw, cx_dp1 hw, cx_dp2 hw, cx_8f3 hw, cx_8f4 hw, pk_us, pk_un, ne_eq, Nat.reduceEqDiff, not_false_eq_true, ks_eq, ks_ss, cx_8n (show ¬ (67:Nat) = 68 by decide), cx_f67 hw, cx_v67 hw, hQ, show ∀ x F, kx_set (cx_fW (cx_vW Q w V te qu) w Fo st) 68 (kO 8 (kf (cr8 (.ref 67) x) F)) = cx_8 (cx_fW (cx_vW Q w V te qu) w Fo st) x F from fun _ _ => rfl, ks_ne (show ¬ (67:Nat) = 68 by decide), hmn, nI_1, kz_uu, cp8_0, cp8_1, cp8_2, cp8_3, cp8_4, cp8_5, cp8_9, ks_eq, ks_ss, hf4, h29, h19]; try dsimp only [kx_wp, kx_step, kx_lI, kx_lL, kx_lA, kx_gl, kx_pI, kx_pL, kx_pR, kx_pA, kx_pV, kx_s1, kx_s2, kx_sl, kx_pre, kx_c2, kx_pl, kx_cmp, kx_oF, kx_eqN, kx_nil, kx_c1, kx_ft, kx_aI, kx_aL, kx_aR, kx_ln, Nat.reduceAdd, Option.toList, List.cons_append, List.nil_append, cf8_0, cf8_1, cf8_2, cf8_3, cf8_4, cf8_5, cf8_9])
              repeat' apply And.intro
              all_goals try (first | with_reducible assumption | (with_reducible refine ck_nzI ?_; simp; done) | (with_reducible refine ck_nzL ?_; simp; done) | (with_reducible refine vp_in_nI ?_ ?_ <;> first | omega | decide) | (with_reducible refine Nat.le_of_ble_eq_true ?_; rfl) | omega | exact Or.inl trivial | exact Or.inr trivial | exact Or.inl rfl | exact Or.inr rfl)
              refine hN.1 50 _ _ _ _ _ _ _ 8 _ _ _ _ _ _ _ _ _ _ lX8_50 (hpar) ⟨by decide, rfl⟩ (by first | exact cx_8o | exact cx_dq0 hw) rfl rfl (Nat.le_of_ble_eq_true rfl) (by omega) (by decide) (by omega) (by omega) dX8_readWorks_80 ?_
              rintro r2 P2 s2 ⟨F2, V2, te2, qu2, Fo2, st2, hr2, rfl, rfl, hD2, hX2⟩
              obtain ⟨y2, rfl⟩ : ∃ y, r2 = some (.int y) := by rcases hr2 with z | z <;> exact ⟨_, z⟩
              dsimp only [Option.toList, List.cons_append, List.nil_append]
              refine hB bX8_readWorks_83 _ _ _ _ _ _ _ kX8_readWorks_83 ?_
              dsimp only [bX8_readWorks_83, kx_wp, kx_step, kx_lI, kx_lL, kx_lA, kx_gl, kx_pI, kx_pL, kx_pR, kx_pA, kx_pV, kx_s1, kx_s2, kx_sl, kx_pre, kx_c2, kx_pl, kx_cmp, kx_oF, kx_eqN, kx_nil, kx_c1, kx_ft, kx_aI, kx_aL, kx_aR, kx_ln, Nat.reduceAdd, Option.toList, List.cons_append, List.nil_append, cf8_0, cf8_1, cf8_2, cf8_3, cf8_4, cf8_5, cf8_9]
              repeat (simp only [cx_8o, cx_8s, cx_83 hw, cx_84 hw, cx_dq0 hw, cx_dq1 hw, cx_dq2 hw, cx_dp0 hw, cx_dp1 hw, cx_dp2 hw, cx_8f3 hw, cx_8f4 hw, pk_us, pk_un, ne_eq, Nat.reduceEqDiff, not_false_eq_true, ks_eq, ks_ss, cx_8n (show ¬ (67:Nat) = 68 by decide), cx_f67 hw, cx_v67 hw, hQ, show ∀ x F, kx_set (cx_fW (cx_vW Q w V te qu) w Fo st) 68 (kO 8 (kf (cr8 (.ref 67) x) F)) = cx_8 (cx_fW (cx_vW Q w V te qu) w Fo st) x F from fun _ _ => rfl, ks_ne (show ¬ (67:Nat) = 68 by decide), hmn, nI_1, kz_uu, cp8_0, cp8_1, cp8_2, cp8_3, cp8_4, cp8_5, cp8_9, ks_eq, ks_ss, hf4, h29, h19]; try dsimp only [kx_wp, kx_step, kx_lI, kx_lL, kx_lA, kx_gl, kx_pI, kx_pL, kx_pR, kx_pA, kx_pV, kx_s1, kx_s2, kx_sl, kx_pre, kx_c2, kx_pl, kx_cmp, kx_oF, kx_eqN, kx_nil, kx_c1, kx_ft, kx_aI, kx_aL, kx_aR, kx_ln, Nat.reduceAdd, Option.toList, List.cons_append, List.nil_append, cf8_0, cf8_1, cf8_2, cf8_3, cf8_4, cf8_5, cf8_9])
              repeat' apply And.intro
              all_goals try (first | with_reducible assumption | (with_reducible refine ck_nzI ?_; simp; done) | (with_reducible refine ck_nzL ?_; simp; done) | (with_reducible refine vp_in_nI ?_ ?_ <;> first | omega | decide) | (with_reducible refine Nat.le_of_ble_eq_true ?_; rfl) | omega | exact Or.inl trivial | exact Or.inr trivial | exact Or.inl rfl | exact Or.inr rfl)
              have a2 : (ck_par T n ((ck_sk T n qq.1.1, qq.1.2), qq.2)).1.2.1 = -1 → (ck_par T n ((ck_sk T n qq.1.1, qq.1.2), qq.2)).2.1 = qq.2.1 + 1 := fun z => cx_pp (S := (ck_sk T n qq.1.1, qq.1.2)) (p := qq.2.1) (wc := qq.2.2.1) (h := qq.2.2.2.1) (t := qq.2.2.2.2.1) (e := qq.2.2.2.2.2) z (fun a ha => ck_m1 a (by omega)) (by rw [ck_skk]; exact hsl)
              have hD3 : (ck_par T n ((ck_sk T n qq.1.1, qq.1.2), qq.2)).1.2.1 = -1 → cx_D T n (ck_par T n ((ck_sk T n qq.1.1, qq.1.2), qq.2)) F2 V2 te2 qu2 Fo2 st2 := hD2
              have hX3 : ¬ (ck_par T n ((ck_sk T n qq.1.1, qq.1.2), qq.2)).1.2.1 = -1 → cx_X (ck_par T n ((ck_sk T n qq.1.1, qq.1.2), qq.2)).1 F2 := hX2
              have hpg1 : (ck_par T n ((ck_sk T n qq.1.1, qq.1.2), qq.2)).1.1 ≤ n := hpg.1
              have hpg2 : (ck_par T n ((ck_sk T n qq.1.1, qq.1.2), qq.2)).1.2.1 = -1 → ck_sk T n qq.1.1 + 1 ≤ (ck_par T n ((ck_sk T n qq.1.1, qq.1.2), qq.2)).1.1 := hpg.2.1
              have hpg3 : (ck_par T n ((ck_sk T n qq.1.1, qq.1.2), qq.2)).2.1 ≤ 16 := hpg.2.2
              clear hpg hpar hD2 hX2
              generalize (ck_par T n ((ck_sk T n qq.1.1, qq.1.2), qq.2)) = PP at a2 hD3 hX3 hpg1 hpg2 hpg3 hRR
              have a3 : PP.1.2.1 = -1 → n - PP.1.1 < n9 ∧ PP.2.1 = qq.2.1 + 1 := fun z => by
                have := hpg2 z
                have := a2 z
                omega
              exact ih PP (qq.2.1 + 1) F2 V2 te2 qu2 Fo2 st2 a3 hpg1 hpg3 (by omega) hD3 hX3 hRR
  refine hB bX8_readWorks_0 _ _ _ _ _ _ _ kX8_readWorks_0 ?_
  dsimp only [bX8_readWorks_0, kx_wp, kx_step, kx_lI, kx_lL, kx_lA, kx_gl, kx_pI, kx_pL, kx_pR, kx_pA, kx_pV, kx_s1, kx_s2, kx_sl, kx_pre, kx_c2, kx_pl, kx_cmp, kx_oF, kx_eqN, kx_nil, kx_c1, kx_ft, kx_aI, kx_aL, kx_aR, kx_ln, Nat.reduceAdd, Option.toList, List.cons_append, List.nil_append, cf8_0, cf8_1, cf8_2, cf8_3, cf8_4, cf8_5, cf8_9]
  repeat (simp only [cx_8o, cx_8s, cx_83 hw, cx_84 hw, cx_dq0 hw, cx_dq1 hw, cx_dq2 hw, cx_dp0 hw, cx_dp1 hw, cx_dp2 hw, cx_8f3 hw, cx_8f4 hw, pk_us, pk_un, ne_eq, Nat.reduceEqDiff, not_false_eq_true, ks_eq, ks_ss, cx_8n (show ¬ (67:Nat) = 68 by decide), cx_f67 hw, cx_v67 hw, hQ, show ∀ x F, kx_set (cx_fW (cx_vW Q w V te qu) w Fo st) 68 (kO 8 (kf (cr8 (.ref 67) x) F)) = cx_8 (cx_fW (cx_vW Q w V te qu) w Fo st) x F from fun _ _ => rfl, ks_ne (show ¬ (67:Nat) = 68 by decide), hmn, nI_1, kz_uu, cp8_0, cp8_1, cp8_2, cp8_3, cp8_4, cp8_5, cp8_9, ks_eq, ks_ss]; try dsimp only [kx_wp, kx_step, kx_lI, kx_lL, kx_lA, kx_gl, kx_pI, kx_pL, kx_pR, kx_pA, kx_pV, kx_s1, kx_s2, kx_sl, kx_pre, kx_c2, kx_pl, kx_cmp, kx_oF, kx_eqN, kx_nil, kx_c1, kx_ft, kx_aI, kx_aL, kx_aR, kx_ln, Nat.reduceAdd, Option.toList, List.cons_append, List.nil_append, cf8_0, cf8_1, cf8_2, cf8_3, cf8_4, cf8_5, cf8_9])
  repeat' apply And.intro
  all_goals try (first | with_reducible assumption | (with_reducible refine ck_nzI ?_; simp; done) | (with_reducible refine ck_nzL ?_; simp; done) | (with_reducible refine vp_in_nI ?_ ?_ <;> first | omega | decide) | (with_reducible refine Nat.le_of_ble_eq_true ?_; rfl) | omega | exact Or.inl trivial | exact Or.inr trivial | exact Or.inl rfl | exact Or.inr rfl)
  refine hC.2.1 19 _ _ _ _ _ _ _ _ _ _ _ _ _ _ _ _ _ lX8_19 (ct_J9_min_7cf53 l G) rfl rfl (Nat.le_of_ble_eq_true rfl) (by first | decide | omega) (by decide) (by omega) (by omega) dX8_readWorks_9 ?_
  refine hB bX8_readWorks_12 _ _ _ _ _ _ _ kX8_readWorks_12 ?_
  dsimp only [bX8_readWorks_12, kx_wp, kx_step, kx_lI, kx_lL, kx_lA, kx_gl, kx_pI, kx_pL, kx_pR, kx_pA, kx_pV, kx_s1, kx_s2, kx_sl, kx_pre, kx_c2, kx_pl, kx_cmp, kx_oF, kx_eqN, kx_nil, kx_c1, kx_ft, kx_aI, kx_aL, kx_aR, kx_ln, Nat.reduceAdd, Option.toList, List.cons_append, List.nil_append, cf8_0, cf8_1, cf8_2, cf8_3, cf8_4, cf8_5, cf8_9]
  repeat (simp only [cx_8o, cx_8s, cx_83 hw, cx_84 hw, cx_dq0 hw, cx_dq1 hw, cx_dq2 hw, cx_dp0 hw, cx_dp1 hw, cx_dp2 hw, cx_8f3 hw, cx_8f4 hw, pk_us, pk_un, ne_eq, Nat.reduceEqDiff, not_false_eq_true, ks_eq, ks_ss, cx_8n (show ¬ (67:Nat) = 68 by decide), cx_f67 hw, cx_v67 hw, hQ, show ∀ x F, kx_set (cx_fW (cx_vW Q w V te qu) w Fo st) 68 (kO 8 (kf (cr8 (.ref 67) x) F)) = cx_8 (cx_fW (cx_vW Q w V te qu) w Fo st) x F from fun _ _ => rfl, ks_ne (show ¬ (67:Nat) = 68 by decide), hmn, nI_1, kz_uu, cp8_0, cp8_1, cp8_2, cp8_3, cp8_4, cp8_5, cp8_9, ks_eq, ks_ss]; try dsimp only [kx_wp, kx_step, kx_lI, kx_lL, kx_lA, kx_gl, kx_pI, kx_pL, kx_pR, kx_pA, kx_pV, kx_s1, kx_s2, kx_sl, kx_pre, kx_c2, kx_pl, kx_cmp, kx_oF, kx_eqN, kx_nil, kx_c1, kx_ft, kx_aI, kx_aL, kx_aR, kx_ln, Nat.reduceAdd, Option.toList, List.cons_append, List.nil_append, cf8_0, cf8_1, cf8_2, cf8_3, cf8_4, cf8_5, cf8_9])
  repeat' apply And.intro
  all_goals try (first | with_reducible assumption | (with_reducible refine ck_nzI ?_; simp; done) | (with_reducible refine ck_nzL ?_; simp; done) | (with_reducible refine vp_in_nI ?_ ?_ <;> first | omega | decide) | (with_reducible refine Nat.le_of_ble_eq_true ?_; rfl) | omega | exact Or.inl trivial | exact Or.inr trivial | exact Or.inl rfl | exact Or.inr rfl)
  refine hC.1 41 _ _ _ _ _ _ _ 9 _ _ _ _ _ _ _ _ _ _ _ _ lX8_41 (ct_X9_reset l G (P := Q) (Q := Q) hw) ⟨by decide, rfl⟩ (cx_dq0 hw) rfl rfl (Nat.le_of_ble_eq_true rfl) (by first | decide | omega) (by decide) (by omega) (by omega) dX8_readWorks_41 ?_
  refine hB bX8_readWorks_44 _ _ _ _ _ _ _ kX8_readWorks_44 ?_
  dsimp only [bX8_readWorks_44, kx_wp, kx_step, kx_lI, kx_lL, kx_lA, kx_gl, kx_pI, kx_pL, kx_pR, kx_pA, kx_pV, kx_s1, kx_s2, kx_sl, kx_pre, kx_c2, kx_pl, kx_cmp, kx_oF, kx_eqN, kx_nil, kx_c1, kx_ft, kx_aI, kx_aL, kx_aR, kx_ln, Nat.reduceAdd, Option.toList, List.cons_append, List.nil_append, cf8_0, cf8_1, cf8_2, cf8_3, cf8_4, cf8_5, cf8_9]
  repeat (simp only [cx_8o, cx_8s, cx_83 hw, cx_84 hw, cx_dq0 hw, cx_dq1 hw, cx_dq2 hw, cx_dp0 hw, cx_dp1 hw, cx_dp2 hw, cx_8f3 hw, cx_8f4 hw, pk_us, pk_un, ne_eq, Nat.reduceEqDiff, not_false_eq_true, ks_eq, ks_ss, cx_8n (show ¬ (67:Nat) = 68 by decide), cx_f67 hw, cx_v67 hw, hQ, show ∀ x F, kx_set (cx_fW (cx_vW Q w V te qu) w Fo st) 68 (kO 8 (kf (cr8 (.ref 67) x) F)) = cx_8 (cx_fW (cx_vW Q w V te qu) w Fo st) x F from fun _ _ => rfl, ks_ne (show ¬ (67:Nat) = 68 by decide), hmn, nI_1, kz_uu, cp8_0, cp8_1, cp8_2, cp8_3, cp8_4, cp8_5, cp8_9, ks_eq, ks_ss]; try dsimp only [kx_wp, kx_step, kx_lI, kx_lL, kx_lA, kx_gl, kx_pI, kx_pL, kx_pR, kx_pA, kx_pV, kx_s1, kx_s2, kx_sl, kx_pre, kx_c2, kx_pl, kx_cmp, kx_oF, kx_eqN, kx_nil, kx_c1, kx_ft, kx_aI, kx_aL, kx_aR, kx_ln, Nat.reduceAdd, Option.toList, List.cons_append, List.nil_append, cf8_0, cf8_1, cf8_2, cf8_3, cf8_4, cf8_5, cf8_9])
  repeat' apply And.intro
  all_goals try (first | with_reducible assumption | (with_reducible refine ck_nzI ?_; simp; done) | (with_reducible refine ck_nzL ?_; simp; done) | (with_reducible refine vp_in_nI ?_ ?_ <;> first | omega | decide) | (with_reducible refine Nat.le_of_ble_eq_true ?_; rfl) | omega | exact Or.inl trivial | exact Or.inr trivial | exact Or.inl rfl | exact Or.inr rfl)
  refine hC.1 46 _ _ _ _ _ _ _ 8 _ _ _ _ _ _ _ _ _ _ _ _ lX8_46 (ct_X8_skip0 l G (x := .ref w) (n := n) (a := 0) (hT2 _ _ _ _ _) rfl hn rfl (Nat.zero_le _)) ⟨by decide, rfl⟩ (by first | exact cx_8o | exact cx_dq0 hw) rfl rfl (Nat.le_of_ble_eq_true rfl) (by first | decide | omega) (by decide) (by omega) (by omega) dX8_readWorks_46 ?_
  refine hB bX8_readWorks_49 _ _ _ _ _ _ _ kX8_readWorks_49 ?_
  dsimp only [bX8_readWorks_49, kx_wp, kx_step, kx_lI, kx_lL, kx_lA, kx_gl, kx_pI, kx_pL, kx_pR, kx_pA, kx_pV, kx_s1, kx_s2, kx_sl, kx_pre, kx_c2, kx_pl, kx_cmp, kx_oF, kx_eqN, kx_nil, kx_c1, kx_ft, kx_aI, kx_aL, kx_aR, kx_ln, Nat.reduceAdd, Option.toList, List.cons_append, List.nil_append, cf8_0, cf8_1, cf8_2, cf8_3, cf8_4, cf8_5, cf8_9]
  repeat (simp only [cx_8o, cx_8s, cx_83 hw, cx_84 hw, cx_dq0 hw, cx_dq1 hw, cx_dq2 hw, cx_dp0 hw, cx_dp1 hw, cx_dp2 hw, cx_8f3 hw, cx_8f4 hw, pk_us, pk_un, ne_eq, Nat.reduceEqDiff, not_false_eq_true, ks_eq, ks_ss, cx_8n (show ¬ (67:Nat) = 68 by decide), cx_f67 hw, cx_v67 hw, hQ, show ∀ x F, kx_set (cx_fW (cx_vW Q w V te qu) w Fo st) 68 (kO 8 (kf (cr8 (.ref 67) x) F)) = cx_8 (cx_fW (cx_vW Q w V te qu) w Fo st) x F from fun _ _ => rfl, ks_ne (show ¬ (67:Nat) = 68 by decide), hmn, nI_1, kz_uu, cp8_0, cp8_1, cp8_2, cp8_3, cp8_4, cp8_5, cp8_9, ks_eq, ks_ss]; try dsimp only [kx_wp, kx_step, kx_lI, kx_lL, kx_lA, kx_gl, kx_pI, kx_pL, kx_pR, kx_pA, kx_pV, kx_s1, kx_s2, kx_sl, kx_pre, kx_c2, kx_pl, kx_cmp, kx_oF, kx_eqN, kx_nil, kx_c1, kx_ft, kx_aI, kx_aL, kx_aR, kx_ln, Nat.reduceAdd, Option.toList, List.cons_append, List.nil_append, cf8_0, cf8_1, cf8_2, cf8_3, cf8_4, cf8_5, cf8_9])
  repeat' apply And.intro
  all_goals try (first | with_reducible assumption | (with_reducible refine ck_nzI ?_; simp; done) | (with_reducible refine ck_nzL ?_; simp; done) | (with_reducible refine vp_in_nI ?_ ?_ <;> first | omega | decide) | (with_reducible refine Nat.le_of_ble_eq_true ?_; rfl) | omega | exact Or.inl trivial | exact Or.inr trivial | exact Or.inl rfl | exact Or.inr rfl)
  have hD9 := cx_D0 (T := T) (V := V) (te := te) (qu := qu) (Fo := Fo) (st := st) (t := t) (C := C) (N := N) (e := e) (n := n) (k0 := k0) (o0 := o0) (F := (upd (upd (upd (upd (upd (upd F0 1 (nI n)) 2 0) 3 0) 4 0) 5 (-1)) 2 (nI (ck_sk T n 0)))) (by simp only [pk_us, pk_un, ne_eq, Nat.reduceEqDiff, not_false_eq_true]) (by simp only [pk_us, pk_un, ne_eq, Nat.reduceEqDiff, not_false_eq_true]) (by simp only [pk_us, pk_un, ne_eq, Nat.reduceEqDiff, not_false_eq_true]) (by simp only [pk_us, pk_un, ne_eq, Nat.reduceEqDiff, not_false_eq_true]) (by simp only [pk_us, pk_un, ne_eq, Nat.reduceEqDiff, not_false_eq_true])
  obtain ⟨Q0, hQ0⟩ : ∃ Q0 : ck_Qt, Q0 = ((0, -1, k0, o0, 7, ck_rC C, ck_rN N), 0, 0, 0, ck_t0 t, e) := ⟨_, rfl⟩
  rw [← hQ0] at hD9 hR
  have b1 : Q0.1.2.1 = -1 := by rw [hQ0]
  have b2 : Q0.1.1 = 0 := by rw [hQ0]
  have b3 : Q0.2.1 = 0 := by rw [hQ0]
  generalize (upd (upd (upd (upd (upd (upd (upd (upd (upd (upd (upd (upd (upd (upd V 0 8) 1 0) 2 0) 3 0) 4 0) 5 4) 6 400) 7 30) 8 0) 9 0) 10 0) 11 0) 12 0) 14 0) = V9 at hD9 ⊢
  generalize (upd (upd (upd (upd (upd (upd (upd st 0 (-1)) 1 11) 2 (-4)) 3 12) 4 (-8)) 5 1) 6 (-4)) = S9 at hD9 ⊢
  generalize (upd (upd (upd (upd (upd (upd F0 1 (nI n)) 2 0) 3 0) 4 0) 5 (-1)) 2 (nI (ck_sk T n 0))) = F9 at hD9 ⊢
  have h0 := loop52 (n + 1) Q0 0 F9 V9 te (ck_cp qu (fun _ => 0) 4) (upd Fo 1 7) S9 (fun _ => ⟨by omega, b3⟩) (by omega) (by omega) (by omega) (fun _ => hD9) (fun z => absurd b1 z) hR
  exact h0


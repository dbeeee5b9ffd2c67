theorem kz_w1 {R : kx_P} {a c : Nat} {f f2 : Nat → Value} (hc : c < 12) (h : ∀ j, j < kx_N c → f j = f2 j) : kz_w (kx_set R a (kO c f)) (kx_set R a (kO c f2)) := by
  intro n x hx
  by_cases e : n = a
  · subst e
    exact Or.inr ⟨c, f, f2, hc, ks_eq _ _ _, hx.symm.trans (ks_eq _ _ _), h⟩
  · exact Or.inl ((ks_ne e).trans ((ks_ne e).symm.trans hx))
theorem ks_934 {P : kx_P} {a n1 n2 n3 : Nat} {x y1 y2 y3 z : Option kx_C} (h1 : ¬ n1 = a) (h2 : ¬ n2 = a) (h3 : ¬ n3 = a) : kx_set (kx_set (kx_set (kx_set (kx_set P a x) n1 y1) n2 y2) n3 y3) a z = kx_set (kx_set (kx_set (kx_set P n1 y1) n2 y2) n3 y3) a z := by
  funext k
  unfold kx_set
  by_cases e : k = a
  · simp only [if_pos e]
  · simp only [if_neg e]
theorem ks_n934 {P : kx_P} {a n1 n2 n3 : Nat} {x y1 y2 y3 : Option kx_C} (h1 : ¬ a = n1) (h2 : ¬ a = n2) (h3 : ¬ a = n3) : kx_set (kx_set (kx_set (kx_set P a x) n1 y1) n2 y2) n3 y3 a = x := by
  unfold kx_set
  rw [if_neg h3, if_neg h2, if_neg h1, if_pos rfl]
def bX0_init_0 : List kx_O := [(.aload_n 0, 0, 0, 0, .null), (.invokespecial 3, 0, 0, 0, .null), (.aload_n 0, 0, 0, 0, .null), (.iconst 0, 0, 0, 0, .int 0), (.putfield 9, 0, 0, 0, .null), (.aload_n 0, 0, 0, 0, .null), (.iconst 0, 0, 0, 0, .int 0), (.putfield 15, 0, 1, 2, .null), (.aload_n 0, 0, 0, 0, .null), (.sipush 1700, 0, 0, 0, .int 1700), (.newarray .int, 0, 0, 0, .null), (.putfield 19, 0, 2, 3, .null), (.aload_n 0, 0, 0, 0, .null), (.iconst 0, 0, 0, 0, .int 0), (.putfield 23, 0, 3, 0, .null), (.return_, 0, 0, 0, .null)]
theorem kX0_init_0 : kx_oks kxL_X0 true cX0_init 0 bX0_init_0 = true := by decide +kernel
set_option maxRecDepth 100000 in
set_option maxHeartbeats 4000000 in
theorem ct_X0_init_n (l : Launch) (G : kx_G) {R : kx_P}  : kx_Mn l G sX0_init 1 1 1700 [.ref (65)] (kx_set R (65) (kO 0 (kx_df 0))) (66) (fun r P s => r = none ∧ kz_w P (kx_set (kx_set R (66) (kI 0 1700 (fun _ => 0))) (65) (kO 0 (kf cr0 (fun _ => 0)))) ∧ s = 67) := by
  refine kx_mkn kx_tab kxLok_X0 (ini := true) [some (.ref (65))] ⟨by decide, rfl, by decide, by decide⟩ (fun _ _ _ h => by rw [h.1]; rfl) rfl rfl (fun g hB hC hN => ?_)
  refine hB bX0_init_0 _ _ _ _ _ _ _ kX0_init_0 ?_
  dsimp only [bX0_init_0, kx_wp, kx_step, kx_lI, kx_lL, kx_lA, kx_gl, kx_pI, kx_pL, kx_pR, kx_pA, kx_pV, kx_s1, kx_s2, kx_sl, kx_pre, kx_c2, kx_pl, kx_cmp, kx_oF, kx_eqN, kx_nil, kx_c1, kx_ft, kx_aI, kx_aL, kx_aR, kx_ln, Nat.reduceAdd, Option.toList, List.cons_append, List.nil_append]
  repeat (simp only [ks_93 (a := 65) (n := 66) (show ¬ (66 : Nat) = 65 by decide), ks_n93 (a := 65) (n := 66) (show ¬ (65 : Nat) = 66 by decide), ks_eq, ks_ss]; try dsimp only [kx_wp, kx_step, kx_lI, kx_lL, kx_lA, kx_gl, kx_pI, kx_pL, kx_pR, kx_pA, kx_pV, kx_s1, kx_s2, kx_sl, kx_pre, kx_c2, kx_pl, kx_cmp, kx_oF, kx_eqN, kx_nil, kx_c1, kx_ft, kx_aI, kx_aL, kx_aR, kx_ln, Nat.reduceAdd, Option.toList, List.cons_append, List.nil_append])
  all_goals (repeat' apply And.intro)
  all_goals ((try clear hB hC); first | exact True.intro | exact Nat.le_of_ble_eq_true rfl | (with_reducible rfl) | exact Or.inl rfl | omega | exact kz_w1 (by decide) (fun j hj => by
      have hj : j < 4 := hj
      rcases (show j = 0 ∨ j = 1 ∨ j = 2 ∨ j = 3 by omega) with rfl | rfl | rfl | rfl <;> rfl) | decide | trivial)

theorem ct_X0_init (l : Launch) (G : kx_G) {R : kx_P} : kx_M l G sX0_init 1 1 1700 [.ref (65)] (kx_set R (65) (kO 0 (kx_df 0))) (66) none (kx_set (kx_set R (66) (kI 0 1700 (fun _ => 0))) (65) (kO 0 (kf cr0 (fun _ => 0)))) (67) :=
  (ct_X0_init_n l G).w fun _ _ _ h => h
def bX3_init_0 : List kx_O := [(.aload_n 0, 0, 0, 0, .null), (.invokespecial 3, 0, 0, 0, .null), (.aload_n 0, 0, 0, 0, .null), (.bipush 40, 0, 0, 0, .int 40), (.newarray .int, 0, 0, 0, .null), (.putfield 11, 3, 0, 3, .null), (.aload_n 0, 0, 0, 0, .null), (.bipush 40, 0, 0, 0, .int 40), (.newarray .int, 0, 0, 0, .null), (.putfield 15, 3, 1, 3, .null), (.aload_n 0, 0, 0, 0, .null), (.bipush 40, 0, 0, 0, .int 40), (.newarray .int, 0, 0, 0, .null), (.putfield 18, 3, 2, 3, .null), (.aload_n 0, 0, 0, 0, .null), (.iconst 0, 0, 0, 0, .int 0), (.putfield 21, 3, 3, 0, .null), (.return_, 0, 0, 0, .null)]
theorem kX3_init_0 : kx_oks kxL_X3 true cX3_init 0 bX3_init_0 = true := by decide +kernel
set_option maxRecDepth 100000 in
set_option maxHeartbeats 4000000 in
theorem ct_X3_init_n (l : Launch) (G : kx_G) {R : kx_P}  : kx_Mn l G sX3_init 1 3 120 [.ref (89)] (kx_set R (89) (kO 3 (kx_df 3))) (90) (fun r P s => r = none ∧ kz_w P (kx_set (kx_set (kx_set (kx_set R (90) (kI 0 40 (fun _ => 0))) (91) (kI 0 40 (fun _ => 0))) (92) (kI 0 40 (fun _ => 0))) (89) (kO 3 (kf cr3 (fun _ => 0)))) ∧ s = 93) := by
  refine kx_mkn kx_tab kxLok_X3 (ini := true) [some (.ref (89))] ⟨by decide, rfl, by decide, by decide⟩ (fun _ _ _ h => by rw [h.1]; rfl) rfl rfl (fun g hB hC hN => ?_)
  refine hB bX3_init_0 _ _ _ _ _ _ _ kX3_init_0 ?_
  dsimp only [bX3_init_0, kx_wp, kx_step, kx_lI, kx_lL, kx_lA, kx_gl, kx_pI, kx_pL, kx_pR, kx_pA, kx_pV, kx_s1, kx_s2, kx_sl, kx_pre, kx_c2, kx_pl, kx_cmp, kx_oF, kx_eqN, kx_nil, kx_c1, kx_ft, kx_aI, kx_aL, kx_aR, kx_ln, Nat.reduceAdd, Option.toList, List.cons_append, List.nil_append]
  repeat (simp only [ks_93 (a := 89) (n := 90) (show ¬ (90 : Nat) = 89 by decide), ks_n93 (a := 89) (n := 90) (show ¬ (89 : Nat) = 90 by decide), ks_93 (a := 89) (n := 91) (show ¬ (91 : Nat) = 89 by decide), ks_n93 (a := 89) (n := 91) (show ¬ (89 : Nat) = 91 by decide), ks_93 (a := 89) (n := 92) (show ¬ (92 : Nat) = 89 by decide), ks_n93 (a := 89) (n := 92) (show ¬ (89 : Nat) = 92 by decide), ks_eq, ks_ss]; try dsimp only [kx_wp, kx_step, kx_lI, kx_lL, kx_lA, kx_gl, kx_pI, kx_pL, kx_pR, kx_pA, kx_pV, kx_s1, kx_s2, kx_sl, kx_pre, kx_c2, kx_pl, kx_cmp, kx_oF, kx_eqN, kx_nil, kx_c1, kx_ft, kx_aI, kx_aL, kx_aR, kx_ln, Nat.reduceAdd, Option.toList, List.cons_append, List.nil_append])
  all_goals (repeat' apply And.intro)
  all_goals ((try clear hB hC); first | exact True.intro | exact Nat.le_of_ble_eq_true rfl | (with_reducible rfl) | exact Or.inl rfl | omega | exact kz_w1 (by decide) (fun j hj => by
      have hj : j < 4 := hj
      rcases (show j = 0 ∨ j = 1 ∨ j = 2 ∨ j = 3 by omega) with rfl | rfl | rfl | rfl <;> rfl) | decide | trivial)

theorem ct_X3_init (l : Launch) (G : kx_G) {R : kx_P} : kx_M l G sX3_init 1 3 120 [.ref (89)] (kx_set R (89) (kO 3 (kx_df 3))) (90) none (kx_set (kx_set (kx_set (kx_set R (90) (kI 0 40 (fun _ => 0))) (91) (kI 0 40 (fun _ => 0))) (92) (kI 0 40 (fun _ => 0))) (89) (kO 3 (kf cr3 (fun _ => 0)))) (93) :=
  (ct_X3_init_n l G).w fun _ _ _ h => h
def bX4_init_0 : List kx_O := [(.aload_n 0, 0, 0, 0, .null), (.invokespecial 3, 0, 0, 0, .null), (.aload_n 0, 0, 0, 0, .null), (.iconst 4, 0, 0, 0, .int 4), (.newarray .int, 0, 0, 0, .null), (.putfield 11, 4, 0, 3, .null), (.aload_n 0, 0, 0, 0, .null), (.iconst 4, 0, 0, 0, .int 4), (.newarray .int, 0, 0, 0, .null), (.putfield 15, 4, 1, 3, .null), (.aload_n 0, 0, 0, 0, .null), (.iconst 0, 0, 0, 0, .int 0), (.putfield 18, 4, 2, 0, .null), (.aload_n 0, 0, 0, 0, .null), (.iconst 0, 0, 0, 0, .int 0), (.putfield 22, 4, 3, 0, .null), (.aload_n 0, 0, 0, 0, .null), (.iconst 0, 0, 0, 0, .int 0), (.putfield 25, 4, 4, 0, .null), (.aload_n 0, 0, 0, 0, .null), (.iconst (-1), 0, 0, 0, .int (-1)), (.putfield 28, 4, 5, 0, .null), (.aload_n 0, 0, 0, 0, .null), (.aconst_null, 0, 0, 0, .null), (.putfield 31, 4, 6, 3, .null), (.aload_n 0, 0, 0, 0, .null), (.iconst 0, 0, 0, 0, .int 0), (.putfield 34, 4, 7, 0, .null), (.return_, 0, 0, 0, .null)]
theorem kX4_init_0 : kx_oks kxL_X4 true cX4_init 0 bX4_init_0 = true := by decide +kernel
set_option maxRecDepth 100000 in
set_option maxHeartbeats 4000000 in
theorem ct_X4_init_n (l : Launch) (G : kx_G) {R : kx_P}  : kx_Mn l G sX4_init 1 2 8 [.ref (81)] (kx_set R (81) (kO 4 (kx_df 4))) (82) (fun r P s => r = none ∧ kz_w P (kx_set (kx_set (kx_set R (82) (kI 0 4 (fun _ => 0))) (83) (kI 0 4 (fun _ => 0))) (81) (kO 4 (kf (cr4 .null) (upd (fun _ => 0) 5 (-1))))) ∧ s = 84) := by
  refine kx_mkn kx_tab kxLok_X4 (ini := true) [some (.ref (81))] ⟨by decide, rfl, by decide, by decide⟩ (fun _ _ _ h => by rw [h.1]; rfl) rfl rfl (fun g hB hC hN => ?_)
  refine hB bX4_init_0 _ _ _ _ _ _ _ kX4_init_0 ?_
  dsimp only [bX4_init_0, kx_wp, kx_step, kx_lI, kx_lL, kx_lA, kx_gl, kx_pI, kx_pL, kx_pR, kx_pA, kx_pV, kx_s1, kx_s2, kx_sl, kx_pre, kx_c2, kx_pl, kx_cmp, kx_oF, kx_eqN, kx_nil, kx_c1, kx_ft, kx_aI, kx_aL, kx_aR, kx_ln, Nat.reduceAdd, Option.toList, List.cons_append, List.nil_append]
  repeat (simp only [ks_93 (a := 81) (n := 82) (show ¬ (82 : Nat) = 81 by decide), ks_n93 (a := 81) (n := 82) (show ¬ (81 : Nat) = 82 by decide), ks_93 (a := 81) (n := 83) (show ¬ (83 : Nat) = 81 by decide), ks_n93 (a := 81) (n := 83) (show ¬ (81 : Nat) = 83 by decide), ks_eq, ks_ss]; try dsimp only [kx_wp, kx_step, kx_lI, kx_lL, kx_lA, kx_gl, kx_pI, kx_pL, kx_pR, kx_pA, kx_pV, kx_s1, kx_s2, kx_sl, kx_pre, kx_c2, kx_pl, kx_cmp, kx_oF, kx_eqN, kx_nil, kx_c1, kx_ft, kx_aI, kx_aL, kx_aR, kx_ln, Nat.reduceAdd, Option.toList, List.cons_append, List.nil_append])
  all_goals (repeat' apply And.intro)
  all_goals ((try clear hB hC); first | exact True.intro | exact Nat.le_of_ble_eq_true rfl | (with_reducible rfl) | exact Or.inl rfl | omega | exact kz_w1 (by decide) (fun j hj => by
      have hj : j < 8 := hj
      rcases (show j = 0 ∨ j = 1 ∨ j = 2 ∨ j = 3 ∨ j = 4 ∨ j = 5 ∨ j = 6 ∨ j = 7 by omega) with rfl | rfl | rfl | rfl | rfl | rfl | rfl | rfl <;> rfl) | decide | trivial)

theorem ct_X4_init (l : Launch) (G : kx_G) {R : kx_P} : kx_M l G sX4_init 1 2 8 [.ref (81)] (kx_set R (81) (kO 4 (kx_df 4))) (82) none (kx_set (kx_set (kx_set R (82) (kI 0 4 (fun _ => 0))) (83) (kI 0 4 (fun _ => 0))) (81) (kO 4 (kf (cr4 .null) (upd (fun _ => 0) 5 (-1))))) (84) :=
  (ct_X4_init_n l G).w fun _ _ _ h => h
def bX5_init_0 : List kx_O := [(.aload_n 0, 0, 0, 0, .null), (.invokespecial 3, 0, 0, 0, .null), (.aload_n 0, 0, 0, 0, .null), (.bipush 100, 0, 0, 0, .int 100), (.newarray .int, 0, 0, 0, .null), (.putfield 11, 5, 0, 3, .null), (.aload_n 0, 0, 0, 0, .null), (.bipush 100, 0, 0, 0, .int 100), (.newarray .int, 0, 0, 0, .null), (.putfield 15, 5, 1, 3, .null), (.aload_n 0, 0, 0, 0, .null), (.bipush 100, 0, 0, 0, .int 100), (.newarray .int, 0, 0, 0, .null), (.putfield 18, 5, 2, 3, .null), (.aload_n 0, 0, 0, 0, .null), (.bipush 100, 0, 0, 0, .int 100), (.newarray .int, 0, 0, 0, .null), (.putfield 21, 5, 3, 3, .null), (.aload_n 0, 0, 0, 0, .null), (.iconst 0, 0, 0, 0, .int 0), (.putfield 24, 5, 4, 0, .null), (.aload_n 0, 0, 0, 0, .null), (.iconst 0, 0, 0, 0, .int 0), (.putfield 28, 5, 5, 0, .null), (.aload_n 0, 0, 0, 0, .null), (.iconst 0, 0, 0, 0, .int 0), (.putfield 31, 5, 6, 0, .null), (.aload_n 0, 0, 0, 0, .null), (.iconst 0, 0, 0, 0, .int 0), (.putfield 34, 5, 7, 0, .null), (.aload_n 0, 0, 0, 0, .null), (.iconst 0, 0, 0, 0, .int 0), (.putfield 37, 5, 8, 0, .null), (.aload_n 0, 0, 0, 0, .null), (.iconst 0, 0, 0, 0, .int 0), (.putfield 40, 5, 9, 0, .null), (.return_, 0, 0, 0, .null)]
theorem kX5_init_0 : kx_oks kxL_X5 true cX5_init 0 bX5_init_0 = true := by decide +kernel
set_option maxRecDepth 100000 in
set_option maxHeartbeats 4000000 in
theorem ct_X5_init_n (l : Launch) (G : kx_G) {R : kx_P}  : kx_Mn l G sX5_init 1 4 400 [.ref (84)] (kx_set R (84) (kO 5 (kx_df 5))) (85) (fun r P s => r = none ∧ kz_w P (kx_set (kx_set (kx_set (kx_set (kx_set R (85) (kI 0 100 (fun _ => 0))) (86) (kI 0 100 (fun _ => 0))) (87) (kI 0 100 (fun _ => 0))) (88) (kI 0 100 (fun _ => 0))) (84) (kO 5 (kf cr5 (fun _ => 0)))) ∧ s = 89) := by
  refine kx_mkn kx_tab kxLok_X5 (ini := true) [some (.ref (84))] ⟨by decide, rfl, by decide, by decide⟩ (fun _ _ _ h => by rw [h.1]; rfl) rfl rfl (fun g hB hC hN => ?_)
  refine hB bX5_init_0 _ _ _ _ _ _ _ kX5_init_0 ?_
  dsimp only [bX5_init_0, kx_wp, kx_step, kx_lI, kx_lL, kx_lA, kx_gl, kx_pI, kx_pL, kx_pR, kx_pA, kx_pV, kx_s1, kx_s2, kx_sl, kx_pre, kx_c2, kx_pl, kx_cmp, kx_oF, kx_eqN, kx_nil, kx_c1, kx_ft, kx_aI, kx_aL, kx_aR, kx_ln, Nat.reduceAdd, Option.toList, List.cons_append, List.nil_append]
  repeat (simp only [ks_93 (a := 84) (n := 85) (show ¬ (85 : Nat) = 84 by decide), ks_n93 (a := 84) (n := 85) (show ¬ (84 : Nat) = 85 by decide), ks_93 (a := 84) (n := 86) (show ¬ (86 : Nat) = 84 by decide), ks_n93 (a := 84) (n := 86) (show ¬ (84 : Nat) = 86 by decide), ks_93 (a := 84) (n := 87) (show ¬ (87 : Nat) = 84 by decide), ks_n93 (a := 84) (n := 87) (show ¬ (84 : Nat) = 87 by decide), ks_93 (a := 84) (n := 88) (show ¬ (88 : Nat) = 84 by decide), ks_n93 (a := 84) (n := 88) (show ¬ (84 : Nat) = 88 by decide), ks_eq, ks_ss]; try dsimp only [kx_wp, kx_step, kx_lI, kx_lL, kx_lA, kx_gl, kx_pI, kx_pL, kx_pR, kx_pA, kx_pV, kx_s1, kx_s2, kx_sl, kx_pre, kx_c2, kx_pl, kx_cmp, kx_oF, kx_eqN, kx_nil, kx_c1, kx_ft, kx_aI, kx_aL, kx_aR, kx_ln, Nat.reduceAdd, Option.toList, List.cons_append, List.nil_append])
  all_goals (repeat' apply And.intro)
  all_goals ((try clear hB hC); first | exact True.intro | exact Nat.le_of_ble_eq_true rfl | (with_reducible rfl) | exact Or.inl rfl | omega | exact kz_w1 (by decide) (fun j hj => by
      have hj : j < 10 := hj
      rcases (show j = 0 ∨ j = 1 ∨ j = 2 ∨ j = 3 ∨ j = 4 ∨ j = 5 ∨ j = 6 ∨ j = 7 ∨ j = 8 ∨ j = 9 by omega) with rfl | rfl | rfl | rfl | rfl | rfl | rfl | rfl | rfl | rfl <;> rfl) | decide | trivial)

theorem ct_X5_init (l : Launch) (G : kx_G) {R : kx_P} : kx_M l G sX5_init 1 4 400 [.ref (84)] (kx_set R (84) (kO 5 (kx_df 5))) (85) none (kx_set (kx_set (kx_set (kx_set (kx_set R (85) (kI 0 100 (fun _ => 0))) (86) (kI 0 100 (fun _ => 0))) (87) (kI 0 100 (fun _ => 0))) (88) (kI 0 100 (fun _ => 0))) (84) (kO 5 (kf cr5 (fun _ => 0)))) (89) :=
  (ct_X5_init_n l G).w fun _ _ _ h => h
def bX6_init_0 : List kx_O := [(.aload_n 0, 0, 0, 0, .null), (.invokespecial 3, 0, 0, 0, .null), (.aload_n 0, 0, 0, 0, .null), (.bipush 6, 0, 0, 0, .int 6), (.newarray .int, 0, 0, 0, .null), (.putfield 9, 6, 0, 3, .null), (.aload_n 0, 0, 0, 0, .null), (.bipush 6, 0, 0, 0, .int 6), (.newarray .int, 0, 0, 0, .null), (.putfield 15, 6, 1, 3, .null), (.aload_n 0, 0, 0, 0, .null), (.aconst_null, 0, 0, 0, .null), (.putfield 18, 6, 2, 3, .null), (.aload_n 0, 0, 0, 0, .null), (.iconst 0, 0, 0, 0, .int 0), (.putfield 22, 6, 3, 0, .null), (.aload_n 0, 0, 0, 0, .null), (.iconst 0, 0, 0, 0, .int 0), (.putfield 26, 6, 4, 0, .null), (.return_, 0, 0, 0, .null)]
theorem kX6_init_0 : kx_oks kxL_X6 true cX6_init 0 bX6_init_0 = true := by decide +kernel
set_option maxRecDepth 100000 in
set_option maxHeartbeats 4000000 in
theorem ct_X6_init_n (l : Launch) (G : kx_G) {R : kx_P}  : kx_Mn l G sX6_init 1 2 12 [.ref (78)] (kx_set R (78) (kO 6 (kx_df 6))) (79) (fun r P s => r = none ∧ kz_w P (kx_set (kx_set (kx_set R (79) (kI 0 6 (fun _ => 0))) (80) (kI 0 6 (fun _ => 0))) (78) (kO 6 (kf (cr6 .null) (fun _ => 0)))) ∧ s = 81) := by
  refine kx_mkn kx_tab kxLok_X6 (ini := true) [some (.ref (78))] ⟨by decide, rfl, by decide, by decide⟩ (fun _ _ _ h => by rw [h.1]; rfl) rfl rfl (fun g hB hC hN => ?_)
  refine hB bX6_init_0 _ _ _ _ _ _ _ kX6_init_0 ?_
  dsimp only [bX6_init_0, kx_wp, kx_step, kx_lI, kx_lL, kx_lA, kx_gl, kx_pI, kx_pL, kx_pR, kx_pA, kx_pV, kx_s1, kx_s2, kx_sl, kx_pre, kx_c2, kx_pl, kx_cmp, kx_oF, kx_eqN, kx_nil, kx_c1, kx_ft, kx_aI, kx_aL, kx_aR, kx_ln, Nat.reduceAdd, Option.toList, List.cons_append, List.nil_append]
  repeat (simp only [ks_93 (a := 78) (n := 79) (show ¬ (79 : Nat) = 78 by decide), ks_n93 (a := 78) (n := 79) (show ¬ (78 : Nat) = 79 by decide), ks_93 (a := 78) (n := 80) (show ¬ (80 : Nat) = 78 by decide), ks_n93 (a := 78) (n := 80) (show ¬ (78 : Nat) = 80 by decide), ks_eq, ks_ss]; try dsimp only [kx_wp, kx_step, kx_lI, kx_lL, kx_lA, kx_gl, kx_pI, kx_pL, kx_pR, kx_pA, kx_pV, kx_s1, kx_s2, kx_sl, kx_pre, kx_c2, kx_pl, kx_cmp, kx_oF, kx_eqN, kx_nil, kx_c1, kx_ft, kx_aI, kx_aL, kx_aR, kx_ln, Nat.reduceAdd, Option.toList, List.cons_append, List.nil_append])
  all_goals (repeat' apply And.intro)
  all_goals ((try clear hB hC); first | exact True.intro | exact Nat.le_of_ble_eq_true rfl | (with_reducible rfl) | exact Or.inl rfl | omega | exact kz_w1 (by decide) (fun j hj => by
      have hj : j < 5 := hj
      rcases (show j = 0 ∨ j = 1 ∨ j = 2 ∨ j = 3 ∨ j = 4 by omega) with rfl | rfl | rfl | rfl | rfl <;> rfl) | decide | trivial)

theorem ct_X6_init (l : Launch) (G : kx_G) {R : kx_P} : kx_M l G sX6_init 1 2 12 [.ref (78)] (kx_set R (78) (kO 6 (kx_df 6))) (79) none (kx_set (kx_set (kx_set R (79) (kI 0 6 (fun _ => 0))) (80) (kI 0 6 (fun _ => 0))) (78) (kO 6 (kf (cr6 .null) (fun _ => 0)))) (81) :=
  (ct_X6_init_n l G).w fun _ _ _ h => h
def bX7_init_0 : List kx_O := [(.aload_n 0, 0, 0, 0, .null), (.invokespecial 3, 0, 0, 0, .null), (.aload_n 0, 0, 0, 0, .null), (.sipush 200, 0, 0, 0, .int 200), (.newarray .int, 0, 0, 0, .null), (.putfield 11, 7, 0, 3, .null), (.aload_n 0, 0, 0, 0, .null), (.sipush 200, 0, 0, 0, .int 200), (.newarray .int, 0, 0, 0, .null), (.putfield 15, 7, 1, 3, .null), (.aload_n 0, 0, 0, 0, .null), (.sipush 200, 0, 0, 0, .int 200), (.newarray .int, 0, 0, 0, .null), (.putfield 18, 7, 2, 3, .null), (.aload_n 0, 0, 0, 0, .null), (.sipush 200, 0, 0, 0, .int 200), (.newarray .int, 0, 0, 0, .null), (.putfield 21, 7, 3, 3, .null), (.aload_n 0, 0, 0, 0, .null), (.iconst 0, 0, 0, 0, .int 0), (.putfield 24, 7, 4, 0, .null), (.aload_n 0, 0, 0, 0, .null), (.bipush 120, 0, 0, 0, .int 120), (.newarray .int, 0, 0, 0, .null), (.putfield 28, 7, 5, 3, .null), (.aload_n 0, 0, 0, 0, .null), (.bipush 120, 0, 0, 0, .int 120), (.newarray .int, 0, 0, 0, .null), (.putfield 31, 7, 6, 3, .null), (.aload_n 0, 0, 0, 0, .null), (.iconst 0, 0, 0, 0, .int 0), (.putfield 34, 7, 7, 0, .null), (.aload_n 0, 0, 0, 0, .null), (.iconst 0, 0, 0, 0, .int 0), (.putfield 37, 7, 8, 0, .null), (.return_, 0, 0, 0, .null)]
theorem kX7_init_0 : kx_oks kxL_X7 true cX7_init 0 bX7_init_0 = true := by decide +kernel
set_option maxRecDepth 100000 in
set_option maxHeartbeats 4000000 in
theorem ct_X7_init_n (l : Launch) (G : kx_G) {R : kx_P}  : kx_Mn l G sX7_init 1 6 1040 [.ref (71)] (kx_set R (71) (kO 7 (kx_df 7))) (72) (fun r P s => r = none ∧ kz_w P (kx_set (kx_set (kx_set (kx_set (kx_set (kx_set (kx_set R (72) (kI 0 200 (fun _ => 0))) (73) (kI 0 200 (fun _ => 0))) (74) (kI 0 200 (fun _ => 0))) (75) (kI 0 200 (fun _ => 0))) (76) (kI 0 120 (fun _ => 0))) (77) (kI 0 120 (fun _ => 0))) (71) (kO 7 (kf cr7 (fun _ => 0)))) ∧ s = 78) := by
  refine kx_mkn kx_tab kxLok_X7 (ini := true) [some (.ref (71))] ⟨by decide, rfl, by decide, by decide⟩ (fun _ _ _ h => by rw [h.1]; rfl) rfl rfl (fun g hB hC hN => ?_)
  refine hB bX7_init_0 _ _ _ _ _ _ _ kX7_init_0 ?_
  dsimp only [bX7_init_0, kx_wp, kx_step, kx_lI, kx_lL, kx_lA, kx_gl, kx_pI, kx_pL, kx_pR, kx_pA, kx_pV, kx_s1, kx_s2, kx_sl, kx_pre, kx_c2, kx_pl, kx_cmp, kx_oF, kx_eqN, kx_nil, kx_c1, kx_ft, kx_aI, kx_aL, kx_aR, kx_ln, Nat.reduceAdd, Option.toList, List.cons_append, List.nil_append]
  repeat (simp only [ks_93 (a := 71) (n := 72) (show ¬ (72 : Nat) = 71 by decide), ks_n93 (a := 71) (n := 72) (show ¬ (71 : Nat) = 72 by decide), ks_93 (a := 71) (n := 73) (show ¬ (73 : Nat) = 71 by decide), ks_n93 (a := 71) (n := 73) (show ¬ (71 : Nat) = 73 by decide), ks_93 (a := 71) (n := 74) (show ¬ (74 : Nat) = 71 by decide), ks_n93 (a := 71) (n := 74) (show ¬ (71 : Nat) = 74 by decide), ks_93 (a := 71) (n := 75) (show ¬ (75 : Nat) = 71 by decide), ks_n93 (a := 71) (n := 75) (show ¬ (71 : Nat) = 75 by decide), ks_93 (a := 71) (n := 76) (show ¬ (76 : Nat) = 71 by decide), ks_n93 (a := 71) (n := 76) (show ¬ (71 : Nat) = 76 by decide), ks_93 (a := 71) (n := 77) (show ¬ (77 : Nat) = 71 by decide), ks_n93 (a := 71) (n := 77) (show ¬ (71 : Nat) = 77 by decide), ks_eq, ks_ss]; try dsimp only [kx_wp, kx_step, kx_lI, kx_lL, kx_lA, kx_gl, kx_pI, kx_pL, kx_pR, kx_pA, kx_pV, kx_s1, kx_s2, kx_sl, kx_pre, kx_c2, kx_pl, kx_cmp, kx_oF, kx_eqN, kx_nil, kx_c1, kx_ft, kx_aI, kx_aL, kx_aR, kx_ln, Nat.reduceAdd, Option.toList, List.cons_append, List.nil_append])
  all_goals (repeat' apply And.intro)
  all_goals ((try clear hB hC); first | exact True.intro | exact Nat.le_of_ble_eq_true rfl | (with_reducible rfl) | exact Or.inl rfl | omega | exact kz_w1 (by decide) (fun j hj => by
      have hj : j < 9 := hj
      rcases (show j = 0 ∨ j = 1 ∨ j = 2 ∨ j = 3 ∨ j = 4 ∨ j = 5 ∨ j = 6 ∨ j = 7 ∨ j = 8 by omega) with rfl | rfl | rfl | rfl | rfl | rfl | rfl | rfl | rfl <;> rfl) | decide | trivial)

theorem ct_X7_init (l : Launch) (G : kx_G) {R : kx_P} : kx_M l G sX7_init 1 6 1040 [.ref (71)] (kx_set R (71) (kO 7 (kx_df 7))) (72) none (kx_set (kx_set (kx_set (kx_set (kx_set (kx_set (kx_set R (72) (kI 0 200 (fun _ => 0))) (73) (kI 0 200 (fun _ => 0))) (74) (kI 0 200 (fun _ => 0))) (75) (kI 0 200 (fun _ => 0))) (76) (kI 0 120 (fun _ => 0))) (77) (kI 0 120 (fun _ => 0))) (71) (kO 7 (kf cr7 (fun _ => 0)))) (78) :=
  (ct_X7_init_n l G).w fun _ _ _ h => h
def bX8_init_0 : List kx_O := [(.aload_n 0, 0, 0, 0, .null), (.invokespecial 3, 0, 0, 0, .null), (.aload_n 0, 0, 0, 0, .null), (.iconst (-1), 0, 0, 0, .int (-1)), (.putfield 9, 8, 5, 0, .null), (.return_, 0, 0, 0, .null)]
theorem kX8_init_0 : kx_oks kxL_X8 true cX8_init 0 bX8_init_0 = true := by decide +kernel
set_option maxRecDepth 100000 in
set_option maxHeartbeats 4000000 in
theorem ct_X8_init_n (l : Launch) (G : kx_G) {R : kx_P}  : kx_Mn l G sX8_init 1 0 0 [.ref (68)] (kx_set R (68) (kO 8 (kx_df 8))) (69) (fun r P s => r = none ∧ kz_w P (kx_set R (68) (kO 8 (kf (cr8 .null .null) (upd (fun _ => 0) 5 (-1))))) ∧ s = 69) := by
  refine kx_mkn kx_tab kxLok_X8 (ini := true) [some (.ref (68))] ⟨by decide, rfl, by decide, by decide⟩ (fun _ _ _ h => by rw [h.1]; rfl) rfl rfl (fun g hB hC hN => ?_)
  refine hB bX8_init_0 _ _ _ _ _ _ _ kX8_init_0 ?_
  dsimp only [bX8_init_0, kx_wp, kx_step, kx_lI, kx_lL, kx_lA, kx_gl, kx_pI, kx_pL, kx_pR, kx_pA, kx_pV, kx_s1, kx_s2, kx_sl, kx_pre, kx_c2, kx_pl, kx_cmp, kx_oF, kx_eqN, kx_nil, kx_c1, kx_ft, kx_aI, kx_aL, kx_aR, kx_ln, Nat.reduceAdd, Option.toList, List.cons_append, List.nil_append]
  repeat (simp only [ks_eq, ks_ss]; try dsimp only [kx_wp, kx_step, kx_lI, kx_lL, kx_lA, kx_gl, kx_pI, kx_pL, kx_pR, kx_pA, kx_pV, kx_s1, kx_s2, kx_sl, kx_pre, kx_c2, kx_pl, kx_cmp, kx_oF, kx_eqN, kx_nil, kx_c1, kx_ft, kx_aI, kx_aL, kx_aR, kx_ln, Nat.reduceAdd, Option.toList, List.cons_append, List.nil_append])
  all_goals (repeat' apply And.intro)
  all_goals ((try clear hB hC); first | exact True.intro | exact Nat.le_of_ble_eq_true rfl | (with_reducible rfl) | exact Or.inl rfl | omega | exact kz_w1 (by decide) (fun j hj => by
      have hj : j < 10 := hj
      rcases (show j = 0 ∨ j = 1 ∨ j = 2 ∨ j = 3 ∨ j = 4 ∨ j = 5 ∨ j = 6 ∨ j = 7 ∨ j = 8 ∨ j = 9 by omega) with rfl | rfl | rfl | rfl | rfl | rfl | rfl | rfl | rfl | rfl <;> rfl) | decide | trivial)

theorem ct_X8_init (l : Launch) (G : kx_G) {R : kx_P} : kx_M l G sX8_init 1 0 0 [.ref (68)] (kx_set R (68) (kO 8 (kx_df 8))) (69) none (kx_set R (68) (kO 8 (kf (cr8 .null .null) (upd (fun _ => 0) 5 (-1))))) (69) :=
  (ct_X8_init_n l G).w fun _ _ _ h => h
def bX1_init_0 : List kx_O := [(.aload_n 0, 0, 0, 0, .null), (.invokespecial 3, 0, 0, 0, .null), (.aload_n 0, 0, 0, 0, .null), (.aconst_null, 0, 0, 0, .null), (.putfield 9, 1, 2, 3, .null), (.aload_n 0, 0, 0, 0, .null), (.lconst 0, 0, 0, 0, .long 0), (.putfield 15, 1, 3, 1, .null), (.aload_n 0, 0, 0, 0, .null), (.iconst 1, 0, 0, 0, .int 1), (.putfield 19, 1, 4, 0, .null), (.aload_n 0, 0, 0, 0, .null), (.iconst 1, 0, 0, 0, .int 1), (.putfield 23, 1, 5, 0, .null), (.aload_n 0, 0, 0, 0, .null), (.iconst 0, 0, 0, 0, .int 0), (.putfield 26, 1, 6, 0, .null), (.aload_n 0, 0, 0, 0, .null), (.iconst 0, 0, 0, 0, .int 0), (.putfield 29, 1, 7, 0, .null), (.aload_n 0, 0, 0, 0, .null), (.iconst 0, 0, 0, 0, .int 0), (.putfield 32, 1, 8, 0, .null), (.aload_n 0, 0, 0, 0, .null), (.iconst 0, 0, 0, 0, .int 0), (.putfield 35, 1, 9, 0, .null), (.aload_n 0, 0, 0, 0, .null), (.iconst 0, 0, 0, 0, .int 0), (.putfield 38, 1, 10, 0, .null), (.aload_n 0, 0, 0, 0, .null), (.aconst_null, 0, 0, 0, .null), (.putfield 41, 1, 11, 3, .null), (.aload_n 0, 0, 0, 0, .null), (.iconst 0, 0, 0, 0, .int 0), (.putfield 45, 1, 12, 0, .null), (.aload_n 0, 0, 0, 0, .null), (.iconst 0, 0, 0, 0, .int 0), (.putfield 48, 1, 13, 0, .null), (.aload_n 0, 0, 0, 0, .null), (.iconst 0, 0, 0, 0, .int 0), (.putfield 51, 1, 14, 0, .null), (.aload_n 0, 0, 0, 0, .null), (.iconst 0, 0, 0, 0, .int 0), (.putfield 54, 1, 15, 2, .null), (.aload_n 0, 0, 0, 0, .null), (.iload_n 1, 1, 0, 0, .null), (.putfield 58, 1, 0, 0, .null), (.aload_n 0, 0, 0, 0, .null), (.iload_n 2, 2, 0, 0, .null), (.putfield 61, 1, 1, 0, .null), (.return_, 0, 0, 0, .null)]
theorem kX1_init_0 : kx_oks kxL_X1 true cX1_init 0 bX1_init_0 = true := by decide +kernel
set_option maxRecDepth 100000 in
set_option maxHeartbeats 4000000 in
theorem ct_X1_init_n (l : Launch) (G : kx_G) {sz : Nat} {R : kx_P} {c : Nat} {x y : Int32} (hc6 : 64 ≤ c)  : kx_Mn l G sX1_init 1 0 0 [.ref (c), .int (x), .int (y)] (kx_set R (c) (kO 1 (kx_df 1))) (sz) (fun r P s => r = none ∧ kz_w P (kx_set R (c) (kO 1 (kf (cr1 .null 0 .null) (upd (upd (upd (upd (fun _ => 0) 4 1) 5 1) 0 x) 1 y)))) ∧ s = (sz + 0)) := by
  refine kx_mkn kx_tab kxLok_X1 (ini := true) [some (.ref (c)), some (.int (x)), some (.int (y))] ⟨by decide, rfl, by decide, by decide⟩ (fun _ _ _ h => by rw [h.1]; rfl) rfl rfl (fun g hB hC hN => ?_)
  refine hB bX1_init_0 _ _ _ _ _ _ _ kX1_init_0 ?_
  dsimp only [bX1_init_0, kx_wp, kx_step, kx_lI, kx_lL, kx_lA, kx_gl, kx_pI, kx_pL, kx_pR, kx_pA, kx_pV, kx_s1, kx_s2, kx_sl, kx_pre, kx_c2, kx_pl, kx_cmp, kx_oF, kx_eqN, kx_nil, kx_c1, kx_ft, kx_aI, kx_aL, kx_aR, kx_ln, Nat.reduceAdd, Option.toList, List.cons_append, List.nil_append]
  repeat (simp only [ks_eq, ks_ss]; try dsimp only [kx_wp, kx_step, kx_lI, kx_lL, kx_lA, kx_gl, kx_pI, kx_pL, kx_pR, kx_pA, kx_pV, kx_s1, kx_s2, kx_sl, kx_pre, kx_c2, kx_pl, kx_cmp, kx_oF, kx_eqN, kx_nil, kx_c1, kx_ft, kx_aI, kx_aL, kx_aR, kx_ln, Nat.reduceAdd, Option.toList, List.cons_append, List.nil_append])
  all_goals (repeat' apply And.intro)
  all_goals ((try clear hB hC); first | exact True.intro | exact Nat.le_of_ble_eq_true rfl | (with_reducible rfl) | exact Or.inl rfl | omega | exact kz_w1 (by decide) (fun j hj => by
      have hj : j < 16 := hj
      rcases (show j = 0 ∨ j = 1 ∨ j = 2 ∨ j = 3 ∨ j = 4 ∨ j = 5 ∨ j = 6 ∨ j = 7 ∨ j = 8 ∨ j = 9 ∨ j = 10 ∨ j = 11 ∨ j = 12 ∨ j = 13 ∨ j = 14 ∨ j = 15 by omega) with rfl | rfl | rfl | rfl | rfl | rfl | rfl | rfl | rfl | rfl | rfl | rfl | rfl | rfl | rfl | rfl <;> rfl) | decide | trivial)

theorem ct_X1_init (l : Launch) (G : kx_G) {R : kx_P} {sz : Nat} {c : Nat} {x y : Int32} (hc6 : 64 ≤ c) : kx_M l G sX1_init 1 0 0 [.ref (c), .int (x), .int (y)] (kx_set R (c) (kO 1 (kx_df 1))) (sz) none (kx_set R (c) (kO 1 (kf (cr1 .null 0 .null) (upd (upd (upd (upd (fun _ => 0) 4 1) 5 1) 0 x) 1 y)))) ((sz + 0)) :=
  (ct_X1_init_n l G hc6).w fun _ _ _ h => h
def bX2_init_0 : List kx_O := [(.aload_n 0, 0, 0, 0, .null), (.invokespecial 3, 0, 0, 0, .null), (.aload_n 0, 0, 0, 0, .null), (.sipush 400, 0, 0, 0, .int 400), (.newarray .int, 0, 0, 0, .null), (.putfield 9, 2, 0, 3, .null), (.aload_n 0, 0, 0, 0, .null), (.iconst 0, 0, 0, 0, .int 0), (.putfield 15, 2, 1, 0, .null), (.aload_n 0, 0, 0, 0, .null), (.bipush 64, 0, 0, 0, .int 64), (.newarray .int, 0, 0, 0, .null), (.putfield 19, 2, 2, 3, .null), (.return_, 0, 0, 0, .null)]
theorem kX2_init_0 : kx_oks kxL_X2 true cX2_init 0 bX2_init_0 = true := by decide +kernel
set_option maxRecDepth 100000 in
set_option maxHeartbeats 4000000 in
theorem ct_X2_init_n (l : Launch) (G : kx_G) {R : kx_P} {w : Nat} (hw6 : 64 ≤ w)  : kx_Mn l G sX2_init 1 2 464 [.ref (w + 3)] (kx_set R (w + 3) (kO 2 (kx_df 2))) (w + 4) (fun r P s => r = none ∧ kz_w P (kx_set (kx_set (kx_set R (w + 4) (kI 0 400 (fun _ => 0))) (w + 5) (kI 0 64 (fun _ => 0))) (w + 3) (kO 2 (kf (cr2 w) (fun _ => 0)))) ∧ s = (w + 4 + 2)) := by
  refine kx_mkn kx_tab kxLok_X2 (ini := true) [some (.ref (w + 3))] ⟨by decide, rfl, by decide, by decide⟩ (fun _ _ _ h => by rw [h.1]; rfl) rfl rfl (fun g hB hC hN => ?_)
  refine hB bX2_init_0 _ _ _ _ _ _ _ kX2_init_0 ?_
  dsimp only [bX2_init_0, kx_wp, kx_step, kx_lI, kx_lL, kx_lA, kx_gl, kx_pI, kx_pL, kx_pR, kx_pA, kx_pV, kx_s1, kx_s2, kx_sl, kx_pre, kx_c2, kx_pl, kx_cmp, kx_oF, kx_eqN, kx_nil, kx_c1, kx_ft, kx_aI, kx_aL, kx_aR, kx_ln, Nat.reduceAdd, Option.toList, List.cons_append, List.nil_append]
  repeat (simp only [ks_93 (a := w + 3) (n := w + 4) (show ¬ (w + 4 : Nat) = w + 3 by omega), ks_n93 (a := w + 3) (n := w + 4) (show ¬ (w + 3 : Nat) = w + 4 by omega), ks_93 (a := w + 3) (n := w + 5) (show ¬ (w + 5 : Nat) = w + 3 by omega), ks_n93 (a := w + 3) (n := w + 5) (show ¬ (w + 3 : Nat) = w + 5 by omega), ks_eq, ks_ss]; try dsimp only [kx_wp, kx_step, kx_lI, kx_lL, kx_lA, kx_gl, kx_pI, kx_pL, kx_pR, kx_pA, kx_pV, kx_s1, kx_s2, kx_sl, kx_pre, kx_c2, kx_pl, kx_cmp, kx_oF, kx_eqN, kx_nil, kx_c1, kx_ft, kx_aI, kx_aL, kx_aR, kx_ln, Nat.reduceAdd, Option.toList, List.cons_append, List.nil_append])
  all_goals (repeat' apply And.intro)
  all_goals ((try clear hB hC); first | exact True.intro | exact Nat.le_of_ble_eq_true rfl | (with_reducible rfl) | exact Or.inl rfl | omega | exact kz_w1 (by decide) (fun j hj => by
      have hj : j < 3 := hj
      rcases (show j = 0 ∨ j = 1 ∨ j = 2 by omega) with rfl | rfl | rfl <;> rfl) | decide | trivial)

theorem ct_X2_init (l : Launch) (G : kx_G) {R : kx_P} {w : Nat} (hw6 : 64 ≤ w) : kx_M l G sX2_init 1 2 464 [.ref (w + 3)] (kx_set R (w + 3) (kO 2 (kx_df 2))) (w + 4) none (kx_set (kx_set (kx_set R (w + 4) (kI 0 400 (fun _ => 0))) (w + 5) (kI 0 64 (fun _ => 0))) (w + 3) (kO 2 (kf (cr2 w) (fun _ => 0)))) ((w + 4 + 2)) :=
  (ct_X2_init_n l G hw6).w fun _ _ _ h => h

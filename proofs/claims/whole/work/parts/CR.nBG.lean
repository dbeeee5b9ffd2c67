def bX10_readSpare_0 : List kx_O := [(.aload_n 0, 0, 0, 0, .null), (.getfield 31, 10, 4, 0, .null), (.ifnonnull 14, 18, 0, 0, .null)]
theorem kX10_readSpare_0 : kx_oks kxL_X10 false cX10_readSpare 0 bX10_readSpare_0 = true := by decide +kernel
def bX10_readSpare_7 : List kx_O := [(.aload_n 0, 0, 0, 0, .null), (.new 184, 9, 0, 0, .null), (.dup, 0, 0, 0, .null)]
theorem kX10_readSpare_7 : kx_oks kxL_X10 false cX10_readSpare 7 bX10_readSpare_7 = true := by decide +kernel
def bX10_readSpare_15 : List kx_O := [(.putfield 31, 10, 4, 3, .null)]
theorem kX10_readSpare_15 : kx_oks kxL_X10 false cX10_readSpare 15 bX10_readSpare_15 = true := by decide +kernel
def bX10_readSpare_18 : List kx_O := [(.aload_n 0, 0, 0, 0, .null), (.iconst 0, 0, 0, 0, .int 0), (.putfield 20, 10, 2, 0, .null), (.aload_n 0, 0, 0, 0, .null), (.getfield 27, 10, 3, 0, .null), (.aload_n 0, 0, 0, 0, .null), (.getfield 16, 10, 1, 0, .null), (.iload_n 1, 1, 0, 0, .null), (.aload_n 0, 0, 0, 0, .null), (.getfield 31, 10, 4, 0, .null)]
theorem kX10_readSpare_18 : kx_oks kxL_X10 false cX10_readSpare 18 bX10_readSpare_18 = true := by decide +kernel
def bX10_readSpare_39 : List kx_O := [(.istore_n 2, 2, 0, 0, .null), (.aload_n 0, 0, 0, 0, .null), (.aload_n 0, 0, 0, 0, .null), (.getfield 27, 10, 3, 0, .null), (.getfield 368, 8, 5, 0, .null), (.putfield 35, 10, 5, 0, .null), (.iload_n 2, 2, 0, 0, .null), (.ireturn, 0, 0, 0, .null)]
theorem kX10_readSpare_39 : kx_oks kxL_X10 false cX10_readSpare 39 bX10_readSpare_39 = true := by decide +kernel
theorem dX10_readSpare_12 : decode cX10_readSpare 12 = .ok (.invokespecial 363, 3) := by decide +kernel
theorem dX10_readSpare_36 : decode cX10_readSpare 36 = .ok (.invokevirtual 364, 3) := by decide +kernel
set_option maxRecDepth 100000 in
set_option maxHeartbeats 4000000 in
theorem ct_X10_readSpare_r (l : Launch) (G : kx_G) {P : kx_P} {sz : Nat} {w : Nat} (hw : 144 ≤ w) {K : Nat → Int32} (h64 : P 64 = kO 10 (kf (cr10 (.ref w)) K)) (hwk : cx_wk P w) {T : Nat → Int32} (h67 : P 67 = kI 0 400 T) {t0 x0 : Value} {F8 : Nat → Int32} (h68 : P 68 = kO 8 (kf (cr8 t0 x0) F8)) {n : Nat} (hn : n ≤ 400) {t C N e : Nat → Int32} {k0 o0 : Int32} {R : ck_Qt} (hR : ck_rds T n (n + 1) ((0, -1, k0, o0, 7, ck_rC C, ck_rN N), 0, 0, 0, ck_t0 t, e) = R)  : kx_Mn l G sX10_readSpare 48 0 0 [.ref 64, .int (nI n)] P sz (cx_RS P K w T n R sz) := by
  obtain ⟨V, te, qu, Fo, st, hw0, hw1, hw2, hw3, hw4⟩ := hwk
  have hne : ∀ k x, ¬ k = 64 → kx_set P 64 x k = P k := fun k x h => ks_ne h
  have hid : kx_set (cx_fW (cx_vW (kx_set P 64 (kO 10 (kf (cr10 (.ref w)) (upd K 2 0)))) w V te qu) w Fo st) 68 (kO 8 (kf (cr8 t0 x0) F8)) = (kx_set P 64 (kO 10 (kf (cr10 (.ref w)) (upd K 2 0)))) := by
    unfold cx_fW cx_vW
    rw [ks_id ((hne (w + 1) _ (by omega)).trans hw1), ks_id ((hne (w + 2) _ (by omega)).trans hw2), ks_id ((hne w _ (by omega)).trans hw0), ks_id ((hne (w + 4) _ (by omega)).trans hw4), ks_id ((hne (w + 3) _ (by omega)).trans hw3), ks_id ((hne 68 _ (by decide)).trans h68)]
  have hm9 := ct_X8_readWorks l G (P := P) (sz := sz) (Q := (kx_set P 64 (kO 10 (kf (cr10 (.ref w)) (upd K 2 0))))) hw (F0 := F8) (V := V) (te := te) (qu := qu) (Fo := Fo) (st := st) (T := T) (t := t) (C := C) (N := N) (e := e) (t0 := t0) (x0 := x0) ((hne 67 _ (by decide)).trans h67) hn k0 o0 hR
  rw [hid] at hm9
  refine kx_mkn kx_tab kxLok_X10 (ini := false) [some (.ref 64), some (.int (nI n)), none] ⟨by decide, rfl, by decide, by decide⟩ (fun _ _ _ h => by obtain ⟨_, _, _, _, _, _, h, -⟩ := h; exact ⟨_, h⟩) rfl rfl (fun g hB hC hN => ?_)
  refine hB bX10_readSpare_0 _ _ _ _ _ _ _ kX10_readSpare_0 ?_
  dsimp only [bX10_readSpare_0, kx_wp, kx_step, kx_lI, kx_lL, kx_lA, kx_gl, kx_pI, kx_pL, kx_pR, kx_pA, kx_pV, kx_s1, kx_s2, kx_sl, kx_pre, kx_c2, kx_pl, kx_cmp, kx_oF, kx_eqN, kx_nil, kx_c1, kx_ft, kx_aI, kx_aL, kx_aR, kx_ln, Nat.reduceAdd, Option.toList, List.cons_append, List.nil_append, cf10_4, cf10_2, cf10_3, cf10_1, cf8_5, cf10_5]
  repeat (simp only [h64, kx_eq0, cp10_4, cp10_2, cp10_5, ks_eq, ks_ss]; try dsimp only [kx_wp, kx_step, kx_lI, kx_lL, kx_lA, kx_gl, kx_pI, kx_pL, kx_pR, kx_pA, kx_pV, kx_s1, kx_s2, kx_sl, kx_pre, kx_c2, kx_pl, kx_cmp, kx_oF, kx_eqN, kx_nil, kx_c1, kx_ft, kx_aI, kx_aL, kx_aR, kx_ln, Nat.reduceAdd, Option.toList, List.cons_append, List.nil_append, cf10_4, cf10_2, cf10_3, cf10_1, cf8_5, cf10_5])
  repeat' apply And.intro
  all_goals try (first | with_reducible assumption | (with_reducible refine ck_nzI ?_; simp; done) | (with_reducible refine ck_nzL ?_; simp; done) | (with_reducible refine vp_in_nI ?_ ?_ <;> first | omega | decide) | (with_reducible refine Nat.le_of_ble_eq_true ?_; rfl) | omega | exact Nat.le_of_ble_eq_true rfl | decide | trivial | exact Or.inl trivial | exact Or.inr trivial | exact Or.inl rfl | exact Or.inr rfl)
  refine hB bX10_readSpare_18 _ _ _ _ _ _ _ kX10_readSpare_18 ?_
  dsimp only [bX10_readSpare_18, kx_wp, kx_step, kx_lI, kx_lL, kx_lA, kx_gl, kx_pI, kx_pL, kx_pR, kx_pA, kx_pV, kx_s1, kx_s2, kx_sl, kx_pre, kx_c2, kx_pl, kx_cmp, kx_oF, kx_eqN, kx_nil, kx_c1, kx_ft, kx_aI, kx_aL, kx_aR, kx_ln, Nat.reduceAdd, Option.toList, List.cons_append, List.nil_append, cf10_4, cf10_2, cf10_3, cf10_1, cf8_5, cf10_5]
  repeat (simp only [h64, kx_eq0, cp10_4, cp10_2, cp10_5, ks_eq, ks_ss]; try dsimp only [kx_wp, kx_step, kx_lI, kx_lL, kx_lA, kx_gl, kx_pI, kx_pL, kx_pR, kx_pA, kx_pV, kx_s1, kx_s2, kx_sl, kx_pre, kx_c2, kx_pl, kx_cmp, kx_oF, kx_eqN, kx_nil, kx_c1, kx_ft, kx_aI, kx_aL, kx_aR, kx_ln, Nat.reduceAdd, Option.toList, List.cons_append, List.nil_append, cf10_4, cf10_2, cf10_3, cf10_1, cf8_5, cf10_5])
  repeat' apply And.intro
  all_goals try (first | with_reducible assumption | (with_reducible refine ck_nzI ?_; simp; done) | (with_reducible refine ck_nzL ?_; simp; done) | (with_reducible refine vp_in_nI ?_ ?_ <;> first | omega | decide) | (with_reducible refine Nat.le_of_ble_eq_true ?_; rfl) | omega | exact Nat.le_of_ble_eq_true rfl | decide | trivial | exact Or.inl trivial | exact Or.inr trivial | exact Or.inl rfl | exact Or.inr rfl)
  refine hN.1 364 _ _ _ _ _ _ _ 8 _ _ _ _ _ _ _ _ _ _ lX10_364 (hm9) ⟨by decide, rfl⟩ ((hne 68 _ (by decide)).trans h68) rfl rfl (Nat.le_of_ble_eq_true rfl) (by omega) (by decide) (Nat.le_of_ble_eq_true rfl) (Nat.le_of_ble_eq_true rfl) dX10_readSpare_36 ?_
  rintro r2 P2 s2 ⟨F2, V2, te2, qu2, Fo2, st2, rfl, q2, rfl, hD2, hX2⟩
  rw [q2]
  have e5 : F2 5 = R.1.2.1 := by
    by_cases hg : R.1.2.1 = -1
    · rw [hg]; exact (hD2 hg).1.2.2.2.2.1
    · exact (hX2 hg).2.1
  have r64 : cx_8 (cx_fW (cx_vW (kx_set P 64 (kO 10 (kf (cr10 (.ref w)) (upd K 2 0)))) w V2 te2 qu2) w Fo2 st2) (.ref w) F2 64 = kO 10 (kf (cr10 (.ref w)) (upd K 2 0)) := by
    unfold cx_8 cx_fW cx_vW
    rw [ks_ne (by decide), ks_ne (by omega), ks_ne (by omega), ks_ne (by omega), ks_ne (by omega), ks_ne (by omega), ks_eq]
  have hfin : cx_RS P K w T n R sz (some (.int (if R.1.2.1 = -1 then 0 else R.1.2.2.1))) (kx_set (cx_8 (cx_fW (cx_vW (kx_set P 64 (kO 10 (kf (cr10 (.ref w)) (upd K 2 0)))) w V2 te2 qu2) w Fo2 st2) (.ref w) F2) 64 (kO 10 (kf (cr10 (.ref w)) (upd (upd K 2 0) 5 R.1.2.1)))) sz := ⟨F2, V2, te2, qu2, Fo2, st2, rfl, rfl, rfl, hD2, fun h => (hX2 h).2.2⟩
  dsimp only [Option.toList, List.cons_append, List.nil_append]
  refine hB bX10_readSpare_39 _ _ _ _ _ _ _ kX10_readSpare_39 ?_
  dsimp only [bX10_readSpare_39, kx_wp, kx_step, kx_lI, kx_lL, kx_lA, kx_gl, kx_pI, kx_pL, kx_pR, kx_pA, kx_pV, kx_s1, kx_s2, kx_sl, kx_pre, kx_c2, kx_pl, kx_cmp, kx_oF, kx_eqN, kx_nil, kx_c1, kx_ft, kx_aI, kx_aL, kx_aR, kx_ln, Nat.reduceAdd, Option.toList, List.cons_append, List.nil_append, cf10_4, cf10_2, cf10_3, cf10_1, cf8_5, cf10_5]
  repeat (simp only [h64, kx_eq0, cp10_4, cp10_2, cp10_5, ks_eq, ks_ss, r64, e5, cx_8o]; try dsimp only [kx_wp, kx_step, kx_lI, kx_lL, kx_lA, kx_gl, kx_pI, kx_pL, kx_pR, kx_pA, kx_pV, kx_s1, kx_s2, kx_sl, kx_pre, kx_c2, kx_pl, kx_cmp, kx_oF, kx_eqN, kx_nil, kx_c1, kx_ft, kx_aI, kx_aL, kx_aR, kx_ln, Nat.reduceAdd, Option.toList, List.cons_append, List.nil_append, cf10_4, cf10_2, cf10_3, cf10_1, cf8_5, cf10_5])
  all_goals (repeat' apply And.intro)
  all_goals ((try clear hB hC); first | exact True.intro | exact Nat.le_refl _ | exact hfin)

set_option maxRecDepth 100000 in
set_option maxHeartbeats 4000000 in
theorem ct_X10_readSpare_n (l : Launch) (G : kx_G) {P : kx_P} {sz : Nat} (hw : 144 ≤ sz) {K : Nat → Int32} (h64 : P 64 = kO 10 (kf (cr10 (.null)) K)) {T : Nat → Int32} (h67 : P 67 = kI 0 400 T) {t0 x0 : Value} {F8 : Nat → Int32} (h68 : P 68 = kO 8 (kf (cr8 t0 x0) F8)) {n : Nat} (hn : n ≤ 400) {t C N e : Nat → Int32} {k0 o0 : Int32} {R : ck_Qt} (hR : ck_rds T n (n + 1) ((0, -1, k0, o0, 7, ck_rC C, ck_rN N), 0, 0, 0, ck_t0 t, e) = R)  : kx_Mn l G sX10_readSpare 48 6 512 [.ref 64, .int (nI n)] P sz (cx_RS (cx_nw P sz) K sz T n R (sz + 6)) := by
  obtain ⟨hw0, hw1, hw2, hw3, hw4, hw5⟩ := cx_nw_a (P := P) (w := sz)
  have b67 : cx_nw P sz 67 = kI 0 400 T := (cx_nw_o (by omega)).trans h67
  have b68 : cx_nw P sz 68 = kO 8 (kf (cr8 t0 x0) F8) := (cx_nw_o (by omega)).trans h68
  have n64 : cx_nw P sz 64 = kO 10 (kf (cr10 .null) K) := (cx_nw_o (by omega)).trans h64
  have hne : ∀ k x, ¬ k = 64 → kx_set (cx_nw P sz) 64 x k = (cx_nw P sz) k := fun k x h => ks_ne h
  have hid : kx_set (cx_fW (cx_vW (kx_set (cx_nw P sz) 64 (kO 10 (kf (cr10 (.ref sz)) (upd K 2 0)))) sz (fun _ => 0) (fun _ => 0) (fun _ => 0)) sz (fun _ => 0) (fun _ => 0)) 68 (kO 8 (kf (cr8 t0 x0) F8)) = (kx_set (cx_nw P sz) 64 (kO 10 (kf (cr10 (.ref sz)) (upd K 2 0)))) := by
    unfold cx_fW cx_vW
    rw [ks_id ((hne (sz + 1) _ (by omega)).trans hw1), ks_id ((hne (sz + 2) _ (by omega)).trans hw2), ks_id ((hne sz _ (by omega)).trans hw0), ks_id ((hne (sz + 4) _ (by omega)).trans hw4), ks_id ((hne (sz + 3) _ (by omega)).trans hw3), ks_id ((hne 68 _ (by decide)).trans b68)]
  have hm9 := ct_X8_readWorks l G (P := P) (sz := (sz + 6)) (Q := (kx_set (cx_nw P sz) 64 (kO 10 (kf (cr10 (.ref sz)) (upd K 2 0))))) hw (F0 := F8) (V := (fun _ => 0)) (te := (fun _ => 0)) (qu := (fun _ => 0)) (Fo := (fun _ => 0)) (st := (fun _ => 0)) (T := T) (t := t) (C := C) (N := N) (e := e) (t0 := t0) (x0 := x0) ((hne 67 _ (by decide)).trans b67) hn k0 o0 hR
  rw [hid] at hm9
  refine kx_mkn kx_tab kxLok_X10 (ini := false) [some (.ref 64), some (.int (nI n)), none] ⟨by decide, rfl, by decide, by decide⟩ (fun _ _ _ h => by obtain ⟨_, _, _, _, _, _, h, -⟩ := h; exact ⟨_, h⟩) rfl rfl (fun g hB hC hN => ?_)
  have hi9 : kx_M l G sX9_init 2 5 495 [.ref sz] (kx_set P sz (kO 9 (kx_df 9))) (sz + 1) none (cx_nw P sz) (sz + 6) := ct_X9_init l G (by omega)
  refine hB bX10_readSpare_0 _ _ _ _ _ _ _ kX10_readSpare_0 ?_
  dsimp only [bX10_readSpare_0, kx_wp, kx_step, kx_lI, kx_lL, kx_lA, kx_gl, kx_pI, kx_pL, kx_pR, kx_pA, kx_pV, kx_s1, kx_s2, kx_sl, kx_pre, kx_c2, kx_pl, kx_cmp, kx_oF, kx_eqN, kx_nil, kx_c1, kx_ft, kx_aI, kx_aL, kx_aR, kx_ln, Nat.reduceAdd, Option.toList, List.cons_append, List.nil_append, cf10_4, cf10_2, cf10_3, cf10_1, cf8_5, cf10_5]
  repeat (simp only [h64, kx_eq0, n64, cp10_4, cp10_2, cp10_5, ks_eq, ks_ss]; try dsimp only [kx_wp, kx_step, kx_lI, kx_lL, kx_lA, kx_gl, kx_pI, kx_pL, kx_pR, kx_pA, kx_pV, kx_s1, kx_s2, kx_sl, kx_pre, kx_c2, kx_pl, kx_cmp, kx_oF, kx_eqN, kx_nil, kx_c1, kx_ft, kx_aI, kx_aL, kx_aR, kx_ln, Nat.reduceAdd, Option.toList, List.cons_append, List.nil_append, cf10_4, cf10_2, cf10_3, cf10_1, cf8_5, cf10_5])
  repeat' apply And.intro
  all_goals try (first | with_reducible assumption | (with_reducible refine ck_nzI ?_; simp; done) | (with_reducible refine ck_nzL ?_; simp; done) | (with_reducible refine vp_in_nI ?_ ?_ <;> first | omega | decide) | (with_reducible refine Nat.le_of_ble_eq_true ?_; rfl) | omega | exact Nat.le_of_ble_eq_true rfl | decide | trivial | exact Or.inl trivial | exact Or.inr trivial | exact Or.inl rfl | exact Or.inr rfl)
  refine hB bX10_readSpare_7 _ _ _ _ _ _ _ kX10_readSpare_7 ?_
  dsimp only [bX10_readSpare_7, kx_wp, kx_step, kx_lI, kx_lL, kx_lA, kx_gl, kx_pI, kx_pL, kx_pR, kx_pA, kx_pV, kx_s1, kx_s2, kx_sl, kx_pre, kx_c2, kx_pl, kx_cmp, kx_oF, kx_eqN, kx_nil, kx_c1, kx_ft, kx_aI, kx_aL, kx_aR, kx_ln, Nat.reduceAdd, Option.toList, List.cons_append, List.nil_append, cf10_4, cf10_2, cf10_3, cf10_1, cf8_5, cf10_5]
  repeat (simp only [h64, kx_eq0, n64, cp10_4, cp10_2, cp10_5, ks_eq, ks_ss]; try dsimp only [kx_wp, kx_step, kx_lI, kx_lL, kx_lA, kx_gl, kx_pI, kx_pL, kx_pR, kx_pA, kx_pV, kx_s1, kx_s2, kx_sl, kx_pre, kx_c2, kx_pl, kx_cmp, kx_oF, kx_eqN, kx_nil, kx_c1, kx_ft, kx_aI, kx_aL, kx_aR, kx_ln, Nat.reduceAdd, Option.toList, List.cons_append, List.nil_append, cf10_4, cf10_2, cf10_3, cf10_1, cf8_5, cf10_5])
  repeat' apply And.intro
  all_goals try (first | with_reducible assumption | (with_reducible refine ck_nzI ?_; simp; done) | (with_reducible refine ck_nzL ?_; simp; done) | (with_reducible refine vp_in_nI ?_ ?_ <;> first | omega | decide) | (with_reducible refine Nat.le_of_ble_eq_true ?_; rfl) | omega | exact Nat.le_of_ble_eq_true rfl | decide | trivial | exact Or.inl trivial | exact Or.inr trivial | exact Or.inl rfl | exact Or.inr rfl)
  refine hC.2.2 363 _ _ _ _ _ _ _ _ _ _ _ _ _ _ _ _ _ (Or.inr ⟨_, lX10_363⟩) (hi9) rfl rfl (Nat.le_of_ble_eq_true rfl) (by first | decide | omega) (by decide) (Nat.le_of_ble_eq_true rfl) (Nat.le_of_ble_eq_true rfl) dX10_readSpare_12 ?_
  refine hB bX10_readSpare_15 _ _ _ _ _ _ _ kX10_readSpare_15 ?_
  dsimp only [bX10_readSpare_15, kx_wp, kx_step, kx_lI, kx_lL, kx_lA, kx_gl, kx_pI, kx_pL, kx_pR, kx_pA, kx_pV, kx_s1, kx_s2, kx_sl, kx_pre, kx_c2, kx_pl, kx_cmp, kx_oF, kx_eqN, kx_nil, kx_c1, kx_ft, kx_aI, kx_aL, kx_aR, kx_ln, Nat.reduceAdd, Option.toList, List.cons_append, List.nil_append, cf10_4, cf10_2, cf10_3, cf10_1, cf8_5, cf10_5]
  repeat (simp only [h64, kx_eq0, n64, cp10_4, cp10_2, cp10_5, ks_eq, ks_ss]; try dsimp only [kx_wp, kx_step, kx_lI, kx_lL, kx_lA, kx_gl, kx_pI, kx_pL, kx_pR, kx_pA, kx_pV, kx_s1, kx_s2, kx_sl, kx_pre, kx_c2, kx_pl, kx_cmp, kx_oF, kx_eqN, kx_nil, kx_c1, kx_ft, kx_aI, kx_aL, kx_aR, kx_ln, Nat.reduceAdd, Option.toList, List.cons_append, List.nil_append, cf10_4, cf10_2, cf10_3, cf10_1, cf8_5, cf10_5])
  repeat' apply And.intro
  all_goals try (first | with_reducible assumption | (with_reducible refine ck_nzI ?_; simp; done) | (with_reducible refine ck_nzL ?_; simp; done) | (with_reducible refine vp_in_nI ?_ ?_ <;> first | omega | decide) | (with_reducible refine Nat.le_of_ble_eq_true ?_; rfl) | omega | exact Nat.le_of_ble_eq_true rfl | decide | trivial | exact Or.inl trivial | exact Or.inr trivial | exact Or.inl rfl | exact Or.inr rfl)
  refine hB bX10_readSpare_18 _ _ _ _ _ _ _ kX10_readSpare_18 ?_
  dsimp only [bX10_readSpare_18, kx_wp, kx_step, kx_lI, kx_lL, kx_lA, kx_gl, kx_pI, kx_pL, kx_pR, kx_pA, kx_pV, kx_s1, kx_s2, kx_sl, kx_pre, kx_c2, kx_pl, kx_cmp, kx_oF, kx_eqN, kx_nil, kx_c1, kx_ft, kx_aI, kx_aL, kx_aR, kx_ln, Nat.reduceAdd, Option.toList, List.cons_append, List.nil_append, cf10_4, cf10_2, cf10_3, cf10_1, cf8_5, cf10_5]
  repeat (simp only [h64, kx_eq0, n64, cp10_4, cp10_2, cp10_5, ks_eq, ks_ss]; try dsimp only [kx_wp, kx_step, kx_lI, kx_lL, kx_lA, kx_gl, kx_pI, kx_pL, kx_pR, kx_pA, kx_pV, kx_s1, kx_s2, kx_sl, kx_pre, kx_c2, kx_pl, kx_cmp, kx_oF, kx_eqN, kx_nil, kx_c1, kx_ft, kx_aI, kx_aL, kx_aR, kx_ln, Nat.reduceAdd, Option.toList, List.cons_append, List.nil_append, cf10_4, cf10_2, cf10_3, cf10_1, cf8_5, cf10_5])
  repeat' apply And.intro
  all_goals try (first | with_reducible assumption | (with_reducible refine ck_nzI ?_; simp; done) | (with_reducible refine ck_nzL ?_; simp; done) | (with_reducible refine vp_in_nI ?_ ?_ <;> first | omega | decide) | (with_reducible refine Nat.le_of_ble_eq_true ?_; rfl) | omega | exact Nat.le_of_ble_eq_true rfl | decide | trivial | exact Or.inl trivial | exact Or.inr trivial | exact Or.inl rfl | exact Or.inr rfl)
  refine hN.1 364 _ _ _ _ _ _ _ 8 _ _ _ _ _ _ _ _ _ _ lX10_364 (hm9) ⟨by decide, rfl⟩ ((hne 68 _ (by decide)).trans b68) rfl rfl (Nat.le_of_ble_eq_true rfl) (by omega) (by decide) (Nat.le_of_ble_eq_true rfl) (Nat.le_of_ble_eq_true rfl) dX10_readSpare_36 ?_
  rintro r2 P2 s2 ⟨F2, V2, te2, qu2, Fo2, st2, rfl, q2, rfl, hD2, hX2⟩
  rw [q2]
  have e5 : F2 5 = R.1.2.1 := by
    by_cases hg : R.1.2.1 = -1
    · rw [hg]; exact (hD2 hg).1.2.2.2.2.1
    · exact (hX2 hg).2.1
  have r64 : cx_8 (cx_fW (cx_vW (kx_set (cx_nw P sz) 64 (kO 10 (kf (cr10 (.ref sz)) (upd K 2 0)))) sz V2 te2 qu2) sz Fo2 st2) (.ref sz) F2 64 = kO 10 (kf (cr10 (.ref sz)) (upd K 2 0)) := by
    unfold cx_8 cx_fW cx_vW
    rw [ks_ne (by decide), ks_ne (by omega), ks_ne (by omega), ks_ne (by omega), ks_ne (by omega), ks_ne (by omega), ks_eq]
  have hfin : cx_RS (cx_nw P sz) K sz T n R (sz + 6) (some (.int (if R.1.2.1 = -1 then 0 else R.1.2.2.1))) (kx_set (cx_8 (cx_fW (cx_vW (kx_set (cx_nw P sz) 64 (kO 10 (kf (cr10 (.ref sz)) (upd K 2 0)))) sz V2 te2 qu2) sz Fo2 st2) (.ref sz) F2) 64 (kO 10 (kf (cr10 (.ref sz)) (upd (upd K 2 0) 5 R.1.2.1)))) (sz + 6) := ⟨F2, V2, te2, qu2, Fo2, st2, rfl, rfl, rfl, hD2, fun h => (hX2 h).2.2⟩
  dsimp only [Option.toList, List.cons_append, List.nil_append]
  refine hB bX10_readSpare_39 _ _ _ _ _ _ _ kX10_readSpare_39 ?_
  dsimp only [bX10_readSpare_39, kx_wp, kx_step, kx_lI, kx_lL, kx_lA, kx_gl, kx_pI, kx_pL, kx_pR, kx_pA, kx_pV, kx_s1, kx_s2, kx_sl, kx_pre, kx_c2, kx_pl, kx_cmp, kx_oF, kx_eqN, kx_nil, kx_c1, kx_ft, kx_aI, kx_aL, kx_aR, kx_ln, Nat.reduceAdd, Option.toList, List.cons_append, List.nil_append, cf10_4, cf10_2, cf10_3, cf10_1, cf8_5, cf10_5]
  repeat (simp only [h64, kx_eq0, n64, cp10_4, cp10_2, cp10_5, ks_eq, ks_ss, r64, e5, cx_8o]; try dsimp only [kx_wp, kx_step, kx_lI, kx_lL, kx_lA, kx_gl, kx_pI, kx_pL, kx_pR, kx_pA, kx_pV, kx_s1, kx_s2, kx_sl, kx_pre, kx_c2, kx_pl, kx_cmp, kx_oF, kx_eqN, kx_nil, kx_c1, kx_ft, kx_aI, kx_aL, kx_aR, kx_ln, Nat.reduceAdd, Option.toList, List.cons_append, List.nil_append, cf10_4, cf10_2, cf10_3, cf10_1, cf8_5, cf10_5])
  all_goals (repeat' apply And.intro)
  all_goals ((try clear hB hC); first | exact True.intro | exact Nat.le_refl _ | exact hfin)


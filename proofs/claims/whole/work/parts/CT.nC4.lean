/-- the keeper with a clock refitted: works w in it, its old ones wo spare -/
def cx_RF (B : kx_P) (K : Nat → Int32) (cc w wo : Nat) (T : Nat → Int32) (n : Nat) (R : ck_Qt) (C : Nat → Int32) (d : Int64) (hv : Value) (s : Nat) : Option Value → kx_P → Nat → Prop := fun r P2 s2 => ∃ F V te qu Fo st, r = some (.int 1) ∧ s2 = s ∧ cx_D T n R F V te qu Fo st ∧ P2 = kx_set (kx_set (cx_rw (kx_set B 64 (kO 10 (kf (cr10 (.ref w)) (upd K 2 0)))) w V te qu Fo st F (kO 10 (kf (cr10 (.ref w)) (upd (upd K 2 0) 5 (-1))))) cc (kO 1 (kf (cr1 (.ref w) d hv) (upd (upd (upd C 6 (cj_min (C 6) (1440 * V 0))) 7 (cj_min (C 7) (V 6))) 8 0)))) 64 (kO 10 (kf (cr10 (.ref wo)) (upd (upd K 2 0) 5 (-1))))
def bX10_refit_0 : List kx_O := [(.aload_n 0, 0, 0, 0, .null), (.iload_n 1, 1, 0, 0, .null)]
theorem kX10_refit_0 : kx_oks kxL_X10 false cX10_refit 0 bX10_refit_0 = true := by decide +kernel
def bX10_refit_5 : List kx_O := [(.astore_n 3, 3, 0, 0, .null), (.aload_n 0, 0, 0, 0, .null), (.iload_n 2, 2, 0, 0, .null)]
theorem kX10_refit_5 : kx_oks kxL_X10 false cX10_refit 5 bX10_refit_5 = true := by decide +kernel
def bX10_refit_14 : List kx_O := [(.aload_n 0, 0, 0, 0, .null), (.iload_n 2, 2, 0, 0, .null)]
theorem kX10_refit_14 : kx_oks kxL_X10 false cX10_refit 14 bX10_refit_14 = true := by decide +kernel
def bX10_refit_19 : List kx_O := [(.istore 4, 4, 0, 0, .null), (.iload 4, 4, 0, 0, .null), (.ifCond .eq 9, 32, 0, 0, .null)]
theorem kX10_refit_19 : kx_oks kxL_X10 false cX10_refit 19 bX10_refit_19 = true := by decide +kernel
def bX10_refit_26 : List kx_O := [(.iload 4, 4, 0, 0, .null), (.bipush 10, 0, 0, 0, .int 10), (.isub, 0, 0, 0, .null), (.ireturn, 0, 0, 0, .null)]
theorem kX10_refit_26 : kx_oks kxL_X10 false cX10_refit 26 bX10_refit_26 = true := by decide +kernel
def bX10_refit_32 : List kx_O := [(.aload_n 3, 3, 0, 0, .null), (.getfield 180, 1, 2, 0, .null), (.astore 5, 5, 0, 0, .null), (.aload_n 3, 3, 0, 0, .null), (.aload_n 0, 0, 0, 0, .null), (.getfield 31, 10, 4, 0, .null)]
theorem kX10_refit_32 : kx_oks kxL_X10 false cX10_refit 32 bX10_refit_32 = true := by decide +kernel
def bX10_refit_46 : List kx_O := [(.aload_n 0, 0, 0, 0, .null), (.aload 5, 5, 0, 0, .null), (.putfield 31, 10, 4, 3, .null), (.iconst 1, 0, 0, 0, .int 1), (.ireturn, 0, 0, 0, .null)]
theorem kX10_refit_46 : kx_oks kxL_X10 false cX10_refit 46 bX10_refit_46 = true := by decide +kernel
theorem dX10_refit_2 : decode cX10_refit 2 = .ok (.invokevirtual 138, 3) := by decide +kernel
theorem dX10_refit_8 : decode cX10_refit 8 = .ok (.invokevirtual 115, 3) := by decide +kernel
theorem dX10_refit_11 : decode cX10_refit 11 = .ok (.invokestatic 95, 3) := by decide +kernel
theorem dX10_refit_16 : decode cX10_refit 16 = .ok (.invokevirtual 122, 3) := by decide +kernel
theorem dX10_refit_43 : decode cX10_refit 43 = .ok (.invokevirtual 210, 3) := by decide +kernel

set_option maxRecDepth 100000 in
set_option maxHeartbeats 4000000 in
theorem ct_X10_refit_f (l : Launch) (G : kx_G) (hst : l.stackTraces = false) {P : kx_P} {sz : Nat} {sv : Value} {K : Nat → Int32} (h64 : P 64 = kO 10 (kf (cr10 sv) K)) {n : Int32} {x : Int32} (hx : x < 0 ∨ K 7 ≤ x)  : kx_X l G sX10_refit 7 [.ref 64, .int (x), .int (n)] P sz "java/util/NoSuchElementException" := by
  refine kx_mkx hst kx_tab kxLok_X10 [some (.ref 64), some (.int (x)), some (.int (n)), none, none, none] ⟨by decide, rfl, by decide⟩ rfl rfl (fun g hB hC hX hT => ?_)
  refine hB bX10_refit_0 _ _ _ _ _ _ _ kX10_refit_0 ?_
  dsimp only [bX10_refit_0, kx_wp, kx_step, kx_lI, kx_lL, kx_lA, kx_gl, kx_pI, kx_pL, kx_pR, kx_pA, kx_pV, kx_s1, kx_s2, kx_sl, kx_pre, kx_c2, kx_pl, kx_cmp, kx_oF, kx_eqN, kx_nil, kx_c1, kx_ft, kx_aI, kx_aL, kx_aR, kx_ln, Nat.reduceAdd, Option.toList, List.cons_append, List.nil_append, cf1_2, cf10_4]
  repeat (simp only [h64, cp10_4, ks_eq, ks_ss]; try dsimp only [kx_wp, kx_step, kx_lI, kx_lL, kx_lA, kx_gl, kx_pI, kx_pL, kx_pR, kx_pA, kx_pV, kx_s1, kx_s2, kx_sl, kx_pre, kx_c2, kx_pl, kx_cmp, kx_oF, kx_eqN, kx_nil, kx_c1, kx_ft, kx_aI, kx_aL, kx_aR, kx_ln, Nat.reduceAdd, Option.toList, List.cons_append, List.nil_append, cf1_2, cf10_4])
  repeat' apply And.intro
  all_goals try (first | with_reducible assumption | (with_reducible refine ck_nzI ?_; simp; done) | (with_reducible refine ck_nzL ?_; simp; done) | (with_reducible refine vp_in_nI ?_ ?_ <;> first | omega | decide) | (with_reducible refine Nat.le_of_ble_eq_true ?_; rfl) | omega | exact Or.inl trivial | exact Or.inr trivial | exact Or.inl rfl | exact Or.inr rfl)
  exact hX.1 138 _ _ _ _ _ 10 _ _ _ _ _ lX10_138 (ct_X10_theClock_x l G hst h64 hx) ⟨by decide, rfl⟩ (h64) rfl rfl (Nat.le_of_ble_eq_true rfl) (by first | decide | omega) (by decide) dX10_refit_2

set_option maxRecDepth 100000 in
set_option maxHeartbeats 4000000 in
theorem ct_X10_refit_b (l : Launch) (G : kx_G) (hst : l.stackTraces = false) {P : kx_P} {sz : Nat} {sv : Value} {K : Nat → Int32} (h64 : P 64 = kO 10 (kf (cr10 sv) K)) {cl : Nat} {cn : Nat → Nat} (h69 : P 69 = kR 8 (fun i => if i < cl then some (cn i) else none)) (h7 : K 7 = nI cl) (hcl : cl ≤ 8) {c : Nat} (hc : c < cl) {n : Int32} (hb : ¬ cx_it n (K 2) = 1)  : kx_X l G sX10_refit 7 [.ref 64, .int (nI c), .int (n)] P sz "java/lang/IllegalArgumentException" := by
  refine kx_mkx hst kx_tab kxLok_X10 [some (.ref 64), some (.int (nI c)), some (.int (n)), none, none, none] ⟨by decide, rfl, by decide⟩ rfl rfl (fun g hB hC hX hT => ?_)
  refine hB bX10_refit_0 _ _ _ _ _ _ _ kX10_refit_0 ?_
  dsimp only [bX10_refit_0, kx_wp, kx_step, kx_lI, kx_lL, kx_lA, kx_gl, kx_pI, kx_pL, kx_pR, kx_pA, kx_pV, kx_s1, kx_s2, kx_sl, kx_pre, kx_c2, kx_pl, kx_cmp, kx_oF, kx_eqN, kx_nil, kx_c1, kx_ft, kx_aI, kx_aL, kx_aR, kx_ln, Nat.reduceAdd, Option.toList, List.cons_append, List.nil_append, cf1_2, cf10_4]
  repeat (simp only [h64, (show cx_it n (K 2) = 0 from (cx_it_b n (K 2)).resolve_right hb), cp10_4, ks_eq, ks_ss]; try dsimp only [kx_wp, kx_step, kx_lI, kx_lL, kx_lA, kx_gl, kx_pI, kx_pL, kx_pR, kx_pA, kx_pV, kx_s1, kx_s2, kx_sl, kx_pre, kx_c2, kx_pl, kx_cmp, kx_oF, kx_eqN, kx_nil, kx_c1, kx_ft, kx_aI, kx_aL, kx_aR, kx_ln, Nat.reduceAdd, Option.toList, List.cons_append, List.nil_append, cf1_2, cf10_4])
  repeat' apply And.intro
  all_goals try (first | with_reducible assumption | (with_reducible refine ck_nzI ?_; simp; done) | (with_reducible refine ck_nzL ?_; simp; done) | (with_reducible refine vp_in_nI ?_ ?_ <;> first | omega | decide) | (with_reducible refine Nat.le_of_ble_eq_true ?_; rfl) | omega | exact Or.inl trivial | exact Or.inr trivial | exact Or.inl rfl | exact Or.inr rfl)
  refine hC.1 138 _ _ _ _ _ _ _ 10 _ _ _ _ _ _ _ _ _ _ _ _ lX10_138 (ct_X10_theClock l G h64 h69 h7 hcl hc) ⟨by decide, rfl⟩ (h64) rfl rfl (Nat.le_of_ble_eq_true rfl) (by first | decide | omega) (by decide) (by omega) (by omega) dX10_refit_2 ?_
  refine hB bX10_refit_5 _ _ _ _ _ _ _ kX10_refit_5 ?_
  dsimp only [bX10_refit_5, kx_wp, kx_step, kx_lI, kx_lL, kx_lA, kx_gl, kx_pI, kx_pL, kx_pR, kx_pA, kx_pV, kx_s1, kx_s2, kx_sl, kx_pre, kx_c2, kx_pl, kx_cmp, kx_oF, kx_eqN, kx_nil, kx_c1, kx_ft, kx_aI, kx_aL, kx_aR, kx_ln, Nat.reduceAdd, Option.toList, List.cons_append, List.nil_append, cf1_2, cf10_4]
  repeat (simp only [h64, (show cx_it n (K 2) = 0 from (cx_it_b n (K 2)).resolve_right hb), cp10_4, ks_eq, ks_ss]; try dsimp only [kx_wp, kx_step, kx_lI, kx_lL, kx_lA, kx_gl, kx_pI, kx_pL, kx_pR, kx_pA, kx_pV, kx_s1, kx_s2, kx_sl, kx_pre, kx_c2, kx_pl, kx_cmp, kx_oF, kx_eqN, kx_nil, kx_c1, kx_ft, kx_aI, kx_aL, kx_aR, kx_ln, Nat.reduceAdd, Option.toList, List.cons_append, List.nil_append, cf1_2, cf10_4])
  repeat' apply And.intro
  all_goals try (first | with_reducible assumption | (with_reducible refine ck_nzI ?_; simp; done) | (with_reducible refine ck_nzL ?_; simp; done) | (with_reducible refine vp_in_nI ?_ ?_ <;> first | omega | decide) | (with_reducible refine Nat.le_of_ble_eq_true ?_; rfl) | omega | exact Or.inl trivial | exact Or.inr trivial | exact Or.inl rfl | exact Or.inr rfl)
  refine hC.1 115 _ _ _ _ _ _ _ 10 _ _ _ _ _ _ _ _ _ _ _ _ lX10_115 (ct_X10_isOnTape l G h64) ⟨by decide, rfl⟩ (h64) rfl rfl (Nat.le_of_ble_eq_true rfl) (by first | decide | omega) (by decide) (by omega) (by omega) dX10_refit_8 ?_
  rw [(cx_it_b n (K 2)).resolve_right hb]
  exact hX.2 95 _ _ _ _ _ _ _ _ lX10_95 (ct_X10_need_x l G hst) rfl rfl (Nat.le_of_ble_eq_true rfl) (by first | decide | omega) (by decide) dX10_refit_11

set_option maxRecDepth 100000 in
set_option maxHeartbeats 4000000 in
theorem ct_X10_refit_kr (l : Launch) (G : kx_G) {P : kx_P} {sz : Nat} {sv : Value} {K : Nat → Int32} (h64 : P 64 = kO 10 (kf (cr10 sv) K)) {cl : Nat} {cn : Nat → Nat} (h69 : P 69 = kR 8 (fun i => if i < cl then some (cn i) else none)) (h7 : K 7 = nI cl) (hcl : cl ≤ 8) {c : Nat} (hc : c < cl) {n : Nat} (hit : cx_it (nI n) (K 2) = 1) {T : Nat → Int32} {R : ck_Qt} {w : Nat} (hrs : kx_Mn l G sX10_readSpare 48 0 0 [.ref 64, .int (nI n)] P sz (cx_RS P K w T n R sz)) (hk : ¬ R.1.2.1 = -1)  : kx_Mn l G sX10_refit 50 0 0 [.ref 64, .int (nI c), .int (nI n)] P sz (fun r P2 s2 => r = some (.int (R.1.2.2.1 - 10)) ∧ cx_RS P K w T n R sz (some (.int R.1.2.2.1)) P2 s2) := by
  refine kx_mkn kx_tab kxLok_X10 (ini := false) [some (.ref 64), some (.int (nI c)), some (.int (nI n)), none, none, none] ⟨by decide, rfl, by decide, by decide⟩ (fun _ _ _ h => ⟨_, h.1⟩) rfl rfl (fun g hB hC hN => ?_)
  refine hB bX10_refit_0 _ _ _ _ _ _ _ kX10_refit_0 ?_
  dsimp only [bX10_refit_0, kx_wp, kx_step, kx_lI, kx_lL, kx_lA, kx_gl, kx_pI, kx_pL, kx_pR, kx_pA, kx_pV, kx_s1, kx_s2, kx_sl, kx_pre, kx_c2, kx_pl, kx_cmp, kx_oF, kx_eqN, kx_nil, kx_c1, kx_ft, kx_aI, kx_aL, kx_aR, kx_ln, Nat.reduceAdd, Option.toList, List.cons_append, List.nil_append, cf1_2, cf10_4]
  repeat (simp only [h64, hit, cp10_4, ks_eq, ks_ss]; try dsimp only [kx_wp, kx_step, kx_lI, kx_lL, kx_lA, kx_gl, kx_pI, kx_pL, kx_pR, kx_pA, kx_pV, kx_s1, kx_s2, kx_sl, kx_pre, kx_c2, kx_pl, kx_cmp, kx_oF, kx_eqN, kx_nil, kx_c1, kx_ft, kx_aI, kx_aL, kx_aR, kx_ln, Nat.reduceAdd, Option.toList, List.cons_append, List.nil_append, cf1_2, cf10_4])
  repeat' apply And.intro
  all_goals try (first | with_reducible assumption | (with_reducible refine ck_nzI ?_; simp; done) | (with_reducible refine ck_nzL ?_; simp; done) | (with_reducible refine vp_in_nI ?_ ?_ <;> first | omega | decide) | (with_reducible refine Nat.le_of_ble_eq_true ?_; rfl) | omega | exact Or.inl trivial | exact Or.inr trivial | exact Or.inl rfl | exact Or.inr rfl)
  refine hC.1 138 _ _ _ _ _ _ _ 10 _ _ _ _ _ _ _ _ _ _ _ _ lX10_138 (ct_X10_theClock l G h64 h69 h7 hcl hc) ⟨by decide, rfl⟩ (h64) rfl rfl (Nat.le_of_ble_eq_true rfl) (by first | decide | omega) (by decide) (by omega) (by omega) dX10_refit_2 ?_
  refine hB bX10_refit_5 _ _ _ _ _ _ _ kX10_refit_5 ?_
  dsimp only [bX10_refit_5, kx_wp, kx_step, kx_lI, kx_lL, kx_lA, kx_gl, kx_pI, kx_pL, kx_pR, kx_pA, kx_pV, kx_s1, kx_s2, kx_sl, kx_pre, kx_c2, kx_pl, kx_cmp, kx_oF, kx_eqN, kx_nil, kx_c1, kx_ft, kx_aI, kx_aL, kx_aR, kx_ln, Nat.reduceAdd, Option.toList, List.cons_append, List.nil_append, cf1_2, cf10_4]
  repeat (simp only [h64, hit, cp10_4, ks_eq, ks_ss]; try dsimp only [kx_wp, kx_step, kx_lI, kx_lL, kx_lA, kx_gl, kx_pI, kx_pL, kx_pR, kx_pA, kx_pV, kx_s1, kx_s2, kx_sl, kx_pre, kx_c2, kx_pl, kx_cmp, kx_oF, kx_eqN, kx_nil, kx_c1, kx_ft, kx_aI, kx_aL, kx_aR, kx_ln, Nat.reduceAdd, Option.toList, List.cons_append, List.nil_append, cf1_2, cf10_4])
  repeat' apply And.intro
  all_goals try (first | with_reducible assumption | (with_reducible refine ck_nzI ?_; simp; done) | (with_reducible refine ck_nzL ?_; simp; done) | (with_reducible refine vp_in_nI ?_ ?_ <;> first | omega | decide) | (with_reducible refine Nat.le_of_ble_eq_true ?_; rfl) | omega | exact Or.inl trivial | exact Or.inr trivial | exact Or.inl rfl | exact Or.inr rfl)
  refine hC.1 115 _ _ _ _ _ _ _ 10 _ _ _ _ _ _ _ _ _ _ _ _ lX10_115 (ct_X10_isOnTape l G h64) ⟨by decide, rfl⟩ (h64) rfl rfl (Nat.le_of_ble_eq_true rfl) (by first | decide | omega) (by decide) (by omega) (by omega) dX10_refit_8 ?_
  rw [hit]
  refine hC.2.1 95 _ _ _ _ _ _ _ _ _ _ _ _ _ _ _ _ _ lX10_95 (ct_X10_need l G (b := 1) (by decide)) rfl rfl (Nat.le_of_ble_eq_true rfl) (by first | decide | omega) (by decide) (by omega) (by omega) dX10_refit_11 ?_
  refine hB bX10_refit_14 _ _ _ _ _ _ _ kX10_refit_14 ?_
  dsimp only [bX10_refit_14, kx_wp, kx_step, kx_lI, kx_lL, kx_lA, kx_gl, kx_pI, kx_pL, kx_pR, kx_pA, kx_pV, kx_s1, kx_s2, kx_sl, kx_pre, kx_c2, kx_pl, kx_cmp, kx_oF, kx_eqN, kx_nil, kx_c1, kx_ft, kx_aI, kx_aL, kx_aR, kx_ln, Nat.reduceAdd, Option.toList, List.cons_append, List.nil_append, cf1_2, cf10_4]
  repeat (simp only [h64, hit, cp10_4, ks_eq, ks_ss]; try dsimp only [kx_wp, kx_step, kx_lI, kx_lL, kx_lA, kx_gl, kx_pI, kx_pL, kx_pR, kx_pA, kx_pV, kx_s1, kx_s2, kx_sl, kx_pre, kx_c2, kx_pl, kx_cmp, kx_oF, kx_eqN, kx_nil, kx_c1, kx_ft, kx_aI, kx_aL, kx_aR, kx_ln, Nat.reduceAdd, Option.toList, List.cons_append, List.nil_append, cf1_2, cf10_4])
  repeat' apply And.intro
  all_goals try (first | with_reducible assumption | (with_reducible refine ck_nzI ?_; simp; done) | (with_reducible refine ck_nzL ?_; simp; done) | (with_reducible refine vp_in_nI ?_ ?_ <;> first | omega | decide) | (with_reducible refine Nat.le_of_ble_eq_true ?_; rfl) | omega | exact Or.inl trivial | exact Or.inr trivial | exact Or.inl rfl | exact Or.inr rfl)
  refine hN.1 122 _ _ _ _ _ _ _ 10 _ _ _ _ _ _ _ _ _ _ lX10_122 (hrs) ⟨by decide, rfl⟩ (h64) rfl rfl (Nat.le_of_ble_eq_true rfl) (by omega) (by decide) (Nat.le_of_ble_eq_true rfl) (Nat.le_of_ble_eq_true rfl) dX10_refit_16 ?_
  rintro r2 P2 s2 hRS
  have hq2 : r2 = some (.int R.1.2.2.1) ∧ ¬ R.1.2.2.1 = 0 := by
    obtain ⟨F2, V2, te2, qu2, Fo2, st2, h1, h2, h3, h4, h5⟩ := hRS
    rw [if_neg hk] at h1
    exact ⟨h1, h5 hk⟩
  obtain ⟨rfl, hk0⟩ := hq2
  dsimp only [Option.toList, List.cons_append, List.nil_append]
  refine hB bX10_refit_19 _ _ _ _ _ _ _ kX10_refit_19 ?_
  dsimp only [bX10_refit_19, kx_wp, kx_step, kx_lI, kx_lL, kx_lA, kx_gl, kx_pI, kx_pL, kx_pR, kx_pA, kx_pV, kx_s1, kx_s2, kx_sl, kx_pre, kx_c2, kx_pl, kx_cmp, kx_oF, kx_eqN, kx_nil, kx_c1, kx_ft, kx_aI, kx_aL, kx_aR, kx_ln, Nat.reduceAdd, Option.toList, List.cons_append, List.nil_append, cf1_2, cf10_4]
  repeat (simp only [h64, hit, cp10_4, ks_eq, ks_ss]; try dsimp only [kx_wp, kx_step, kx_lI, kx_lL, kx_lA, kx_gl, kx_pI, kx_pL, kx_pR, kx_pA, kx_pV, kx_s1, kx_s2, kx_sl, kx_pre, kx_c2, kx_pl, kx_cmp, kx_oF, kx_eqN, kx_nil, kx_c1, kx_ft, kx_aI, kx_aL, kx_aR, kx_ln, Nat.reduceAdd, Option.toList, List.cons_append, List.nil_append, cf1_2, cf10_4])
  repeat' apply And.intro
  all_goals try (first | with_reducible assumption | (with_reducible refine ck_nzI ?_; simp; done) | (with_reducible refine ck_nzL ?_; simp; done) | (with_reducible refine vp_in_nI ?_ ?_ <;> first | omega | decide) | (with_reducible refine Nat.le_of_ble_eq_true ?_; rfl) | omega | exact Or.inl trivial | exact Or.inr trivial | exact Or.inl rfl | exact Or.inr rfl)
  · intro zc23
    first | exact absurd rfl zc23 | exact absurd zc23 (by decide) | exact absurd (by decide) zc23 | (exfalso; exact hk0 zc23) | (exfalso; simp_all; done)
  · intro zc23
    have ze23 := zc23
    refine hB bX10_refit_26 _ _ _ _ _ _ _ kX10_refit_26 ?_
    dsimp only [bX10_refit_26, kx_wp, kx_step, kx_lI, kx_lL, kx_lA, kx_gl, kx_pI, kx_pL, kx_pR, kx_pA, kx_pV, kx_s1, kx_s2, kx_sl, kx_pre, kx_c2, kx_pl, kx_cmp, kx_oF, kx_eqN, kx_nil, kx_c1, kx_ft, kx_aI, kx_aL, kx_aR, kx_ln, Nat.reduceAdd, Option.toList, List.cons_append, List.nil_append, cf1_2, cf10_4]
    repeat (simp only [h64, hit, cp10_4, ks_eq, ks_ss]; try dsimp only [kx_wp, kx_step, kx_lI, kx_lL, kx_lA, kx_gl, kx_pI, kx_pL, kx_pR, kx_pA, kx_pV, kx_s1, kx_s2, kx_sl, kx_pre, kx_c2, kx_pl, kx_cmp, kx_oF, kx_eqN, kx_nil, kx_c1, kx_ft, kx_aI, kx_aL, kx_aR, kx_ln, Nat.reduceAdd, Option.toList, List.cons_append, List.nil_append, cf1_2, cf10_4])
    all_goals (repeat' apply And.intro)
    all_goals ((try clear hB hC); first | exact True.intro | rfl | exact hRS)

set_option maxRecDepth 100000 in
set_option maxHeartbeats 4000000 in
theorem ct_X10_refit_tr (l : Launch) (G : kx_G) {P : kx_P} {sz : Nat} {sv : Value} {K : Nat → Int32} (h64 : P 64 = kO 10 (kf (cr10 sv) K)) {cl : Nat} {cn : Nat → Nat} (h69 : P 69 = kR 8 (fun i => if i < cl then some (cn i) else none)) (h7 : K 7 = nI cl) (hcl : cl ≤ 8) {c : Nat} (hc : c < cl) {n : Nat} (hit : cx_it (nI n) (K 2) = 1) {T : Nat → Int32} {R : ck_Qt} {w : Nat} (hrs : kx_Mn l G sX10_readSpare 48 0 0 [.ref 64, .int (nI n)] P sz (cx_RS P K w T n R sz)) (hw : 144 ≤ w) (hcw : cn c + 2 ≤ w ∨ w + 6 ≤ cn c) (h144 : 144 ≤ cn c) {wo : Nat} {hv : Value} {d : Int64} {C : Nat → Int32} (hq : P (cn c) = kO 1 (kf (cr1 (.ref wo) d hv) C)) (hk : R.1.2.1 = -1)  : kx_Mn l G sX10_refit 50 0 0 [.ref 64, .int (nI c), .int (nI n)] P sz (cx_RF P K (cn c) w wo T n R C d hv sz) := by
  refine kx_mkn kx_tab kxLok_X10 (ini := false) [some (.ref 64), some (.int (nI c)), some (.int (nI n)), none, none, none] ⟨by decide, rfl, by decide, by decide⟩ (fun _ _ _ h => by obtain ⟨_, _, _, _, _, _, h, -⟩ := h; exact ⟨_, h⟩) rfl rfl (fun g hB hC hN => ?_)
  refine hB bX10_refit_0 _ _ _ _ _ _ _ kX10_refit_0 ?_
  dsimp only [bX10_refit_0, kx_wp, kx_step, kx_lI, kx_lL, kx_lA, kx_gl, kx_pI, kx_pL, kx_pR, kx_pA, kx_pV, kx_s1, kx_s2, kx_sl, kx_pre, kx_c2, kx_pl, kx_cmp, kx_oF, kx_eqN, kx_nil, kx_c1, kx_ft, kx_aI, kx_aL, kx_aR, kx_ln, Nat.reduceAdd, Option.toList, List.cons_append, List.nil_append, cf1_2, cf10_4]
  repeat (simp only [h64, hit, kx_eq0, cp10_4, ks_eq, ks_ss]; try dsimp only [kx_wp, kx_step, kx_lI, kx_lL, kx_lA, kx_gl, kx_pI, kx_pL, kx_pR, kx_pA, kx_pV, kx_s1, kx_s2, kx_sl, kx_pre, kx_c2, kx_pl, kx_cmp, kx_oF, kx_eqN, kx_nil, kx_c1, kx_ft, kx_aI, kx_aL, kx_aR, kx_ln, Nat.reduceAdd, Option.toList, List.cons_append, List.nil_append, cf1_2, cf10_4])
  repeat' apply And.intro
  all_goals try (first | with_reducible assumption | (with_reducible refine ck_nzI ?_; simp; done) | (with_reducible refine ck_nzL ?_; simp; done) | (with_reducible refine vp_in_nI ?_ ?_ <;> first | omega | decide) | (with_reducible refine Nat.le_of_ble_eq_true ?_; rfl) | omega | exact Nat.le_of_ble_eq_true rfl | decide | trivial | exact Or.inl trivial | exact Or.inr trivial | exact Or.inl rfl | exact Or.inr rfl)
  refine hC.1 138 _ _ _ _ _ _ _ 10 _ _ _ _ _ _ _ _ _ _ _ _ lX10_138 (ct_X10_theClock l G h64 h69 h7 hcl hc) ⟨by decide, rfl⟩ (h64) rfl rfl (Nat.le_of_ble_eq_true rfl) (by first | decide | omega) (by decide) (by omega) (by omega) dX10_refit_2 ?_
  refine hB bX10_refit_5 _ _ _ _ _ _ _ kX10_refit_5 ?_
  dsimp only [bX10_refit_5, kx_wp, kx_step, kx_lI, kx_lL, kx_lA, kx_gl, kx_pI, kx_pL, kx_pR, kx_pA, kx_pV, kx_s1, kx_s2, kx_sl, kx_pre, kx_c2, kx_pl, kx_cmp, kx_oF, kx_eqN, kx_nil, kx_c1, kx_ft, kx_aI, kx_aL, kx_aR, kx_ln, Nat.reduceAdd, Option.toList, List.cons_append, List.nil_append, cf1_2, cf10_4]
  repeat (simp only [h64, hit, kx_eq0, cp10_4, ks_eq, ks_ss]; try dsimp only [kx_wp, kx_step, kx_lI, kx_lL, kx_lA, kx_gl, kx_pI, kx_pL, kx_pR, kx_pA, kx_pV, kx_s1, kx_s2, kx_sl, kx_pre, kx_c2, kx_pl, kx_cmp, kx_oF, kx_eqN, kx_nil, kx_c1, kx_ft, kx_aI, kx_aL, kx_aR, kx_ln, Nat.reduceAdd, Option.toList, List.cons_append, List.nil_append, cf1_2, cf10_4])
  repeat' apply And.intro
  all_goals try (first | with_reducible assumption | (with_reducible refine ck_nzI ?_; simp; done) | (with_reducible refine ck_nzL ?_; simp; done) | (with_reducible refine vp_in_nI ?_ ?_ <;> first | omega | decide) | (with_reducible refine Nat.le_of_ble_eq_true ?_; rfl) | omega | exact Nat.le_of_ble_eq_true rfl | decide | trivial | exact Or.inl trivial | exact Or.inr trivial | exact Or.inl rfl | exact Or.inr rfl)
  refine hC.1 115 _ _ _ _ _ _ _ 10 _ _ _ _ _ _ _ _ _ _ _ _ lX10_115 (ct_X10_isOnTape l G h64) ⟨by decide, rfl⟩ (h64) rfl rfl (Nat.le_of_ble_eq_true rfl) (by first | decide | omega) (by decide) (by omega) (by omega) dX10_refit_8 ?_
  rw [hit]
  refine hC.2.1 95 _ _ _ _ _ _ _ _ _ _ _ _ _ _ _ _ _ lX10_95 (ct_X10_need l G (b := 1) (by decide)) rfl rfl (Nat.le_of_ble_eq_true rfl) (by first | decide | omega) (by decide) (by omega) (by omega) dX10_refit_11 ?_
  refine hB bX10_refit_14 _ _ _ _ _ _ _ kX10_refit_14 ?_
  dsimp only [bX10_refit_14, kx_wp, kx_step, kx_lI, kx_lL, kx_lA, kx_gl, kx_pI, kx_pL, kx_pR, kx_pA, kx_pV, kx_s1, kx_s2, kx_sl, kx_pre, kx_c2, kx_pl, kx_cmp, kx_oF, kx_eqN, kx_nil, kx_c1, kx_ft, kx_aI, kx_aL, kx_aR, kx_ln, Nat.reduceAdd, Option.toList, List.cons_append, List.nil_append, cf1_2, cf10_4]
  repeat (simp only [h64, hit, kx_eq0, cp10_4, ks_eq, ks_ss]; try dsimp only [kx_wp, kx_step, kx_lI, kx_lL, kx_lA, kx_gl, kx_pI, kx_pL, kx_pR, kx_pA, kx_pV, kx_s1, kx_s2, kx_sl, kx_pre, kx_c2, kx_pl, kx_cmp, kx_oF, kx_eqN, kx_nil, kx_c1, kx_ft, kx_aI, kx_aL, kx_aR, kx_ln, Nat.reduceAdd, Option.toList, List.cons_append, List.nil_append, cf1_2, cf10_4])
  repeat' apply And.intro
  all_goals try (first | with_reducible assumption | (with_reducible refine ck_nzI ?_; simp; done) | (with_reducible refine ck_nzL ?_; simp; done) | (with_reducible refine vp_in_nI ?_ ?_ <;> first | omega | decide) | (with_reducible refine Nat.le_of_ble_eq_true ?_; rfl) | omega | exact Nat.le_of_ble_eq_true rfl | decide | trivial | exact Or.inl trivial | exact Or.inr trivial | exact Or.inl rfl | exact Or.inr rfl)
  refine hN.1 122 _ _ _ _ _ _ _ 10 _ _ _ _ _ _ _ _ _ _ lX10_122 (hrs) ⟨by decide, rfl⟩ (h64) rfl rfl (Nat.le_of_ble_eq_true rfl) (by omega) (by decide) (Nat.le_of_ble_eq_true rfl) (Nat.le_of_ble_eq_true rfl) dX10_refit_16 ?_
  rintro r2 P2 s2 ⟨F2, V2, te2, qu2, Fo2, st2, h1, q2, h3, hD2, -⟩
  rw [q2]
  have hD2 := hD2 hk
  rw [if_pos hk] at h1
  subst h1
  rw [hk] at h3
  have w64 : P2 64 = kO 10 (kf (cr10 (.ref w)) (upd (upd K 2 0) 5 (-1))) := by rw [h3]; exact cx_rw_64
  have a0 : P2 w = kO 9 (kf (cr9 w) V2) := by rw [h3]; exact cx_rw_w hw
  have qc : P2 (cn c) = kO 1 (kf (cr1 (.ref wo) d hv) C) := by rw [h3]; exact (cx_rw_o (by omega) (by omega) (by omega)).trans ((ks_ne (by omega)).trans hq)
  have hfin : cx_RF P K (cn c) w wo T n R C d hv sz (some (.int 1)) (kx_set (kx_set P2 (cn c) (kO 1 (kf (cr1 (.ref w) d hv) (upd (upd (upd C 6 (cj_min (C 6) (1440 * V2 0))) 7 (cj_min (C 7) (V2 6))) 8 0)))) 64 (kO 10 (kf (cr10 (.ref wo)) (upd (upd K 2 0) 5 (-1))))) sz := ⟨F2, V2, te2, qu2, Fo2, st2, rfl, rfl, hD2, by rw [h3]⟩
  have hf1 := ct_X1_fit l G (sz := sz) qc a0 (by omega) (by omega)
  clear h3 hD2
  have n64 : ∀ x, kx_set P2 (cn c) x 64 = kO 10 (kf (cr10 (.ref w)) (upd (upd K 2 0) 5 (-1))) := fun x => (ks_ne (by omega)).trans w64
  dsimp only [Option.toList, List.cons_append, List.nil_append]
  refine hB bX10_refit_19 _ _ _ _ _ _ _ kX10_refit_19 ?_
  dsimp only [bX10_refit_19, kx_wp, kx_step, kx_lI, kx_lL, kx_lA, kx_gl, kx_pI, kx_pL, kx_pR, kx_pA, kx_pV, kx_s1, kx_s2, kx_sl, kx_pre, kx_c2, kx_pl, kx_cmp, kx_oF, kx_eqN, kx_nil, kx_c1, kx_ft, kx_aI, kx_aL, kx_aR, kx_ln, Nat.reduceAdd, Option.toList, List.cons_append, List.nil_append, cf1_2, cf10_4]
  repeat (simp only [h64, hit, kx_eq0, cp10_4, ks_eq, ks_ss, w64, qc, n64]; try dsimp only [kx_wp, kx_step, kx_lI, kx_lL, kx_lA, kx_gl, kx_pI, kx_pL, kx_pR, kx_pA, kx_pV, kx_s1, kx_s2, kx_sl, kx_pre, kx_c2, kx_pl, kx_cmp, kx_oF, kx_eqN, kx_nil, kx_c1, kx_ft, kx_aI, kx_aL, kx_aR, kx_ln, Nat.reduceAdd, Option.toList, List.cons_append, List.nil_append, cf1_2, cf10_4])
  repeat' apply And.intro
  all_goals try (first | with_reducible assumption | (with_reducible refine ck_nzI ?_; simp; done) | (with_reducible refine ck_nzL ?_; simp; done) | (with_reducible refine vp_in_nI ?_ ?_ <;> first | omega | decide) | (with_reducible refine Nat.le_of_ble_eq_true ?_; rfl) | omega | exact Nat.le_of_ble_eq_true rfl | decide | trivial | exact Or.inl trivial | exact Or.inr trivial | exact Or.inl rfl | exact Or.inr rfl)
  · intro zc23
    have ze23 := zc23
    refine hB bX10_refit_32 _ _ _ _ _ _ _ kX10_refit_32 ?_
    dsimp only [bX10_refit_32, kx_wp, kx_step, kx_lI, kx_lL, kx_lA, kx_gl, kx_pI, kx_pL, kx_pR, kx_pA, kx_pV, kx_s1, kx_s2, kx_sl, kx_pre, kx_c2, kx_pl, kx_cmp, kx_oF, kx_eqN, kx_nil, kx_c1, kx_ft, kx_aI, kx_aL, kx_aR, kx_ln, Nat.reduceAdd, Option.toList, List.cons_append, List.nil_append, cf1_2, cf10_4]
    repeat (simp only [h64, hit, kx_eq0, cp10_4, ks_eq, ks_ss, w64, qc, n64]; try dsimp only [kx_wp, kx_step, kx_lI, kx_lL, kx_lA, kx_gl, kx_pI, kx_pL, kx_pR, kx_pA, kx_pV, kx_s1, kx_s2, kx_sl, kx_pre, kx_c2, kx_pl, kx_cmp, kx_oF, kx_eqN, kx_nil, kx_c1, kx_ft, kx_aI, kx_aL, kx_aR, kx_ln, Nat.reduceAdd, Option.toList, List.cons_append, List.nil_append, cf1_2, cf10_4])
    repeat' apply And.intro
    all_goals try (first | with_reducible assumption | (with_reducible refine ck_nzI ?_; simp; done) | (with_reducible refine ck_nzL ?_; simp; done) | (with_reducible refine vp_in_nI ?_ ?_ <;> first | omega | decide) | (with_reducible refine Nat.le_of_ble_eq_true ?_; rfl) | omega | exact Nat.le_of_ble_eq_true rfl | decide | trivial | exact Or.inl trivial | exact Or.inr trivial | exact Or.inl rfl | exact Or.inr rfl)
    refine hC.1 210 _ _ _ _ _ _ _ 1 _ _ _ _ _ _ _ _ _ _ _ _ lX10_210 (hf1) ⟨by decide, rfl⟩ (qc) rfl rfl (Nat.le_of_ble_eq_true rfl) (by first | decide | omega) (by decide) (Nat.le_of_ble_eq_true rfl) (Nat.le_of_ble_eq_true rfl) dX10_refit_43 ?_
    refine hB bX10_refit_46 _ _ _ _ _ _ _ kX10_refit_46 ?_
    dsimp only [bX10_refit_46, kx_wp, kx_step, kx_lI, kx_lL, kx_lA, kx_gl, kx_pI, kx_pL, kx_pR, kx_pA, kx_pV, kx_s1, kx_s2, kx_sl, kx_pre, kx_c2, kx_pl, kx_cmp, kx_oF, kx_eqN, kx_nil, kx_c1, kx_ft, kx_aI, kx_aL, kx_aR, kx_ln, Nat.reduceAdd, Option.toList, List.cons_append, List.nil_append, cf1_2, cf10_4]
    repeat (simp only [h64, hit, kx_eq0, cp10_4, ks_eq, ks_ss, w64, qc, n64]; try dsimp only [kx_wp, kx_step, kx_lI, kx_lL, kx_lA, kx_gl, kx_pI, kx_pL, kx_pR, kx_pA, kx_pV, kx_s1, kx_s2, kx_sl, kx_pre, kx_c2, kx_pl, kx_cmp, kx_oF, kx_eqN, kx_nil, kx_c1, kx_ft, kx_aI, kx_aL, kx_aR, kx_ln, Nat.reduceAdd, Option.toList, List.cons_append, List.nil_append, cf1_2, cf10_4])
    all_goals (repeat' apply And.intro)
    all_goals ((try clear hB hC); first | exact True.intro | decide | exact hfin)
  · intro zc23
    first | exact absurd rfl zc23 | exact absurd zc23 (by decide) | exact absurd (by decide) zc23 | (exfalso; exact zc23 rfl) | (exfalso; simp_all; done)

set_option maxRecDepth 100000 in
set_option maxHeartbeats 4000000 in
theorem ct_X10_refit_kn (l : Launch) (G : kx_G) {P : kx_P} {sz : Nat} {sv : Value} {K : Nat → Int32} (h64 : P 64 = kO 10 (kf (cr10 sv) K)) {cl : Nat} {cn : Nat → Nat} (h69 : P 69 = kR 8 (fun i => if i < cl then some (cn i) else none)) (h7 : K 7 = nI cl) (hcl : cl ≤ 8) {c : Nat} (hc : c < cl) {n : Nat} (hit : cx_it (nI n) (K 2) = 1) {T : Nat → Int32} {R : ck_Qt} (hrs : kx_Mn l G sX10_readSpare 48 6 512 [.ref 64, .int (nI n)] P sz (cx_RS (cx_nw P sz) K sz T n R (sz + 6))) (hk : ¬ R.1.2.1 = -1)  : kx_Mn l G sX10_refit 50 6 512 [.ref 64, .int (nI c), .int (nI n)] P sz (fun r P2 s2 => r = some (.int (R.1.2.2.1 - 10)) ∧ cx_RS (cx_nw P sz) K sz T n R (sz + 6) (some (.int R.1.2.2.1)) P2 s2) := by
  refine kx_mkn kx_tab kxLok_X10 (ini := false) [some (.ref 64), some (.int (nI c)), some (.int (nI n)), none, none, none] ⟨by decide, rfl, by decide, by decide⟩ (fun _ _ _ h => ⟨_, h.1⟩) rfl rfl (fun g hB hC hN => ?_)
  refine hB bX10_refit_0 _ _ _ _ _ _ _ kX10_refit_0 ?_
  dsimp only [bX10_refit_0, kx_wp, kx_step, kx_lI, kx_lL, kx_lA, kx_gl, kx_pI, kx_pL, kx_pR, kx_pA, kx_pV, kx_s1, kx_s2, kx_sl, kx_pre, kx_c2, kx_pl, kx_cmp, kx_oF, kx_eqN, kx_nil, kx_c1, kx_ft, kx_aI, kx_aL, kx_aR, kx_ln, Nat.reduceAdd, Option.toList, List.cons_append, List.nil_append, cf1_2, cf10_4]
  repeat (simp only [h64, hit, cp10_4, ks_eq, ks_ss]; try dsimp only [kx_wp, kx_step, kx_lI, kx_lL, kx_lA, kx_gl, kx_pI, kx_pL, kx_pR, kx_pA, kx_pV, kx_s1, kx_s2, kx_sl, kx_pre, kx_c2, kx_pl, kx_cmp, kx_oF, kx_eqN, kx_nil, kx_c1, kx_ft, kx_aI, kx_aL, kx_aR, kx_ln, Nat.reduceAdd, Option.toList, List.cons_append, List.nil_append, cf1_2, cf10_4])
  repeat' apply And.intro
  all_goals try (first | with_reducible assumption | (with_reducible refine ck_nzI ?_; simp; done) | (with_reducible refine ck_nzL ?_; simp; done) | (with_reducible refine vp_in_nI ?_ ?_ <;> first | omega | decide) | (with_reducible refine Nat.le_of_ble_eq_true ?_; rfl) | omega | exact Or.inl trivial | exact Or.inr trivial | exact Or.inl rfl | exact Or.inr rfl)
  refine hC.1 138 _ _ _ _ _ _ _ 10 _ _ _ _ _ _ _ _ _ _ _ _ lX10_138 (ct_X10_theClock l G h64 h69 h7 hcl hc) ⟨by decide, rfl⟩ (h64) rfl rfl (Nat.le_of_ble_eq_true rfl) (by first | decide | omega) (by decide) (by omega) (by omega) dX10_refit_2 ?_
  refine hB bX10_refit_5 _ _ _ _ _ _ _ kX10_refit_5 ?_
  dsimp only [bX10_refit_5, kx_wp, kx_step, kx_lI, kx_lL, kx_lA, kx_gl, kx_pI, kx_pL, kx_pR, kx_pA, kx_pV, kx_s1, kx_s2, kx_sl, kx_pre, kx_c2, kx_pl, kx_cmp, kx_oF, kx_eqN, kx_nil, kx_c1, kx_ft, kx_aI, kx_aL, kx_aR, kx_ln, Nat.reduceAdd, Option.toList, List.cons_append, List.nil_append, cf1_2, cf10_4]
  repeat (simp only [h64, hit, cp10_4, ks_eq, ks_ss]; try dsimp only [kx_wp, kx_step, kx_lI, kx_lL, kx_lA, kx_gl, kx_pI, kx_pL, kx_pR, kx_pA, kx_pV, kx_s1, kx_s2, kx_sl, kx_pre, kx_c2, kx_pl, kx_cmp, kx_oF, kx_eqN, kx_nil, kx_c1, kx_ft, kx_aI, kx_aL, kx_aR, kx_ln, Nat.reduceAdd, Option.toList, List.cons_append, List.nil_append, cf1_2, cf10_4])
  repeat' apply And.intro
  all_goals try (first | with_reducible assumption | (with_reducible refine ck_nzI ?_; simp; done) | (with_reducible refine ck_nzL ?_; simp; done) | (with_reducible refine vp_in_nI ?_ ?_ <;> first | omega | decide) | (with_reducible refine Nat.le_of_ble_eq_true ?_; rfl) | omega | exact Or.inl trivial | exact Or.inr trivial | exact Or.inl rfl | exact Or.inr rfl)
  refine hC.1 115 _ _ _ _ _ _ _ 10 _ _ _ _ _ _ _ _ _ _ _ _ lX10_115 (ct_X10_isOnTape l G h64) ⟨by decide, rfl⟩ (h64) rfl rfl (Nat.le_of_ble_eq_true rfl) (by first | decide | omega) (by decide) (by omega) (by omega) dX10_refit_8 ?_
  rw [hit]
  refine hC.2.1 95 _ _ _ _ _ _ _ _ _ _ _ _ _ _ _ _ _ lX10_95 (ct_X10_need l G (b := 1) (by decide)) rfl rfl (Nat.le_of_ble_eq_true rfl) (by first | decide | omega) (by decide) (by omega) (by omega) dX10_refit_11 ?_
  refine hB bX10_refit_14 _ _ _ _ _ _ _ kX10_refit_14 ?_
  dsimp only [bX10_refit_14, kx_wp, kx_step, kx_lI, kx_lL, kx_lA, kx_gl, kx_pI, kx_pL, kx_pR, kx_pA, kx_pV, kx_s1, kx_s2, kx_sl, kx_pre, kx_c2, kx_pl, kx_cmp, kx_oF, kx_eqN, kx_nil, kx_c1, kx_ft, kx_aI, kx_aL, kx_aR, kx_ln, Nat.reduceAdd, Option.toList, List.cons_append, List.nil_append, cf1_2, cf10_4]
  repeat (simp only [h64, hit, cp10_4, ks_eq, ks_ss]; try dsimp only [kx_wp, kx_step, kx_lI, kx_lL, kx_lA, kx_gl, kx_pI, kx_pL, kx_pR, kx_pA, kx_pV, kx_s1, kx_s2, kx_sl, kx_pre, kx_c2, kx_pl, kx_cmp, kx_oF, kx_eqN, kx_nil, kx_c1, kx_ft, kx_aI, kx_aL, kx_aR, kx_ln, Nat.reduceAdd, Option.toList, List.cons_append, List.nil_append, cf1_2, cf10_4])
  repeat' apply And.intro
  all_goals try (first | with_reducible assumption | (with_reducible refine ck_nzI ?_; simp; done) | (with_reducible refine ck_nzL ?_; simp; done) | (with_reducible refine vp_in_nI ?_ ?_ <;> first | omega | decide) | (with_reducible refine Nat.le_of_ble_eq_true ?_; rfl) | omega | exact Or.inl trivial | exact Or.inr trivial | exact Or.inl rfl | exact Or.inr rfl)
  refine hN.1 122 _ _ _ _ _ _ _ 10 _ _ _ _ _ _ _ _ _ _ lX10_122 (hrs) ⟨by decide, rfl⟩ (h64) rfl rfl (Nat.le_of_ble_eq_true rfl) (by omega) (by decide) (Nat.le_of_ble_eq_true rfl) (Nat.le_of_ble_eq_true rfl) dX10_refit_16 ?_
  rintro r2 P2 s2 hRS
  have hq2 : r2 = some (.int R.1.2.2.1) ∧ ¬ R.1.2.2.1 = 0 := by
    obtain ⟨F2, V2, te2, qu2, Fo2, st2, h1, h2, h3, h4, h5⟩ := hRS
    rw [if_neg hk] at h1
    exact ⟨h1, h5 hk⟩
  obtain ⟨rfl, hk0⟩ := hq2
  dsimp only [Option.toList, List.cons_append, List.nil_append]
  refine hB bX10_refit_19 _ _ _ _ _ _ _ kX10_refit_19 ?_
  dsimp only [bX10_refit_19, kx_wp, kx_step, kx_lI, kx_lL, kx_lA, kx_gl, kx_pI, kx_pL, kx_pR, kx_pA, kx_pV, kx_s1, kx_s2, kx_sl, kx_pre, kx_c2, kx_pl, kx_cmp, kx_oF, kx_eqN, kx_nil, kx_c1, kx_ft, kx_aI, kx_aL, kx_aR, kx_ln, Nat.reduceAdd, Option.toList, List.cons_append, List.nil_append, cf1_2, cf10_4]
  repeat (simp only [h64, hit, cp10_4, ks_eq, ks_ss]; try dsimp only [kx_wp, kx_step, kx_lI, kx_lL, kx_lA, kx_gl, kx_pI, kx_pL, kx_pR, kx_pA, kx_pV, kx_s1, kx_s2, kx_sl, kx_pre, kx_c2, kx_pl, kx_cmp, kx_oF, kx_eqN, kx_nil, kx_c1, kx_ft, kx_aI, kx_aL, kx_aR, kx_ln, Nat.reduceAdd, Option.toList, List.cons_append, List.nil_append, cf1_2, cf10_4])
  repeat' apply And.intro
  all_goals try (first | with_reducible assumption | (with_reducible refine ck_nzI ?_; simp; done) | (with_reducible refine ck_nzL ?_; simp; done) | (with_reducible refine vp_in_nI ?_ ?_ <;> first | omega | decide) | (with_reducible refine Nat.le_of_ble_eq_true ?_; rfl) | omega | exact Or.inl trivial | exact Or.inr trivial | exact Or.inl rfl | exact Or.inr rfl)
  · intro zc23
    first | exact absurd rfl zc23 | exact absurd zc23 (by decide) | exact absurd (by decide) zc23 | (exfalso; exact hk0 zc23) | (exfalso; simp_all; done)
  · intro zc23
    have ze23 := zc23
    refine hB bX10_refit_26 _ _ _ _ _ _ _ kX10_refit_26 ?_
    dsimp only [bX10_refit_26, kx_wp, kx_step, kx_lI, kx_lL, kx_lA, kx_gl, kx_pI, kx_pL, kx_pR, kx_pA, kx_pV, kx_s1, kx_s2, kx_sl, kx_pre, kx_c2, kx_pl, kx_cmp, kx_oF, kx_eqN, kx_nil, kx_c1, kx_ft, kx_aI, kx_aL, kx_aR, kx_ln, Nat.reduceAdd, Option.toList, List.cons_append, List.nil_append, cf1_2, cf10_4]
    repeat (simp only [h64, hit, cp10_4, ks_eq, ks_ss]; try dsimp only [kx_wp, kx_step, kx_lI, kx_lL, kx_lA, kx_gl, kx_pI, kx_pL, kx_pR, kx_pA, kx_pV, kx_s1, kx_s2, kx_sl, kx_pre, kx_c2, kx_pl, kx_cmp, kx_oF, kx_eqN, kx_nil, kx_c1, kx_ft, kx_aI, kx_aL, kx_aR, kx_ln, Nat.reduceAdd, Option.toList, List.cons_append, List.nil_append, cf1_2, cf10_4])
    all_goals (repeat' apply And.intro)
    all_goals ((try clear hB hC); first | exact True.intro | rfl | exact hRS)

set_option maxRecDepth 100000 in
set_option maxHeartbeats 4000000 in
theorem ct_X10_refit_tn (l : Launch) (G : kx_G) {P : kx_P} {sz : Nat} {sv : Value} {K : Nat → Int32} (h64 : P 64 = kO 10 (kf (cr10 sv) K)) {cl : Nat} {cn : Nat → Nat} (h69 : P 69 = kR 8 (fun i => if i < cl then some (cn i) else none)) (h7 : K 7 = nI cl) (hcl : cl ≤ 8) {c : Nat} (hc : c < cl) {n : Nat} (hit : cx_it (nI n) (K 2) = 1) {T : Nat → Int32} {R : ck_Qt} (hrs : kx_Mn l G sX10_readSpare 48 6 512 [.ref 64, .int (nI n)] P sz (cx_RS (cx_nw P sz) K sz T n R (sz + 6))) (hw : 144 ≤ sz) (hcw : cn c + 2 ≤ sz) (h144 : 144 ≤ cn c) {wo : Nat} {hv : Value} {d : Int64} {C : Nat → Int32} (hq : P (cn c) = kO 1 (kf (cr1 (.ref wo) d hv) C)) (hk : R.1.2.1 = -1)  : kx_Mn l G sX10_refit 50 6 512 [.ref 64, .int (nI c), .int (nI n)] P sz (cx_RF (cx_nw P sz) K (cn c) sz wo T n R C d hv (sz + 6)) := by
  refine kx_mkn kx_tab kxLok_X10 (ini := false) [some (.ref 64), some (.int (nI c)), some (.int (nI n)), none, none, none] ⟨by decide, rfl, by decide, by decide⟩ (fun _ _ _ h => by obtain ⟨_, _, _, _, _, _, h, -⟩ := h; exact ⟨_, h⟩) rfl rfl (fun g hB hC hN => ?_)
  refine hB bX10_refit_0 _ _ _ _ _ _ _ kX10_refit_0 ?_
  dsimp only [bX10_refit_0, kx_wp, kx_step, kx_lI, kx_lL, kx_lA, kx_gl, kx_pI, kx_pL, kx_pR, kx_pA, kx_pV, kx_s1, kx_s2, kx_sl, kx_pre, kx_c2, kx_pl, kx_cmp, kx_oF, kx_eqN, kx_nil, kx_c1, kx_ft, kx_aI, kx_aL, kx_aR, kx_ln, Nat.reduceAdd, Option.toList, List.cons_append, List.nil_append, cf1_2, cf10_4]
  repeat (simp only [h64, hit, kx_eq0, cp10_4, ks_eq, ks_ss]; try dsimp only [kx_wp, kx_step, kx_lI, kx_lL, kx_lA, kx_gl, kx_pI, kx_pL, kx_pR, kx_pA, kx_pV, kx_s1, kx_s2, kx_sl, kx_pre, kx_c2, kx_pl, kx_cmp, kx_oF, kx_eqN, kx_nil, kx_c1, kx_ft, kx_aI, kx_aL, kx_aR, kx_ln, Nat.reduceAdd, Option.toList, List.cons_append, List.nil_append, cf1_2, cf10_4])
  repeat' apply And.intro
  all_goals try (first | with_reducible assumption | (with_reducible refine ck_nzI ?_; simp; done) | (with_reducible refine ck_nzL ?_; simp; done) | (with_reducible refine vp_in_nI ?_ ?_ <;> first | omega | decide) | (with_reducible refine Nat.le_of_ble_eq_true ?_; rfl) | omega | exact Nat.le_of_ble_eq_true rfl | decide | trivial | exact Or.inl trivial | exact Or.inr trivial | exact Or.inl rfl | exact Or.inr rfl)
  refine hC.1 138 _ _ _ _ _ _ _ 10 _ _ _ _ _ _ _ _ _ _ _ _ lX10_138 (ct_X10_theClock l G h64 h69 h7 hcl hc) ⟨by decide, rfl⟩ (h64) rfl rfl (Nat.le_of_ble_eq_true rfl) (by first | decide | omega) (by decide) (by omega) (by omega) dX10_refit_2 ?_
  refine hB bX10_refit_5 _ _ _ _ _ _ _ kX10_refit_5 ?_
  dsimp only [bX10_refit_5, kx_wp, kx_step, kx_lI, kx_lL, kx_lA, kx_gl, kx_pI, kx_pL, kx_pR, kx_pA, kx_pV, kx_s1, kx_s2, kx_sl, kx_pre, kx_c2, kx_pl, kx_cmp, kx_oF, kx_eqN, kx_nil, kx_c1, kx_ft, kx_aI, kx_aL, kx_aR, kx_ln, Nat.reduceAdd, Option.toList, List.cons_append, List.nil_append, cf1_2, cf10_4]
  repeat (simp only [h64, hit, kx_eq0, cp10_4, ks_eq, ks_ss]; try dsimp only [kx_wp, kx_step, kx_lI, kx_lL, kx_lA, kx_gl, kx_pI, kx_pL, kx_pR, kx_pA, kx_pV, kx_s1, kx_s2, kx_sl, kx_pre, kx_c2, kx_pl, kx_cmp, kx_oF, kx_eqN, kx_nil, kx_c1, kx_ft, kx_aI, kx_aL, kx_aR, kx_ln, Nat.reduceAdd, Option.toList, List.cons_append, List.nil_append, cf1_2, cf10_4])
  repeat' apply And.intro
  all_goals try (first | with_reducible assumption | (with_reducible refine ck_nzI ?_; simp; done) | (with_reducible refine ck_nzL ?_; simp; done) | (with_reducible refine vp_in_nI ?_ ?_ <;> first | omega | decide) | (with_reducible refine Nat.le_of_ble_eq_true ?_; rfl) | omega | exact Nat.le_of_ble_eq_true rfl | decide | trivial | exact Or.inl trivial | exact Or.inr trivial | exact Or.inl rfl | exact Or.inr rfl)
  refine hC.1 115 _ _ _ _ _ _ _ 10 _ _ _ _ _ _ _ _ _ _ _ _ lX10_115 (ct_X10_isOnTape l G h64) ⟨by decide, rfl⟩ (h64) rfl rfl (Nat.le_of_ble_eq_true rfl) (by first | decide | omega) (by decide) (by omega) (by omega) dX10_refit_8 ?_
  rw [hit]
  refine hC.2.1 95 _ _ _ _ _ _ _ _ _ _ _ _ _ _ _ _ _ lX10_95 (ct_X10_need l G (b := 1) (by decide)) rfl rfl (Nat.le_of_ble_eq_true rfl) (by first | decide | omega) (by decide) (by omega) (by omega) dX10_refit_11 ?_
  refine hB bX10_refit_14 _ _ _ _ _ _ _ kX10_refit_14 ?_
  dsimp only [bX10_refit_14, kx_wp, kx_step, kx_lI, kx_lL, kx_lA, kx_gl, kx_pI, kx_pL, kx_pR, kx_pA, kx_pV, kx_s1, kx_s2, kx_sl, kx_pre, kx_c2, kx_pl, kx_cmp, kx_oF, kx_eqN, kx_nil, kx_c1, kx_ft, kx_aI, kx_aL, kx_aR, kx_ln, Nat.reduceAdd, Option.toList, List.cons_append, List.nil_append, cf1_2, cf10_4]
  repeat (simp only [h64, hit, kx_eq0, cp10_4, ks_eq, ks_ss]; try dsimp only [kx_wp, kx_step, kx_lI, kx_lL, kx_lA, kx_gl, kx_pI, kx_pL, kx_pR, kx_pA, kx_pV, kx_s1, kx_s2, kx_sl, kx_pre, kx_c2, kx_pl, kx_cmp, kx_oF, kx_eqN, kx_nil, kx_c1, kx_ft, kx_aI, kx_aL, kx_aR, kx_ln, Nat.reduceAdd, Option.toList, List.cons_append, List.nil_append, cf1_2, cf10_4])
  repeat' apply And.intro
  all_goals try (first | with_reducible assumption | (with_reducible refine ck_nzI ?_; simp; done) | (with_reducible refine ck_nzL ?_; simp; done) | (with_reducible refine vp_in_nI ?_ ?_ <;> first | omega | decide) | (with_reducible refine Nat.le_of_ble_eq_true ?_; rfl) | omega | exact Nat.le_of_ble_eq_true rfl | decide | trivial | exact Or.inl trivial | exact Or.inr trivial | exact Or.inl rfl | exact Or.inr rfl)
  refine hN.1 122 _ _ _ _ _ _ _ 10 _ _ _ _ _ _ _ _ _ _ lX10_122 (hrs) ⟨by decide, rfl⟩ (h64) rfl rfl (Nat.le_of_ble_eq_true rfl) (by omega) (by decide) (Nat.le_of_ble_eq_true rfl) (Nat.le_of_ble_eq_true rfl) dX10_refit_16 ?_
  rintro r2 P2 s2 ⟨F2, V2, te2, qu2, Fo2, st2, h1, q2, h3, hD2, -⟩
  rw [q2]
  have hD2 := hD2 hk
  rw [if_pos hk] at h1
  subst h1
  rw [hk] at h3
  have w64 : P2 64 = kO 10 (kf (cr10 (.ref sz)) (upd (upd K 2 0) 5 (-1))) := by rw [h3]; exact cx_rw_64
  have a0 : P2 sz = kO 9 (kf (cr9 sz) V2) := by rw [h3]; exact cx_rw_w hw
  have qc : P2 (cn c) = kO 1 (kf (cr1 (.ref wo) d hv) C) := by rw [h3]; exact (cx_rw_o (by omega) (by omega) (by omega)).trans ((ks_ne (by omega)).trans ((cx_nw_o (Or.inl (by omega))).trans hq))
  have hfin : cx_RF (cx_nw P sz) K (cn c) sz wo T n R C d hv (sz + 6) (some (.int 1)) (kx_set (kx_set P2 (cn c) (kO 1 (kf (cr1 (.ref sz) d hv) (upd (upd (upd C 6 (cj_min (C 6) (1440 * V2 0))) 7 (cj_min (C 7) (V2 6))) 8 0)))) 64 (kO 10 (kf (cr10 (.ref wo)) (upd (upd K 2 0) 5 (-1))))) (sz + 6) := ⟨F2, V2, te2, qu2, Fo2, st2, rfl, rfl, hD2, by rw [h3]⟩
  have hf1 := ct_X1_fit l G (sz := (sz + 6)) qc a0 (by omega) (by omega)
  clear h3 hD2
  have n64 : ∀ x, kx_set P2 (cn c) x 64 = kO 10 (kf (cr10 (.ref sz)) (upd (upd K 2 0) 5 (-1))) := fun x => (ks_ne (by omega)).trans w64
  dsimp only [Option.toList, List.cons_append, List.nil_append]
  refine hB bX10_refit_19 _ _ _ _ _ _ _ kX10_refit_19 ?_
  dsimp only [bX10_refit_19, kx_wp, kx_step, kx_lI, kx_lL, kx_lA, kx_gl, kx_pI, kx_pL, kx_pR, kx_pA, kx_pV, kx_s1, kx_s2, kx_sl, kx_pre, kx_c2, kx_pl, kx_cmp, kx_oF, kx_eqN, kx_nil, kx_c1, kx_ft, kx_aI, kx_aL, kx_aR, kx_ln, Nat.reduceAdd, Option.toList, List.cons_append, List.nil_append, cf1_2, cf10_4]
  repeat (simp only [h64, hit, kx_eq0, cp10_4, ks_eq, ks_ss, w64, qc, n64]; try dsimp only [kx_wp, kx_step, kx_lI, kx_lL, kx_lA, kx_gl, kx_pI, kx_pL, kx_pR, kx_pA, kx_pV, kx_s1, kx_s2, kx_sl, kx_pre, kx_c2, kx_pl, kx_cmp, kx_oF, kx_eqN, kx_nil, kx_c1, kx_ft, kx_aI, kx_aL, kx_aR, kx_ln, Nat.reduceAdd, Option.toList, List.cons_append, List.nil_append, cf1_2, cf10_4])
  repeat' apply And.intro
  all_goals try (first | with_reducible assumption | (with_reducible refine ck_nzI ?_; simp; done) | (with_reducible refine ck_nzL ?_; simp; done) | (with_reducible refine vp_in_nI ?_ ?_ <;> first | omega | decide) | (with_reducible refine Nat.le_of_ble_eq_true ?_; rfl) | omega | exact Nat.le_of_ble_eq_true rfl | decide | trivial | exact Or.inl trivial | exact Or.inr trivial | exact Or.inl rfl | exact Or.inr rfl)
  · intro zc23
    have ze23 := zc23
    refine hB bX10_refit_32 _ _ _ _ _ _ _ kX10_refit_32 ?_
    dsimp only [bX10_refit_32, kx_wp, kx_step, kx_lI, kx_lL, kx_lA, kx_gl, kx_pI, kx_pL, kx_pR, kx_pA, kx_pV, kx_s1, kx_s2, kx_sl, kx_pre, kx_c2, kx_pl, kx_cmp, kx_oF, kx_eqN, kx_nil, kx_c1, kx_ft, kx_aI, kx_aL, kx_aR, kx_ln, Nat.reduceAdd, Option.toList, List.cons_append, List.nil_append, cf1_2, cf10_4]
    repeat (simp only [h64, hit, kx_eq0, cp10_4, ks_eq, ks_ss, w64, qc, n64]; try dsimp only [kx_wp, kx_step, kx_lI, kx_lL, kx_lA, kx_gl, kx_pI, kx_pL, kx_pR, kx_pA, kx_pV, kx_s1, kx_s2, kx_sl, kx_pre, kx_c2, kx_pl, kx_cmp, kx_oF, kx_eqN, kx_nil, kx_c1, kx_ft, kx_aI, kx_aL, kx_aR, kx_ln, Nat.reduceAdd, Option.toList, List.cons_append, List.nil_append, cf1_2, cf10_4])
    repeat' apply And.intro
    all_goals try (first | with_reducible assumption | (with_reducible refine ck_nzI ?_; simp; done) | (with_reducible refine ck_nzL ?_; simp; done) | (with_reducible refine vp_in_nI ?_ ?_ <;> first | omega | decide) | (with_reducible refine Nat.le_of_ble_eq_true ?_; rfl) | omega | exact Nat.le_of_ble_eq_true rfl | decide | trivial | exact Or.inl trivial | exact Or.inr trivial | exact Or.inl rfl | exact Or.inr rfl)
    refine hC.1 210 _ _ _ _ _ _ _ 1 _ _ _ _ _ _ _ _ _ _ _ _ lX10_210 (hf1) ⟨by decide, rfl⟩ (qc) rfl rfl (Nat.le_of_ble_eq_true rfl) (by first | decide | omega) (by decide) (Nat.le_of_ble_eq_true rfl) (Nat.le_of_ble_eq_true rfl) dX10_refit_43 ?_
    refine hB bX10_refit_46 _ _ _ _ _ _ _ kX10_refit_46 ?_
    dsimp only [bX10_refit_46, kx_wp, kx_step, kx_lI, kx_lL, kx_lA, kx_gl, kx_pI, kx_pL, kx_pR, kx_pA, kx_pV, kx_s1, kx_s2, kx_sl, kx_pre, kx_c2, kx_pl, kx_cmp, kx_oF, kx_eqN, kx_nil, kx_c1, kx_ft, kx_aI, kx_aL, kx_aR, kx_ln, Nat.reduceAdd, Option.toList, List.cons_append, List.nil_append, cf1_2, cf10_4]
    repeat (simp only [h64, hit, kx_eq0, cp10_4, ks_eq, ks_ss, w64, qc, n64]; try dsimp only [kx_wp, kx_step, kx_lI, kx_lL, kx_lA, kx_gl, kx_pI, kx_pL, kx_pR, kx_pA, kx_pV, kx_s1, kx_s2, kx_sl, kx_pre, kx_c2, kx_pl, kx_cmp, kx_oF, kx_eqN, kx_nil, kx_c1, kx_ft, kx_aI, kx_aL, kx_aR, kx_ln, Nat.reduceAdd, Option.toList, List.cons_append, List.nil_append, cf1_2, cf10_4])
    all_goals (repeat' apply And.intro)
    all_goals ((try clear hB hC); first | exact True.intro | decide | exact hfin)
  · intro zc23
    first | exact absurd rfl zc23 | exact absurd zc23 (by decide) | exact absurd (by decide) zc23 | (exfalso; exact zc23 rfl) | (exfalso; simp_all; done)


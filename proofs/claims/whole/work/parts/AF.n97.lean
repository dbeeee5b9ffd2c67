/-! the class's reader: parts. The world with the works w, their teeth w + 1, their quarters w + 2 -/
def cx_vW (Q : kx_P) (w : Nat) (V te qu : Nat → Int32) : kx_P := kx_set (kx_set (kx_set Q (w + 1) (kI 0 24 te)) (w + 2) (kI 0 4 qu)) w (kO 9 (kf (cr9 w) V))
abbrev cx_dW (Q : kx_P) (w : Nat) (F V te qu Fo st : Nat → Int32) : kx_P := cx_8 (cx_fW (cx_vW Q w V te qu) w Fo st) (.ref w) F
section KDW
variable {Q : kx_P} {w : Nat} {F V V2 te te2 qu qu2 Fo st : Nat → Int32} {x : Value}
theorem cx_v0 : cx_vW Q w V te qu w = kO 9 (kf (cr9 w) V) := ks_eq _ _ _
theorem cx_v1 : cx_vW Q w V te qu (w + 1) = kI 0 24 te := by unfold cx_vW; rw [ks_ne (by omega), ks_ne (by omega), ks_eq]
theorem cx_v2 : cx_vW Q w V te qu (w + 2) = kI 0 4 qu := by unfold cx_vW; rw [ks_ne (by omega), ks_eq]
theorem cx_vo {j : Nat} (h0 : ¬ j = w) (h1 : ¬ j = w + 1) (h2 : ¬ j = w + 2) : cx_vW Q w V te qu j = Q j := by unfold cx_vW; rw [ks_ne h0, ks_ne h2, ks_ne h1]
theorem cx_dq0 (hw : 144 ≤ w) : cx_8 (cx_fW (cx_vW Q w V te qu) w Fo st) x F w = kO 9 (kf (cr9 w) V) := (cx_8w0 hw).trans cx_v0
theorem cx_dq1 (hw : 144 ≤ w) : cx_8 (cx_fW (cx_vW Q w V te qu) w Fo st) x F (w + 1) = kI 0 24 te := (cx_8n (by omega)).trans ((cx_fo (by omega) (by omega)).trans cx_v1)
theorem cx_dq2 (hw : 144 ≤ w) : cx_8 (cx_fW (cx_vW Q w V te qu) w Fo st) x F (w + 2) = kI 0 4 qu := (cx_8n (by omega)).trans ((cx_fo (by omega) (by omega)).trans cx_v2)
theorem cx_v67 (hw : 144 ≤ w) : cx_vW Q w V te qu 67 = Q 67 := cx_vo (by omega) (by omega) (by omega)
theorem cx_dp0 (hw : 144 ≤ w) : kx_set (cx_8 (cx_fW (cx_vW Q w V te qu) w Fo st) x F) w (kO 9 (kf (cr9 w) V2)) = cx_8 (cx_fW (cx_vW Q w V2 te qu) w Fo st) x F := by
  funext j
  unfold cx_8 cx_fW cx_vW kx_set
  by_cases h0 : j = w
  · simp only [if_pos h0, if_neg (show ¬ j = 68 by omega), if_neg (show ¬ j = w + 3 by omega), if_neg (show ¬ j = w + 4 by omega)]
  · simp only [if_neg h0]
theorem cx_dp1 (hw : 144 ≤ w) : kx_set (cx_8 (cx_fW (cx_vW Q w V te qu) w Fo st) x F) (w + 1) (kI 0 24 te2) = cx_8 (cx_fW (cx_vW Q w V te2 qu) w Fo st) x F := by
  funext j
  unfold cx_8 cx_fW cx_vW kx_set
  by_cases h0 : j = w + 1
  · simp only [if_pos h0, if_neg (show ¬ j = 68 by omega), if_neg (show ¬ j = w + 3 by omega), if_neg (show ¬ j = w + 4 by omega), if_neg (show ¬ j = w by omega), if_neg (show ¬ j = w + 2 by omega)]
  · simp only [if_neg h0]
theorem cx_dp2 (hw : 144 ≤ w) : kx_set (cx_8 (cx_fW (cx_vW Q w V te qu) w Fo st) x F) (w + 2) (kI 0 4 qu2) = cx_8 (cx_fW (cx_vW Q w V te qu2) w Fo st) x F := by
  funext j
  unfold cx_8 cx_fW cx_vW kx_set
  by_cases h0 : j = w + 2
  · simp only [if_pos h0, if_neg (show ¬ j = 68 by omega), if_neg (show ¬ j = w + 3 by omega), if_neg (show ¬ j = w + 4 by omega), if_neg (show ¬ j = w by omega)]
  · simp only [if_neg h0]
end KDW
def bX9_beginRack_0 : List kx_O := [(.aload_n 0, 0, 0, 0, .null), (.iconst 0, 0, 0, 0, .int 0), (.putfield 79, 9, 12, 2, .null), (.aload_n 0, 0, 0, 0, .null), (.iconst 0, 0, 0, 0, .int 0), (.putfield 82, 9, 14, 0, .null), (.aload_n 0, 0, 0, 0, .null), (.getfield 21, 9, 16, 0, .null), (.iconst 0, 0, 0, 0, .int 0), (.putfield 85, 2, 1, 0, .null), (.return_, 0, 0, 0, .null)]
theorem kX9_beginRack_0 : kx_oks kxL_X9 false cX9_beginRack 0 bX9_beginRack_0 = true := by decide +kernel
set_option maxRecDepth 100000 in
set_option maxHeartbeats 4000000 in
theorem ct_X9_beginRack (l : Launch) (G : kx_G) {P : kx_P} {sz : Nat} {Q : kx_P} {w : Nat} (hw : 144 ≤ w) {F V te qu Fo st : Nat → Int32} {x : Value}  : kx_M l G sX9_beginRack 1 0 0 [.ref w] (cx_8 (cx_fW (cx_vW Q w V te qu) w Fo st) x F) sz none (cx_8 (cx_fW (cx_vW Q w (upd (upd V 12 0) 14 0) (te) (qu)) w (upd Fo 1 0) (st)) x (F)) sz := by
  refine kx_mk kx_tab kxLok_X9 (ini := false) [some (.ref w)] ⟨by decide, rfl, by decide, by decide⟩ (rfl) rfl rfl (fun g hB hC => ?_)
  refine hB bX9_beginRack_0 _ _ _ _ _ _ _ kX9_beginRack_0 ?_
  dsimp only [bX9_beginRack_0, kx_wp, kx_step, kx_lI, kx_lL, kx_lA, kx_gl, kx_pI, kx_pL, kx_pR, kx_pA, kx_pV, kx_s1, kx_s2, kx_sl, kx_pre, kx_c2, kx_pl, kx_cmp, kx_oF, kx_eqN, kx_nil, kx_c1, kx_ft, kx_aI, kx_aL, kx_aR, kx_ln, Nat.reduceAdd, Option.toList, List.cons_append, List.nil_append, cf9_12, cf9_14, cf9_16, cf2_1]
  repeat (simp only [cx_8o, cx_8s, cx_83 hw, cx_84 hw, cx_dq0 hw, cx_dq1 hw, cx_dq2 hw, cx_dp0 hw, cx_dp1 hw, cx_dp2 hw, cx_8f3 hw, cx_8f4 hw, pk_us, pk_un, ne_eq, Nat.reduceEqDiff, not_false_eq_true, cp9_12, cp9_14, cp2_1, ks_eq, ks_ss]; try dsimp only [kx_wp, kx_step, kx_lI, kx_lL, kx_lA, kx_gl, kx_pI, kx_pL, kx_pR, kx_pA, kx_pV, kx_s1, kx_s2, kx_sl, kx_pre, kx_c2, kx_pl, kx_cmp, kx_oF, kx_eqN, kx_nil, kx_c1, kx_ft, kx_aI, kx_aL, kx_aR, kx_ln, Nat.reduceAdd, Option.toList, List.cons_append, List.nil_append, cf9_12, cf9_14, cf9_16, cf2_1])
  all_goals (repeat' apply And.intro)
  all_goals ((try clear hB hC); first | exact True.intro | exact Or.inl trivial | exact Or.inr trivial | rfl | omega)

def bX9_beginWheel_0 : List kx_O := [(.aload_n 0, 0, 0, 0, .null), (.iconst 1, 0, 0, 0, .int 1), (.putfield 79, 9, 12, 2, .null), (.aload_n 0, 0, 0, 0, .null), (.iconst 0, 0, 0, 0, .int 0), (.putfield 82, 9, 14, 0, .null), (.return_, 0, 0, 0, .null)]
theorem kX9_beginWheel_0 : kx_oks kxL_X9 false cX9_beginWheel 0 bX9_beginWheel_0 = true := by decide +kernel
set_option maxRecDepth 100000 in
set_option maxHeartbeats 4000000 in
theorem ct_X9_beginWheel (l : Launch) (G : kx_G) {P : kx_P} {sz : Nat} {Q : kx_P} {w : Nat} (hw : 144 ≤ w) {F V te qu Fo st : Nat → Int32} {x : Value}  : kx_M l G sX9_beginWheel 1 0 0 [.ref w] (cx_8 (cx_fW (cx_vW Q w V te qu) w Fo st) x F) sz none (cx_8 (cx_fW (cx_vW Q w (upd (upd V 12 1) 14 0) (te) (qu)) w (Fo) (st)) x (F)) sz := by
  refine kx_mk kx_tab kxLok_X9 (ini := false) [some (.ref w)] ⟨by decide, rfl, by decide, by decide⟩ (rfl) rfl rfl (fun g hB hC => ?_)
  refine hB bX9_beginWheel_0 _ _ _ _ _ _ _ kX9_beginWheel_0 ?_
  dsimp only [bX9_beginWheel_0, kx_wp, kx_step, kx_lI, kx_lL, kx_lA, kx_gl, kx_pI, kx_pL, kx_pR, kx_pA, kx_pV, kx_s1, kx_s2, kx_sl, kx_pre, kx_c2, kx_pl, kx_cmp, kx_oF, kx_eqN, kx_nil, kx_c1, kx_ft, kx_aI, kx_aL, kx_aR, kx_ln, Nat.reduceAdd, Option.toList, List.cons_append, List.nil_append, cf9_12, cf9_14]
  repeat (simp only [cx_8o, cx_8s, cx_83 hw, cx_84 hw, cx_dq0 hw, cx_dq1 hw, cx_dq2 hw, cx_dp0 hw, cx_dp1 hw, cx_dp2 hw, cx_8f3 hw, cx_8f4 hw, pk_us, pk_un, ne_eq, Nat.reduceEqDiff, not_false_eq_true, cp9_12, cp9_14, ks_eq, ks_ss]; try dsimp only [kx_wp, kx_step, kx_lI, kx_lL, kx_lA, kx_gl, kx_pI, kx_pL, kx_pR, kx_pA, kx_pV, kx_s1, kx_s2, kx_sl, kx_pre, kx_c2, kx_pl, kx_cmp, kx_oF, kx_eqN, kx_nil, kx_c1, kx_ft, kx_aI, kx_aL, kx_aR, kx_ln, Nat.reduceAdd, Option.toList, List.cons_append, List.nil_append, cf9_12, cf9_14])
  all_goals (repeat' apply And.intro)
  all_goals ((try clear hB hC); first | exact True.intro | exact Or.inl trivial | exact Or.inr trivial | rfl | omega)

def bX9_addTooth_0 : List kx_O := [(.aload_n 0, 0, 0, 0, .null), (.getfield 82, 9, 14, 0, .null), (.ifCond .lt 15, 19, 0, 0, .null)]
theorem kX9_addTooth_0 : kx_oks kxL_X9 false cX9_addTooth 0 bX9_addTooth_0 = true := by decide +kernel
def bX9_addTooth_7 : List kx_O := [(.aload_n 0, 0, 0, 0, .null), (.getfield 82, 9, 14, 0, .null), (.aload_n 0, 0, 0, 0, .null), (.getfield 11, 9, 13, 0, .null), (.arraylength, 0, 0, 0, .null), (.if_icmp .lt 5, 21, 0, 0, .null)]
theorem kX9_addTooth_7 : kx_oks kxL_X9 false cX9_addTooth 7 bX9_addTooth_7 = true := by decide +kernel
def bX9_addTooth_19 : List kx_O := [(.iconst 0, 0, 0, 0, .int 0), (.ireturn, 0, 0, 0, .null)]
theorem kX9_addTooth_19 : kx_oks kxL_X9 false cX9_addTooth 19 bX9_addTooth_19 = true := by decide +kernel
def bX9_addTooth_21 : List kx_O := [(.aload_n 0, 0, 0, 0, .null), (.getfield 11, 9, 13, 0, .null), (.aload_n 0, 0, 0, 0, .null), (.getfield 82, 9, 14, 0, .null), (.iload_n 1, 1, 0, 0, .null), (.iastore, 0, 0, 0, .null), (.aload_n 0, 0, 0, 0, .null), (.dup, 0, 0, 0, .null), (.getfield 82, 9, 14, 0, .null), (.iconst 1, 0, 0, 0, .int 1), (.iadd, 0, 0, 0, .null), (.putfield 82, 9, 14, 0, .null), (.iconst 1, 0, 0, 0, .int 1), (.ireturn, 0, 0, 0, .null)]
theorem kX9_addTooth_21 : kx_oks kxL_X9 false cX9_addTooth 21 bX9_addTooth_21 = true := by decide +kernel
set_option maxRecDepth 100000 in
set_option maxHeartbeats 4000000 in
theorem ct_X9_addTooth_t (l : Launch) (G : kx_G) {P : kx_P} {sz : Nat} {Q : kx_P} {w : Nat} (hw : 144 ≤ w) {F V te qu Fo st : Nat → Int32} {x : Value} {v : Int32} {k : Nat} (hk : V 14 = nI k) (hk4 : k < 24)  : kx_M l G sX9_addTooth 1 0 0 [.ref w, .int (v)] (cx_8 (cx_fW (cx_vW Q w V te qu) w Fo st) x F) sz (some (.int (1))) (cx_8 (cx_fW (cx_vW Q w (upd V 14 (nI (k + 1))) (upd te k v) (qu)) w (Fo) (st)) x (F)) sz := by
  refine kx_mk kx_tab kxLok_X9 (ini := false) [some (.ref w), some (.int (v))] ⟨by decide, rfl, by decide, by decide⟩ (by first | exact Or.inl rfl | exact Or.inr rfl) rfl rfl (fun g hB hC => ?_)
  refine hB bX9_addTooth_0 _ _ _ _ _ _ _ kX9_addTooth_0 ?_
  dsimp only [bX9_addTooth_0, kx_wp, kx_step, kx_lI, kx_lL, kx_lA, kx_gl, kx_pI, kx_pL, kx_pR, kx_pA, kx_pV, kx_s1, kx_s2, kx_sl, kx_pre, kx_c2, kx_pl, kx_cmp, kx_oF, kx_eqN, kx_nil, kx_c1, kx_ft, kx_aI, kx_aL, kx_aR, kx_ln, Nat.reduceAdd, Option.toList, List.cons_append, List.nil_append, cf9_14, cf9_13]
  repeat (simp only [cx_8o, cx_8s, cx_83 hw, cx_84 hw, cx_dq0 hw, cx_dq1 hw, cx_dq2 hw, cx_dp0 hw, cx_dp1 hw, cx_dp2 hw, cx_8f3 hw, cx_8f4 hw, pk_us, pk_un, ne_eq, Nat.reduceEqDiff, not_false_eq_true, hk, nI_1, nI_clamp (show k < 2 ^ 31 by omega), cp9_14, ks_eq, ks_ss]; try dsimp only [kx_wp, kx_step, kx_lI, kx_lL, kx_lA, kx_gl, kx_pI, kx_pL, kx_pR, kx_pA, kx_pV, kx_s1, kx_s2, kx_sl, kx_pre, kx_c2, kx_pl, kx_cmp, kx_oF, kx_eqN, kx_nil, kx_c1, kx_ft, kx_aI, kx_aL, kx_aR, kx_ln, Nat.reduceAdd, Option.toList, List.cons_append, List.nil_append, cf9_14, cf9_13])
  repeat' apply And.intro
  all_goals try (first | with_reducible assumption | (with_reducible refine ck_nzI ?_; simp; done) | (with_reducible refine ck_nzL ?_; simp; done) | (with_reducible refine vp_in_nI ?_ ?_ <;> first | omega | decide) | (with_reducible refine Nat.le_of_ble_eq_true ?_; rfl) | omega | exact Or.inl trivial | exact Or.inr trivial | exact Or.inl rfl | exact Or.inr rfl)
  · intro zc4
    first | exact absurd rfl zc4 | exact absurd zc4 (by decide) | exact absurd (by decide) zc4 | (exfalso; first | exact vp_in_nI (n := k) (N := 24) (by omega) (by omega) (Or.inl zc4) | exact zc16 ((nI_ltI (a := k) (b := 24) (by omega) (by omega)).mpr hk4)) | (exfalso; simp_all; done)
  · intro zc4
    with_reducible first | have ze4 := Int32.not_lt.mp zc4 | have ze4 := zc4
    refine hB bX9_addTooth_7 _ _ _ _ _ _ _ kX9_addTooth_7 ?_
    dsimp only [bX9_addTooth_7, kx_wp, kx_step, kx_lI, kx_lL, kx_lA, kx_gl, kx_pI, kx_pL, kx_pR, kx_pA, kx_pV, kx_s1, kx_s2, kx_sl, kx_pre, kx_c2, kx_pl, kx_cmp, kx_oF, kx_eqN, kx_nil, kx_c1, kx_ft, kx_aI, kx_aL, kx_aR, kx_ln, Nat.reduceAdd, Option.toList, List.cons_append, List.nil_append, cf9_14, cf9_13]
    repeat (simp only [cx_8o, cx_8s, cx_83 hw, cx_84 hw, cx_dq0 hw, cx_dq1 hw, cx_dq2 hw, cx_dp0 hw, cx_dp1 hw, cx_dp2 hw, cx_8f3 hw, cx_8f4 hw, pk_us, pk_un, ne_eq, Nat.reduceEqDiff, not_false_eq_true, hk, nI_1, nI_clamp (show k < 2 ^ 31 by omega), cp9_14, ks_eq, ks_ss]; try dsimp only [kx_wp, kx_step, kx_lI, kx_lL, kx_lA, kx_gl, kx_pI, kx_pL, kx_pR, kx_pA, kx_pV, kx_s1, kx_s2, kx_sl, kx_pre, kx_c2, kx_pl, kx_cmp, kx_oF, kx_eqN, kx_nil, kx_c1, kx_ft, kx_aI, kx_aL, kx_aR, kx_ln, Nat.reduceAdd, Option.toList, List.cons_append, List.nil_append, cf9_14, cf9_13])
    repeat' apply And.intro
    all_goals try (first | with_reducible assumption | (with_reducible refine ck_nzI ?_; simp; done) | (with_reducible refine ck_nzL ?_; simp; done) | (with_reducible refine vp_in_nI ?_ ?_ <;> first | omega | decide) | (with_reducible refine Nat.le_of_ble_eq_true ?_; rfl) | omega | exact Or.inl trivial | exact Or.inr trivial | exact Or.inl rfl | exact Or.inr rfl)
    · intro zc16
      with_reducible first | have ze16 := Int32.not_le.mpr zc16 | have ze16 := zc16
      refine hB bX9_addTooth_21 _ _ _ _ _ _ _ kX9_addTooth_21 ?_
      dsimp only [bX9_addTooth_21, kx_wp, kx_step, kx_lI, kx_lL, kx_lA, kx_gl, kx_pI, kx_pL, kx_pR, kx_pA, kx_pV, kx_s1, kx_s2, kx_sl, kx_pre, kx_c2, kx_pl, kx_cmp, kx_oF, kx_eqN, kx_nil, kx_c1, kx_ft, kx_aI, kx_aL, kx_aR, kx_ln, Nat.reduceAdd, Option.toList, List.cons_append, List.nil_append, cf9_14, cf9_13]
      repeat (simp only [cx_8o, cx_8s, cx_83 hw, cx_84 hw, cx_dq0 hw, cx_dq1 hw, cx_dq2 hw, cx_dp0 hw, cx_dp1 hw, cx_dp2 hw, cx_8f3 hw, cx_8f4 hw, pk_us, pk_un, ne_eq, Nat.reduceEqDiff, not_false_eq_true, hk, nI_1, nI_clamp (show k < 2 ^ 31 by omega), cp9_14, ks_eq, ks_ss]; try dsimp only [kx_wp, kx_step, kx_lI, kx_lL, kx_lA, kx_gl, kx_pI, kx_pL, kx_pR, kx_pA, kx_pV, kx_s1, kx_s2, kx_sl, kx_pre, kx_c2, kx_pl, kx_cmp, kx_oF, kx_eqN, kx_nil, kx_c1, kx_ft, kx_aI, kx_aL, kx_aR, kx_ln, Nat.reduceAdd, Option.toList, List.cons_append, List.nil_append, cf9_14, cf9_13])
      all_goals (repeat' apply And.intro)
      all_goals ((try clear hB hC); first | exact True.intro | with_reducible rfl | with_reducible assumption | (with_reducible refine vp_in_nI ?_ ?_ <;> first | omega | decide) | exact Nat.le_of_ble_eq_true rfl | (with_reducible refine ck_nzI ?_; simp; done) | (with_reducible refine ck_nzL ?_; simp; done) | (simp only [pk_us, pk_uLs, zc4, ze4, zc16, ze16, ↓reduceIte, not_true_eq_false, not_false_eq_true]; done) | (simp only [zc4, ze4, zc16, ze16, ↓reduceIte, not_true_eq_false, not_false_eq_true]; with_reducible rfl) | omega | skip)
    · intro zc16
      first | exact absurd rfl zc16 | exact absurd zc16 (by decide) | exact absurd (by decide) zc16 | (exfalso; first | exact vp_in_nI (n := k) (N := 24) (by omega) (by omega) (Or.inl zc4) | exact zc16 ((nI_ltI (a := k) (b := 24) (by omega) (by omega)).mpr hk4)) | (exfalso; simp_all; done)

set_option maxRecDepth 100000 in
set_option maxHeartbeats 4000000 in
theorem ct_X9_addTooth_f (l : Launch) (G : kx_G) {P : kx_P} {sz : Nat} {Q : kx_P} {w : Nat} (hw : 144 ≤ w) {F V te qu Fo st : Nat → Int32} {x : Value} {v : Int32} (hk : V 14 = 24)  : kx_M l G sX9_addTooth 1 0 0 [.ref w, .int (v)] (cx_8 (cx_fW (cx_vW Q w V te qu) w Fo st) x F) sz (some (.int (0))) (cx_8 (cx_fW (cx_vW Q w V te qu) w Fo st) x F) sz := by
  refine kx_mk kx_tab kxLok_X9 (ini := false) [some (.ref w), some (.int (v))] ⟨by decide, rfl, by decide, by decide⟩ (by first | exact Or.inl rfl | exact Or.inr rfl) rfl rfl (fun g hB hC => ?_)
  refine hB bX9_addTooth_0 _ _ _ _ _ _ _ kX9_addTooth_0 ?_
  dsimp only [bX9_addTooth_0, kx_wp, kx_step, kx_lI, kx_lL, kx_lA, kx_gl, kx_pI, kx_pL, kx_pR, kx_pA, kx_pV, kx_s1, kx_s2, kx_sl, kx_pre, kx_c2, kx_pl, kx_cmp, kx_oF, kx_eqN, kx_nil, kx_c1, kx_ft, kx_aI, kx_aL, kx_aR, kx_ln, Nat.reduceAdd, Option.toList, List.cons_append, List.nil_append, cf9_14, cf9_13]
  repeat (simp only [cx_8o, cx_8s, cx_83 hw, cx_84 hw, cx_dq0 hw, cx_dq1 hw, cx_dq2 hw, cx_dp0 hw, cx_dp1 hw, cx_dp2 hw, cx_8f3 hw, cx_8f4 hw, pk_us, pk_un, ne_eq, Nat.reduceEqDiff, not_false_eq_true, hk, cp9_14, ks_eq, ks_ss]; try dsimp only [kx_wp, kx_step, kx_lI, kx_lL, kx_lA, kx_gl, kx_pI, kx_pL, kx_pR, kx_pA, kx_pV, kx_s1, kx_s2, kx_sl, kx_pre, kx_c2, kx_pl, kx_cmp, kx_oF, kx_eqN, kx_nil, kx_c1, kx_ft, kx_aI, kx_aL, kx_aR, kx_ln, Nat.reduceAdd, Option.toList, List.cons_append, List.nil_append, cf9_14, cf9_13])
  repeat' apply And.intro
  all_goals try (first | with_reducible assumption | (with_reducible refine ck_nzI ?_; simp; done) | (with_reducible refine ck_nzL ?_; simp; done) | (with_reducible refine vp_in_nI ?_ ?_ <;> first | omega | decide) | (with_reducible refine Nat.le_of_ble_eq_true ?_; rfl) | omega | exact Or.inl trivial | exact Or.inr trivial | exact Or.inl rfl | exact Or.inr rfl)
  · intro zc4
    first | exact absurd rfl zc4 | exact absurd zc4 (by decide) | exact absurd (by decide) zc4 | (exfalso; first | exact absurd zc4 (by decide) | exact absurd zc16 (by decide)) | (exfalso; simp_all; done)
  · intro zc4
    with_reducible first | have ze4 := Int32.not_lt.mp zc4 | have ze4 := zc4
    refine hB bX9_addTooth_7 _ _ _ _ _ _ _ kX9_addTooth_7 ?_
    dsimp only [bX9_addTooth_7, kx_wp, kx_step, kx_lI, kx_lL, kx_lA, kx_gl, kx_pI, kx_pL, kx_pR, kx_pA, kx_pV, kx_s1, kx_s2, kx_sl, kx_pre, kx_c2, kx_pl, kx_cmp, kx_oF, kx_eqN, kx_nil, kx_c1, kx_ft, kx_aI, kx_aL, kx_aR, kx_ln, Nat.reduceAdd, Option.toList, List.cons_append, List.nil_append, cf9_14, cf9_13]
    repeat (simp only [cx_8o, cx_8s, cx_83 hw, cx_84 hw, cx_dq0 hw, cx_dq1 hw, cx_dq2 hw, cx_dp0 hw, cx_dp1 hw, cx_dp2 hw, cx_8f3 hw, cx_8f4 hw, pk_us, pk_un, ne_eq, Nat.reduceEqDiff, not_false_eq_true, hk, cp9_14, ks_eq, ks_ss]; try dsimp only [kx_wp, kx_step, kx_lI, kx_lL, kx_lA, kx_gl, kx_pI, kx_pL, kx_pR, kx_pA, kx_pV, kx_s1, kx_s2, kx_sl, kx_pre, kx_c2, kx_pl, kx_cmp, kx_oF, kx_eqN, kx_nil, kx_c1, kx_ft, kx_aI, kx_aL, kx_aR, kx_ln, Nat.reduceAdd, Option.toList, List.cons_append, List.nil_append, cf9_14, cf9_13])
    repeat' apply And.intro
    all_goals try (first | with_reducible assumption | (with_reducible refine ck_nzI ?_; simp; done) | (with_reducible refine ck_nzL ?_; simp; done) | (with_reducible refine vp_in_nI ?_ ?_ <;> first | omega | decide) | (with_reducible refine Nat.le_of_ble_eq_true ?_; rfl) | omega | exact Or.inl trivial | exact Or.inr trivial | exact Or.inl rfl | exact Or.inr rfl)
    · intro zc16
      first | exact absurd rfl zc16 | exact absurd zc16 (by decide) | exact absurd (by decide) zc16 | (exfalso; first | exact absurd zc4 (by decide) | exact absurd zc16 (by decide)) | (exfalso; simp_all; done)
    · intro zc16
      with_reducible first | have ze16 := Int32.not_lt.mp zc16 | have ze16 := zc16
      refine hB bX9_addTooth_19 _ _ _ _ _ _ _ kX9_addTooth_19 ?_
      dsimp only [bX9_addTooth_19, kx_wp, kx_step, kx_lI, kx_lL, kx_lA, kx_gl, kx_pI, kx_pL, kx_pR, kx_pA, kx_pV, kx_s1, kx_s2, kx_sl, kx_pre, kx_c2, kx_pl, kx_cmp, kx_oF, kx_eqN, kx_nil, kx_c1, kx_ft, kx_aI, kx_aL, kx_aR, kx_ln, Nat.reduceAdd, Option.toList, List.cons_append, List.nil_append, cf9_14, cf9_13]
      repeat (simp only [cx_8o, cx_8s, cx_83 hw, cx_84 hw, cx_dq0 hw, cx_dq1 hw, cx_dq2 hw, cx_dp0 hw, cx_dp1 hw, cx_dp2 hw, cx_8f3 hw, cx_8f4 hw, pk_us, pk_un, ne_eq, Nat.reduceEqDiff, not_false_eq_true, hk, cp9_14, ks_eq, ks_ss]; try dsimp only [kx_wp, kx_step, kx_lI, kx_lL, kx_lA, kx_gl, kx_pI, kx_pL, kx_pR, kx_pA, kx_pV, kx_s1, kx_s2, kx_sl, kx_pre, kx_c2, kx_pl, kx_cmp, kx_oF, kx_eqN, kx_nil, kx_c1, kx_ft, kx_aI, kx_aL, kx_aR, kx_ln, Nat.reduceAdd, Option.toList, List.cons_append, List.nil_append, cf9_14, cf9_13])
      all_goals (repeat' apply And.intro)
      all_goals ((try clear hB hC); first | exact True.intro | with_reducible rfl | with_reducible assumption | (with_reducible refine vp_in_nI ?_ ?_ <;> first | omega | decide) | exact Nat.le_of_ble_eq_true rfl | (with_reducible refine ck_nzI ?_; simp; done) | (with_reducible refine ck_nzL ?_; simp; done) | (simp only [pk_us, pk_uLs, zc4, ze4, zc16, ze16, ↓reduceIte, not_true_eq_false, not_false_eq_true]; done) | (simp only [zc4, ze4, zc16, ze16, ↓reduceIte, not_true_eq_false, not_false_eq_true]; with_reducible rfl) | omega | skip)

def bX9_strikeHours_0 : List kx_O := [(.aload_n 0, 0, 0, 0, .null)]
theorem kX9_strikeHours_0 : kx_oks kxL_X9 false cX9_strikeHours 0 bX9_strikeHours_0 = true := by decide +kernel
def bX9_strikeHours_4 : List kx_O := [(.aload_n 0, 0, 0, 0, .null), (.getfield 21, 9, 16, 0, .null), (.iconst (-1), 0, 0, 0, .int (-1))]
theorem kX9_strikeHours_4 : kx_oks kxL_X9 false cX9_strikeHours 4 bX9_strikeHours_4 = true := by decide +kernel
def bX9_strikeHours_12 : List kx_O := [(.pop, 0, 0, 0, .null), (.aload_n 0, 0, 0, 0, .null), (.getfield 21, 9, 16, 0, .null), (.bipush 11, 0, 0, 0, .int 11)]
theorem kX9_strikeHours_12 : kx_oks kxL_X9 false cX9_strikeHours 12 bX9_strikeHours_12 = true := by decide +kernel
def bX9_strikeHours_22 : List kx_O := [(.pop, 0, 0, 0, .null), (.aload_n 0, 0, 0, 0, .null), (.getfield 21, 9, 16, 0, .null), (.bipush (-4), 0, 0, 0, .int (-4))]
theorem kX9_strikeHours_22 : kx_oks kxL_X9 false cX9_strikeHours 22 bX9_strikeHours_22 = true := by decide +kernel
def bX9_strikeHours_32 : List kx_O := [(.pop, 0, 0, 0, .null), (.aload_n 0, 0, 0, 0, .null), (.getfield 21, 9, 16, 0, .null), (.bipush 12, 0, 0, 0, .int 12)]
theorem kX9_strikeHours_32 : kx_oks kxL_X9 false cX9_strikeHours 32 bX9_strikeHours_32 = true := by decide +kernel
def bX9_strikeHours_42 : List kx_O := [(.pop, 0, 0, 0, .null), (.aload_n 0, 0, 0, 0, .null), (.getfield 21, 9, 16, 0, .null), (.bipush (-8), 0, 0, 0, .int (-8))]
theorem kX9_strikeHours_42 : kx_oks kxL_X9 false cX9_strikeHours 42 bX9_strikeHours_42 = true := by decide +kernel
def bX9_strikeHours_52 : List kx_O := [(.pop, 0, 0, 0, .null), (.aload_n 0, 0, 0, 0, .null), (.getfield 21, 9, 16, 0, .null), (.iconst 1, 0, 0, 0, .int 1)]
theorem kX9_strikeHours_52 : kx_oks kxL_X9 false cX9_strikeHours 52 bX9_strikeHours_52 = true := by decide +kernel
def bX9_strikeHours_61 : List kx_O := [(.pop, 0, 0, 0, .null), (.aload_n 0, 0, 0, 0, .null), (.getfield 21, 9, 16, 0, .null), (.bipush (-4), 0, 0, 0, .int (-4))]
theorem kX9_strikeHours_61 : kx_oks kxL_X9 false cX9_strikeHours 61 bX9_strikeHours_61 = true := by decide +kernel
def bX9_strikeHours_71 : List kx_O := [(.pop, 0, 0, 0, .null), (.return_, 0, 0, 0, .null)]
theorem kX9_strikeHours_71 : kx_oks kxL_X9 false cX9_strikeHours 71 bX9_strikeHours_71 = true := by decide +kernel
theorem dX9_strikeHours_1 : decode cX9_strikeHours 1 = .ok (.invokevirtual 72, 3) := by decide +kernel
theorem dX9_strikeHours_9 : decode cX9_strikeHours 9 = .ok (.invokevirtual 75, 3) := by decide +kernel
theorem dX9_strikeHours_19 : decode cX9_strikeHours 19 = .ok (.invokevirtual 75, 3) := by decide +kernel
theorem dX9_strikeHours_29 : decode cX9_strikeHours 29 = .ok (.invokevirtual 75, 3) := by decide +kernel
theorem dX9_strikeHours_39 : decode cX9_strikeHours 39 = .ok (.invokevirtual 75, 3) := by decide +kernel
theorem dX9_strikeHours_49 : decode cX9_strikeHours 49 = .ok (.invokevirtual 75, 3) := by decide +kernel
theorem dX9_strikeHours_58 : decode cX9_strikeHours 58 = .ok (.invokevirtual 75, 3) := by decide +kernel
theorem dX9_strikeHours_68 : decode cX9_strikeHours 68 = .ok (.invokevirtual 75, 3) := by decide +kernel
set_option maxRecDepth 100000 in
set_option maxHeartbeats 4000000 in
theorem ct_X9_strikeHours (l : Launch) (G : kx_G) {P : kx_P} {sz : Nat} {Q : kx_P} {w : Nat} (hw : 144 ≤ w) {F V te qu Fo st : Nat → Int32} {x : Value}  : kx_M l G sX9_strikeHours 2 0 0 [.ref w] (cx_8 (cx_fW (cx_vW Q w V te qu) w Fo st) x F) sz none (cx_8 (cx_fW (cx_vW Q w (upd (upd V 12 0) 14 0) (te) (qu)) w (upd Fo 1 7) (upd (upd (upd (upd (upd (upd (upd st 0 (-1)) 1 11) 2 (-4)) 3 12) 4 (-8)) 5 1) 6 (-4))) x (F)) sz := by
  refine kx_mk kx_tab kxLok_X9 (ini := false) [some (.ref w)] ⟨by decide, rfl, by decide, by decide⟩ (rfl) rfl rfl (fun g hB hC => ?_)
  refine hB bX9_strikeHours_0 _ _ _ _ _ _ _ kX9_strikeHours_0 ?_
  dsimp only [bX9_strikeHours_0, kx_wp, kx_step, kx_lI, kx_lL, kx_lA, kx_gl, kx_pI, kx_pL, kx_pR, kx_pA, kx_pV, kx_s1, kx_s2, kx_sl, kx_pre, kx_c2, kx_pl, kx_cmp, kx_oF, kx_eqN, kx_nil, kx_c1, kx_ft, kx_aI, kx_aL, kx_aR, kx_ln, Nat.reduceAdd, Option.toList, List.cons_append, List.nil_append, cf9_16]
  repeat (simp only [cx_8o, cx_8s, cx_83 hw, cx_84 hw, cx_dq0 hw, cx_dq1 hw, cx_dq2 hw, cx_dp0 hw, cx_dp1 hw, cx_dp2 hw, cx_8f3 hw, cx_8f4 hw, pk_us, pk_un, ne_eq, Nat.reduceEqDiff, not_false_eq_true, kz_uu, ks_eq, ks_ss]; try dsimp only [kx_wp, kx_step, kx_lI, kx_lL, kx_lA, kx_gl, kx_pI, kx_pL, kx_pR, kx_pA, kx_pV, kx_s1, kx_s2, kx_sl, kx_pre, kx_c2, kx_pl, kx_cmp, kx_oF, kx_eqN, kx_nil, kx_c1, kx_ft, kx_aI, kx_aL, kx_aR, kx_ln, Nat.reduceAdd, Option.toList, List.cons_append, List.nil_append, cf9_16])
  repeat' apply And.intro
  all_goals try (first | with_reducible assumption | (with_reducible refine ck_nzI ?_; simp; done) | (with_reducible refine ck_nzL ?_; simp; done) | (with_reducible refine vp_in_nI ?_ ?_ <;> first | omega | decide) | (with_reducible refine Nat.le_of_ble_eq_true ?_; rfl) | omega | exact Or.inl trivial | exact Or.inr trivial | exact Or.inl rfl | exact Or.inr rfl)
  refine hC.1 72 _ _ _ _ _ _ _ 9 _ _ _ _ _ _ _ _ _ _ _ _ lX9_72 (ct_X9_beginRack l G (P := Q) hw) ⟨by decide, rfl⟩ (by first | exact cx_8o | exact cx_dq0 hw | exact cx_83 hw) rfl rfl (Nat.le_of_ble_eq_true rfl) (by first | decide | omega) (by decide) (by omega) (by omega) dX9_strikeHours_1 ?_
  refine hB bX9_strikeHours_4 _ _ _ _ _ _ _ kX9_strikeHours_4 ?_
  dsimp only [bX9_strikeHours_4, kx_wp, kx_step, kx_lI, kx_lL, kx_lA, kx_gl, kx_pI, kx_pL, kx_pR, kx_pA, kx_pV, kx_s1, kx_s2, kx_sl, kx_pre, kx_c2, kx_pl, kx_cmp, kx_oF, kx_eqN, kx_nil, kx_c1, kx_ft, kx_aI, kx_aL, kx_aR, kx_ln, Nat.reduceAdd, Option.toList, List.cons_append, List.nil_append, cf9_16]
  repeat (simp only [cx_8o, cx_8s, cx_83 hw, cx_84 hw, cx_dq0 hw, cx_dq1 hw, cx_dq2 hw, cx_dp0 hw, cx_dp1 hw, cx_dp2 hw, cx_8f3 hw, cx_8f4 hw, pk_us, pk_un, ne_eq, Nat.reduceEqDiff, not_false_eq_true, kz_uu, ks_eq, ks_ss]; try dsimp only [kx_wp, kx_step, kx_lI, kx_lL, kx_lA, kx_gl, kx_pI, kx_pL, kx_pR, kx_pA, kx_pV, kx_s1, kx_s2, kx_sl, kx_pre, kx_c2, kx_pl, kx_cmp, kx_oF, kx_eqN, kx_nil, kx_c1, kx_ft, kx_aI, kx_aL, kx_aR, kx_ln, Nat.reduceAdd, Option.toList, List.cons_append, List.nil_append, cf9_16])
  repeat' apply And.intro
  all_goals try (first | with_reducible assumption | (with_reducible refine ck_nzI ?_; simp; done) | (with_reducible refine ck_nzL ?_; simp; done) | (with_reducible refine vp_in_nI ?_ ?_ <;> first | omega | decide) | (with_reducible refine Nat.le_of_ble_eq_true ?_; rfl) | omega | exact Or.inl trivial | exact Or.inr trivial | exact Or.inl rfl | exact Or.inr rfl)
  refine hC.1 75 _ _ _ _ _ _ _ 2 _ _ _ _ _ _ _ _ _ _ _ _ lX9_75 (ct_X2_add l G (P := Q) hw (c := 0) (by first | rfl | exact pk_us) (by decide)) ⟨by decide, rfl⟩ (cx_83 hw) rfl rfl (Nat.le_of_ble_eq_true rfl) (by first | decide | omega) (by decide) (by omega) (by omega) dX9_strikeHours_9 ?_
  dsimp only [Option.toList, List.cons_append, List.nil_append]
  refine hB bX9_strikeHours_12 _ _ _ _ _ _ _ kX9_strikeHours_12 ?_
  dsimp only [bX9_strikeHours_12, kx_wp, kx_step, kx_lI, kx_lL, kx_lA, kx_gl, kx_pI, kx_pL, kx_pR, kx_pA, kx_pV, kx_s1, kx_s2, kx_sl, kx_pre, kx_c2, kx_pl, kx_cmp, kx_oF, kx_eqN, kx_nil, kx_c1, kx_ft, kx_aI, kx_aL, kx_aR, kx_ln, Nat.reduceAdd, Option.toList, List.cons_append, List.nil_append, cf9_16]
  repeat (simp only [cx_8o, cx_8s, cx_83 hw, cx_84 hw, cx_dq0 hw, cx_dq1 hw, cx_dq2 hw, cx_dp0 hw, cx_dp1 hw, cx_dp2 hw, cx_8f3 hw, cx_8f4 hw, pk_us, pk_un, ne_eq, Nat.reduceEqDiff, not_false_eq_true, kz_uu, ks_eq, ks_ss]; try dsimp only [kx_wp, kx_step, kx_lI, kx_lL, kx_lA, kx_gl, kx_pI, kx_pL, kx_pR, kx_pA, kx_pV, kx_s1, kx_s2, kx_sl, kx_pre, kx_c2, kx_pl, kx_cmp, kx_oF, kx_eqN, kx_nil, kx_c1, kx_ft, kx_aI, kx_aL, kx_aR, kx_ln, Nat.reduceAdd, Option.toList, List.cons_append, List.nil_append, cf9_16])
  repeat' apply And.intro
  all_goals try (first | with_reducible assumption | (with_reducible refine ck_nzI ?_; simp; done) | (with_reducible refine ck_nzL ?_; simp; done) | (with_reducible refine vp_in_nI ?_ ?_ <;> first | omega | decide) | (with_reducible refine Nat.le_of_ble_eq_true ?_; rfl) | omega | exact Or.inl trivial | exact Or.inr trivial | exact Or.inl rfl | exact Or.inr rfl)
  refine hC.1 75 _ _ _ _ _ _ _ 2 _ _ _ _ _ _ _ _ _ _ _ _ lX9_75 (ct_X2_add l G (P := Q) hw (c := 1) (by first | rfl | exact pk_us) (by decide)) ⟨by decide, rfl⟩ (cx_83 hw) rfl rfl (Nat.le_of_ble_eq_true rfl) (by first | decide | omega) (by decide) (by omega) (by omega) dX9_strikeHours_19 ?_
  dsimp only [Option.toList, List.cons_append, List.nil_append]
  refine hB bX9_strikeHours_22 _ _ _ _ _ _ _ kX9_strikeHours_22 ?_
  dsimp only [bX9_strikeHours_22, kx_wp, kx_step, kx_lI, kx_lL, kx_lA, kx_gl, kx_pI, kx_pL, kx_pR, kx_pA, kx_pV, kx_s1, kx_s2, kx_sl, kx_pre, kx_c2, kx_pl, kx_cmp, kx_oF, kx_eqN, kx_nil, kx_c1, kx_ft, kx_aI, kx_aL, kx_aR, kx_ln, Nat.reduceAdd, Option.toList, List.cons_append, List.nil_append, cf9_16]
  repeat (simp only [cx_8o, cx_8s, cx_83 hw, cx_84 hw, cx_dq0 hw, cx_dq1 hw, cx_dq2 hw, cx_dp0 hw, cx_dp1 hw, cx_dp2 hw, cx_8f3 hw, cx_8f4 hw, pk_us, pk_un, ne_eq, Nat.reduceEqDiff, not_false_eq_true, kz_uu, ks_eq, ks_ss]; try dsimp only [kx_wp, kx_step, kx_lI, kx_lL, kx_lA, kx_gl, kx_pI, kx_pL, kx_pR, kx_pA, kx_pV, kx_s1, kx_s2, kx_sl, kx_pre, kx_c2, kx_pl, kx_cmp, kx_oF, kx_eqN, kx_nil, kx_c1, kx_ft, kx_aI, kx_aL, kx_aR, kx_ln, Nat.reduceAdd, Option.toList, List.cons_append, List.nil_append, cf9_16])
  repeat' apply And.intro
  all_goals try (first | with_reducible assumption | (with_reducible refine ck_nzI ?_; simp; done) | (with_reducible refine ck_nzL ?_; simp; done) | (with_reducible refine vp_in_nI ?_ ?_ <;> first | omega | decide) | (with_reducible refine Nat.le_of_ble_eq_true ?_; rfl) | omega | exact Or.inl trivial | exact Or.inr trivial | exact Or.inl rfl | exact Or.inr rfl)
  refine hC.1 75 _ _ _ _ _ _ _ 2 _ _ _ _ _ _ _ _ _ _ _ _ lX9_75 (ct_X2_add l G (P := Q) hw (c := 2) (by first | rfl | exact pk_us) (by decide)) ⟨by decide, rfl⟩ (cx_83 hw) rfl rfl (Nat.le_of_ble_eq_true rfl) (by first | decide | omega) (by decide) (by omega) (by omega) dX9_strikeHours_29 ?_
  dsimp only [Option.toList, List.cons_append, List.nil_append]
  refine hB bX9_strikeHours_32 _ _ _ _ _ _ _ kX9_strikeHours_32 ?_
  dsimp only [bX9_strikeHours_32, kx_wp, kx_step, kx_lI, kx_lL, kx_lA, kx_gl, kx_pI, kx_pL, kx_pR, kx_pA, kx_pV, kx_s1, kx_s2, kx_sl, kx_pre, kx_c2, kx_pl, kx_cmp, kx_oF, kx_eqN, kx_nil, kx_c1, kx_ft, kx_aI, kx_aL, kx_aR, kx_ln, Nat.reduceAdd, Option.toList, List.cons_append, List.nil_append, cf9_16]
  repeat (simp only [cx_8o, cx_8s, cx_83 hw, cx_84 hw, cx_dq0 hw, cx_dq1 hw, cx_dq2 hw, cx_dp0 hw, cx_dp1 hw, cx_dp2 hw, cx_8f3 hw, cx_8f4 hw, pk_us, pk_un, ne_eq, Nat.reduceEqDiff, not_false_eq_true, kz_uu, ks_eq, ks_ss]; try dsimp only [kx_wp, kx_step, kx_lI, kx_lL, kx_lA, kx_gl, kx_pI, kx_pL, kx_pR, kx_pA, kx_pV, kx_s1, kx_s2, kx_sl, kx_pre, kx_c2, kx_pl, kx_cmp, kx_oF, kx_eqN, kx_nil, kx_c1, kx_ft, kx_aI, kx_aL, kx_aR, kx_ln, Nat.reduceAdd, Option.toList, List.cons_append, List.nil_append, cf9_16])
  repeat' apply And.intro
  all_goals try (first | with_reducible assumption | (with_reducible refine ck_nzI ?_; simp; done) | (with_reducible refine ck_nzL ?_; simp; done) | (with_reducible refine vp_in_nI ?_ ?_ <;> first | omega | decide) | (with_reducible refine Nat.le_of_ble_eq_true ?_; rfl) | omega | exact Or.inl trivial | exact Or.inr trivial | exact Or.inl rfl | exact Or.inr rfl)
  refine hC.1 75 _ _ _ _ _ _ _ 2 _ _ _ _ _ _ _ _ _ _ _ _ lX9_75 (ct_X2_add l G (P := Q) hw (c := 3) (by first | rfl | exact pk_us) (by decide)) ⟨by decide, rfl⟩ (cx_83 hw) rfl rfl (Nat.le_of_ble_eq_true rfl) (by first | decide | omega) (by decide) (by omega) (by omega) dX9_strikeHours_39 ?_
  dsimp only [Option.toList, List.cons_append, List.nil_append]
  refine hB bX9_strikeHours_42 _ _ _ _ _ _ _ kX9_strikeHours_42 ?_
  dsimp only [bX9_strikeHours_42, kx_wp, kx_step, kx_lI, kx_lL, kx_lA, kx_gl, kx_pI, kx_pL, kx_pR, kx_pA, kx_pV, kx_s1, kx_s2, kx_sl, kx_pre, kx_c2, kx_pl, kx_cmp, kx_oF, kx_eqN, kx_nil, kx_c1, kx_ft, kx_aI, kx_aL, kx_aR, kx_ln, Nat.reduceAdd, Option.toList, List.cons_append, List.nil_append, cf9_16]
  repeat (simp only [cx_8o, cx_8s, cx_83 hw, cx_84 hw, cx_dq0 hw, cx_dq1 hw, cx_dq2 hw, cx_dp0 hw, cx_dp1 hw, cx_dp2 hw, cx_8f3 hw, cx_8f4 hw, pk_us, pk_un, ne_eq, Nat.reduceEqDiff, not_false_eq_true, kz_uu, ks_eq, ks_ss]; try dsimp only [kx_wp, kx_step, kx_lI, kx_lL, kx_lA, kx_gl, kx_pI, kx_pL, kx_pR, kx_pA, kx_pV, kx_s1, kx_s2, kx_sl, kx_pre, kx_c2, kx_pl, kx_cmp, kx_oF, kx_eqN, kx_nil, kx_c1, kx_ft, kx_aI, kx_aL, kx_aR, kx_ln, Nat.reduceAdd, Option.toList, List.cons_append, List.nil_append, cf9_16])
  repeat' apply And.intro
  all_goals try (first | with_reducible assumption | (with_reducible refine ck_nzI ?_; simp; done) | (with_reducible refine ck_nzL ?_; simp; done) | (with_reducible refine vp_in_nI ?_ ?_ <;> first | omega | decide) | (with_reducible refine Nat.le_of_ble_eq_true ?_; rfl) | omega | exact Or.inl trivial | exact Or.inr trivial | exact Or.inl rfl | exact Or.inr rfl)
  refine hC.1 75 _ _ _ _ _ _ _ 2 _ _ _ _ _ _ _ _ _ _ _ _ lX9_75 (ct_X2_add l G (P := Q) hw (c := 4) (by first | rfl | exact pk_us) (by decide)) ⟨by decide, rfl⟩ (cx_83 hw) rfl rfl (Nat.le_of_ble_eq_true rfl) (by first | decide | omega) (by decide) (by omega) (by omega) dX9_strikeHours_49 ?_
  dsimp only [Option.toList, List.cons_append, List.nil_append]
  refine hB bX9_strikeHours_52 _ _ _ _ _ _ _ kX9_strikeHours_52 ?_
  dsimp only [bX9_strikeHours_52, kx_wp, kx_step, kx_lI, kx_lL, kx_lA, kx_gl, kx_pI, kx_pL, kx_pR, kx_pA, kx_pV, kx_s1, kx_s2, kx_sl, kx_pre, kx_c2, kx_pl, kx_cmp, kx_oF, kx_eqN, kx_nil, kx_c1, kx_ft, kx_aI, kx_aL, kx_aR, kx_ln, Nat.reduceAdd, Option.toList, List.cons_append, List.nil_append, cf9_16]
  repeat (simp only [cx_8o, cx_8s, cx_83 hw, cx_84 hw, cx_dq0 hw, cx_dq1 hw, cx_dq2 hw, cx_dp0 hw, cx_dp1 hw, cx_dp2 hw, cx_8f3 hw, cx_8f4 hw, pk_us, pk_un, ne_eq, Nat.reduceEqDiff, not_false_eq_true, kz_uu, ks_eq, ks_ss]; try dsimp only [kx_wp, kx_step, kx_lI, kx_lL, kx_lA, kx_gl, kx_pI, kx_pL, kx_pR, kx_pA, kx_pV, kx_s1, kx_s2, kx_sl, kx_pre, kx_c2, kx_pl, kx_cmp, kx_oF, kx_eqN, kx_nil, kx_c1, kx_ft, kx_aI, kx_aL, kx_aR, kx_ln, Nat.reduceAdd, Option.toList, List.cons_append, List.nil_append, cf9_16])
  repeat' apply And.intro
  all_goals try (first | with_reducible assumption | (with_reducible refine ck_nzI ?_; simp; done) | (with_reducible refine ck_nzL ?_; simp; done) | (with_reducible refine vp_in_nI ?_ ?_ <;> first | omega | decide) | (with_reducible refine Nat.le_of_ble_eq_true ?_; rfl) | omega | exact Or.inl trivial | exact Or.inr trivial | exact Or.inl rfl | exact Or.inr rfl)
  refine hC.1 75 _ _ _ _ _ _ _ 2 _ _ _ _ _ _ _ _ _ _ _ _ lX9_75 (ct_X2_add l G (P := Q) hw (c := 5) (by first | rfl | exact pk_us) (by decide)) ⟨by decide, rfl⟩ (cx_83 hw) rfl rfl (Nat.le_of_ble_eq_true rfl) (by first | decide | omega) (by decide) (by omega) (by omega) dX9_strikeHours_58 ?_
  dsimp only [Option.toList, List.cons_append, List.nil_append]
  refine hB bX9_strikeHours_61 _ _ _ _ _ _ _ kX9_strikeHours_61 ?_
  dsimp only [bX9_strikeHours_61, kx_wp, kx_step, kx_lI, kx_lL, kx_lA, kx_gl, kx_pI, kx_pL, kx_pR, kx_pA, kx_pV, kx_s1, kx_s2, kx_sl, kx_pre, kx_c2, kx_pl, kx_cmp, kx_oF, kx_eqN, kx_nil, kx_c1, kx_ft, kx_aI, kx_aL, kx_aR, kx_ln, Nat.reduceAdd, Option.toList, List.cons_append, List.nil_append, cf9_16]
  repeat (simp only [cx_8o, cx_8s, cx_83 hw, cx_84 hw, cx_dq0 hw, cx_dq1 hw, cx_dq2 hw, cx_dp0 hw, cx_dp1 hw, cx_dp2 hw, cx_8f3 hw, cx_8f4 hw, pk_us, pk_un, ne_eq, Nat.reduceEqDiff, not_false_eq_true, kz_uu, ks_eq, ks_ss]; try dsimp only [kx_wp, kx_step, kx_lI, kx_lL, kx_lA, kx_gl, kx_pI, kx_pL, kx_pR, kx_pA, kx_pV, kx_s1, kx_s2, kx_sl, kx_pre, kx_c2, kx_pl, kx_cmp, kx_oF, kx_eqN, kx_nil, kx_c1, kx_ft, kx_aI, kx_aL, kx_aR, kx_ln, Nat.reduceAdd, Option.toList, List.cons_append, List.nil_append, cf9_16])
  repeat' apply And.intro
  all_goals try (first | with_reducible assumption | (with_reducible refine ck_nzI ?_; simp; done) | (with_reducible refine ck_nzL ?_; simp; done) | (with_reducible refine vp_in_nI ?_ ?_ <;> first | omega | decide) | (with_reducible refine Nat.le_of_ble_eq_true ?_; rfl) | omega | exact Or.inl trivial | exact Or.inr trivial | exact Or.inl rfl | exact Or.inr rfl)
  refine hC.1 75 _ _ _ _ _ _ _ 2 _ _ _ _ _ _ _ _ _ _ _ _ lX9_75 (ct_X2_add l G (P := Q) hw (c := 6) (by first | rfl | exact pk_us) (by decide)) ⟨by decide, rfl⟩ (cx_83 hw) rfl rfl (Nat.le_of_ble_eq_true rfl) (by first | decide | omega) (by decide) (by omega) (by omega) dX9_strikeHours_68 ?_
  dsimp only [Option.toList, List.cons_append, List.nil_append]
  refine hB bX9_strikeHours_71 _ _ _ _ _ _ _ kX9_strikeHours_71 ?_
  dsimp only [bX9_strikeHours_71, kx_wp, kx_step, kx_lI, kx_lL, kx_lA, kx_gl, kx_pI, kx_pL, kx_pR, kx_pA, kx_pV, kx_s1, kx_s2, kx_sl, kx_pre, kx_c2, kx_pl, kx_cmp, kx_oF, kx_eqN, kx_nil, kx_c1, kx_ft, kx_aI, kx_aL, kx_aR, kx_ln, Nat.reduceAdd, Option.toList, List.cons_append, List.nil_append, cf9_16]
  repeat (simp only [cx_8o, cx_8s, cx_83 hw, cx_84 hw, cx_dq0 hw, cx_dq1 hw, cx_dq2 hw, cx_dp0 hw, cx_dp1 hw, cx_dp2 hw, cx_8f3 hw, cx_8f4 hw, pk_us, pk_un, ne_eq, Nat.reduceEqDiff, not_false_eq_true, kz_uu, ks_eq, ks_ss]; try dsimp only [kx_wp, kx_step, kx_lI, kx_lL, kx_lA, kx_gl, kx_pI, kx_pL, kx_pR, kx_pA, kx_pV, kx_s1, kx_s2, kx_sl, kx_pre, kx_c2, kx_pl, kx_cmp, kx_oF, kx_eqN, kx_nil, kx_c1, kx_ft, kx_aI, kx_aL, kx_aR, kx_ln, Nat.reduceAdd, Option.toList, List.cons_append, List.nil_append, cf9_16])
  all_goals (repeat' apply And.intro)
  all_goals ((try clear hB hC); first | exact True.intro | rfl)

def bX9_reset_0 : List kx_O := [(.aload_n 0, 0, 0, 0, .null), (.bipush 8, 0, 0, 0, .int 8), (.putfield 25, 9, 0, 0, .null), (.aload_n 0, 0, 0, 0, .null), (.iconst 0, 0, 0, 0, .int 0), (.putfield 29, 9, 1, 0, .null), (.aload_n 0, 0, 0, 0, .null), (.iconst 0, 0, 0, 0, .int 0), (.putfield 32, 9, 2, 0, .null), (.aload_n 0, 0, 0, 0, .null), (.iconst 0, 0, 0, 0, .int 0), (.putfield 35, 9, 3, 0, .null), (.aload_n 0, 0, 0, 0, .null), (.iconst 0, 0, 0, 0, .int 0), (.putfield 38, 9, 4, 0, .null), (.aload_n 0, 0, 0, 0, .null), (.iconst 4, 0, 0, 0, .int 4), (.putfield 41, 9, 5, 0, .null), (.aload_n 0, 0, 0, 0, .null), (.sipush 400, 0, 0, 0, .int 400), (.putfield 44, 9, 6, 0, .null), (.aload_n 0, 0, 0, 0, .null), (.bipush 30, 0, 0, 0, .int 30), (.putfield 47, 9, 7, 0, .null), (.aload_n 0, 0, 0, 0, .null), (.iconst 0, 0, 0, 0, .int 0), (.putfield 50, 9, 8, 0, .null), (.aload_n 0, 0, 0, 0, .null), (.iconst 0, 0, 0, 0, .int 0), (.putfield 53, 9, 9, 0, .null), (.aload_n 0, 0, 0, 0, .null), (.iconst 0, 0, 0, 0, .int 0), (.putfield 56, 9, 10, 0, .null), (.aload_n 0, 0, 0, 0, .null), (.iconst 0, 0, 0, 0, .int 0), (.putfield 59, 9, 11, 2, .null), (.aload_n 0, 0, 0, 0, .null), (.getfield 15, 9, 15, 0, .null), (.iconst 0, 0, 0, 0, .int 0)]
theorem kX9_reset_0 : kx_oks kxL_X9 false cX9_reset 0 bX9_reset_0 = true := by decide +kernel
def bX9_reset_72 : List kx_O := [(.aload_n 0, 0, 0, 0, .null)]
theorem kX9_reset_72 : kx_oks kxL_X9 false cX9_reset 72 bX9_reset_72 = true := by decide +kernel
def bX9_reset_76 : List kx_O := [(.return_, 0, 0, 0, .null)]
theorem kX9_reset_76 : kx_oks kxL_X9 false cX9_reset 76 bX9_reset_76 = true := by decide +kernel
theorem dX9_reset_69 : decode cX9_reset 69 = .ok (.invokestatic 63, 3) := by decide +kernel
theorem dX9_reset_73 : decode cX9_reset 73 = .ok (.invokevirtual 69, 3) := by decide +kernel
set_option maxRecDepth 100000 in
set_option maxHeartbeats 4000000 in
theorem ct_X9_reset (l : Launch) (G : kx_G) {P : kx_P} {sz : Nat} {Q : kx_P} {w : Nat} (hw : 144 ≤ w) {F V te qu Fo st : Nat → Int32} {x : Value}  : kx_M l G sX9_reset 3 0 0 [.ref w] (cx_8 (cx_fW (cx_vW Q w V te qu) w Fo st) x F) sz none (cx_8 (cx_fW (cx_vW Q w (upd (upd (upd (upd (upd (upd (upd (upd (upd (upd (upd (upd (upd (upd V 0 8) 1 0) 2 0) 3 0) 4 0) 5 4) 6 400) 7 30) 8 0) 9 0) 10 0) 11 0) 12 0) 14 0) (te) (ck_cp qu (fun _ => 0) 4)) w (upd Fo 1 7) (upd (upd (upd (upd (upd (upd (upd st 0 (-1)) 1 11) 2 (-4)) 3 12) 4 (-8)) 5 1) 6 (-4))) x (F)) sz := by
  refine kx_mk kx_tab kxLok_X9 (ini := false) [some (.ref w)] ⟨by decide, rfl, by decide, by decide⟩ (rfl) rfl rfl (fun g hB hC => ?_)
  refine hB bX9_reset_0 _ _ _ _ _ _ _ kX9_reset_0 ?_
  dsimp only [bX9_reset_0, kx_wp, kx_step, kx_lI, kx_lL, kx_lA, kx_gl, kx_pI, kx_pL, kx_pR, kx_pA, kx_pV, kx_s1, kx_s2, kx_sl, kx_pre, kx_c2, kx_pl, kx_cmp, kx_oF, kx_eqN, kx_nil, kx_c1, kx_ft, kx_aI, kx_aL, kx_aR, kx_ln, Nat.reduceAdd, Option.toList, List.cons_append, List.nil_append, cf9_0, cf9_1, cf9_2, cf9_3, cf9_4, cf9_5, cf9_6, cf9_7, cf9_8, cf9_9, cf9_10, cf9_11, cf9_15]
  repeat (simp only [cx_8o, cx_8s, cx_83 hw, cx_84 hw, cx_dq0 hw, cx_dq1 hw, cx_dq2 hw, cx_dp0 hw, cx_dp1 hw, cx_dp2 hw, cx_8f3 hw, cx_8f4 hw, pk_us, pk_un, ne_eq, Nat.reduceEqDiff, not_false_eq_true, cp9_0, cp9_1, cp9_2, cp9_3, cp9_4, cp9_5, cp9_6, cp9_7, cp9_8, cp9_9, cp9_10, cp9_11, ks_eq, ks_ss]; try dsimp only [kx_wp, kx_step, kx_lI, kx_lL, kx_lA, kx_gl, kx_pI, kx_pL, kx_pR, kx_pA, kx_pV, kx_s1, kx_s2, kx_sl, kx_pre, kx_c2, kx_pl, kx_cmp, kx_oF, kx_eqN, kx_nil, kx_c1, kx_ft, kx_aI, kx_aL, kx_aR, kx_ln, Nat.reduceAdd, Option.toList, List.cons_append, List.nil_append, cf9_0, cf9_1, cf9_2, cf9_3, cf9_4, cf9_5, cf9_6, cf9_7, cf9_8, cf9_9, cf9_10, cf9_11, cf9_15])
  repeat' apply And.intro
  all_goals try (first | with_reducible assumption | (with_reducible refine ck_nzI ?_; simp; done) | (with_reducible refine ck_nzL ?_; simp; done) | (with_reducible refine vp_in_nI ?_ ?_ <;> first | omega | decide) | (with_reducible refine Nat.le_of_ble_eq_true ?_; rfl) | omega | exact Or.inl trivial | exact Or.inr trivial | exact Or.inl rfl | exact Or.inr rfl)
  refine hC.2.1 63 _ _ _ _ _ _ _ _ _ _ _ _ _ _ _ _ _ lX9_63 (ct_J7_fill_53178 l G (cx_dq2 hw) (by omega) (by decide)) rfl rfl (Nat.le_of_ble_eq_true rfl) (by first | decide | omega) (by decide) (by omega) (by omega) dX9_reset_69 ?_
  rw [cx_dp2 hw]
  refine hB bX9_reset_72 _ _ _ _ _ _ _ kX9_reset_72 ?_
  dsimp only [bX9_reset_72, kx_wp, kx_step, kx_lI, kx_lL, kx_lA, kx_gl, kx_pI, kx_pL, kx_pR, kx_pA, kx_pV, kx_s1, kx_s2, kx_sl, kx_pre, kx_c2, kx_pl, kx_cmp, kx_oF, kx_eqN, kx_nil, kx_c1, kx_ft, kx_aI, kx_aL, kx_aR, kx_ln, Nat.reduceAdd, Option.toList, List.cons_append, List.nil_append, cf9_0, cf9_1, cf9_2, cf9_3, cf9_4, cf9_5, cf9_6, cf9_7, cf9_8, cf9_9, cf9_10, cf9_11, cf9_15]
  repeat (simp only [cx_8o, cx_8s, cx_83 hw, cx_84 hw, cx_dq0 hw, cx_dq1 hw, cx_dq2 hw, cx_dp0 hw, cx_dp1 hw, cx_dp2 hw, cx_8f3 hw, cx_8f4 hw, pk_us, pk_un, ne_eq, Nat.reduceEqDiff, not_false_eq_true, cp9_0, cp9_1, cp9_2, cp9_3, cp9_4, cp9_5, cp9_6, cp9_7, cp9_8, cp9_9, cp9_10, cp9_11, ks_eq, ks_ss]; try dsimp only [kx_wp, kx_step, kx_lI, kx_lL, kx_lA, kx_gl, kx_pI, kx_pL, kx_pR, kx_pA, kx_pV, kx_s1, kx_s2, kx_sl, kx_pre, kx_c2, kx_pl, kx_cmp, kx_oF, kx_eqN, kx_nil, kx_c1, kx_ft, kx_aI, kx_aL, kx_aR, kx_ln, Nat.reduceAdd, Option.toList, List.cons_append, List.nil_append, cf9_0, cf9_1, cf9_2, cf9_3, cf9_4, cf9_5, cf9_6, cf9_7, cf9_8, cf9_9, cf9_10, cf9_11, cf9_15])
  repeat' apply And.intro
  all_goals try (first | with_reducible assumption | (with_reducible refine ck_nzI ?_; simp; done) | (with_reducible refine ck_nzL ?_; simp; done) | (with_reducible refine vp_in_nI ?_ ?_ <;> first | omega | decide) | (with_reducible refine Nat.le_of_ble_eq_true ?_; rfl) | omega | exact Or.inl trivial | exact Or.inr trivial | exact Or.inl rfl | exact Or.inr rfl)
  refine hC.1 69 _ _ _ _ _ _ _ 9 _ _ _ _ _ _ _ _ _ _ _ _ lX9_69 (ct_X9_strikeHours l G (P := Q) hw) ⟨by decide, rfl⟩ (cx_dq0 hw) rfl rfl (Nat.le_of_ble_eq_true rfl) (by first | decide | omega) (by decide) (by omega) (by omega) dX9_reset_73 ?_
  refine hB bX9_reset_76 _ _ _ _ _ _ _ kX9_reset_76 ?_
  dsimp only [bX9_reset_76, kx_wp, kx_step, kx_lI, kx_lL, kx_lA, kx_gl, kx_pI, kx_pL, kx_pR, kx_pA, kx_pV, kx_s1, kx_s2, kx_sl, kx_pre, kx_c2, kx_pl, kx_cmp, kx_oF, kx_eqN, kx_nil, kx_c1, kx_ft, kx_aI, kx_aL, kx_aR, kx_ln, Nat.reduceAdd, Option.toList, List.cons_append, List.nil_append, cf9_0, cf9_1, cf9_2, cf9_3, cf9_4, cf9_5, cf9_6, cf9_7, cf9_8, cf9_9, cf9_10, cf9_11, cf9_15]
  repeat (simp only [cx_8o, cx_8s, cx_83 hw, cx_84 hw, cx_dq0 hw, cx_dq1 hw, cx_dq2 hw, cx_dp0 hw, cx_dp1 hw, cx_dp2 hw, cx_8f3 hw, cx_8f4 hw, pk_us, pk_un, ne_eq, Nat.reduceEqDiff, not_false_eq_true, cp9_0, cp9_1, cp9_2, cp9_3, cp9_4, cp9_5, cp9_6, cp9_7, cp9_8, cp9_9, cp9_10, cp9_11, ks_eq, ks_ss]; try dsimp only [kx_wp, kx_step, kx_lI, kx_lL, kx_lA, kx_gl, kx_pI, kx_pL, kx_pR, kx_pA, kx_pV, kx_s1, kx_s2, kx_sl, kx_pre, kx_c2, kx_pl, kx_cmp, kx_oF, kx_eqN, kx_nil, kx_c1, kx_ft, kx_aI, kx_aL, kx_aR, kx_ln, Nat.reduceAdd, Option.toList, List.cons_append, List.nil_append, cf9_0, cf9_1, cf9_2, cf9_3, cf9_4, cf9_5, cf9_6, cf9_7, cf9_8, cf9_9, cf9_10, cf9_11, cf9_15])
  all_goals (repeat' apply And.intro)
  all_goals ((try clear hB hC); first | exact True.intro | exact Or.inl trivial | exact Or.inr trivial | rfl | omega)


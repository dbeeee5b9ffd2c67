/-! the class's reader: expressions. The world: the reader 68, the rack's formula w + 3 and its steps w + 4 -/
def cx_fW (Q : kx_P) (w : Nat) (Fo st : Nat → Int32) : kx_P := kx_set (kx_set Q (w + 4) (kI 0 400 st)) (w + 3) (kO 2 (kf (cr2 w) Fo))
section KFW
variable {Q : kx_P} {w : Nat} {F F2 Fo Fo2 st st2 : Nat → Int32} {x : Value}
theorem cx_f3 : cx_fW Q w Fo st (w + 3) = kO 2 (kf (cr2 w) Fo) := ks_eq _ _ _
theorem cx_f4 : cx_fW Q w Fo st (w + 4) = kI 0 400 st := by unfold cx_fW; rw [ks_ne (by omega), ks_eq]
theorem cx_fo {j : Nat} (h1 : ¬ j = w + 3) (h2 : ¬ j = w + 4) : cx_fW Q w Fo st j = Q j := by unfold cx_fW; rw [ks_ne h1, ks_ne h2]
theorem cx_8f3 (hw : 144 ≤ w) : kx_set (cx_8 (cx_fW Q w Fo st) x F) (w + 3) (kO 2 (kf (cr2 w) Fo2)) = cx_8 (cx_fW Q w Fo2 st) x F := by unfold cx_8 cx_fW; rw [ks_co _ _ (by omega), ks_ss]
theorem cx_8f4 (hw : 144 ≤ w) : kx_set (cx_8 (cx_fW Q w Fo st) x F) (w + 4) (kI 0 400 st2) = cx_8 (cx_fW Q w Fo st2) x F := by unfold cx_8 cx_fW; rw [ks_co _ _ (by omega), ks_co (P := kx_set Q (w + 4) _) _ _ (by omega), ks_ss]
theorem cx_83 (hw : 144 ≤ w) : cx_8 (cx_fW Q w Fo st) x F (w + 3) = kO 2 (kf (cr2 w) Fo) := (cx_8n (by omega)).trans cx_f3
theorem cx_84 (hw : 144 ≤ w) : cx_8 (cx_fW Q w Fo st) x F (w + 4) = kI 0 400 st := (cx_8n (by omega)).trans cx_f4
theorem cx_8w0 (hw : 144 ≤ w) : cx_8 (cx_fW Q w Fo st) x F w = Q w := (cx_8n (by omega)).trans (cx_fo (by omega) (by omega))
theorem cx_f67 (hw : 144 ≤ w) : cx_fW Q w Fo st 67 = Q 67 := cx_fo (by omega) (by omega)
end KFW
def bX2_add_0 : List kx_O := [(.aload_n 0, 0, 0, 0, .null), (.getfield 15, 2, 1, 0, .null), (.aload_n 0, 0, 0, 0, .null), (.getfield 9, 2, 0, 0, .null), (.arraylength, 0, 0, 0, .null), (.if_icmp .lt 5, 14, 0, 0, .null)]
theorem kX2_add_0 : kx_oks kxL_X2 false cX2_add 0 bX2_add_0 = true := by decide +kernel
def bX2_add_12 : List kx_O := [(.iconst 0, 0, 0, 0, .int 0), (.ireturn, 0, 0, 0, .null)]
theorem kX2_add_12 : kx_oks kxL_X2 false cX2_add 12 bX2_add_12 = true := by decide +kernel
def bX2_add_14 : List kx_O := [(.aload_n 0, 0, 0, 0, .null), (.getfield 9, 2, 0, 0, .null), (.aload_n 0, 0, 0, 0, .null), (.getfield 15, 2, 1, 0, .null), (.iload_n 1, 1, 0, 0, .null), (.iastore, 0, 0, 0, .null), (.aload_n 0, 0, 0, 0, .null), (.dup, 0, 0, 0, .null), (.getfield 15, 2, 1, 0, .null), (.iconst 1, 0, 0, 0, .int 1), (.iadd, 0, 0, 0, .null), (.putfield 15, 2, 1, 0, .null), (.iconst 1, 0, 0, 0, .int 1), (.ireturn, 0, 0, 0, .null)]
theorem kX2_add_14 : kx_oks kxL_X2 false cX2_add 14 bX2_add_14 = true := by decide +kernel
set_option maxRecDepth 100000 in
set_option maxHeartbeats 4000000 in
theorem ct_X2_add (l : Launch) (G : kx_G) {P : kx_P} {sz : Nat} {Q : kx_P} {w : Nat} (hw : 144 ≤ w) {F Fo st : Nat → Int32} {x : Value} {v : Int32} {c : Nat} (hc : Fo 1 = nI c) (h4 : c < 400)  : kx_M l G sX2_add 1 0 0 [.ref (w + 3), .int (v)] (cx_8 (cx_fW Q w Fo st) x F) sz (some (.int (1))) (cx_8 (cx_fW Q w (upd Fo 1 (nI (c + 1))) (upd st c v)) x F) sz := by
  refine kx_mk kx_tab kxLok_X2 (ini := false) [some (.ref (w + 3)), some (.int (v))] ⟨by decide, rfl, by decide, by decide⟩ (by first | exact Or.inl rfl | exact Or.inr rfl) rfl rfl (fun g hB hC => ?_)
  refine hB bX2_add_0 _ _ _ _ _ _ _ kX2_add_0 ?_
  dsimp only [bX2_add_0, kx_wp, kx_step, kx_lI, kx_lL, kx_lA, kx_gl, kx_pI, kx_pL, kx_pR, kx_pA, kx_pV, kx_s1, kx_s2, kx_sl, kx_pre, kx_c2, kx_pl, kx_cmp, kx_oF, kx_eqN, kx_nil, kx_c1, kx_ft, kx_aI, kx_aL, kx_aR, kx_ln, Nat.reduceAdd, Option.toList, List.cons_append, List.nil_append, cf2_1, cf2_0]
  repeat (simp only [cx_8f3 hw, cx_8f4 hw, cx_83 hw, cx_84 hw, hc, nI_1, pk_us, nI_clamp (show c < 2 ^ 31 by omega), cp2_1, ks_eq, ks_ss]; try dsimp only [kx_wp, kx_step, kx_lI, kx_lL, kx_lA, kx_gl, kx_pI, kx_pL, kx_pR, kx_pA, kx_pV, kx_s1, kx_s2, kx_sl, kx_pre, kx_c2, kx_pl, kx_cmp, kx_oF, kx_eqN, kx_nil, kx_c1, kx_ft, kx_aI, kx_aL, kx_aR, kx_ln, Nat.reduceAdd, Option.toList, List.cons_append, List.nil_append, cf2_1, cf2_0])
  repeat' apply And.intro
  all_goals try (first | with_reducible assumption | (with_reducible refine ck_nzI ?_; simp; done) | (with_reducible refine ck_nzL ?_; simp; done) | (with_reducible refine vp_in_nI ?_ ?_ <;> first | omega | decide) | (with_reducible refine Nat.le_of_ble_eq_true ?_; rfl) | omega | exact Or.inl trivial | exact Or.inr trivial | exact Or.inl rfl | exact Or.inr rfl)
  · intro zc9
    with_reducible first | have ze9 := Int32.not_le.mpr zc9 | have ze9 := zc9
    refine hB bX2_add_14 _ _ _ _ _ _ _ kX2_add_14 ?_
    dsimp only [bX2_add_14, kx_wp, kx_step, kx_lI, kx_lL, kx_lA, kx_gl, kx_pI, kx_pL, kx_pR, kx_pA, kx_pV, kx_s1, kx_s2, kx_sl, kx_pre, kx_c2, kx_pl, kx_cmp, kx_oF, kx_eqN, kx_nil, kx_c1, kx_ft, kx_aI, kx_aL, kx_aR, kx_ln, Nat.reduceAdd, Option.toList, List.cons_append, List.nil_append, cf2_1, cf2_0]
    repeat (simp only [cx_8f3 hw, cx_8f4 hw, cx_83 hw, cx_84 hw, hc, nI_1, pk_us, nI_clamp (show c < 2 ^ 31 by omega), cp2_1, ks_eq, ks_ss]; try dsimp only [kx_wp, kx_step, kx_lI, kx_lL, kx_lA, kx_gl, kx_pI, kx_pL, kx_pR, kx_pA, kx_pV, kx_s1, kx_s2, kx_sl, kx_pre, kx_c2, kx_pl, kx_cmp, kx_oF, kx_eqN, kx_nil, kx_c1, kx_ft, kx_aI, kx_aL, kx_aR, kx_ln, Nat.reduceAdd, Option.toList, List.cons_append, List.nil_append, cf2_1, cf2_0])
    all_goals (repeat' apply And.intro)
    all_goals ((try clear hB hC); first | exact True.intro | with_reducible rfl | with_reducible assumption | (with_reducible refine vp_in_nI ?_ ?_ <;> first | omega | decide) | exact Nat.le_of_ble_eq_true rfl | (with_reducible refine ck_nzI ?_; simp; done) | (with_reducible refine ck_nzL ?_; simp; done) | (simp only [pk_us, pk_uLs, zc9, ze9, ↓reduceIte, not_true_eq_false, not_false_eq_true]; done) | (simp only [zc9, ze9, ↓reduceIte, not_true_eq_false, not_false_eq_true]; with_reducible rfl) | omega | skip)
  · intro zc9
    first | exact absurd rfl zc9 | exact absurd zc9 (by decide) | exact absurd (by decide) zc9 | (exfalso; exact zc9 ((nI_ltI (a := c) (b := 400) (by omega) (by omega)).mpr h4)) | (exfalso; simp_all; done)

def bX8_takeOpening_0 : List kx_O := [(.aload_n 0, 0, 0, 0, .null), (.bipush 40, 0, 0, 0, .int 40)]
theorem kX8_takeOpening_0 : kx_oks kxL_X8 false cX8_takeOpening 0 bX8_takeOpening_0 = true := by decide +kernel
def bX8_takeOpening_6 : List kx_O := [(.ifCond .ne 13, 19, 0, 0, .null)]
theorem kX8_takeOpening_6 : kx_oks kxL_X8 false cX8_takeOpening 6 bX8_takeOpening_6 = true := by decide +kernel
def bX8_takeOpening_9 : List kx_O := [(.aload_n 0, 0, 0, 0, .null), (.iconst 1, 0, 0, 0, .int 1), (.aload_n 0, 0, 0, 0, .null), (.getfield 28, 8, 2, 0, .null)]
theorem kX8_takeOpening_9 : kx_oks kxL_X8 false cX8_takeOpening 9 bX8_takeOpening_9 = true := by decide +kernel
def bX8_takeOpening_18 : List kx_O := [(.ireturn, 0, 0, 0, .null)]
theorem kX8_takeOpening_18 : kx_oks kxL_X8 false cX8_takeOpening 18 bX8_takeOpening_18 = true := by decide +kernel
def bX8_takeOpening_19 : List kx_O := [(.aload_n 0, 0, 0, 0, .null), (.getfield 31, 8, 3, 0, .null), (.bipush 8, 0, 0, 0, .int 8), (.if_icmp .lt 13, 38, 0, 0, .null)]
theorem kX8_takeOpening_19 : kx_oks kxL_X8 false cX8_takeOpening 19 bX8_takeOpening_19 = true := by decide +kernel
def bX8_takeOpening_28 : List kx_O := [(.aload_n 0, 0, 0, 0, .null), (.iconst 3, 0, 0, 0, .int 3), (.aload_n 0, 0, 0, 0, .null), (.getfield 28, 8, 2, 0, .null)]
theorem kX8_takeOpening_28 : kx_oks kxL_X8 false cX8_takeOpening 28 bX8_takeOpening_28 = true := by decide +kernel
def bX8_takeOpening_37 : List kx_O := [(.ireturn, 0, 0, 0, .null)]
theorem kX8_takeOpening_37 : kx_oks kxL_X8 false cX8_takeOpening 37 bX8_takeOpening_37 = true := by decide +kernel
def bX8_takeOpening_38 : List kx_O := [(.aload_n 0, 0, 0, 0, .null), (.dup, 0, 0, 0, .null), (.getfield 31, 8, 3, 0, .null), (.iconst 1, 0, 0, 0, .int 1), (.iadd, 0, 0, 0, .null), (.putfield 31, 8, 3, 0, .null), (.aload_n 0, 0, 0, 0, .null), (.iconst 1, 0, 0, 0, .int 1)]
theorem kX8_takeOpening_38 : kx_oks kxL_X8 false cX8_takeOpening 38 bX8_takeOpening_38 = true := by decide +kernel
def bX8_takeOpening_53 : List kx_O := [(.iconst 1, 0, 0, 0, .int 1), (.ireturn, 0, 0, 0, .null)]
theorem kX8_takeOpening_53 : kx_oks kxL_X8 false cX8_takeOpening 53 bX8_takeOpening_53 = true := by decide +kernel
theorem dX8_takeOpening_3 : decode cX8_takeOpening 3 = .ok (.invokevirtual 54, 3) := by decide +kernel
theorem dX8_takeOpening_15 : decode cX8_takeOpening 15 = .ok (.invokevirtual 58, 3) := by decide +kernel
theorem dX8_takeOpening_34 : decode cX8_takeOpening 34 = .ok (.invokevirtual 58, 3) := by decide +kernel
theorem dX8_takeOpening_50 : decode cX8_takeOpening 50 = .ok (.invokevirtual 46, 3) := by decide +kernel
set_option maxRecDepth 100000 in
set_option maxHeartbeats 4000000 in
theorem ct_X8_takeOpening_t (l : Launch) (G : kx_G) {P : kx_P} {sz : Nat} {F T : Nat → Int32} {x : Value} (hT : P 67 = kI 0 400 T) {n a : Nat} (h1 : F 1 = nI n) (hn : n ≤ 400) (h2 : F 2 = nI a) (ha : a ≤ n) {q : Nat} (h3 : F 3 = nI q) (hq : q < 2 ^ 30) (h : cx_nx T n a = 40) (h8 : q < 8)  : kx_M l G sX8_takeOpening 4 0 0 [.ref 68] (cx_8 P x F) sz (some (.int (1))) (cx_8 P x (upd (upd (F) 3 (nI (q + 1))) 2 (nI (ck_sk T n (a + 1))))) sz := by
  refine kx_mk kx_tab kxLok_X8 (ini := false) [some (.ref 68)] ⟨by decide, rfl, by decide, by decide⟩ (by first | exact Or.inl rfl | exact Or.inr rfl) rfl rfl (fun g hB hC => ?_)
  refine hB bX8_takeOpening_0 _ _ _ _ _ _ _ kX8_takeOpening_0 ?_
  dsimp only [bX8_takeOpening_0, kx_wp, kx_step, kx_lI, kx_lL, kx_lA, kx_gl, kx_pI, kx_pL, kx_pR, kx_pA, kx_pV, kx_s1, kx_s2, kx_sl, kx_pre, kx_c2, kx_pl, kx_cmp, kx_oF, kx_eqN, kx_nil, kx_c1, kx_ft, kx_aI, kx_aL, kx_aR, kx_ln, Nat.reduceAdd, Option.toList, List.cons_append, List.nil_append, cf8_2, cf8_3]
  repeat (simp only [pk_us, pk_un, kz_uu, ne_eq, Nat.reduceEqDiff, not_false_eq_true, nI_1, cx_8s, cx_8ss, cx_8o, cx_8n (show ¬ (67:Nat) = 68 by decide), h1, hT, h2, h3, cp8_3, ks_eq, ks_ss]; try dsimp only [kx_wp, kx_step, kx_lI, kx_lL, kx_lA, kx_gl, kx_pI, kx_pL, kx_pR, kx_pA, kx_pV, kx_s1, kx_s2, kx_sl, kx_pre, kx_c2, kx_pl, kx_cmp, kx_oF, kx_eqN, kx_nil, kx_c1, kx_ft, kx_aI, kx_aL, kx_aR, kx_ln, Nat.reduceAdd, Option.toList, List.cons_append, List.nil_append, cf8_2, cf8_3])
  repeat' apply And.intro
  all_goals try (first | with_reducible assumption | (with_reducible refine ck_nzI ?_; simp; done) | (with_reducible refine ck_nzL ?_; simp; done) | (with_reducible refine vp_in_nI ?_ ?_ <;> first | omega | decide) | (with_reducible refine Nat.le_of_ble_eq_true ?_; rfl) | omega | exact Or.inl trivial | exact Or.inr trivial | exact Or.inl rfl | exact Or.inr rfl)
  refine hC.1 54 _ _ _ _ _ _ _ 8 _ _ _ _ _ _ _ _ _ _ _ _ lX8_54 (ct_X8_nextIs_t hT h1 hn h2 ha (by decide) h) ⟨by decide, rfl⟩ (cx_8o) rfl rfl (Nat.le_of_ble_eq_true rfl) (by first | decide | omega) (by decide) (by omega) (by omega) dX8_takeOpening_3 ?_
  refine hB bX8_takeOpening_6 _ _ _ _ _ _ _ kX8_takeOpening_6 ?_
  dsimp only [bX8_takeOpening_6, kx_wp, kx_step, kx_lI, kx_lL, kx_lA, kx_gl, kx_pI, kx_pL, kx_pR, kx_pA, kx_pV, kx_s1, kx_s2, kx_sl, kx_pre, kx_c2, kx_pl, kx_cmp, kx_oF, kx_eqN, kx_nil, kx_c1, kx_ft, kx_aI, kx_aL, kx_aR, kx_ln, Nat.reduceAdd, Option.toList, List.cons_append, List.nil_append, cf8_2, cf8_3]
  repeat (simp only [pk_us, pk_un, kz_uu, ne_eq, Nat.reduceEqDiff, not_false_eq_true, nI_1, cx_8s, cx_8ss, cx_8o, cx_8n (show ¬ (67:Nat) = 68 by decide), h1, hT, h2, h3, cp8_3, ks_eq, ks_ss]; try dsimp only [kx_wp, kx_step, kx_lI, kx_lL, kx_lA, kx_gl, kx_pI, kx_pL, kx_pR, kx_pA, kx_pV, kx_s1, kx_s2, kx_sl, kx_pre, kx_c2, kx_pl, kx_cmp, kx_oF, kx_eqN, kx_nil, kx_c1, kx_ft, kx_aI, kx_aL, kx_aR, kx_ln, Nat.reduceAdd, Option.toList, List.cons_append, List.nil_append, cf8_2, cf8_3])
  repeat' apply And.intro
  all_goals try (first | with_reducible assumption | (with_reducible refine ck_nzI ?_; simp; done) | (with_reducible refine ck_nzL ?_; simp; done) | (with_reducible refine vp_in_nI ?_ ?_ <;> first | omega | decide) | (with_reducible refine Nat.le_of_ble_eq_true ?_; rfl) | omega | exact Or.inl trivial | exact Or.inr trivial | exact Or.inl rfl | exact Or.inr rfl)
  · intro zc6
    have ze6 := zc6
    refine hB bX8_takeOpening_19 _ _ _ _ _ _ _ kX8_takeOpening_19 ?_
    dsimp only [bX8_takeOpening_19, kx_wp, kx_step, kx_lI, kx_lL, kx_lA, kx_gl, kx_pI, kx_pL, kx_pR, kx_pA, kx_pV, kx_s1, kx_s2, kx_sl, kx_pre, kx_c2, kx_pl, kx_cmp, kx_oF, kx_eqN, kx_nil, kx_c1, kx_ft, kx_aI, kx_aL, kx_aR, kx_ln, Nat.reduceAdd, Option.toList, List.cons_append, List.nil_append, cf8_2, cf8_3]
    repeat (simp only [pk_us, pk_un, kz_uu, ne_eq, Nat.reduceEqDiff, not_false_eq_true, nI_1, cx_8s, cx_8ss, cx_8o, cx_8n (show ¬ (67:Nat) = 68 by decide), h1, hT, h2, h3, cp8_3, ks_eq, ks_ss]; try dsimp only [kx_wp, kx_step, kx_lI, kx_lL, kx_lA, kx_gl, kx_pI, kx_pL, kx_pR, kx_pA, kx_pV, kx_s1, kx_s2, kx_sl, kx_pre, kx_c2, kx_pl, kx_cmp, kx_oF, kx_eqN, kx_nil, kx_c1, kx_ft, kx_aI, kx_aL, kx_aR, kx_ln, Nat.reduceAdd, Option.toList, List.cons_append, List.nil_append, cf8_2, cf8_3])
    repeat' apply And.intro
    all_goals try (first | with_reducible assumption | (with_reducible refine ck_nzI ?_; simp; done) | (with_reducible refine ck_nzL ?_; simp; done) | (with_reducible refine vp_in_nI ?_ ?_ <;> first | omega | decide) | (with_reducible refine Nat.le_of_ble_eq_true ?_; rfl) | omega | exact Or.inl trivial | exact Or.inr trivial | exact Or.inl rfl | exact Or.inr rfl)
    · intro zc25
      with_reducible first | have ze25 := Int32.not_le.mpr zc25 | have ze25 := zc25
      refine hB bX8_takeOpening_38 _ _ _ _ _ _ _ kX8_takeOpening_38 ?_
      dsimp only [bX8_takeOpening_38, kx_wp, kx_step, kx_lI, kx_lL, kx_lA, kx_gl, kx_pI, kx_pL, kx_pR, kx_pA, kx_pV, kx_s1, kx_s2, kx_sl, kx_pre, kx_c2, kx_pl, kx_cmp, kx_oF, kx_eqN, kx_nil, kx_c1, kx_ft, kx_aI, kx_aL, kx_aR, kx_ln, Nat.reduceAdd, Option.toList, List.cons_append, List.nil_append, cf8_2, cf8_3]
      repeat (simp only [pk_us, pk_un, kz_uu, ne_eq, Nat.reduceEqDiff, not_false_eq_true, nI_1, cx_8s, cx_8ss, cx_8o, cx_8n (show ¬ (67:Nat) = 68 by decide), h1, hT, h2, h3, cp8_3, ks_eq, ks_ss]; try dsimp only [kx_wp, kx_step, kx_lI, kx_lL, kx_lA, kx_gl, kx_pI, kx_pL, kx_pR, kx_pA, kx_pV, kx_s1, kx_s2, kx_sl, kx_pre, kx_c2, kx_pl, kx_cmp, kx_oF, kx_eqN, kx_nil, kx_c1, kx_ft, kx_aI, kx_aL, kx_aR, kx_ln, Nat.reduceAdd, Option.toList, List.cons_append, List.nil_append, cf8_2, cf8_3])
      repeat' apply And.intro
      all_goals try (first | with_reducible assumption | (with_reducible refine ck_nzI ?_; simp; done) | (with_reducible refine ck_nzL ?_; simp; done) | (with_reducible refine vp_in_nI ?_ ?_ <;> first | omega | decide) | (with_reducible refine Nat.le_of_ble_eq_true ?_; rfl) | omega | exact Or.inl trivial | exact Or.inr trivial | exact Or.inl rfl | exact Or.inr rfl)
      refine hC.1 46 _ _ _ _ _ _ _ 8 _ _ _ _ _ _ _ _ _ _ _ _ lX8_46 (ct_X8_skip1 l G (F := upd F 3 (nI (q + 1))) (x := x) hT (n := n) (a := a) (by simp only [pk_un, ne_eq, Nat.reduceEqDiff, not_false_eq_true]; exact h1) hn (by simp only [pk_un, ne_eq, Nat.reduceEqDiff, not_false_eq_true]; exact h2) (cx_nx_lt h (by decide))) ⟨by decide, rfl⟩ (cx_8o) rfl rfl (Nat.le_of_ble_eq_true rfl) (by first | decide | omega) (by decide) (by omega) (by omega) dX8_takeOpening_50 ?_
      refine hB bX8_takeOpening_53 _ _ _ _ _ _ _ kX8_takeOpening_53 ?_
      dsimp only [bX8_takeOpening_53, kx_wp, kx_step, kx_lI, kx_lL, kx_lA, kx_gl, kx_pI, kx_pL, kx_pR, kx_pA, kx_pV, kx_s1, kx_s2, kx_sl, kx_pre, kx_c2, kx_pl, kx_cmp, kx_oF, kx_eqN, kx_nil, kx_c1, kx_ft, kx_aI, kx_aL, kx_aR, kx_ln, Nat.reduceAdd, Option.toList, List.cons_append, List.nil_append, cf8_2, cf8_3]
      repeat (simp only [pk_us, pk_un, kz_uu, ne_eq, Nat.reduceEqDiff, not_false_eq_true, nI_1, cx_8s, cx_8ss, cx_8o, cx_8n (show ¬ (67:Nat) = 68 by decide), h1, hT, h2, h3, cp8_3, ks_eq, ks_ss]; try dsimp only [kx_wp, kx_step, kx_lI, kx_lL, kx_lA, kx_gl, kx_pI, kx_pL, kx_pR, kx_pA, kx_pV, kx_s1, kx_s2, kx_sl, kx_pre, kx_c2, kx_pl, kx_cmp, kx_oF, kx_eqN, kx_nil, kx_c1, kx_ft, kx_aI, kx_aL, kx_aR, kx_ln, Nat.reduceAdd, Option.toList, List.cons_append, List.nil_append, cf8_2, cf8_3])
      all_goals (repeat' apply And.intro)
      all_goals ((try clear hB hC); first | exact True.intro | with_reducible rfl | with_reducible assumption | (with_reducible refine vp_in_nI ?_ ?_ <;> first | omega | decide) | exact Nat.le_of_ble_eq_true rfl | (with_reducible refine ck_nzI ?_; simp; done) | (with_reducible refine ck_nzL ?_; simp; done) | (simp only [pk_us, pk_uLs, ze6, zc25, ze25, ↓reduceIte, not_true_eq_false, not_false_eq_true]; done) | (simp only [ze6, zc25, ze25, ↓reduceIte, not_true_eq_false, not_false_eq_true]; with_reducible rfl) | omega | skip)
    · intro zc25
      first | exact absurd rfl zc25 | exact absurd zc25 (by decide) | exact absurd (by decide) zc25 | (exfalso; exact zc25 ((nI_ltI (a := q) (b := 8) (by omega) (by omega)).mpr h8)) | (exfalso; simp_all; done)
  · intro zc6
    first | exact absurd rfl zc6 | exact absurd zc6 (by decide) | exact absurd (by decide) zc6 | (exfalso; exact zc25 ((nI_ltI (a := q) (b := 8) (by omega) (by omega)).mpr h8)) | (exfalso; simp_all; done)

set_option maxRecDepth 100000 in
set_option maxHeartbeats 4000000 in
theorem ct_X8_takeOpening_m (l : Launch) (G : kx_G) {P : kx_P} {sz : Nat} {F T : Nat → Int32} {x : Value} (hT : P 67 = kI 0 400 T) {n a : Nat} (h1 : F 1 = nI n) (hn : n ≤ 400) (h2 : F 2 = nI a) (ha : a ≤ n) {q : Nat} (h3 : F 3 = nI q) (hq : q < 2 ^ 30) (h : cx_nx T n a = 40) (h8 : 8 ≤ q)  : kx_M l G sX8_takeOpening 4 0 0 [.ref 68] (cx_8 P x F) sz (some (.int (0))) (cx_8 P x (cx_rf 3 (nI a) F)) sz := by
  refine kx_mk kx_tab kxLok_X8 (ini := false) [some (.ref 68)] ⟨by decide, rfl, by decide, by decide⟩ (by first | exact Or.inl rfl | exact Or.inr rfl) rfl rfl (fun g hB hC => ?_)
  refine hB bX8_takeOpening_0 _ _ _ _ _ _ _ kX8_takeOpening_0 ?_
  dsimp only [bX8_takeOpening_0, kx_wp, kx_step, kx_lI, kx_lL, kx_lA, kx_gl, kx_pI, kx_pL, kx_pR, kx_pA, kx_pV, kx_s1, kx_s2, kx_sl, kx_pre, kx_c2, kx_pl, kx_cmp, kx_oF, kx_eqN, kx_nil, kx_c1, kx_ft, kx_aI, kx_aL, kx_aR, kx_ln, Nat.reduceAdd, Option.toList, List.cons_append, List.nil_append, cf8_2, cf8_3]
  repeat (simp only [pk_us, pk_un, kz_uu, ne_eq, Nat.reduceEqDiff, not_false_eq_true, nI_1, cx_8s, cx_8ss, cx_8o, cx_8n (show ¬ (67:Nat) = 68 by decide), h1, hT, h2, h3, cp8_3, ks_eq, ks_ss]; try dsimp only [kx_wp, kx_step, kx_lI, kx_lL, kx_lA, kx_gl, kx_pI, kx_pL, kx_pR, kx_pA, kx_pV, kx_s1, kx_s2, kx_sl, kx_pre, kx_c2, kx_pl, kx_cmp, kx_oF, kx_eqN, kx_nil, kx_c1, kx_ft, kx_aI, kx_aL, kx_aR, kx_ln, Nat.reduceAdd, Option.toList, List.cons_append, List.nil_append, cf8_2, cf8_3])
  repeat' apply And.intro
  all_goals try (first | with_reducible assumption | (with_reducible refine ck_nzI ?_; simp; done) | (with_reducible refine ck_nzL ?_; simp; done) | (with_reducible refine vp_in_nI ?_ ?_ <;> first | omega | decide) | (with_reducible refine Nat.le_of_ble_eq_true ?_; rfl) | omega | exact Or.inl trivial | exact Or.inr trivial | exact Or.inl rfl | exact Or.inr rfl)
  refine hC.1 54 _ _ _ _ _ _ _ 8 _ _ _ _ _ _ _ _ _ _ _ _ lX8_54 (ct_X8_nextIs_t hT h1 hn h2 ha (by decide) h) ⟨by decide, rfl⟩ (cx_8o) rfl rfl (Nat.le_of_ble_eq_true rfl) (by first | decide | omega) (by decide) (by omega) (by omega) dX8_takeOpening_3 ?_
  refine hB bX8_takeOpening_6 _ _ _ _ _ _ _ kX8_takeOpening_6 ?_
  dsimp only [bX8_takeOpening_6, kx_wp, kx_step, kx_lI, kx_lL, kx_lA, kx_gl, kx_pI, kx_pL, kx_pR, kx_pA, kx_pV, kx_s1, kx_s2, kx_sl, kx_pre, kx_c2, kx_pl, kx_cmp, kx_oF, kx_eqN, kx_nil, kx_c1, kx_ft, kx_aI, kx_aL, kx_aR, kx_ln, Nat.reduceAdd, Option.toList, List.cons_append, List.nil_append, cf8_2, cf8_3]
  repeat (simp only [pk_us, pk_un, kz_uu, ne_eq, Nat.reduceEqDiff, not_false_eq_true, nI_1, cx_8s, cx_8ss, cx_8o, cx_8n (show ¬ (67:Nat) = 68 by decide), h1, hT, h2, h3, cp8_3, ks_eq, ks_ss]; try dsimp only [kx_wp, kx_step, kx_lI, kx_lL, kx_lA, kx_gl, kx_pI, kx_pL, kx_pR, kx_pA, kx_pV, kx_s1, kx_s2, kx_sl, kx_pre, kx_c2, kx_pl, kx_cmp, kx_oF, kx_eqN, kx_nil, kx_c1, kx_ft, kx_aI, kx_aL, kx_aR, kx_ln, Nat.reduceAdd, Option.toList, List.cons_append, List.nil_append, cf8_2, cf8_3])
  repeat' apply And.intro
  all_goals try (first | with_reducible assumption | (with_reducible refine ck_nzI ?_; simp; done) | (with_reducible refine ck_nzL ?_; simp; done) | (with_reducible refine vp_in_nI ?_ ?_ <;> first | omega | decide) | (with_reducible refine Nat.le_of_ble_eq_true ?_; rfl) | omega | exact Or.inl trivial | exact Or.inr trivial | exact Or.inl rfl | exact Or.inr rfl)
  · intro zc6
    have ze6 := zc6
    refine hB bX8_takeOpening_19 _ _ _ _ _ _ _ kX8_takeOpening_19 ?_
    dsimp only [bX8_takeOpening_19, kx_wp, kx_step, kx_lI, kx_lL, kx_lA, kx_gl, kx_pI, kx_pL, kx_pR, kx_pA, kx_pV, kx_s1, kx_s2, kx_sl, kx_pre, kx_c2, kx_pl, kx_cmp, kx_oF, kx_eqN, kx_nil, kx_c1, kx_ft, kx_aI, kx_aL, kx_aR, kx_ln, Nat.reduceAdd, Option.toList, List.cons_append, List.nil_append, cf8_2, cf8_3]
    repeat (simp only [pk_us, pk_un, kz_uu, ne_eq, Nat.reduceEqDiff, not_false_eq_true, nI_1, cx_8s, cx_8ss, cx_8o, cx_8n (show ¬ (67:Nat) = 68 by decide), h1, hT, h2, h3, cp8_3, ks_eq, ks_ss]; try dsimp only [kx_wp, kx_step, kx_lI, kx_lL, kx_lA, kx_gl, kx_pI, kx_pL, kx_pR, kx_pA, kx_pV, kx_s1, kx_s2, kx_sl, kx_pre, kx_c2, kx_pl, kx_cmp, kx_oF, kx_eqN, kx_nil, kx_c1, kx_ft, kx_aI, kx_aL, kx_aR, kx_ln, Nat.reduceAdd, Option.toList, List.cons_append, List.nil_append, cf8_2, cf8_3])
    repeat' apply And.intro
    all_goals try (first | with_reducible assumption | (with_reducible refine ck_nzI ?_; simp; done) | (with_reducible refine ck_nzL ?_; simp; done) | (with_reducible refine vp_in_nI ?_ ?_ <;> first | omega | decide) | (with_reducible refine Nat.le_of_ble_eq_true ?_; rfl) | omega | exact Or.inl trivial | exact Or.inr trivial | exact Or.inl rfl | exact Or.inr rfl)
    · intro zc25
      first | exact absurd rfl zc25 | exact absurd zc25 (by decide) | exact absurd (by decide) zc25 | (exfalso; exact absurd ((nI_ltI (a := q) (b := 8) (by omega) (by omega)).mp zc25) (by omega)) | (exfalso; simp_all; done)
    · intro zc25
      with_reducible first | have ze25 := Int32.not_lt.mp zc25 | have ze25 := zc25
      refine hB bX8_takeOpening_28 _ _ _ _ _ _ _ kX8_takeOpening_28 ?_
      dsimp only [bX8_takeOpening_28, kx_wp, kx_step, kx_lI, kx_lL, kx_lA, kx_gl, kx_pI, kx_pL, kx_pR, kx_pA, kx_pV, kx_s1, kx_s2, kx_sl, kx_pre, kx_c2, kx_pl, kx_cmp, kx_oF, kx_eqN, kx_nil, kx_c1, kx_ft, kx_aI, kx_aL, kx_aR, kx_ln, Nat.reduceAdd, Option.toList, List.cons_append, List.nil_append, cf8_2, cf8_3]
      repeat (simp only [pk_us, pk_un, kz_uu, ne_eq, Nat.reduceEqDiff, not_false_eq_true, nI_1, cx_8s, cx_8ss, cx_8o, cx_8n (show ¬ (67:Nat) = 68 by decide), h1, hT, h2, h3, cp8_3, ks_eq, ks_ss]; try dsimp only [kx_wp, kx_step, kx_lI, kx_lL, kx_lA, kx_gl, kx_pI, kx_pL, kx_pR, kx_pA, kx_pV, kx_s1, kx_s2, kx_sl, kx_pre, kx_c2, kx_pl, kx_cmp, kx_oF, kx_eqN, kx_nil, kx_c1, kx_ft, kx_aI, kx_aL, kx_aR, kx_ln, Nat.reduceAdd, Option.toList, List.cons_append, List.nil_append, cf8_2, cf8_3])
      repeat' apply And.intro
      all_goals try (first | with_reducible assumption | (with_reducible refine ck_nzI ?_; simp; done) | (with_reducible refine ck_nzL ?_; simp; done) | (with_reducible refine vp_in_nI ?_ ?_ <;> first | omega | decide) | (with_reducible refine Nat.le_of_ble_eq_true ?_; rfl) | omega | exact Or.inl trivial | exact Or.inr trivial | exact Or.inl rfl | exact Or.inr rfl)
      refine hC.1 58 _ _ _ _ _ _ _ 8 _ _ _ _ _ _ _ _ _ _ _ _ lX8_58 (ct_X8_refuse l G) ⟨by decide, rfl⟩ (cx_8o) rfl rfl (Nat.le_of_ble_eq_true rfl) (by first | decide | omega) (by decide) (by omega) (by omega) dX8_takeOpening_34 ?_
      refine hB bX8_takeOpening_37 _ _ _ _ _ _ _ kX8_takeOpening_37 ?_
      dsimp only [bX8_takeOpening_37, kx_wp, kx_step, kx_lI, kx_lL, kx_lA, kx_gl, kx_pI, kx_pL, kx_pR, kx_pA, kx_pV, kx_s1, kx_s2, kx_sl, kx_pre, kx_c2, kx_pl, kx_cmp, kx_oF, kx_eqN, kx_nil, kx_c1, kx_ft, kx_aI, kx_aL, kx_aR, kx_ln, Nat.reduceAdd, Option.toList, List.cons_append, List.nil_append, cf8_2, cf8_3]
      repeat (simp only [pk_us, pk_un, kz_uu, ne_eq, Nat.reduceEqDiff, not_false_eq_true, nI_1, cx_8s, cx_8ss, cx_8o, cx_8n (show ¬ (67:Nat) = 68 by decide), h1, hT, h2, h3, cp8_3, ks_eq, ks_ss]; try dsimp only [kx_wp, kx_step, kx_lI, kx_lL, kx_lA, kx_gl, kx_pI, kx_pL, kx_pR, kx_pA, kx_pV, kx_s1, kx_s2, kx_sl, kx_pre, kx_c2, kx_pl, kx_cmp, kx_oF, kx_eqN, kx_nil, kx_c1, kx_ft, kx_aI, kx_aL, kx_aR, kx_ln, Nat.reduceAdd, Option.toList, List.cons_append, List.nil_append, cf8_2, cf8_3])
      all_goals (repeat' apply And.intro)
      all_goals ((try clear hB hC); first | exact True.intro | with_reducible rfl | with_reducible assumption | (with_reducible refine vp_in_nI ?_ ?_ <;> first | omega | decide) | exact Nat.le_of_ble_eq_true rfl | (with_reducible refine ck_nzI ?_; simp; done) | (with_reducible refine ck_nzL ?_; simp; done) | (simp only [pk_us, pk_uLs, ze6, zc25, ze25, ↓reduceIte, not_true_eq_false, not_false_eq_true]; done) | (simp only [ze6, zc25, ze25, ↓reduceIte, not_true_eq_false, not_false_eq_true]; with_reducible rfl) | omega | skip)
  · intro zc6
    first | exact absurd rfl zc6 | exact absurd zc6 (by decide) | exact absurd (by decide) zc6 | (exfalso; exact absurd ((nI_ltI (a := q) (b := 8) (by omega) (by omega)).mp zc25) (by omega)) | (exfalso; simp_all; done)

set_option maxRecDepth 100000 in
set_option maxHeartbeats 4000000 in
theorem ct_X8_takeOpening_f (l : Launch) (G : kx_G) {P : kx_P} {sz : Nat} {F T : Nat → Int32} {x : Value} (hT : P 67 = kI 0 400 T) {n a : Nat} (h1 : F 1 = nI n) (hn : n ≤ 400) (h2 : F 2 = nI a) (ha : a ≤ n) (h : ¬ cx_nx T n a = 40)  : kx_M l G sX8_takeOpening 4 0 0 [.ref 68] (cx_8 P x F) sz (some (.int (0))) (cx_8 P x (cx_rf 1 (nI a) F)) sz := by
  refine kx_mk kx_tab kxLok_X8 (ini := false) [some (.ref 68)] ⟨by decide, rfl, by decide, by decide⟩ (by first | exact Or.inl rfl | exact Or.inr rfl) rfl rfl (fun g hB hC => ?_)
  refine hB bX8_takeOpening_0 _ _ _ _ _ _ _ kX8_takeOpening_0 ?_
  dsimp only [bX8_takeOpening_0, kx_wp, kx_step, kx_lI, kx_lL, kx_lA, kx_gl, kx_pI, kx_pL, kx_pR, kx_pA, kx_pV, kx_s1, kx_s2, kx_sl, kx_pre, kx_c2, kx_pl, kx_cmp, kx_oF, kx_eqN, kx_nil, kx_c1, kx_ft, kx_aI, kx_aL, kx_aR, kx_ln, Nat.reduceAdd, Option.toList, List.cons_append, List.nil_append, cf8_2, cf8_3]
  repeat (simp only [pk_us, pk_un, kz_uu, ne_eq, Nat.reduceEqDiff, not_false_eq_true, nI_1, cx_8s, cx_8ss, cx_8o, cx_8n (show ¬ (67:Nat) = 68 by decide), h1, hT, h2, cp8_3, ks_eq, ks_ss]; try dsimp only [kx_wp, kx_step, kx_lI, kx_lL, kx_lA, kx_gl, kx_pI, kx_pL, kx_pR, kx_pA, kx_pV, kx_s1, kx_s2, kx_sl, kx_pre, kx_c2, kx_pl, kx_cmp, kx_oF, kx_eqN, kx_nil, kx_c1, kx_ft, kx_aI, kx_aL, kx_aR, kx_ln, Nat.reduceAdd, Option.toList, List.cons_append, List.nil_append, cf8_2, cf8_3])
  repeat' apply And.intro
  all_goals try (first | with_reducible assumption | (with_reducible refine ck_nzI ?_; simp; done) | (with_reducible refine ck_nzL ?_; simp; done) | (with_reducible refine vp_in_nI ?_ ?_ <;> first | omega | decide) | (with_reducible refine Nat.le_of_ble_eq_true ?_; rfl) | omega | exact Or.inl trivial | exact Or.inr trivial | exact Or.inl rfl | exact Or.inr rfl)
  refine hC.1 54 _ _ _ _ _ _ _ 8 _ _ _ _ _ _ _ _ _ _ _ _ lX8_54 (ct_X8_nextIs_f hT h1 hn h2 ha (by decide) h) ⟨by decide, rfl⟩ (cx_8o) rfl rfl (Nat.le_of_ble_eq_true rfl) (by first | decide | omega) (by decide) (by omega) (by omega) dX8_takeOpening_3 ?_
  refine hB bX8_takeOpening_6 _ _ _ _ _ _ _ kX8_takeOpening_6 ?_
  dsimp only [bX8_takeOpening_6, kx_wp, kx_step, kx_lI, kx_lL, kx_lA, kx_gl, kx_pI, kx_pL, kx_pR, kx_pA, kx_pV, kx_s1, kx_s2, kx_sl, kx_pre, kx_c2, kx_pl, kx_cmp, kx_oF, kx_eqN, kx_nil, kx_c1, kx_ft, kx_aI, kx_aL, kx_aR, kx_ln, Nat.reduceAdd, Option.toList, List.cons_append, List.nil_append, cf8_2, cf8_3]
  repeat (simp only [pk_us, pk_un, kz_uu, ne_eq, Nat.reduceEqDiff, not_false_eq_true, nI_1, cx_8s, cx_8ss, cx_8o, cx_8n (show ¬ (67:Nat) = 68 by decide), h1, hT, h2, cp8_3, ks_eq, ks_ss]; try dsimp only [kx_wp, kx_step, kx_lI, kx_lL, kx_lA, kx_gl, kx_pI, kx_pL, kx_pR, kx_pA, kx_pV, kx_s1, kx_s2, kx_sl, kx_pre, kx_c2, kx_pl, kx_cmp, kx_oF, kx_eqN, kx_nil, kx_c1, kx_ft, kx_aI, kx_aL, kx_aR, kx_ln, Nat.reduceAdd, Option.toList, List.cons_append, List.nil_append, cf8_2, cf8_3])
  repeat' apply And.intro
  all_goals try (first | with_reducible assumption | (with_reducible refine ck_nzI ?_; simp; done) | (with_reducible refine ck_nzL ?_; simp; done) | (with_reducible refine vp_in_nI ?_ ?_ <;> first | omega | decide) | (with_reducible refine Nat.le_of_ble_eq_true ?_; rfl) | omega | exact Or.inl trivial | exact Or.inr trivial | exact Or.inl rfl | exact Or.inr rfl)
  · intro zc6
    first | exact absurd rfl zc6 | exact absurd zc6 (by decide) | exact absurd (by decide) zc6 | (exfalso; ((try clear hB hC); simp only [ck_lt, ck_le, ck_eq, not_true_eq_false, not_false_eq_true, Int32.reduceToInt, Int32.reduceAdd, Int32.reduceSub, Int32.reduceMul] at * <;> omega)) | (exfalso; simp_all; done)
  · intro zc6
    with_reducible first | have ze6 := Decidable.not_not.mp zc6 | have ze6 := zc6
    refine hB bX8_takeOpening_9 _ _ _ _ _ _ _ kX8_takeOpening_9 ?_
    dsimp only [bX8_takeOpening_9, kx_wp, kx_step, kx_lI, kx_lL, kx_lA, kx_gl, kx_pI, kx_pL, kx_pR, kx_pA, kx_pV, kx_s1, kx_s2, kx_sl, kx_pre, kx_c2, kx_pl, kx_cmp, kx_oF, kx_eqN, kx_nil, kx_c1, kx_ft, kx_aI, kx_aL, kx_aR, kx_ln, Nat.reduceAdd, Option.toList, List.cons_append, List.nil_append, cf8_2, cf8_3]
    repeat (simp only [pk_us, pk_un, kz_uu, ne_eq, Nat.reduceEqDiff, not_false_eq_true, nI_1, cx_8s, cx_8ss, cx_8o, cx_8n (show ¬ (67:Nat) = 68 by decide), h1, hT, h2, cp8_3, ks_eq, ks_ss]; try dsimp only [kx_wp, kx_step, kx_lI, kx_lL, kx_lA, kx_gl, kx_pI, kx_pL, kx_pR, kx_pA, kx_pV, kx_s1, kx_s2, kx_sl, kx_pre, kx_c2, kx_pl, kx_cmp, kx_oF, kx_eqN, kx_nil, kx_c1, kx_ft, kx_aI, kx_aL, kx_aR, kx_ln, Nat.reduceAdd, Option.toList, List.cons_append, List.nil_append, cf8_2, cf8_3])
    repeat' apply And.intro
    all_goals try (first | with_reducible assumption | (with_reducible refine ck_nzI ?_; simp; done) | (with_reducible refine ck_nzL ?_; simp; done) | (with_reducible refine vp_in_nI ?_ ?_ <;> first | omega | decide) | (with_reducible refine Nat.le_of_ble_eq_true ?_; rfl) | omega | exact Or.inl trivial | exact Or.inr trivial | exact Or.inl rfl | exact Or.inr rfl)
    refine hC.1 58 _ _ _ _ _ _ _ 8 _ _ _ _ _ _ _ _ _ _ _ _ lX8_58 (ct_X8_refuse l G) ⟨by decide, rfl⟩ (cx_8o) rfl rfl (Nat.le_of_ble_eq_true rfl) (by first | decide | omega) (by decide) (by omega) (by omega) dX8_takeOpening_15 ?_
    refine hB bX8_takeOpening_18 _ _ _ _ _ _ _ kX8_takeOpening_18 ?_
    dsimp only [bX8_takeOpening_18, kx_wp, kx_step, kx_lI, kx_lL, kx_lA, kx_gl, kx_pI, kx_pL, kx_pR, kx_pA, kx_pV, kx_s1, kx_s2, kx_sl, kx_pre, kx_c2, kx_pl, kx_cmp, kx_oF, kx_eqN, kx_nil, kx_c1, kx_ft, kx_aI, kx_aL, kx_aR, kx_ln, Nat.reduceAdd, Option.toList, List.cons_append, List.nil_append, cf8_2, cf8_3]
    repeat (simp only [pk_us, pk_un, kz_uu, ne_eq, Nat.reduceEqDiff, not_false_eq_true, nI_1, cx_8s, cx_8ss, cx_8o, cx_8n (show ¬ (67:Nat) = 68 by decide), h1, hT, h2, cp8_3, ks_eq, ks_ss]; try dsimp only [kx_wp, kx_step, kx_lI, kx_lL, kx_lA, kx_gl, kx_pI, kx_pL, kx_pR, kx_pA, kx_pV, kx_s1, kx_s2, kx_sl, kx_pre, kx_c2, kx_pl, kx_cmp, kx_oF, kx_eqN, kx_nil, kx_c1, kx_ft, kx_aI, kx_aL, kx_aR, kx_ln, Nat.reduceAdd, Option.toList, List.cons_append, List.nil_append, cf8_2, cf8_3])
    all_goals (repeat' apply And.intro)
    all_goals ((try clear hB hC); first | exact True.intro | with_reducible rfl | with_reducible assumption | (with_reducible refine vp_in_nI ?_ ?_ <;> first | omega | decide) | exact Nat.le_of_ble_eq_true rfl | (with_reducible refine ck_nzI ?_; simp; done) | (with_reducible refine ck_nzL ?_; simp; done) | (simp only [pk_us, pk_uLs, eq_true ze6, ↓reduceIte, not_true_eq_false, not_false_eq_true]; done) | (simp only [eq_true ze6, ↓reduceIte, not_true_eq_false, not_false_eq_true]; with_reducible rfl) | omega | skip)

def bX8_takeClosing_0 : List kx_O := [(.aload_n 0, 0, 0, 0, .null), (.bipush 41, 0, 0, 0, .int 41)]
theorem kX8_takeClosing_0 : kx_oks kxL_X8 false cX8_takeClosing 0 bX8_takeClosing_0 = true := by decide +kernel
def bX8_takeClosing_6 : List kx_O := [(.ifCond .ne 13, 19, 0, 0, .null)]
theorem kX8_takeClosing_6 : kx_oks kxL_X8 false cX8_takeClosing 6 bX8_takeClosing_6 = true := by decide +kernel
def bX8_takeClosing_9 : List kx_O := [(.aload_n 0, 0, 0, 0, .null), (.iconst 1, 0, 0, 0, .int 1), (.aload_n 0, 0, 0, 0, .null), (.getfield 28, 8, 2, 0, .null)]
theorem kX8_takeClosing_9 : kx_oks kxL_X8 false cX8_takeClosing 9 bX8_takeClosing_9 = true := by decide +kernel
def bX8_takeClosing_18 : List kx_O := [(.ireturn, 0, 0, 0, .null)]
theorem kX8_takeClosing_18 : kx_oks kxL_X8 false cX8_takeClosing 18 bX8_takeClosing_18 = true := by decide +kernel
def bX8_takeClosing_19 : List kx_O := [(.aload_n 0, 0, 0, 0, .null), (.dup, 0, 0, 0, .null), (.getfield 31, 8, 3, 0, .null), (.iconst 1, 0, 0, 0, .int 1), (.isub, 0, 0, 0, .null), (.putfield 31, 8, 3, 0, .null), (.aload_n 0, 0, 0, 0, .null), (.iconst 1, 0, 0, 0, .int 1)]
theorem kX8_takeClosing_19 : kx_oks kxL_X8 false cX8_takeClosing 19 bX8_takeClosing_19 = true := by decide +kernel
def bX8_takeClosing_34 : List kx_O := [(.iconst 1, 0, 0, 0, .int 1), (.ireturn, 0, 0, 0, .null)]
theorem kX8_takeClosing_34 : kx_oks kxL_X8 false cX8_takeClosing 34 bX8_takeClosing_34 = true := by decide +kernel
theorem dX8_takeClosing_3 : decode cX8_takeClosing 3 = .ok (.invokevirtual 54, 3) := by decide +kernel
theorem dX8_takeClosing_15 : decode cX8_takeClosing 15 = .ok (.invokevirtual 58, 3) := by decide +kernel
theorem dX8_takeClosing_31 : decode cX8_takeClosing 31 = .ok (.invokevirtual 46, 3) := by decide +kernel
set_option maxRecDepth 100000 in
set_option maxHeartbeats 4000000 in
theorem ct_X8_takeClosing_t (l : Launch) (G : kx_G) {P : kx_P} {sz : Nat} {F T : Nat → Int32} {x : Value} (hT : P 67 = kI 0 400 T) {n a : Nat} (h1 : F 1 = nI n) (hn : n ≤ 400) (h2 : F 2 = nI a) (ha : a ≤ n) (h : cx_nx T n a = 41)  : kx_M l G sX8_takeClosing 4 0 0 [.ref 68] (cx_8 P x F) sz (some (.int (1))) (cx_8 P x (upd (upd (F) 3 (F 3 - 1)) 2 (nI (ck_sk T n (a + 1))))) sz := by
  refine kx_mk kx_tab kxLok_X8 (ini := false) [some (.ref 68)] ⟨by decide, rfl, by decide, by decide⟩ (by first | exact Or.inl rfl | exact Or.inr rfl) rfl rfl (fun g hB hC => ?_)
  refine hB bX8_takeClosing_0 _ _ _ _ _ _ _ kX8_takeClosing_0 ?_
  dsimp only [bX8_takeClosing_0, kx_wp, kx_step, kx_lI, kx_lL, kx_lA, kx_gl, kx_pI, kx_pL, kx_pR, kx_pA, kx_pV, kx_s1, kx_s2, kx_sl, kx_pre, kx_c2, kx_pl, kx_cmp, kx_oF, kx_eqN, kx_nil, kx_c1, kx_ft, kx_aI, kx_aL, kx_aR, kx_ln, Nat.reduceAdd, Option.toList, List.cons_append, List.nil_append, cf8_2, cf8_3]
  repeat (simp only [pk_us, pk_un, kz_uu, ne_eq, Nat.reduceEqDiff, not_false_eq_true, nI_1, cx_8s, cx_8ss, cx_8o, cx_8n (show ¬ (67:Nat) = 68 by decide), h1, hT, h2, cp8_3, ks_eq, ks_ss]; try dsimp only [kx_wp, kx_step, kx_lI, kx_lL, kx_lA, kx_gl, kx_pI, kx_pL, kx_pR, kx_pA, kx_pV, kx_s1, kx_s2, kx_sl, kx_pre, kx_c2, kx_pl, kx_cmp, kx_oF, kx_eqN, kx_nil, kx_c1, kx_ft, kx_aI, kx_aL, kx_aR, kx_ln, Nat.reduceAdd, Option.toList, List.cons_append, List.nil_append, cf8_2, cf8_3])
  repeat' apply And.intro
  all_goals try (first | with_reducible assumption | (with_reducible refine ck_nzI ?_; simp; done) | (with_reducible refine ck_nzL ?_; simp; done) | (with_reducible refine vp_in_nI ?_ ?_ <;> first | omega | decide) | (with_reducible refine Nat.le_of_ble_eq_true ?_; rfl) | omega | exact Or.inl trivial | exact Or.inr trivial | exact Or.inl rfl | exact Or.inr rfl)
  refine hC.1 54 _ _ _ _ _ _ _ 8 _ _ _ _ _ _ _ _ _ _ _ _ lX8_54 (ct_X8_nextIs_t hT h1 hn h2 ha (by decide) h) ⟨by decide, rfl⟩ (cx_8o) rfl rfl (Nat.le_of_ble_eq_true rfl) (by first | decide | omega) (by decide) (by omega) (by omega) dX8_takeClosing_3 ?_
  refine hB bX8_takeClosing_6 _ _ _ _ _ _ _ kX8_takeClosing_6 ?_
  dsimp only [bX8_takeClosing_6, kx_wp, kx_step, kx_lI, kx_lL, kx_lA, kx_gl, kx_pI, kx_pL, kx_pR, kx_pA, kx_pV, kx_s1, kx_s2, kx_sl, kx_pre, kx_c2, kx_pl, kx_cmp, kx_oF, kx_eqN, kx_nil, kx_c1, kx_ft, kx_aI, kx_aL, kx_aR, kx_ln, Nat.reduceAdd, Option.toList, List.cons_append, List.nil_append, cf8_2, cf8_3]
  repeat (simp only [pk_us, pk_un, kz_uu, ne_eq, Nat.reduceEqDiff, not_false_eq_true, nI_1, cx_8s, cx_8ss, cx_8o, cx_8n (show ¬ (67:Nat) = 68 by decide), h1, hT, h2, cp8_3, ks_eq, ks_ss]; try dsimp only [kx_wp, kx_step, kx_lI, kx_lL, kx_lA, kx_gl, kx_pI, kx_pL, kx_pR, kx_pA, kx_pV, kx_s1, kx_s2, kx_sl, kx_pre, kx_c2, kx_pl, kx_cmp, kx_oF, kx_eqN, kx_nil, kx_c1, kx_ft, kx_aI, kx_aL, kx_aR, kx_ln, Nat.reduceAdd, Option.toList, List.cons_append, List.nil_append, cf8_2, cf8_3])
  repeat' apply And.intro
  all_goals try (first | with_reducible assumption | (with_reducible refine ck_nzI ?_; simp; done) | (with_reducible refine ck_nzL ?_; simp; done) | (with_reducible refine vp_in_nI ?_ ?_ <;> first | omega | decide) | (with_reducible refine Nat.le_of_ble_eq_true ?_; rfl) | omega | exact Or.inl trivial | exact Or.inr trivial | exact Or.inl rfl | exact Or.inr rfl)
  · intro zc6
    have ze6 := zc6
    refine hB bX8_takeClosing_19 _ _ _ _ _ _ _ kX8_takeClosing_19 ?_
    dsimp only [bX8_takeClosing_19, kx_wp, kx_step, kx_lI, kx_lL, kx_lA, kx_gl, kx_pI, kx_pL, kx_pR, kx_pA, kx_pV, kx_s1, kx_s2, kx_sl, kx_pre, kx_c2, kx_pl, kx_cmp, kx_oF, kx_eqN, kx_nil, kx_c1, kx_ft, kx_aI, kx_aL, kx_aR, kx_ln, Nat.reduceAdd, Option.toList, List.cons_append, List.nil_append, cf8_2, cf8_3]
    repeat (simp only [pk_us, pk_un, kz_uu, ne_eq, Nat.reduceEqDiff, not_false_eq_true, nI_1, cx_8s, cx_8ss, cx_8o, cx_8n (show ¬ (67:Nat) = 68 by decide), h1, hT, h2, cp8_3, ks_eq, ks_ss]; try dsimp only [kx_wp, kx_step, kx_lI, kx_lL, kx_lA, kx_gl, kx_pI, kx_pL, kx_pR, kx_pA, kx_pV, kx_s1, kx_s2, kx_sl, kx_pre, kx_c2, kx_pl, kx_cmp, kx_oF, kx_eqN, kx_nil, kx_c1, kx_ft, kx_aI, kx_aL, kx_aR, kx_ln, Nat.reduceAdd, Option.toList, List.cons_append, List.nil_append, cf8_2, cf8_3])
    repeat' apply And.intro
    all_goals try (first | with_reducible assumption | (with_reducible refine ck_nzI ?_; simp; done) | (with_reducible refine ck_nzL ?_; simp; done) | (with_reducible refine vp_in_nI ?_ ?_ <;> first | omega | decide) | (with_reducible refine Nat.le_of_ble_eq_true ?_; rfl) | omega | exact Or.inl trivial | exact Or.inr trivial | exact Or.inl rfl | exact Or.inr rfl)
    refine hC.1 46 _ _ _ _ _ _ _ 8 _ _ _ _ _ _ _ _ _ _ _ _ lX8_46 (ct_X8_skip1 l G (F := upd F 3 (F 3 - 1)) (x := x) hT (n := n) (a := a) (by simp only [pk_un, ne_eq, Nat.reduceEqDiff, not_false_eq_true]; exact h1) hn (by simp only [pk_un, ne_eq, Nat.reduceEqDiff, not_false_eq_true]; exact h2) (cx_nx_lt h (by decide))) ⟨by decide, rfl⟩ (cx_8o) rfl rfl (Nat.le_of_ble_eq_true rfl) (by first | decide | omega) (by decide) (by omega) (by omega) dX8_takeClosing_31 ?_
    refine hB bX8_takeClosing_34 _ _ _ _ _ _ _ kX8_takeClosing_34 ?_
    dsimp only [bX8_takeClosing_34, kx_wp, kx_step, kx_lI, kx_lL, kx_lA, kx_gl, kx_pI, kx_pL, kx_pR, kx_pA, kx_pV, kx_s1, kx_s2, kx_sl, kx_pre, kx_c2, kx_pl, kx_cmp, kx_oF, kx_eqN, kx_nil, kx_c1, kx_ft, kx_aI, kx_aL, kx_aR, kx_ln, Nat.reduceAdd, Option.toList, List.cons_append, List.nil_append, cf8_2, cf8_3]
    repeat (simp only [pk_us, pk_un, kz_uu, ne_eq, Nat.reduceEqDiff, not_false_eq_true, nI_1, cx_8s, cx_8ss, cx_8o, cx_8n (show ¬ (67:Nat) = 68 by decide), h1, hT, h2, cp8_3, ks_eq, ks_ss]; try dsimp only [kx_wp, kx_step, kx_lI, kx_lL, kx_lA, kx_gl, kx_pI, kx_pL, kx_pR, kx_pA, kx_pV, kx_s1, kx_s2, kx_sl, kx_pre, kx_c2, kx_pl, kx_cmp, kx_oF, kx_eqN, kx_nil, kx_c1, kx_ft, kx_aI, kx_aL, kx_aR, kx_ln, Nat.reduceAdd, Option.toList, List.cons_append, List.nil_append, cf8_2, cf8_3])
    all_goals (repeat' apply And.intro)
    all_goals ((try clear hB hC); first | exact True.intro | with_reducible rfl | with_reducible assumption | (with_reducible refine vp_in_nI ?_ ?_ <;> first | omega | decide) | exact Nat.le_of_ble_eq_true rfl | (with_reducible refine ck_nzI ?_; simp; done) | (with_reducible refine ck_nzL ?_; simp; done) | (simp only [pk_us, pk_uLs, ze6, ↓reduceIte, not_true_eq_false, not_false_eq_true]; done) | (simp only [ze6, ↓reduceIte, not_true_eq_false, not_false_eq_true]; with_reducible rfl) | omega | skip)
  · intro zc6
    first | exact absurd rfl zc6 | exact absurd zc6 (by decide) | exact absurd (by decide) zc6 | (exfalso; ((try clear hB hC); simp only [ck_lt, ck_le, ck_eq, not_true_eq_false, not_false_eq_true, Int32.reduceToInt, Int32.reduceAdd, Int32.reduceSub, Int32.reduceMul] at * <;> omega)) | (exfalso; simp_all; done)

set_option maxRecDepth 100000 in
set_option maxHeartbeats 4000000 in
theorem ct_X8_takeClosing_f (l : Launch) (G : kx_G) {P : kx_P} {sz : Nat} {F T : Nat → Int32} {x : Value} (hT : P 67 = kI 0 400 T) {n a : Nat} (h1 : F 1 = nI n) (hn : n ≤ 400) (h2 : F 2 = nI a) (ha : a ≤ n) (h : ¬ cx_nx T n a = 41)  : kx_M l G sX8_takeClosing 4 0 0 [.ref 68] (cx_8 P x F) sz (some (.int (0))) (cx_8 P x (cx_rf 1 (nI a) F)) sz := by
  refine kx_mk kx_tab kxLok_X8 (ini := false) [some (.ref 68)] ⟨by decide, rfl, by decide, by decide⟩ (by first | exact Or.inl rfl | exact Or.inr rfl) rfl rfl (fun g hB hC => ?_)
  refine hB bX8_takeClosing_0 _ _ _ _ _ _ _ kX8_takeClosing_0 ?_
  dsimp only [bX8_takeClosing_0, kx_wp, kx_step, kx_lI, kx_lL, kx_lA, kx_gl, kx_pI, kx_pL, kx_pR, kx_pA, kx_pV, kx_s1, kx_s2, kx_sl, kx_pre, kx_c2, kx_pl, kx_cmp, kx_oF, kx_eqN, kx_nil, kx_c1, kx_ft, kx_aI, kx_aL, kx_aR, kx_ln, Nat.reduceAdd, Option.toList, List.cons_append, List.nil_append, cf8_2, cf8_3]
  repeat (simp only [pk_us, pk_un, kz_uu, ne_eq, Nat.reduceEqDiff, not_false_eq_true, nI_1, cx_8s, cx_8ss, cx_8o, cx_8n (show ¬ (67:Nat) = 68 by decide), h1, hT, h2, cp8_3, ks_eq, ks_ss]; try dsimp only [kx_wp, kx_step, kx_lI, kx_lL, kx_lA, kx_gl, kx_pI, kx_pL, kx_pR, kx_pA, kx_pV, kx_s1, kx_s2, kx_sl, kx_pre, kx_c2, kx_pl, kx_cmp, kx_oF, kx_eqN, kx_nil, kx_c1, kx_ft, kx_aI, kx_aL, kx_aR, kx_ln, Nat.reduceAdd, Option.toList, List.cons_append, List.nil_append, cf8_2, cf8_3])
  repeat' apply And.intro
  all_goals try (first | with_reducible assumption | (with_reducible refine ck_nzI ?_; simp; done) | (with_reducible refine ck_nzL ?_; simp; done) | (with_reducible refine vp_in_nI ?_ ?_ <;> first | omega | decide) | (with_reducible refine Nat.le_of_ble_eq_true ?_; rfl) | omega | exact Or.inl trivial | exact Or.inr trivial | exact Or.inl rfl | exact Or.inr rfl)
  refine hC.1 54 _ _ _ _ _ _ _ 8 _ _ _ _ _ _ _ _ _ _ _ _ lX8_54 (ct_X8_nextIs_f hT h1 hn h2 ha (by decide) h) ⟨by decide, rfl⟩ (cx_8o) rfl rfl (Nat.le_of_ble_eq_true rfl) (by first | decide | omega) (by decide) (by omega) (by omega) dX8_takeClosing_3 ?_
  refine hB bX8_takeClosing_6 _ _ _ _ _ _ _ kX8_takeClosing_6 ?_
  dsimp only [bX8_takeClosing_6, kx_wp, kx_step, kx_lI, kx_lL, kx_lA, kx_gl, kx_pI, kx_pL, kx_pR, kx_pA, kx_pV, kx_s1, kx_s2, kx_sl, kx_pre, kx_c2, kx_pl, kx_cmp, kx_oF, kx_eqN, kx_nil, kx_c1, kx_ft, kx_aI, kx_aL, kx_aR, kx_ln, Nat.reduceAdd, Option.toList, List.cons_append, List.nil_append, cf8_2, cf8_3]
  repeat (simp only [pk_us, pk_un, kz_uu, ne_eq, Nat.reduceEqDiff, not_false_eq_true, nI_1, cx_8s, cx_8ss, cx_8o, cx_8n (show ¬ (67:Nat) = 68 by decide), h1, hT, h2, cp8_3, ks_eq, ks_ss]; try dsimp only [kx_wp, kx_step, kx_lI, kx_lL, kx_lA, kx_gl, kx_pI, kx_pL, kx_pR, kx_pA, kx_pV, kx_s1, kx_s2, kx_sl, kx_pre, kx_c2, kx_pl, kx_cmp, kx_oF, kx_eqN, kx_nil, kx_c1, kx_ft, kx_aI, kx_aL, kx_aR, kx_ln, Nat.reduceAdd, Option.toList, List.cons_append, List.nil_append, cf8_2, cf8_3])
  repeat' apply And.intro
  all_goals try (first | with_reducible assumption | (with_reducible refine ck_nzI ?_; simp; done) | (with_reducible refine ck_nzL ?_; simp; done) | (with_reducible refine vp_in_nI ?_ ?_ <;> first | omega | decide) | (with_reducible refine Nat.le_of_ble_eq_true ?_; rfl) | omega | exact Or.inl trivial | exact Or.inr trivial | exact Or.inl rfl | exact Or.inr rfl)
  · intro zc6
    first | exact absurd rfl zc6 | exact absurd zc6 (by decide) | exact absurd (by decide) zc6 | (exfalso; ((try clear hB hC); simp only [ck_lt, ck_le, ck_eq, not_true_eq_false, not_false_eq_true, Int32.reduceToInt, Int32.reduceAdd, Int32.reduceSub, Int32.reduceMul] at * <;> omega)) | (exfalso; simp_all; done)
  · intro zc6
    with_reducible first | have ze6 := Decidable.not_not.mp zc6 | have ze6 := zc6
    refine hB bX8_takeClosing_9 _ _ _ _ _ _ _ kX8_takeClosing_9 ?_
    dsimp only [bX8_takeClosing_9, kx_wp, kx_step, kx_lI, kx_lL, kx_lA, kx_gl, kx_pI, kx_pL, kx_pR, kx_pA, kx_pV, kx_s1, kx_s2, kx_sl, kx_pre, kx_c2, kx_pl, kx_cmp, kx_oF, kx_eqN, kx_nil, kx_c1, kx_ft, kx_aI, kx_aL, kx_aR, kx_ln, Nat.reduceAdd, Option.toList, List.cons_append, List.nil_append, cf8_2, cf8_3]
    repeat (simp only [pk_us, pk_un, kz_uu, ne_eq, Nat.reduceEqDiff, not_false_eq_true, nI_1, cx_8s, cx_8ss, cx_8o, cx_8n (show ¬ (67:Nat) = 68 by decide), h1, hT, h2, cp8_3, ks_eq, ks_ss]; try dsimp only [kx_wp, kx_step, kx_lI, kx_lL, kx_lA, kx_gl, kx_pI, kx_pL, kx_pR, kx_pA, kx_pV, kx_s1, kx_s2, kx_sl, kx_pre, kx_c2, kx_pl, kx_cmp, kx_oF, kx_eqN, kx_nil, kx_c1, kx_ft, kx_aI, kx_aL, kx_aR, kx_ln, Nat.reduceAdd, Option.toList, List.cons_append, List.nil_append, cf8_2, cf8_3])
    repeat' apply And.intro
    all_goals try (first | with_reducible assumption | (with_reducible refine ck_nzI ?_; simp; done) | (with_reducible refine ck_nzL ?_; simp; done) | (with_reducible refine vp_in_nI ?_ ?_ <;> first | omega | decide) | (with_reducible refine Nat.le_of_ble_eq_true ?_; rfl) | omega | exact Or.inl trivial | exact Or.inr trivial | exact Or.inl rfl | exact Or.inr rfl)
    refine hC.1 58 _ _ _ _ _ _ _ 8 _ _ _ _ _ _ _ _ _ _ _ _ lX8_58 (ct_X8_refuse l G) ⟨by decide, rfl⟩ (cx_8o) rfl rfl (Nat.le_of_ble_eq_true rfl) (by first | decide | omega) (by decide) (by omega) (by omega) dX8_takeClosing_15 ?_
    refine hB bX8_takeClosing_18 _ _ _ _ _ _ _ kX8_takeClosing_18 ?_
    dsimp only [bX8_takeClosing_18, kx_wp, kx_step, kx_lI, kx_lL, kx_lA, kx_gl, kx_pI, kx_pL, kx_pR, kx_pA, kx_pV, kx_s1, kx_s2, kx_sl, kx_pre, kx_c2, kx_pl, kx_cmp, kx_oF, kx_eqN, kx_nil, kx_c1, kx_ft, kx_aI, kx_aL, kx_aR, kx_ln, Nat.reduceAdd, Option.toList, List.cons_append, List.nil_append, cf8_2, cf8_3]
    repeat (simp only [pk_us, pk_un, kz_uu, ne_eq, Nat.reduceEqDiff, not_false_eq_true, nI_1, cx_8s, cx_8ss, cx_8o, cx_8n (show ¬ (67:Nat) = 68 by decide), h1, hT, h2, cp8_3, ks_eq, ks_ss]; try dsimp only [kx_wp, kx_step, kx_lI, kx_lL, kx_lA, kx_gl, kx_pI, kx_pL, kx_pR, kx_pA, kx_pV, kx_s1, kx_s2, kx_sl, kx_pre, kx_c2, kx_pl, kx_cmp, kx_oF, kx_eqN, kx_nil, kx_c1, kx_ft, kx_aI, kx_aL, kx_aR, kx_ln, Nat.reduceAdd, Option.toList, List.cons_append, List.nil_append, cf8_2, cf8_3])
    all_goals (repeat' apply And.intro)
    all_goals ((try clear hB hC); first | exact True.intro | with_reducible rfl | with_reducible assumption | (with_reducible refine vp_in_nI ?_ ?_ <;> first | omega | decide) | exact Nat.le_of_ble_eq_true rfl | (with_reducible refine ck_nzI ?_; simp; done) | (with_reducible refine ck_nzL ?_; simp; done) | (simp only [pk_us, pk_uLs, eq_true ze6, ↓reduceIte, not_true_eq_false, not_false_eq_true]; done) | (simp only [eq_true ze6, ↓reduceIte, not_true_eq_false, not_false_eq_true]; with_reducible rfl) | omega | skip)

/-- the class's reader stands as the model's: T the tape, n the text's length -/
def cx_E (T : Nat → Int32) (n : Nat) (S : ck_R) (F Fo st : Nat → Int32) : Prop :=
  F 1 = nI n ∧ F 2 = nI (ck_sk T n S.1) ∧ F 3 = S.2.2.2.1 ∧ F 4 = 0 ∧ F 5 = -1 ∧ Fo 1 = nI S.2.2.2.2.1 ∧ ∀ j, j < S.2.2.2.2.1 → cx_cd (S.2.2.2.2.2.1 j) (S.2.2.2.2.2.2 j) (st j)
/-- both found a fault -/
def cx_X (S : ck_R) (F : Nat → Int32) : Prop := F 4 = S.2.2.1 ∧ F 5 = S.2.1 ∧ ¬ S.2.2.1 = 0
def cx_b (S : ck_R) : Int32 := if S.2.1 = -1 then 1 else 0
theorem cx_b1 {S : ck_R} (h : S.2.1 = -1) : cx_b S = 1 := if_pos h
theorem cx_b0 {S : ck_R} (h : ¬ S.2.1 = -1) : cx_b S = 0 := if_neg h
def cx_PE (Q : kx_P) (w : Nat) (T : Nat → Int32) (n : Nat) (S : ck_R) (sz : Nat) : Option Value → kx_P → Nat → Prop := fun r P2 s2 => ∃ F Fo st, r = some (.int (cx_b S)) ∧ s2 = sz ∧ P2 = cx_8 (cx_fW Q w Fo st) (.ref w) F ∧ (S.2.1 = -1 → cx_E T n S F Fo st) ∧ (¬ S.2.1 = -1 → cx_X S F)
theorem cx_PE.t {Q : kx_P} {w : Nat} {T : Nat → Int32} {n : Nat} {S : ck_R} {sz : Nat} {F Fo st : Nat → Int32} (h : S.2.1 = -1) (he : cx_E T n S F Fo st) : cx_PE Q w T n S sz (some (.int 1)) (cx_8 (cx_fW Q w Fo st) (.ref w) F) sz := ⟨F, Fo, st, by rw [cx_b1 h], rfl, rfl, fun _ => he, fun q => absurd h q⟩
theorem cx_PE.f {Q : kx_P} {w : Nat} {T : Nat → Int32} {n : Nat} {S : ck_R} {sz : Nat} {F Fo st : Nat → Int32} (h : ¬ S.2.1 = -1) (he : cx_X S F) : cx_PE Q w T n S sz (some (.int 0)) (cx_8 (cx_fW Q w Fo st) (.ref w) F) sz := ⟨F, Fo, st, by rw [cx_b0 h], rfl, rfl, fun q => absurd q h, fun _ => he⟩
theorem cx_PE.rok {Q : kx_P} {w : Nat} {T : Nat → Int32} {n : Nat} {S : ck_R} {sz : Nat} {r : Option Value} {P2 : kx_P} {s2 : Nat} (h : cx_PE Q w T n S sz r P2 s2) : kx_rok (some .boolean) r := by
  obtain ⟨F, Fo, st, h1, -⟩ := h
  rw [h1]
  unfold cx_b
  exact kz_rb _
theorem cx_rf_X {kd pl : Int32} {F : Nat → Int32} (h : F 4 = 0) (hk : ¬ kd = 0) (a : Nat) (r : Int32 × Nat × (Nat → Int32) × (Nat → Int32)) : cx_X (a, pl, kd, r) (cx_rf kd pl F) := by
  unfold cx_rf
  rw [if_pos h]
  exact ⟨rfl, rfl, hk⟩
section KZO
variable {l : Launch} {G : kx_G} {Q : kx_P} {w : Nat} {sz : Nat} {T F Fo st : Nat → Int32} {n : Nat} {S : ck_R}
/-- another place, brackets so many -/
theorem cx_E.mv (he : cx_E T n S F Fo st) (a : Nat) (k o : Int32) {F2 : Nat → Int32} (g1 : F2 1 = F 1) (g2 : F2 2 = nI (ck_sk T n a)) (g3 : F2 3 = o) (g4 : F2 4 = F 4) (g5 : F2 5 = F 5) (b : Int32) : cx_E T n (a, b, k, o, S.2.2.2.2) F2 Fo st :=
  ⟨g1.trans he.1, g2, g3, g4.trans he.2.2.2.1, g5.trans he.2.2.2.2.1, he.2.2.2.2.2.1, he.2.2.2.2.2.2⟩
theorem cx_E.em (he : cx_E T n S F Fo st) {c x v : Int32} (hcd : cx_cd c x v) : cx_E T n (ck_emR c x S) F (upd Fo 1 (nI (S.2.2.2.2.1 + 1))) (upd st S.2.2.2.2.1 v) := by
  obtain ⟨e1, e2, e3, e4, e5, e6, e7⟩ := he
  refine ⟨e1, e2, e3, e4, e5, pk_us, fun j hj => ?_⟩
  show cx_cd (upd S.2.2.2.2.2.1 S.2.2.2.2.1 c j) (upd S.2.2.2.2.2.2 S.2.2.2.2.1 x j) (upd st S.2.2.2.2.1 v j)
  by_cases h : j = S.2.2.2.2.1
  · subst h
    rw [pk_us, pk_us, pk_us]
    exact hcd
  · rw [pk_un h, pk_un h, pk_un h]
    exact e7 j (by have : j < S.2.2.2.2.1 + 1 := hj; omega)
theorem cx_op (hw : 144 ≤ w) (hT : Q 67 = kI 0 400 T) (hn : n ≤ 400) (hs : S.2.1 = -1) (ha : S.1 ≤ n) (he : cx_E T n S F Fo st) {q : Nat} (hq : S.2.2.2.1 = nI q) (hq8 : q ≤ 8) : kx_Mn l G sX8_takeOpening 4 0 0 [.ref 68] (cx_8 (cx_fW Q w Fo st) (.ref w) F) sz (cx_PE Q w T n (ck_opR T n S) sz) := by
  have hT2 : cx_fW Q w Fo st 67 = kI 0 400 T := (cx_f67 hw).trans hT
  have hle := ck_sk_le T ha
  have h3 := he.2.2.1.trans hq
  by_cases hx : ck_hcx T n S.1 = 40
  · by_cases h8 : q < 8
    · have hS : ck_opR T n S = (ck_sk T n S.1 + 1, -1, S.2.2.1, nI (q + 1), S.2.2.2.2) := by
        unfold ck_opR ck_op
        rw [if_pos hs, if_pos hx, hq, if_neg (show ¬ nI q = 8 from fun e => absurd ((nI_eq (a := q) (b := 8) (by omega) (by omega)).mp e) (by omega)), nI_1]
      refine kx_Mn.ex (ct_X8_takeOpening_t l G (x := .ref w) hT2 he.1 hn he.2.1 hle.2 h3 (by omega) hx h8) ?_
      rw [hS]
      refine cx_PE.t rfl (he.mv _ _ _ ?_ ?_ ?_ ?_ ?_ _) <;> rfl
    · have hS : ck_opR T n S = (ck_sk T n S.1, nI (ck_sk T n S.1), 3, nI q + 1, S.2.2.2.2) := by
        unfold ck_opR ck_op
        rw [if_pos hs, if_pos hx, hq, if_pos (show nI q = 8 from by rw [show q = 8 by omega]; rfl)]
      refine kx_Mn.ex (ct_X8_takeOpening_m l G (x := .ref w) hT2 he.1 hn he.2.1 hle.2 h3 (by omega) hx (by omega)) ?_
      rw [hS]
      exact cx_PE.f (ck_m1 _ (by omega)) (cx_rf_X he.2.2.2.1 (by decide) _ _)
  · have hS : ck_opR T n S = (ck_sk T n S.1, nI (ck_sk T n S.1), 1, S.2.2.2.1 + 1, S.2.2.2.2) := by
      unfold ck_opR ck_op
      rw [if_pos hs, if_neg hx]
    refine kx_Mn.ex (ct_X8_takeOpening_f l G (x := .ref w) hT2 he.1 hn he.2.1 hle.2 hx) ?_
    rw [hS]
    exact cx_PE.f (ck_m1 _ (by omega)) (cx_rf_X he.2.2.2.1 (by decide) _ _)
theorem cx_ne (hw : 144 ≤ w) (hT : Q 67 = kI 0 400 T) (hn : n ≤ 400) (hs : S.2.1 = -1) (ha : S.1 ≤ n) (he : cx_E T n S F Fo st) {ch : Int32} (hch : ¬ ch = 0) : kx_Mn l G sX8_takeSign 3 0 0 [.ref 68, .int ch] (cx_8 (cx_fW Q w Fo st) (.ref w) F) sz (cx_PE Q w T n (ck_neR T n ch S) sz) := by
  have hT2 : cx_fW Q w Fo st 67 = kI 0 400 T := (cx_f67 hw).trans hT
  have hle := ck_sk_le T ha
  by_cases hx : ck_hcx T n S.1 = ch
  · have hS : ck_neR T n ch S = (ck_sk T n S.1 + 1, -1, S.2.2.1, S.2.2.2) := by
      unfold ck_neR ck_need
      rw [if_pos hs, if_pos hx]
    refine kx_Mn.ex (ct_X8_takeSign_t l G (x := .ref w) hT2 he.1 hn he.2.1 hle.2 hch hx) ?_
    rw [hS]
    refine cx_PE.t rfl (he.mv _ _ _ ?_ ?_ ?_ ?_ ?_ _) <;> first | rfl | exact he.2.2.1
  · have hS : ck_neR T n ch S = (ck_sk T n S.1, nI (ck_sk T n S.1), 1, S.2.2.2) := by
      unfold ck_neR ck_need
      rw [if_pos hs, if_neg hx]
    refine kx_Mn.ex (ct_X8_takeSign_f l G (x := .ref w) hT2 he.1 hn he.2.1 hle.2 hch hx) ?_
    rw [hS]
    exact cx_PE.f (ck_m1 _ (by omega)) (cx_rf_X he.2.2.2.1 (by decide) _ _)
theorem cx_cl (hw : 144 ≤ w) (hT : Q 67 = kI 0 400 T) (hn : n ≤ 400) (hs : S.2.1 = -1) (ha : S.1 ≤ n) (he : cx_E T n S F Fo st) : kx_Mn l G sX8_takeClosing 4 0 0 [.ref 68] (cx_8 (cx_fW Q w Fo st) (.ref w) F) sz (cx_PE Q w T n (ck_clR T n S) sz) := by
  have hT2 : cx_fW Q w Fo st 67 = kI 0 400 T := (cx_f67 hw).trans hT
  have hle := ck_sk_le T ha
  by_cases hx : ck_hcx T n S.1 = 41
  · have hS : ck_clR T n S = (ck_sk T n S.1 + 1, -1, S.2.2.1, S.2.2.2.1 - 1, S.2.2.2.2) := by
      unfold ck_clR ck_need
      rw [if_pos hs, if_pos hx]
    refine kx_Mn.ex (ct_X8_takeClosing_t l G (x := .ref w) hT2 he.1 hn he.2.1 hle.2 hx) ?_
    rw [hS]
    refine cx_PE.t rfl (he.mv _ _ _ ?_ ?_ (show F 3 - 1 = S.2.2.2.1 - 1 by rw [he.2.2.1]) ?_ ?_ _) <;> rfl
  · have hS : ck_clR T n S = (ck_sk T n S.1, nI (ck_sk T n S.1), 1, S.2.2.2.1 - 1, S.2.2.2.2) := by
      unfold ck_clR ck_need
      rw [if_pos hs, if_neg hx]
    refine kx_Mn.ex (ct_X8_takeClosing_f l G (x := .ref w) hT2 he.1 hn he.2.1 hle.2 hx) ?_
    rw [hS]
    exact cx_PE.f (ck_m1 _ (by omega)) (cx_rf_X he.2.2.2.1 (by decide) _ _)
end KZO

/-! one clock c with works w, in any world -/
def cx_R (P : kx_P) (c w : Nat) (V T Q Fo St Al Wm : Nat → Int32) : Prop :=
  144 ≤ w ∧ 64 ≤ c ∧ (c + 1 ≤ w ∨ w + 6 ≤ c) ∧ ¬ c = 65 ∧ ¬ c = 66 ∧
  P w = kO 9 (kf (cr9 w) V) ∧ P (w + 1) = kI 0 24 T ∧ P (w + 2) = kI 0 4 Q ∧ P (w + 3) = kO 2 (kf (cr2 w) Fo) ∧ P (w + 4) = kI 0 400 St ∧
  P 65 = kO 0 (kf cr0 Al) ∧ P 66 = kI 0 1700 Wm ∧ P 1 = kI 5 12 cj_md
def cW (P : kx_P) (c w : Nat) (S : Nat → Int32) (d : Int64) (h : Value) (C : Nat → Int32) : kx_P := kx_set (kx_set P (w + 5) (kI 0 64 S)) c (kO 1 (kf (cr1 (.ref w) d h) C))
section CWS
variable {P : kx_P} {c w : Nat} {V T Q Fo St Al Wm S C : Nat → Int32} {d : Int64} {h : Value}
theorem cW_c : cW P c w S d h C c = kO 1 (kf (cr1 (.ref w) d h) C) := ks_eq _ _ _
theorem cW_o {n : Nat} (h1 : ¬ n = c) (h2 : ¬ n = w + 5) : cW P c w S d h C n = P n := by
  unfold cW
  rw [ks_ne h1, ks_ne h2]
theorem cW_w (H : cx_R P c w V T Q Fo St Al Wm) : cW P c w S d h C w = kO 9 (kf (cr9 w) V) := by
  obtain ⟨n1, n2, n3, n4, n5, e1, e2, e3, e4, e5, e6, e7, e8⟩ := H
  rw [cW_o (by omega) (by omega)]; exact e1
theorem cW_t (H : cx_R P c w V T Q Fo St Al Wm) : cW P c w S d h C (w + 1) = kI 0 24 T := by
  obtain ⟨n1, n2, n3, n4, n5, e1, e2, e3, e4, e5, e6, e7, e8⟩ := H
  rw [cW_o (by omega) (by omega)]; exact e2
theorem cW_q (H : cx_R P c w V T Q Fo St Al Wm) : cW P c w S d h C (w + 2) = kI 0 4 Q := by
  obtain ⟨n1, n2, n3, n4, n5, e1, e2, e3, e4, e5, e6, e7, e8⟩ := H
  rw [cW_o (by omega) (by omega)]; exact e3
theorem cW_f (H : cx_R P c w V T Q Fo St Al Wm) : cW P c w S d h C (w + 3) = kO 2 (kf (cr2 w) Fo) := by
  obtain ⟨n1, n2, n3, n4, n5, e1, e2, e3, e4, e5, e6, e7, e8⟩ := H
  rw [cW_o (by omega) (by omega)]; exact e4
theorem cW_s (H : cx_R P c w V T Q Fo St Al Wm) : cW P c w S d h C (w + 4) = kI 0 400 St := by
  obtain ⟨n1, n2, n3, n4, n5, e1, e2, e3, e4, e5, e6, e7, e8⟩ := H
  rw [cW_o (by omega) (by omega)]; exact e5
theorem cW_65 (H : cx_R P c w V T Q Fo St Al Wm) : cW P c w S d h C 65 = kO 0 (kf cr0 Al) := by
  obtain ⟨n1, n2, n3, n4, n5, e1, e2, e3, e4, e5, e6, e7, e8⟩ := H
  rw [cW_o (by omega) (by omega)]; exact e6
theorem cW_66 (H : cx_R P c w V T Q Fo St Al Wm) : cW P c w S d h C 66 = kI 0 1700 Wm := by
  obtain ⟨n1, n2, n3, n4, n5, e1, e2, e3, e4, e5, e6, e7, e8⟩ := H
  rw [cW_o (by omega) (by omega)]; exact e7
theorem cW_1 (H : cx_R P c w V T Q Fo St Al Wm) : cW P c w S d h C 1 = kI 5 12 cj_md := by
  obtain ⟨n1, n2, n3, n4, n5, e1, e2, e3, e4, e5, e6, e7, e8⟩ := H
  rw [cW_o (by omega) (by omega)]; exact e8
theorem cW_k (H : cx_R P c w V T Q Fo St Al Wm) : cW P c w S d h C (w + 5) = kI 0 64 S := by
  obtain ⟨n1, n2, n3, n4, n5, e1, e2, e3, e4, e5, e6, e7, e8⟩ := H
  unfold cW
  rw [ks_ne (by omega), ks_eq]
theorem cW_pc {d2 : Int64} {h2 : Value} {C2 : Nat → Int32} : kx_set (cW P c w S d h C) c (kO 1 (kf (cr1 (.ref w) d2 h2) C2)) = cW P c w S d2 h2 C2 := ks_ss _ _ _ _
theorem cW_pk {S2 : Nat → Int32} (H : cx_R P c w V T Q Fo St Al Wm) : kx_set (cW P c w S d h C) (w + 5) (kI 0 64 S2) = cW P c w S2 d h C := by
  obtain ⟨n1, n2, n3, n4, n5, e1, e2, e3, e4, e5, e6, e7, e8⟩ := H
  unfold cW
  rw [ks_co _ _ (by omega), ks_ss]
theorem cx_R.c64 (H : cx_R P c w V T Q Fo St Al Wm) : 64 ≤ c := H.2.1
theorem cx_R.w64 (H : cx_R P c w V T Q Fo St Al Wm) : 64 ≤ w := by have := H.1; omega
end CWS
def bX1_farFrom_0 : List kx_O := [(.aload_n 0, 0, 0, 0, .null), (.getfield 58, 1, 0, 0, .null), (.iload_n 1, 1, 0, 0, .null), (.isub, 0, 0, 0, .null)]
theorem kX1_farFrom_0 : kx_oks kxL_X1 false cX1_farFrom 0 bX1_farFrom_0 = true := by decide +kernel
def bX1_farFrom_9 : List kx_O := [(.aload_n 0, 0, 0, 0, .null), (.getfield 61, 1, 1, 0, .null), (.iload_n 2, 2, 0, 0, .null), (.isub, 0, 0, 0, .null)]
theorem kX1_farFrom_9 : kx_oks kxL_X1 false cX1_farFrom 9 bX1_farFrom_9 = true := by decide +kernel
def bX1_farFrom_18 : List kx_O := [(.iadd, 0, 0, 0, .null), (.ireturn, 0, 0, 0, .null)]
theorem kX1_farFrom_18 : kx_oks kxL_X1 false cX1_farFrom 18 bX1_farFrom_18 = true := by decide +kernel
theorem dX1_farFrom_6 : decode cX1_farFrom 6 = .ok (.invokestatic 94, 3) := by decide +kernel
theorem dX1_farFrom_15 : decode cX1_farFrom 15 = .ok (.invokestatic 94, 3) := by decide +kernel
set_option maxRecDepth 100000 in
set_option maxHeartbeats 4000000 in
theorem ct_X1_farFrom (l : Launch) (G : kx_G) {P : kx_P} {sz : Nat} {c : Nat} {r : Nat → Option Value} {C : Nat → Int32} {wv hv : Value} {d : Int64} (hq : P c = kO 1 (kf (cr1 wv d hv) C)) {x y : Int32}  : kx_M l G sX1_farFrom 2 0 0 [.ref c, .int (x), .int (y)] P sz (some (.int (ck_abs (C 0 - x) + ck_abs (C 1 - y)))) P sz := by
  refine kx_mk kx_tab kxLok_X1 (ini := false) [some (.ref c), some (.int (x)), some (.int (y))] ⟨by decide, rfl, by decide, by decide⟩ (⟨_, rfl⟩) rfl rfl (fun g hB hC => ?_)
  refine hB bX1_farFrom_0 _ _ _ _ _ _ _ kX1_farFrom_0 ?_
  dsimp only [bX1_farFrom_0, kx_wp, kx_step, kx_lI, kx_lL, kx_lA, kx_gl, kx_pI, kx_pL, kx_pR, kx_pA, kx_pV, kx_s1, kx_s2, kx_sl, kx_pre, kx_c2, kx_pl, kx_cmp, kx_oF, kx_eqN, kx_nil, kx_c1, kx_ft, kx_aI, kx_aL, kx_aR, kx_ln, Nat.reduceAdd, Option.toList, List.cons_append, List.nil_append, cf1_0, cf1_1]
  repeat (simp only [hq, ks_eq, ks_ss]; try dsimp only [kx_wp, kx_step, kx_lI, kx_lL, kx_lA, kx_gl, kx_pI, kx_pL, kx_pR, kx_pA, kx_pV, kx_s1, kx_s2, kx_sl, kx_pre, kx_c2, kx_pl, kx_cmp, kx_oF, kx_eqN, kx_nil, kx_c1, kx_ft, kx_aI, kx_aL, kx_aR, kx_ln, Nat.reduceAdd, Option.toList, List.cons_append, List.nil_append, cf1_0, cf1_1])
  repeat' apply And.intro
  all_goals try (first | with_reducible assumption | (with_reducible refine ck_nzI ?_; simp; done) | (with_reducible refine ck_nzL ?_; simp; done) | (with_reducible refine vp_in_nI ?_ ?_ <;> first | omega | decide) | (with_reducible refine Nat.le_of_ble_eq_true ?_; rfl) | omega)
  refine hC.2.1 94 _ _ _ _ _ _ _ _ _ _ _ _ _ _ _ _ _ lX1_94 (ct_J9_abs_0f7a4 l G) rfl rfl (Nat.le_of_ble_eq_true rfl) (by decide) (by decide) (by omega) (by omega) dX1_farFrom_6 ?_
  refine hB bX1_farFrom_9 _ _ _ _ _ _ _ kX1_farFrom_9 ?_
  dsimp only [bX1_farFrom_9, kx_wp, kx_step, kx_lI, kx_lL, kx_lA, kx_gl, kx_pI, kx_pL, kx_pR, kx_pA, kx_pV, kx_s1, kx_s2, kx_sl, kx_pre, kx_c2, kx_pl, kx_cmp, kx_oF, kx_eqN, kx_nil, kx_c1, kx_ft, kx_aI, kx_aL, kx_aR, kx_ln, Nat.reduceAdd, Option.toList, List.cons_append, List.nil_append, cf1_0, cf1_1]
  repeat (simp only [hq, ks_eq, ks_ss]; try dsimp only [kx_wp, kx_step, kx_lI, kx_lL, kx_lA, kx_gl, kx_pI, kx_pL, kx_pR, kx_pA, kx_pV, kx_s1, kx_s2, kx_sl, kx_pre, kx_c2, kx_pl, kx_cmp, kx_oF, kx_eqN, kx_nil, kx_c1, kx_ft, kx_aI, kx_aL, kx_aR, kx_ln, Nat.reduceAdd, Option.toList, List.cons_append, List.nil_append, cf1_0, cf1_1])
  repeat' apply And.intro
  all_goals try (first | with_reducible assumption | (with_reducible refine ck_nzI ?_; simp; done) | (with_reducible refine ck_nzL ?_; simp; done) | (with_reducible refine vp_in_nI ?_ ?_ <;> first | omega | decide) | (with_reducible refine Nat.le_of_ble_eq_true ?_; rfl) | omega)
  refine hC.2.1 94 _ _ _ _ _ _ _ _ _ _ _ _ _ _ _ _ _ lX1_94 (ct_J9_abs_0f7a4 l G) rfl rfl (Nat.le_of_ble_eq_true rfl) (by decide) (by decide) (by omega) (by omega) dX1_farFrom_15 ?_
  refine hB bX1_farFrom_18 _ _ _ _ _ _ _ kX1_farFrom_18 ?_
  dsimp only [bX1_farFrom_18, kx_wp, kx_step, kx_lI, kx_lL, kx_lA, kx_gl, kx_pI, kx_pL, kx_pR, kx_pA, kx_pV, kx_s1, kx_s2, kx_sl, kx_pre, kx_c2, kx_pl, kx_cmp, kx_oF, kx_eqN, kx_nil, kx_c1, kx_ft, kx_aI, kx_aL, kx_aR, kx_ln, Nat.reduceAdd, Option.toList, List.cons_append, List.nil_append, cf1_0, cf1_1]
  repeat (simp only [hq, ks_eq, ks_ss]; try dsimp only [kx_wp, kx_step, kx_lI, kx_lL, kx_lA, kx_gl, kx_pI, kx_pL, kx_pR, kx_pA, kx_pV, kx_s1, kx_s2, kx_sl, kx_pre, kx_c2, kx_pl, kx_cmp, kx_oF, kx_eqN, kx_nil, kx_c1, kx_ft, kx_aI, kx_aL, kx_aR, kx_ln, Nat.reduceAdd, Option.toList, List.cons_append, List.nil_append, cf1_0, cf1_1])
  all_goals (repeat' apply And.intro)
  all_goals ((try clear hB hC); first | exact True.intro | with_reducible rfl | with_reducible assumption | (with_reducible refine vp_in_nI ?_ ?_ <;> first | omega | decide) | exact Nat.le_of_ble_eq_true rfl | (with_reducible refine ck_nzI ?_; simp; done) | (with_reducible refine ck_nzL ?_; simp; done) | (simp only [pk_us, pk_uLs, ↓reduceIte, not_true_eq_false, not_false_eq_true]; done) | (simp only [↓reduceIte, not_true_eq_false, not_false_eq_true]; with_reducible rfl) | omega | skip)

def bX1_shown_0 : List kx_O := [(.aload_n 0, 0, 0, 0, .null), (.getfield 15, 1, 3, 0, .null), (.ldc2_w 98, 0, 0, 0, .long (1000)), (.ldiv, 0, 0, 0, .null), (.l2i, 0, 0, 0, .null), (.ireturn, 0, 0, 0, .null)]
theorem kX1_shown_0 : kx_oks kxL_X1 false cX1_shown 0 bX1_shown_0 = true := by decide +kernel
set_option maxRecDepth 100000 in
set_option maxHeartbeats 4000000 in
theorem ct_X1_shown (l : Launch) (G : kx_G) {P : kx_P} {sz : Nat} {c : Nat} {C : Nat → Int32} {wv hv : Value} {d : Int64} (hq : P c = kO 1 (kf (cr1 wv d hv) C))  : kx_M l G sX1_shown 1 0 0 [.ref c] P sz (some (.int ((d / 1000).toInt32))) P sz := by
  refine kx_mk kx_tab kxLok_X1 (ini := false) [some (.ref c)] ⟨by decide, rfl, by decide, by decide⟩ (⟨_, rfl⟩) rfl rfl (fun g hB hC => ?_)
  refine hB bX1_shown_0 _ _ _ _ _ _ _ kX1_shown_0 ?_
  dsimp only [bX1_shown_0, kx_wp, kx_step, kx_lI, kx_lL, kx_lA, kx_gl, kx_pI, kx_pL, kx_pR, kx_pA, kx_pV, kx_s1, kx_s2, kx_sl, kx_pre, kx_c2, kx_pl, kx_cmp, kx_oF, kx_eqN, kx_nil, kx_c1, kx_ft, kx_aI, kx_aL, kx_aR, kx_ln, Nat.reduceAdd, Option.toList, List.cons_append, List.nil_append, cf1_3]
  repeat (simp only [hq, ks_eq, ks_ss]; try dsimp only [kx_wp, kx_step, kx_lI, kx_lL, kx_lA, kx_gl, kx_pI, kx_pL, kx_pR, kx_pA, kx_pV, kx_s1, kx_s2, kx_sl, kx_pre, kx_c2, kx_pl, kx_cmp, kx_oF, kx_eqN, kx_nil, kx_c1, kx_ft, kx_aI, kx_aL, kx_aR, kx_ln, Nat.reduceAdd, Option.toList, List.cons_append, List.nil_append, cf1_3])
  all_goals (repeat' apply And.intro)
  all_goals ((try clear hB hC); first | exact True.intro | with_reducible rfl | with_reducible assumption | (with_reducible refine vp_in_nI ?_ ?_ <;> first | omega | decide) | exact Nat.le_of_ble_eq_true rfl | (with_reducible refine ck_nzI ?_; simp; done) | (with_reducible refine ck_nzL ?_; simp; done) | (simp only [pk_us, pk_uLs, ↓reduceIte, not_true_eq_false, not_false_eq_true]; done) | (simp only [↓reduceIte, not_true_eq_false, not_false_eq_true]; with_reducible rfl) | omega | skip)

def bX1_heardStrokes_0 : List kx_O := [(.aload_n 0, 0, 0, 0, .null), (.getfield 54, 1, 15, 0, .null), (.ifCond .eq 15, 19, 0, 0, .null)]
theorem kX1_heardStrokes_0 : kx_oks kxL_X1 false cX1_heardStrokes 0 bX1_heardStrokes_0 = true := by decide +kernel
def bX1_heardStrokes_7 : List kx_O := [(.aload_n 0, 0, 0, 0, .null), (.getfield 48, 1, 13, 0, .null), (.aload_n 0, 0, 0, 0, .null), (.getfield 51, 1, 14, 0, .null), (.iadd, 0, 0, 0, .null), (.goto 4, 20, 0, 0, .null)]
theorem kX1_heardStrokes_7 : kx_oks kxL_X1 false cX1_heardStrokes 7 bX1_heardStrokes_7 = true := by decide +kernel
def bX1_heardStrokes_19 : List kx_O := [(.iconst 0, 0, 0, 0, .int 0)]
theorem kX1_heardStrokes_19 : kx_oks kxL_X1 false cX1_heardStrokes 19 bX1_heardStrokes_19 = true := by decide +kernel
def bX1_heardStrokes_20 : List kx_O := [(.ireturn, 0, 0, 0, .null)]
theorem kX1_heardStrokes_20 : kx_oks kxL_X1 false cX1_heardStrokes 20 bX1_heardStrokes_20 = true := by decide +kernel
set_option maxRecDepth 100000 in
set_option maxHeartbeats 4000000 in
theorem ct_X1_heardStrokes (l : Launch) (G : kx_G) {P : kx_P} {sz : Nat} {c : Nat} {C : Nat → Int32} {wv hv : Value} {d : Int64} (hq : P c = kO 1 (kf (cr1 wv d hv) C))  : kx_M l G sX1_heardStrokes 1 0 0 [.ref c] P sz (some (.int (if C 15 = 0 then 0 else C 13 + C 14))) P sz := by
  refine kx_mk kx_tab kxLok_X1 (ini := false) [some (.ref c)] ⟨by decide, rfl, by decide, by decide⟩ (⟨_, rfl⟩) rfl rfl (fun g hB hC => ?_)
  refine hB bX1_heardStrokes_0 _ _ _ _ _ _ _ kX1_heardStrokes_0 ?_
  dsimp only [bX1_heardStrokes_0, kx_wp, kx_step, kx_lI, kx_lL, kx_lA, kx_gl, kx_pI, kx_pL, kx_pR, kx_pA, kx_pV, kx_s1, kx_s2, kx_sl, kx_pre, kx_c2, kx_pl, kx_cmp, kx_oF, kx_eqN, kx_nil, kx_c1, kx_ft, kx_aI, kx_aL, kx_aR, kx_ln, Nat.reduceAdd, Option.toList, List.cons_append, List.nil_append, cf1_15, cf1_13, cf1_14]
  repeat (simp only [hq, ks_eq, ks_ss]; try dsimp only [kx_wp, kx_step, kx_lI, kx_lL, kx_lA, kx_gl, kx_pI, kx_pL, kx_pR, kx_pA, kx_pV, kx_s1, kx_s2, kx_sl, kx_pre, kx_c2, kx_pl, kx_cmp, kx_oF, kx_eqN, kx_nil, kx_c1, kx_ft, kx_aI, kx_aL, kx_aR, kx_ln, Nat.reduceAdd, Option.toList, List.cons_append, List.nil_append, cf1_15, cf1_13, cf1_14])
  repeat' apply And.intro
  all_goals try (first | with_reducible assumption | (with_reducible refine ck_nzI ?_; simp; done) | (with_reducible refine ck_nzL ?_; simp; done) | (with_reducible refine vp_in_nI ?_ ?_ <;> first | omega | decide) | (with_reducible refine Nat.le_of_ble_eq_true ?_; rfl) | omega)
  · intro zc4
    have ze4 := zc4
    refine hB bX1_heardStrokes_19 _ _ _ _ _ _ _ kX1_heardStrokes_19 ?_
    dsimp only [bX1_heardStrokes_19, kx_wp, kx_step, kx_lI, kx_lL, kx_lA, kx_gl, kx_pI, kx_pL, kx_pR, kx_pA, kx_pV, kx_s1, kx_s2, kx_sl, kx_pre, kx_c2, kx_pl, kx_cmp, kx_oF, kx_eqN, kx_nil, kx_c1, kx_ft, kx_aI, kx_aL, kx_aR, kx_ln, Nat.reduceAdd, Option.toList, List.cons_append, List.nil_append, cf1_15, cf1_13, cf1_14]
    repeat (simp only [hq, ks_eq, ks_ss]; try dsimp only [kx_wp, kx_step, kx_lI, kx_lL, kx_lA, kx_gl, kx_pI, kx_pL, kx_pR, kx_pA, kx_pV, kx_s1, kx_s2, kx_sl, kx_pre, kx_c2, kx_pl, kx_cmp, kx_oF, kx_eqN, kx_nil, kx_c1, kx_ft, kx_aI, kx_aL, kx_aR, kx_ln, Nat.reduceAdd, Option.toList, List.cons_append, List.nil_append, cf1_15, cf1_13, cf1_14])
    repeat' apply And.intro
    all_goals try (first | with_reducible assumption | (with_reducible refine ck_nzI ?_; simp; done) | (with_reducible refine ck_nzL ?_; simp; done) | (with_reducible refine vp_in_nI ?_ ?_ <;> first | omega | decide) | (with_reducible refine Nat.le_of_ble_eq_true ?_; rfl) | omega)
    refine hB bX1_heardStrokes_20 _ _ _ _ _ _ _ kX1_heardStrokes_20 ?_
    dsimp only [bX1_heardStrokes_20, kx_wp, kx_step, kx_lI, kx_lL, kx_lA, kx_gl, kx_pI, kx_pL, kx_pR, kx_pA, kx_pV, kx_s1, kx_s2, kx_sl, kx_pre, kx_c2, kx_pl, kx_cmp, kx_oF, kx_eqN, kx_nil, kx_c1, kx_ft, kx_aI, kx_aL, kx_aR, kx_ln, Nat.reduceAdd, Option.toList, List.cons_append, List.nil_append, cf1_15, cf1_13, cf1_14]
    repeat (simp only [hq, ks_eq, ks_ss]; try dsimp only [kx_wp, kx_step, kx_lI, kx_lL, kx_lA, kx_gl, kx_pI, kx_pL, kx_pR, kx_pA, kx_pV, kx_s1, kx_s2, kx_sl, kx_pre, kx_c2, kx_pl, kx_cmp, kx_oF, kx_eqN, kx_nil, kx_c1, kx_ft, kx_aI, kx_aL, kx_aR, kx_ln, Nat.reduceAdd, Option.toList, List.cons_append, List.nil_append, cf1_15, cf1_13, cf1_14])
    all_goals (repeat' apply And.intro)
    all_goals ((try clear hB hC); first | exact True.intro | with_reducible rfl | with_reducible assumption | (with_reducible refine vp_in_nI ?_ ?_ <;> first | omega | decide) | exact Nat.le_of_ble_eq_true rfl | (with_reducible refine ck_nzI ?_; simp; done) | (with_reducible refine ck_nzL ?_; simp; done) | (simp only [pk_us, pk_uLs, eq_true ze4, ↓reduceIte, not_true_eq_false, not_false_eq_true]; done) | (simp only [eq_true ze4, ↓reduceIte, not_true_eq_false, not_false_eq_true]; with_reducible rfl) | omega | skip)
  · intro zc4
    have ze4 := zc4
    refine hB bX1_heardStrokes_7 _ _ _ _ _ _ _ kX1_heardStrokes_7 ?_
    dsimp only [bX1_heardStrokes_7, kx_wp, kx_step, kx_lI, kx_lL, kx_lA, kx_gl, kx_pI, kx_pL, kx_pR, kx_pA, kx_pV, kx_s1, kx_s2, kx_sl, kx_pre, kx_c2, kx_pl, kx_cmp, kx_oF, kx_eqN, kx_nil, kx_c1, kx_ft, kx_aI, kx_aL, kx_aR, kx_ln, Nat.reduceAdd, Option.toList, List.cons_append, List.nil_append, cf1_15, cf1_13, cf1_14]
    repeat (simp only [hq, ks_eq, ks_ss]; try dsimp only [kx_wp, kx_step, kx_lI, kx_lL, kx_lA, kx_gl, kx_pI, kx_pL, kx_pR, kx_pA, kx_pV, kx_s1, kx_s2, kx_sl, kx_pre, kx_c2, kx_pl, kx_cmp, kx_oF, kx_eqN, kx_nil, kx_c1, kx_ft, kx_aI, kx_aL, kx_aR, kx_ln, Nat.reduceAdd, Option.toList, List.cons_append, List.nil_append, cf1_15, cf1_13, cf1_14])
    repeat' apply And.intro
    all_goals try (first | with_reducible assumption | (with_reducible refine ck_nzI ?_; simp; done) | (with_reducible refine ck_nzL ?_; simp; done) | (with_reducible refine vp_in_nI ?_ ?_ <;> first | omega | decide) | (with_reducible refine Nat.le_of_ble_eq_true ?_; rfl) | omega)
    refine hB bX1_heardStrokes_20 _ _ _ _ _ _ _ kX1_heardStrokes_20 ?_
    dsimp only [bX1_heardStrokes_20, kx_wp, kx_step, kx_lI, kx_lL, kx_lA, kx_gl, kx_pI, kx_pL, kx_pR, kx_pA, kx_pV, kx_s1, kx_s2, kx_sl, kx_pre, kx_c2, kx_pl, kx_cmp, kx_oF, kx_eqN, kx_nil, kx_c1, kx_ft, kx_aI, kx_aL, kx_aR, kx_ln, Nat.reduceAdd, Option.toList, List.cons_append, List.nil_append, cf1_15, cf1_13, cf1_14]
    repeat (simp only [hq, ks_eq, ks_ss]; try dsimp only [kx_wp, kx_step, kx_lI, kx_lL, kx_lA, kx_gl, kx_pI, kx_pL, kx_pR, kx_pA, kx_pV, kx_s1, kx_s2, kx_sl, kx_pre, kx_c2, kx_pl, kx_cmp, kx_oF, kx_eqN, kx_nil, kx_c1, kx_ft, kx_aI, kx_aL, kx_aR, kx_ln, Nat.reduceAdd, Option.toList, List.cons_append, List.nil_append, cf1_15, cf1_13, cf1_14])
    all_goals (repeat' apply And.intro)
    all_goals ((try clear hB hC); first | exact True.intro | with_reducible rfl | with_reducible assumption | (with_reducible refine vp_in_nI ?_ ?_ <;> first | omega | decide) | exact Nat.le_of_ble_eq_true rfl | (with_reducible refine ck_nzI ?_; simp; done) | (with_reducible refine ck_nzL ?_; simp; done) | (simp only [pk_us, pk_uLs, ze4, ↓reduceIte, not_true_eq_false, not_false_eq_true]; done) | (simp only [ze4, ↓reduceIte, not_true_eq_false, not_false_eq_true]; with_reducible rfl) | omega | skip)

def bX1_keepHour_0 : List kx_O := [(.iload_n 1, 1, 0, 0, .null), (.bipush 60, 0, 0, 0, .int 60), (.idiv, 0, 0, 0, .null), (.istore_n 2, 2, 0, 0, .null), (.iload_n 1, 1, 0, 0, .null), (.bipush 60, 0, 0, 0, .int 60), (.irem, 0, 0, 0, .null), (.ifCond .ne 33, 42, 0, 0, .null)]
theorem kX1_keepHour_0 : kx_oks kxL_X1 false cX1_keepHour 0 bX1_keepHour_0 = true := by decide +kernel
def bX1_keepHour_12 : List kx_O := [(.aload_n 0, 0, 0, 0, .null), (.getfield 41, 1, 11, 0, .null), (.ifnull 26, 42, 0, 0, .null)]
theorem kX1_keepHour_12 : kx_oks kxL_X1 false cX1_keepHour 12 bX1_keepHour_12 = true := by decide +kernel
def bX1_keepHour_19 : List kx_O := [(.iload_n 2, 2, 0, 0, .null), (.ifCond .lt 22, 42, 0, 0, .null)]
theorem kX1_keepHour_19 : kx_oks kxL_X1 false cX1_keepHour 19 bX1_keepHour_19 = true := by decide +kernel
def bX1_keepHour_23 : List kx_O := [(.iload_n 2, 2, 0, 0, .null), (.aload_n 0, 0, 0, 0, .null), (.getfield 41, 1, 11, 0, .null), (.arraylength, 0, 0, 0, .null), (.if_icmp .ge 13, 42, 0, 0, .null)]
theorem kX1_keepHour_23 : kx_oks kxL_X1 false cX1_keepHour 23 bX1_keepHour_23 = true := by decide +kernel
def bX1_keepHour_32 : List kx_O := [(.aload_n 0, 0, 0, 0, .null), (.getfield 41, 1, 11, 0, .null), (.iload_n 2, 2, 0, 0, .null), (.aload_n 0, 0, 0, 0, .null)]
theorem kX1_keepHour_32 : kx_oks kxL_X1 false cX1_keepHour 32 bX1_keepHour_32 = true := by decide +kernel
def bX1_keepHour_41 : List kx_O := [(.iastore, 0, 0, 0, .null)]
theorem kX1_keepHour_41 : kx_oks kxL_X1 false cX1_keepHour 41 bX1_keepHour_41 = true := by decide +kernel
def bX1_keepHour_42 : List kx_O := [(.return_, 0, 0, 0, .null)]
theorem kX1_keepHour_42 : kx_oks kxL_X1 false cX1_keepHour 42 bX1_keepHour_42 = true := by decide +kernel
theorem dX1_keepHour_38 : decode cX1_keepHour 38 = .ok (.invokevirtual 100, 3) := by decide +kernel
set_option maxRecDepth 100000 in
set_option maxHeartbeats 4000000 in
theorem ct_X1_keepHour_t (l : Launch) (G : kx_G) {P : kx_P} {sz : Nat} {c k : Nat} {C K : Nat → Int32} {wv : Value} {d : Int64} (hq : P c = kO 1 (kf (cr1 wv d (.ref k)) C)) (hk : P k = kI 0 1667 K) (hk6 : 64 ≤ k) {mi : Nat} (hmi : mi < 100000) (h60 : mi % 60 = 0)  : kx_M l G sX1_keepHour 2 0 0 [.ref c, .int (nI mi)] P sz none (kx_set P k (kI 0 1667 (upd K (mi / 60) ((d / 1000).toInt32)))) sz := by
  have z1 : nI mi / 60 = nI (mi / 60) := pk_div (a := mi) (d := 60) (by omega) (by decide) (by decide)
  have z2 : nI mi - nI (mi / 60) * 60 = nI (mi % 60) := by rw [← z1]; exact pk_rem (a := mi) (d := 60) (by omega) (by decide) (by decide)
  refine kx_mk kx_tab kxLok_X1 (ini := false) [some (.ref c), some (.int (nI mi)), none] ⟨by decide, rfl, by decide, by decide⟩ (rfl) rfl rfl (fun g hB hC => ?_)
  refine hB bX1_keepHour_0 _ _ _ _ _ _ _ kX1_keepHour_0 ?_
  dsimp only [bX1_keepHour_0, kx_wp, kx_step, kx_lI, kx_lL, kx_lA, kx_gl, kx_pI, kx_pL, kx_pR, kx_pA, kx_pV, kx_s1, kx_s2, kx_sl, kx_pre, kx_c2, kx_pl, kx_cmp, kx_oF, kx_eqN, kx_nil, kx_c1, kx_ft, kx_aI, kx_aL, kx_aR, kx_ln, Nat.reduceAdd, Option.toList, List.cons_append, List.nil_append, cf1_11]
  repeat (simp only [hq, hk, z1, z2, nI_clamp (show mi / 60 < 2 ^ 31 by omega), ks_eq, ks_ss]; try dsimp only [kx_wp, kx_step, kx_lI, kx_lL, kx_lA, kx_gl, kx_pI, kx_pL, kx_pR, kx_pA, kx_pV, kx_s1, kx_s2, kx_sl, kx_pre, kx_c2, kx_pl, kx_cmp, kx_oF, kx_eqN, kx_nil, kx_c1, kx_ft, kx_aI, kx_aL, kx_aR, kx_ln, Nat.reduceAdd, Option.toList, List.cons_append, List.nil_append, cf1_11])
  repeat' apply And.intro
  all_goals try (first | with_reducible assumption | (with_reducible refine ck_nzI ?_; simp; done) | (with_reducible refine ck_nzL ?_; simp; done) | (with_reducible refine vp_in_nI ?_ ?_ <;> first | omega | decide) | (with_reducible refine Nat.le_of_ble_eq_true ?_; rfl) | omega)
  · intro zc9
    first | exact absurd rfl zc9 | exact absurd zc9 (by decide) | exact absurd (by decide) zc9 | (exfalso; first | exact zc9 (by rw [h60]; rfl) | exact absurd ((nI_ltI (a := mi / 60) (b := 0) (by omega) (by omega)).mp zc20) (by omega) | exact absurd ((nI_leI (a := 1667) (b := mi / 60) (by omega) (by omega)).mp zc29) (by omega)) | (exfalso; simp_all; done)
  · intro zc9
    with_reducible first | have ze9 := Decidable.not_not.mp zc9 | have ze9 := zc9
    refine hB bX1_keepHour_12 _ _ _ _ _ _ _ kX1_keepHour_12 ?_
    dsimp only [bX1_keepHour_12, kx_wp, kx_step, kx_lI, kx_lL, kx_lA, kx_gl, kx_pI, kx_pL, kx_pR, kx_pA, kx_pV, kx_s1, kx_s2, kx_sl, kx_pre, kx_c2, kx_pl, kx_cmp, kx_oF, kx_eqN, kx_nil, kx_c1, kx_ft, kx_aI, kx_aL, kx_aR, kx_ln, Nat.reduceAdd, Option.toList, List.cons_append, List.nil_append, cf1_11]
    repeat (simp only [hq, hk, z1, z2, nI_clamp (show mi / 60 < 2 ^ 31 by omega), ks_eq, ks_ss]; try dsimp only [kx_wp, kx_step, kx_lI, kx_lL, kx_lA, kx_gl, kx_pI, kx_pL, kx_pR, kx_pA, kx_pV, kx_s1, kx_s2, kx_sl, kx_pre, kx_c2, kx_pl, kx_cmp, kx_oF, kx_eqN, kx_nil, kx_c1, kx_ft, kx_aI, kx_aL, kx_aR, kx_ln, Nat.reduceAdd, Option.toList, List.cons_append, List.nil_append, cf1_11])
    repeat' apply And.intro
    all_goals try (first | with_reducible assumption | (with_reducible refine ck_nzI ?_; simp; done) | (with_reducible refine ck_nzL ?_; simp; done) | (with_reducible refine vp_in_nI ?_ ?_ <;> first | omega | decide) | (with_reducible refine Nat.le_of_ble_eq_true ?_; rfl) | omega)
    refine hB bX1_keepHour_19 _ _ _ _ _ _ _ kX1_keepHour_19 ?_
    dsimp only [bX1_keepHour_19, kx_wp, kx_step, kx_lI, kx_lL, kx_lA, kx_gl, kx_pI, kx_pL, kx_pR, kx_pA, kx_pV, kx_s1, kx_s2, kx_sl, kx_pre, kx_c2, kx_pl, kx_cmp, kx_oF, kx_eqN, kx_nil, kx_c1, kx_ft, kx_aI, kx_aL, kx_aR, kx_ln, Nat.reduceAdd, Option.toList, List.cons_append, List.nil_append, cf1_11]
    repeat (simp only [hq, hk, z1, z2, nI_clamp (show mi / 60 < 2 ^ 31 by omega), ks_eq, ks_ss]; try dsimp only [kx_wp, kx_step, kx_lI, kx_lL, kx_lA, kx_gl, kx_pI, kx_pL, kx_pR, kx_pA, kx_pV, kx_s1, kx_s2, kx_sl, kx_pre, kx_c2, kx_pl, kx_cmp, kx_oF, kx_eqN, kx_nil, kx_c1, kx_ft, kx_aI, kx_aL, kx_aR, kx_ln, Nat.reduceAdd, Option.toList, List.cons_append, List.nil_append, cf1_11])
    repeat' apply And.intro
    all_goals try (first | with_reducible assumption | (with_reducible refine ck_nzI ?_; simp; done) | (with_reducible refine ck_nzL ?_; simp; done) | (with_reducible refine vp_in_nI ?_ ?_ <;> first | omega | decide) | (with_reducible refine Nat.le_of_ble_eq_true ?_; rfl) | omega)
    · intro zc20
      first | exact absurd rfl zc20 | exact absurd zc20 (by decide) | exact absurd (by decide) zc20 | (exfalso; first | exact zc9 (by rw [h60]; rfl) | exact absurd ((nI_ltI (a := mi / 60) (b := 0) (by omega) (by omega)).mp zc20) (by omega) | exact absurd ((nI_leI (a := 1667) (b := mi / 60) (by omega) (by omega)).mp zc29) (by omega)) | (exfalso; simp_all; done)
    · intro zc20
      with_reducible first | have ze20 := Int32.not_lt.mp zc20 | have ze20 := zc20
      refine hB bX1_keepHour_23 _ _ _ _ _ _ _ kX1_keepHour_23 ?_
      dsimp only [bX1_keepHour_23, kx_wp, kx_step, kx_lI, kx_lL, kx_lA, kx_gl, kx_pI, kx_pL, kx_pR, kx_pA, kx_pV, kx_s1, kx_s2, kx_sl, kx_pre, kx_c2, kx_pl, kx_cmp, kx_oF, kx_eqN, kx_nil, kx_c1, kx_ft, kx_aI, kx_aL, kx_aR, kx_ln, Nat.reduceAdd, Option.toList, List.cons_append, List.nil_append, cf1_11]
      repeat (simp only [hq, hk, z1, z2, nI_clamp (show mi / 60 < 2 ^ 31 by omega), ks_eq, ks_ss]; try dsimp only [kx_wp, kx_step, kx_lI, kx_lL, kx_lA, kx_gl, kx_pI, kx_pL, kx_pR, kx_pA, kx_pV, kx_s1, kx_s2, kx_sl, kx_pre, kx_c2, kx_pl, kx_cmp, kx_oF, kx_eqN, kx_nil, kx_c1, kx_ft, kx_aI, kx_aL, kx_aR, kx_ln, Nat.reduceAdd, Option.toList, List.cons_append, List.nil_append, cf1_11])
      repeat' apply And.intro
      all_goals try (first | with_reducible assumption | (with_reducible refine ck_nzI ?_; simp; done) | (with_reducible refine ck_nzL ?_; simp; done) | (with_reducible refine vp_in_nI ?_ ?_ <;> first | omega | decide) | (with_reducible refine Nat.le_of_ble_eq_true ?_; rfl) | omega)
      · intro zc29
        first | exact absurd rfl zc29 | exact absurd zc29 (by decide) | exact absurd (by decide) zc29 | (exfalso; first | exact zc9 (by rw [h60]; rfl) | exact absurd ((nI_ltI (a := mi / 60) (b := 0) (by omega) (by omega)).mp zc20) (by omega) | exact absurd ((nI_leI (a := 1667) (b := mi / 60) (by omega) (by omega)).mp zc29) (by omega)) | (exfalso; simp_all; done)
      · intro zc29
        with_reducible first | have ze29 := Int32.not_le.mp zc29 | have ze29 := zc29
        refine hB bX1_keepHour_32 _ _ _ _ _ _ _ kX1_keepHour_32 ?_
        dsimp only [bX1_keepHour_32, kx_wp, kx_step, kx_lI, kx_lL, kx_lA, kx_gl, kx_pI, kx_pL, kx_pR, kx_pA, kx_pV, kx_s1, kx_s2, kx_sl, kx_pre, kx_c2, kx_pl, kx_cmp, kx_oF, kx_eqN, kx_nil, kx_c1, kx_ft, kx_aI, kx_aL, kx_aR, kx_ln, Nat.reduceAdd, Option.toList, List.cons_append, List.nil_append, cf1_11]
        repeat (simp only [hq, hk, z1, z2, nI_clamp (show mi / 60 < 2 ^ 31 by omega), ks_eq, ks_ss]; try dsimp only [kx_wp, kx_step, kx_lI, kx_lL, kx_lA, kx_gl, kx_pI, kx_pL, kx_pR, kx_pA, kx_pV, kx_s1, kx_s2, kx_sl, kx_pre, kx_c2, kx_pl, kx_cmp, kx_oF, kx_eqN, kx_nil, kx_c1, kx_ft, kx_aI, kx_aL, kx_aR, kx_ln, Nat.reduceAdd, Option.toList, List.cons_append, List.nil_append, cf1_11])
        repeat' apply And.intro
        all_goals try (first | with_reducible assumption | (with_reducible refine ck_nzI ?_; simp; done) | (with_reducible refine ck_nzL ?_; simp; done) | (with_reducible refine vp_in_nI ?_ ?_ <;> first | omega | decide) | (with_reducible refine Nat.le_of_ble_eq_true ?_; rfl) | omega)
        refine hC.1 100 _ _ _ _ _ _ _ 1 _ _ _ _ _ _ _ _ _ _ _ _ lX1_100 (ct_X1_shown l G hq) ⟨by decide, rfl⟩ (by first | assumption | (simp only [hq, hk, z1, z2, nI_clamp (show mi / 60 < 2 ^ 31 by omega), ks_eq, ks_ss])) rfl rfl (Nat.le_of_ble_eq_true rfl) (by decide) (by decide) (by omega) (by omega) dX1_keepHour_38 ?_
        refine hB bX1_keepHour_41 _ _ _ _ _ _ _ kX1_keepHour_41 ?_
        dsimp only [bX1_keepHour_41, kx_wp, kx_step, kx_lI, kx_lL, kx_lA, kx_gl, kx_pI, kx_pL, kx_pR, kx_pA, kx_pV, kx_s1, kx_s2, kx_sl, kx_pre, kx_c2, kx_pl, kx_cmp, kx_oF, kx_eqN, kx_nil, kx_c1, kx_ft, kx_aI, kx_aL, kx_aR, kx_ln, Nat.reduceAdd, Option.toList, List.cons_append, List.nil_append, cf1_11]
        repeat (simp only [hq, hk, z1, z2, nI_clamp (show mi / 60 < 2 ^ 31 by omega), ks_eq, ks_ss]; try dsimp only [kx_wp, kx_step, kx_lI, kx_lL, kx_lA, kx_gl, kx_pI, kx_pL, kx_pR, kx_pA, kx_pV, kx_s1, kx_s2, kx_sl, kx_pre, kx_c2, kx_pl, kx_cmp, kx_oF, kx_eqN, kx_nil, kx_c1, kx_ft, kx_aI, kx_aL, kx_aR, kx_ln, Nat.reduceAdd, Option.toList, List.cons_append, List.nil_append, cf1_11])
        repeat' apply And.intro
        all_goals try (first | with_reducible assumption | (with_reducible refine ck_nzI ?_; simp; done) | (with_reducible refine ck_nzL ?_; simp; done) | (with_reducible refine vp_in_nI ?_ ?_ <;> first | omega | decide) | (with_reducible refine Nat.le_of_ble_eq_true ?_; rfl) | omega)
        refine hB bX1_keepHour_42 _ _ _ _ _ _ _ kX1_keepHour_42 ?_
        dsimp only [bX1_keepHour_42, kx_wp, kx_step, kx_lI, kx_lL, kx_lA, kx_gl, kx_pI, kx_pL, kx_pR, kx_pA, kx_pV, kx_s1, kx_s2, kx_sl, kx_pre, kx_c2, kx_pl, kx_cmp, kx_oF, kx_eqN, kx_nil, kx_c1, kx_ft, kx_aI, kx_aL, kx_aR, kx_ln, Nat.reduceAdd, Option.toList, List.cons_append, List.nil_append, cf1_11]
        repeat (simp only [hq, hk, z1, z2, nI_clamp (show mi / 60 < 2 ^ 31 by omega), ks_eq, ks_ss]; try dsimp only [kx_wp, kx_step, kx_lI, kx_lL, kx_lA, kx_gl, kx_pI, kx_pL, kx_pR, kx_pA, kx_pV, kx_s1, kx_s2, kx_sl, kx_pre, kx_c2, kx_pl, kx_cmp, kx_oF, kx_eqN, kx_nil, kx_c1, kx_ft, kx_aI, kx_aL, kx_aR, kx_ln, Nat.reduceAdd, Option.toList, List.cons_append, List.nil_append, cf1_11])
        all_goals (repeat' apply And.intro)
        all_goals ((try clear hB hC); first | exact True.intro | with_reducible rfl | with_reducible assumption | (with_reducible refine vp_in_nI ?_ ?_ <;> first | omega | decide) | exact Nat.le_of_ble_eq_true rfl | (with_reducible refine ck_nzI ?_; simp; done) | (with_reducible refine ck_nzL ?_; simp; done) | (simp only [pk_us, pk_uLs, eq_true ze9, zc20, ze20, zc29, ze29, ↓reduceIte, not_true_eq_false, not_false_eq_true]; done) | (simp only [eq_true ze9, zc20, ze20, zc29, ze29, ↓reduceIte, not_true_eq_false, not_false_eq_true]; with_reducible rfl) | omega | skip)

set_option maxRecDepth 100000 in
set_option maxHeartbeats 4000000 in
theorem ct_X1_keepHour_o (l : Launch) (G : kx_G) {P : kx_P} {sz : Nat} {c k : Nat} {C K : Nat → Int32} {wv : Value} {d : Int64} (hq : P c = kO 1 (kf (cr1 wv d (.ref k)) C)) (hk : P k = kI 0 1667 K) (hk6 : 64 ≤ k) {mi : Nat} (hmi : mi < 100000) (h60 : ¬ mi % 60 = 0)  : kx_M l G sX1_keepHour 2 0 0 [.ref c, .int (nI mi)] P sz none P sz := by
  have z1 : nI mi / 60 = nI (mi / 60) := pk_div (a := mi) (d := 60) (by omega) (by decide) (by decide)
  have z2 : nI mi - nI (mi / 60) * 60 = nI (mi % 60) := by rw [← z1]; exact pk_rem (a := mi) (d := 60) (by omega) (by decide) (by decide)
  refine kx_mk kx_tab kxLok_X1 (ini := false) [some (.ref c), some (.int (nI mi)), none] ⟨by decide, rfl, by decide, by decide⟩ (rfl) rfl rfl (fun g hB hC => ?_)
  refine hB bX1_keepHour_0 _ _ _ _ _ _ _ kX1_keepHour_0 ?_
  dsimp only [bX1_keepHour_0, kx_wp, kx_step, kx_lI, kx_lL, kx_lA, kx_gl, kx_pI, kx_pL, kx_pR, kx_pA, kx_pV, kx_s1, kx_s2, kx_sl, kx_pre, kx_c2, kx_pl, kx_cmp, kx_oF, kx_eqN, kx_nil, kx_c1, kx_ft, kx_aI, kx_aL, kx_aR, kx_ln, Nat.reduceAdd, Option.toList, List.cons_append, List.nil_append, cf1_11]
  repeat (simp only [z1, z2, ks_eq, ks_ss]; try dsimp only [kx_wp, kx_step, kx_lI, kx_lL, kx_lA, kx_gl, kx_pI, kx_pL, kx_pR, kx_pA, kx_pV, kx_s1, kx_s2, kx_sl, kx_pre, kx_c2, kx_pl, kx_cmp, kx_oF, kx_eqN, kx_nil, kx_c1, kx_ft, kx_aI, kx_aL, kx_aR, kx_ln, Nat.reduceAdd, Option.toList, List.cons_append, List.nil_append, cf1_11])
  repeat' apply And.intro
  all_goals try (first | with_reducible assumption | (with_reducible refine ck_nzI ?_; simp; done) | (with_reducible refine ck_nzL ?_; simp; done) | (with_reducible refine vp_in_nI ?_ ?_ <;> first | omega | decide) | (with_reducible refine Nat.le_of_ble_eq_true ?_; rfl) | omega)
  · intro zc9
    have ze9 := zc9
    refine hB bX1_keepHour_42 _ _ _ _ _ _ _ kX1_keepHour_42 ?_
    dsimp only [bX1_keepHour_42, kx_wp, kx_step, kx_lI, kx_lL, kx_lA, kx_gl, kx_pI, kx_pL, kx_pR, kx_pA, kx_pV, kx_s1, kx_s2, kx_sl, kx_pre, kx_c2, kx_pl, kx_cmp, kx_oF, kx_eqN, kx_nil, kx_c1, kx_ft, kx_aI, kx_aL, kx_aR, kx_ln, Nat.reduceAdd, Option.toList, List.cons_append, List.nil_append, cf1_11]
    repeat (simp only [z1, z2, ks_eq, ks_ss]; try dsimp only [kx_wp, kx_step, kx_lI, kx_lL, kx_lA, kx_gl, kx_pI, kx_pL, kx_pR, kx_pA, kx_pV, kx_s1, kx_s2, kx_sl, kx_pre, kx_c2, kx_pl, kx_cmp, kx_oF, kx_eqN, kx_nil, kx_c1, kx_ft, kx_aI, kx_aL, kx_aR, kx_ln, Nat.reduceAdd, Option.toList, List.cons_append, List.nil_append, cf1_11])
    all_goals (repeat' apply And.intro)
    all_goals ((try clear hB hC); first | exact True.intro | with_reducible rfl | with_reducible assumption | (with_reducible refine vp_in_nI ?_ ?_ <;> first | omega | decide) | exact Nat.le_of_ble_eq_true rfl | (with_reducible refine ck_nzI ?_; simp; done) | (with_reducible refine ck_nzL ?_; simp; done) | (simp only [pk_us, pk_uLs, ze9, ↓reduceIte, not_true_eq_false, not_false_eq_true]; done) | (simp only [ze9, ↓reduceIte, not_true_eq_false, not_false_eq_true]; with_reducible rfl) | omega | skip)
  · intro zc9
    first | exact absurd rfl zc9 | exact absurd zc9 (by decide) | exact absurd (by decide) zc9 | (exfalso; first | exact zc9 (fun e => h60 ((nI_eq (a := mi % 60) (b := 0) (by omega) (by omega)).mp e))) | (exfalso; simp_all; done)

def bX1_shownIn_0 : List kx_O := [(.aload_n 0, 0, 0, 0, .null), (.getfield 41, 1, 11, 0, .null), (.ifnull 16, 20, 0, 0, .null)]
theorem kX1_shownIn_0 : kx_oks kxL_X1 false cX1_shownIn 0 bX1_shownIn_0 = true := by decide +kernel
def bX1_shownIn_7 : List kx_O := [(.iload_n 1, 1, 0, 0, .null), (.ifCond .lt 12, 20, 0, 0, .null)]
theorem kX1_shownIn_7 : kx_oks kxL_X1 false cX1_shownIn 7 bX1_shownIn_7 = true := by decide +kernel
def bX1_shownIn_11 : List kx_O := [(.iload_n 1, 1, 0, 0, .null), (.aload_n 0, 0, 0, 0, .null), (.getfield 41, 1, 11, 0, .null), (.arraylength, 0, 0, 0, .null), (.if_icmp .lt 7, 24, 0, 0, .null)]
theorem kX1_shownIn_11 : kx_oks kxL_X1 false cX1_shownIn 11 bX1_shownIn_11 = true := by decide +kernel
def bX1_shownIn_20 : List kx_O := [(.iconst (-1), 0, 0, 0, .int (-1)), (.goto 9, 30, 0, 0, .null)]
theorem kX1_shownIn_20 : kx_oks kxL_X1 false cX1_shownIn 20 bX1_shownIn_20 = true := by decide +kernel
def bX1_shownIn_24 : List kx_O := [(.aload_n 0, 0, 0, 0, .null), (.getfield 41, 1, 11, 0, .null), (.iload_n 1, 1, 0, 0, .null), (.iaload, 0, 0, 0, .null)]
theorem kX1_shownIn_24 : kx_oks kxL_X1 false cX1_shownIn 24 bX1_shownIn_24 = true := by decide +kernel
def bX1_shownIn_30 : List kx_O := [(.ireturn, 0, 0, 0, .null)]
theorem kX1_shownIn_30 : kx_oks kxL_X1 false cX1_shownIn 30 bX1_shownIn_30 = true := by decide +kernel
set_option maxRecDepth 100000 in
set_option maxHeartbeats 4000000 in
theorem ct_X1_shownIn_n (l : Launch) (G : kx_G) {P : kx_P} {sz : Nat} {c k : Nat} {C K : Nat → Int32} {wv : Value} {d : Int64} (hq : P c = kO 1 (kf (cr1 wv d (.ref k)) C)) (hk : P k = kI 0 1667 K) {x : Int32} (hx : x < 0 ∨ Int32.ofNat 1667 ≤ x)  : kx_M l G sX1_shownIn 1 0 0 [.ref c, .int (x)] P sz (some (.int (-1))) P sz := by
  refine kx_mk kx_tab kxLok_X1 (ini := false) [some (.ref c), some (.int (x))] ⟨by decide, rfl, by decide, by decide⟩ (⟨_, rfl⟩) rfl rfl (fun g hB hC => ?_)
  refine hB bX1_shownIn_0 _ _ _ _ _ _ _ kX1_shownIn_0 ?_
  dsimp only [bX1_shownIn_0, kx_wp, kx_step, kx_lI, kx_lL, kx_lA, kx_gl, kx_pI, kx_pL, kx_pR, kx_pA, kx_pV, kx_s1, kx_s2, kx_sl, kx_pre, kx_c2, kx_pl, kx_cmp, kx_oF, kx_eqN, kx_nil, kx_c1, kx_ft, kx_aI, kx_aL, kx_aR, kx_ln, Nat.reduceAdd, Option.toList, List.cons_append, List.nil_append, cf1_11]
  repeat (simp only [hq, hk, ks_eq, ks_ss]; try dsimp only [kx_wp, kx_step, kx_lI, kx_lL, kx_lA, kx_gl, kx_pI, kx_pL, kx_pR, kx_pA, kx_pV, kx_s1, kx_s2, kx_sl, kx_pre, kx_c2, kx_pl, kx_cmp, kx_oF, kx_eqN, kx_nil, kx_c1, kx_ft, kx_aI, kx_aL, kx_aR, kx_ln, Nat.reduceAdd, Option.toList, List.cons_append, List.nil_append, cf1_11])
  repeat' apply And.intro
  all_goals try (first | with_reducible assumption | (with_reducible refine ck_nzI ?_; simp; done) | (with_reducible refine ck_nzL ?_; simp; done) | (with_reducible refine vp_in_nI ?_ ?_ <;> first | omega | decide) | (with_reducible refine Nat.le_of_ble_eq_true ?_; rfl) | omega)
  refine hB bX1_shownIn_7 _ _ _ _ _ _ _ kX1_shownIn_7 ?_
  dsimp only [bX1_shownIn_7, kx_wp, kx_step, kx_lI, kx_lL, kx_lA, kx_gl, kx_pI, kx_pL, kx_pR, kx_pA, kx_pV, kx_s1, kx_s2, kx_sl, kx_pre, kx_c2, kx_pl, kx_cmp, kx_oF, kx_eqN, kx_nil, kx_c1, kx_ft, kx_aI, kx_aL, kx_aR, kx_ln, Nat.reduceAdd, Option.toList, List.cons_append, List.nil_append, cf1_11]
  repeat (simp only [hq, hk, ks_eq, ks_ss]; try dsimp only [kx_wp, kx_step, kx_lI, kx_lL, kx_lA, kx_gl, kx_pI, kx_pL, kx_pR, kx_pA, kx_pV, kx_s1, kx_s2, kx_sl, kx_pre, kx_c2, kx_pl, kx_cmp, kx_oF, kx_eqN, kx_nil, kx_c1, kx_ft, kx_aI, kx_aL, kx_aR, kx_ln, Nat.reduceAdd, Option.toList, List.cons_append, List.nil_append, cf1_11])
  repeat' apply And.intro
  all_goals try (first | with_reducible assumption | (with_reducible refine ck_nzI ?_; simp; done) | (with_reducible refine ck_nzL ?_; simp; done) | (with_reducible refine vp_in_nI ?_ ?_ <;> first | omega | decide) | (with_reducible refine Nat.le_of_ble_eq_true ?_; rfl) | omega)
  · intro zc8
    with_reducible first | have ze8 := Int32.not_le.mpr zc8 | have ze8 := zc8
    refine hB bX1_shownIn_20 _ _ _ _ _ _ _ kX1_shownIn_20 ?_
    dsimp only [bX1_shownIn_20, kx_wp, kx_step, kx_lI, kx_lL, kx_lA, kx_gl, kx_pI, kx_pL, kx_pR, kx_pA, kx_pV, kx_s1, kx_s2, kx_sl, kx_pre, kx_c2, kx_pl, kx_cmp, kx_oF, kx_eqN, kx_nil, kx_c1, kx_ft, kx_aI, kx_aL, kx_aR, kx_ln, Nat.reduceAdd, Option.toList, List.cons_append, List.nil_append, cf1_11]
    repeat (simp only [hq, hk, ks_eq, ks_ss]; try dsimp only [kx_wp, kx_step, kx_lI, kx_lL, kx_lA, kx_gl, kx_pI, kx_pL, kx_pR, kx_pA, kx_pV, kx_s1, kx_s2, kx_sl, kx_pre, kx_c2, kx_pl, kx_cmp, kx_oF, kx_eqN, kx_nil, kx_c1, kx_ft, kx_aI, kx_aL, kx_aR, kx_ln, Nat.reduceAdd, Option.toList, List.cons_append, List.nil_append, cf1_11])
    repeat' apply And.intro
    all_goals try (first | with_reducible assumption | (with_reducible refine ck_nzI ?_; simp; done) | (with_reducible refine ck_nzL ?_; simp; done) | (with_reducible refine vp_in_nI ?_ ?_ <;> first | omega | decide) | (with_reducible refine Nat.le_of_ble_eq_true ?_; rfl) | omega)
    refine hB bX1_shownIn_30 _ _ _ _ _ _ _ kX1_shownIn_30 ?_
    dsimp only [bX1_shownIn_30, kx_wp, kx_step, kx_lI, kx_lL, kx_lA, kx_gl, kx_pI, kx_pL, kx_pR, kx_pA, kx_pV, kx_s1, kx_s2, kx_sl, kx_pre, kx_c2, kx_pl, kx_cmp, kx_oF, kx_eqN, kx_nil, kx_c1, kx_ft, kx_aI, kx_aL, kx_aR, kx_ln, Nat.reduceAdd, Option.toList, List.cons_append, List.nil_append, cf1_11]
    repeat (simp only [hq, hk, ks_eq, ks_ss]; try dsimp only [kx_wp, kx_step, kx_lI, kx_lL, kx_lA, kx_gl, kx_pI, kx_pL, kx_pR, kx_pA, kx_pV, kx_s1, kx_s2, kx_sl, kx_pre, kx_c2, kx_pl, kx_cmp, kx_oF, kx_eqN, kx_nil, kx_c1, kx_ft, kx_aI, kx_aL, kx_aR, kx_ln, Nat.reduceAdd, Option.toList, List.cons_append, List.nil_append, cf1_11])
    all_goals (repeat' apply And.intro)
    all_goals ((try clear hB hC); first | exact True.intro | with_reducible rfl | with_reducible assumption | (with_reducible refine vp_in_nI ?_ ?_ <;> first | omega | decide) | exact Nat.le_of_ble_eq_true rfl | (with_reducible refine ck_nzI ?_; simp; done) | (with_reducible refine ck_nzL ?_; simp; done) | (simp only [pk_us, pk_uLs, zc8, ze8, ↓reduceIte, not_true_eq_false, not_false_eq_true]; done) | (simp only [zc8, ze8, ↓reduceIte, not_true_eq_false, not_false_eq_true]; with_reducible rfl) | omega | skip)
  · intro zc8
    with_reducible first | have ze8 := Int32.not_lt.mp zc8 | have ze8 := zc8
    refine hB bX1_shownIn_11 _ _ _ _ _ _ _ kX1_shownIn_11 ?_
    dsimp only [bX1_shownIn_11, kx_wp, kx_step, kx_lI, kx_lL, kx_lA, kx_gl, kx_pI, kx_pL, kx_pR, kx_pA, kx_pV, kx_s1, kx_s2, kx_sl, kx_pre, kx_c2, kx_pl, kx_cmp, kx_oF, kx_eqN, kx_nil, kx_c1, kx_ft, kx_aI, kx_aL, kx_aR, kx_ln, Nat.reduceAdd, Option.toList, List.cons_append, List.nil_append, cf1_11]
    repeat (simp only [hq, hk, ks_eq, ks_ss]; try dsimp only [kx_wp, kx_step, kx_lI, kx_lL, kx_lA, kx_gl, kx_pI, kx_pL, kx_pR, kx_pA, kx_pV, kx_s1, kx_s2, kx_sl, kx_pre, kx_c2, kx_pl, kx_cmp, kx_oF, kx_eqN, kx_nil, kx_c1, kx_ft, kx_aI, kx_aL, kx_aR, kx_ln, Nat.reduceAdd, Option.toList, List.cons_append, List.nil_append, cf1_11])
    repeat' apply And.intro
    all_goals try (first | with_reducible assumption | (with_reducible refine ck_nzI ?_; simp; done) | (with_reducible refine ck_nzL ?_; simp; done) | (with_reducible refine vp_in_nI ?_ ?_ <;> first | omega | decide) | (with_reducible refine Nat.le_of_ble_eq_true ?_; rfl) | omega)
    · intro zc17
      first | exact absurd rfl zc17 | exact absurd zc17 (by decide) | exact absurd (by decide) zc17 | (exfalso; rcases hx with q | q <;> first | exact zc8 q | exact absurd zc17 (Int32.not_lt.mpr q)) | (exfalso; simp_all; done)
    · intro zc17
      with_reducible first | have ze17 := Int32.not_lt.mp zc17 | have ze17 := zc17
      refine hB bX1_shownIn_20 _ _ _ _ _ _ _ kX1_shownIn_20 ?_
      dsimp only [bX1_shownIn_20, kx_wp, kx_step, kx_lI, kx_lL, kx_lA, kx_gl, kx_pI, kx_pL, kx_pR, kx_pA, kx_pV, kx_s1, kx_s2, kx_sl, kx_pre, kx_c2, kx_pl, kx_cmp, kx_oF, kx_eqN, kx_nil, kx_c1, kx_ft, kx_aI, kx_aL, kx_aR, kx_ln, Nat.reduceAdd, Option.toList, List.cons_append, List.nil_append, cf1_11]
      repeat (simp only [hq, hk, ks_eq, ks_ss]; try dsimp only [kx_wp, kx_step, kx_lI, kx_lL, kx_lA, kx_gl, kx_pI, kx_pL, kx_pR, kx_pA, kx_pV, kx_s1, kx_s2, kx_sl, kx_pre, kx_c2, kx_pl, kx_cmp, kx_oF, kx_eqN, kx_nil, kx_c1, kx_ft, kx_aI, kx_aL, kx_aR, kx_ln, Nat.reduceAdd, Option.toList, List.cons_append, List.nil_append, cf1_11])
      repeat' apply And.intro
      all_goals try (first | with_reducible assumption | (with_reducible refine ck_nzI ?_; simp; done) | (with_reducible refine ck_nzL ?_; simp; done) | (with_reducible refine vp_in_nI ?_ ?_ <;> first | omega | decide) | (with_reducible refine Nat.le_of_ble_eq_true ?_; rfl) | omega)
      refine hB bX1_shownIn_30 _ _ _ _ _ _ _ kX1_shownIn_30 ?_
      dsimp only [bX1_shownIn_30, kx_wp, kx_step, kx_lI, kx_lL, kx_lA, kx_gl, kx_pI, kx_pL, kx_pR, kx_pA, kx_pV, kx_s1, kx_s2, kx_sl, kx_pre, kx_c2, kx_pl, kx_cmp, kx_oF, kx_eqN, kx_nil, kx_c1, kx_ft, kx_aI, kx_aL, kx_aR, kx_ln, Nat.reduceAdd, Option.toList, List.cons_append, List.nil_append, cf1_11]
      repeat (simp only [hq, hk, ks_eq, ks_ss]; try dsimp only [kx_wp, kx_step, kx_lI, kx_lL, kx_lA, kx_gl, kx_pI, kx_pL, kx_pR, kx_pA, kx_pV, kx_s1, kx_s2, kx_sl, kx_pre, kx_c2, kx_pl, kx_cmp, kx_oF, kx_eqN, kx_nil, kx_c1, kx_ft, kx_aI, kx_aL, kx_aR, kx_ln, Nat.reduceAdd, Option.toList, List.cons_append, List.nil_append, cf1_11])
      all_goals (repeat' apply And.intro)
      all_goals ((try clear hB hC); first | exact True.intro | with_reducible rfl | with_reducible assumption | (with_reducible refine vp_in_nI ?_ ?_ <;> first | omega | decide) | exact Nat.le_of_ble_eq_true rfl | (with_reducible refine ck_nzI ?_; simp; done) | (with_reducible refine ck_nzL ?_; simp; done) | (simp only [pk_us, pk_uLs, zc8, ze8, zc17, ze17, ↓reduceIte, not_true_eq_false, not_false_eq_true]; done) | (simp only [zc8, ze8, zc17, ze17, ↓reduceIte, not_true_eq_false, not_false_eq_true]; with_reducible rfl) | omega | skip)

set_option maxRecDepth 100000 in
set_option maxHeartbeats 4000000 in
theorem ct_X1_shownIn_t (l : Launch) (G : kx_G) {P : kx_P} {sz : Nat} {c k x : Nat} {C K : Nat → Int32} {wv : Value} {d : Int64} (hq : P c = kO 1 (kf (cr1 wv d (.ref k)) C)) (hk : P k = kI 0 1667 K) (hx : x < 1667)  : kx_M l G sX1_shownIn 1 0 0 [.ref c, .int (nI x)] P sz (some (.int (K x))) P sz := by
  refine kx_mk kx_tab kxLok_X1 (ini := false) [some (.ref c), some (.int (nI x))] ⟨by decide, rfl, by decide, by decide⟩ (⟨_, rfl⟩) rfl rfl (fun g hB hC => ?_)
  refine hB bX1_shownIn_0 _ _ _ _ _ _ _ kX1_shownIn_0 ?_
  dsimp only [bX1_shownIn_0, kx_wp, kx_step, kx_lI, kx_lL, kx_lA, kx_gl, kx_pI, kx_pL, kx_pR, kx_pA, kx_pV, kx_s1, kx_s2, kx_sl, kx_pre, kx_c2, kx_pl, kx_cmp, kx_oF, kx_eqN, kx_nil, kx_c1, kx_ft, kx_aI, kx_aL, kx_aR, kx_ln, Nat.reduceAdd, Option.toList, List.cons_append, List.nil_append, cf1_11]
  repeat (simp only [hq, hk, nI_clamp (show x < 2 ^ 31 by omega), ks_eq, ks_ss]; try dsimp only [kx_wp, kx_step, kx_lI, kx_lL, kx_lA, kx_gl, kx_pI, kx_pL, kx_pR, kx_pA, kx_pV, kx_s1, kx_s2, kx_sl, kx_pre, kx_c2, kx_pl, kx_cmp, kx_oF, kx_eqN, kx_nil, kx_c1, kx_ft, kx_aI, kx_aL, kx_aR, kx_ln, Nat.reduceAdd, Option.toList, List.cons_append, List.nil_append, cf1_11])
  repeat' apply And.intro
  all_goals try (first | with_reducible assumption | (with_reducible refine ck_nzI ?_; simp; done) | (with_reducible refine ck_nzL ?_; simp; done) | (with_reducible refine vp_in_nI ?_ ?_ <;> first | omega | decide) | (with_reducible refine Nat.le_of_ble_eq_true ?_; rfl) | omega)
  refine hB bX1_shownIn_7 _ _ _ _ _ _ _ kX1_shownIn_7 ?_
  dsimp only [bX1_shownIn_7, kx_wp, kx_step, kx_lI, kx_lL, kx_lA, kx_gl, kx_pI, kx_pL, kx_pR, kx_pA, kx_pV, kx_s1, kx_s2, kx_sl, kx_pre, kx_c2, kx_pl, kx_cmp, kx_oF, kx_eqN, kx_nil, kx_c1, kx_ft, kx_aI, kx_aL, kx_aR, kx_ln, Nat.reduceAdd, Option.toList, List.cons_append, List.nil_append, cf1_11]
  repeat (simp only [hq, hk, nI_clamp (show x < 2 ^ 31 by omega), ks_eq, ks_ss]; try dsimp only [kx_wp, kx_step, kx_lI, kx_lL, kx_lA, kx_gl, kx_pI, kx_pL, kx_pR, kx_pA, kx_pV, kx_s1, kx_s2, kx_sl, kx_pre, kx_c2, kx_pl, kx_cmp, kx_oF, kx_eqN, kx_nil, kx_c1, kx_ft, kx_aI, kx_aL, kx_aR, kx_ln, Nat.reduceAdd, Option.toList, List.cons_append, List.nil_append, cf1_11])
  repeat' apply And.intro
  all_goals try (first | with_reducible assumption | (with_reducible refine ck_nzI ?_; simp; done) | (with_reducible refine ck_nzL ?_; simp; done) | (with_reducible refine vp_in_nI ?_ ?_ <;> first | omega | decide) | (with_reducible refine Nat.le_of_ble_eq_true ?_; rfl) | omega)
  · intro zc8
    first | exact absurd rfl zc8 | exact absurd zc8 (by decide) | exact absurd (by decide) zc8 | (exfalso; first | exact absurd ((nI_ltI (a := x) (b := 0) (by omega) (by omega)).mp zc8) (by omega) | exact absurd ((nI_ltI (a := x) (b := 1667) (by omega) (by omega)).mpr (by omega)) zc17) | (exfalso; simp_all; done)
  · intro zc8
    with_reducible first | have ze8 := Int32.not_lt.mp zc8 | have ze8 := zc8
    refine hB bX1_shownIn_11 _ _ _ _ _ _ _ kX1_shownIn_11 ?_
    dsimp only [bX1_shownIn_11, kx_wp, kx_step, kx_lI, kx_lL, kx_lA, kx_gl, kx_pI, kx_pL, kx_pR, kx_pA, kx_pV, kx_s1, kx_s2, kx_sl, kx_pre, kx_c2, kx_pl, kx_cmp, kx_oF, kx_eqN, kx_nil, kx_c1, kx_ft, kx_aI, kx_aL, kx_aR, kx_ln, Nat.reduceAdd, Option.toList, List.cons_append, List.nil_append, cf1_11]
    repeat (simp only [hq, hk, nI_clamp (show x < 2 ^ 31 by omega), ks_eq, ks_ss]; try dsimp only [kx_wp, kx_step, kx_lI, kx_lL, kx_lA, kx_gl, kx_pI, kx_pL, kx_pR, kx_pA, kx_pV, kx_s1, kx_s2, kx_sl, kx_pre, kx_c2, kx_pl, kx_cmp, kx_oF, kx_eqN, kx_nil, kx_c1, kx_ft, kx_aI, kx_aL, kx_aR, kx_ln, Nat.reduceAdd, Option.toList, List.cons_append, List.nil_append, cf1_11])
    repeat' apply And.intro
    all_goals try (first | with_reducible assumption | (with_reducible refine ck_nzI ?_; simp; done) | (with_reducible refine ck_nzL ?_; simp; done) | (with_reducible refine vp_in_nI ?_ ?_ <;> first | omega | decide) | (with_reducible refine Nat.le_of_ble_eq_true ?_; rfl) | omega)
    · intro zc17
      with_reducible first | have ze17 := Int32.not_le.mpr zc17 | have ze17 := zc17
      refine hB bX1_shownIn_24 _ _ _ _ _ _ _ kX1_shownIn_24 ?_
      dsimp only [bX1_shownIn_24, kx_wp, kx_step, kx_lI, kx_lL, kx_lA, kx_gl, kx_pI, kx_pL, kx_pR, kx_pA, kx_pV, kx_s1, kx_s2, kx_sl, kx_pre, kx_c2, kx_pl, kx_cmp, kx_oF, kx_eqN, kx_nil, kx_c1, kx_ft, kx_aI, kx_aL, kx_aR, kx_ln, Nat.reduceAdd, Option.toList, List.cons_append, List.nil_append, cf1_11]
      repeat (simp only [hq, hk, nI_clamp (show x < 2 ^ 31 by omega), ks_eq, ks_ss]; try dsimp only [kx_wp, kx_step, kx_lI, kx_lL, kx_lA, kx_gl, kx_pI, kx_pL, kx_pR, kx_pA, kx_pV, kx_s1, kx_s2, kx_sl, kx_pre, kx_c2, kx_pl, kx_cmp, kx_oF, kx_eqN, kx_nil, kx_c1, kx_ft, kx_aI, kx_aL, kx_aR, kx_ln, Nat.reduceAdd, Option.toList, List.cons_append, List.nil_append, cf1_11])
      repeat' apply And.intro
      all_goals try (first | with_reducible assumption | (with_reducible refine ck_nzI ?_; simp; done) | (with_reducible refine ck_nzL ?_; simp; done) | (with_reducible refine vp_in_nI ?_ ?_ <;> first | omega | decide) | (with_reducible refine Nat.le_of_ble_eq_true ?_; rfl) | omega)
      refine hB bX1_shownIn_30 _ _ _ _ _ _ _ kX1_shownIn_30 ?_
      dsimp only [bX1_shownIn_30, kx_wp, kx_step, kx_lI, kx_lL, kx_lA, kx_gl, kx_pI, kx_pL, kx_pR, kx_pA, kx_pV, kx_s1, kx_s2, kx_sl, kx_pre, kx_c2, kx_pl, kx_cmp, kx_oF, kx_eqN, kx_nil, kx_c1, kx_ft, kx_aI, kx_aL, kx_aR, kx_ln, Nat.reduceAdd, Option.toList, List.cons_append, List.nil_append, cf1_11]
      repeat (simp only [hq, hk, nI_clamp (show x < 2 ^ 31 by omega), ks_eq, ks_ss]; try dsimp only [kx_wp, kx_step, kx_lI, kx_lL, kx_lA, kx_gl, kx_pI, kx_pL, kx_pR, kx_pA, kx_pV, kx_s1, kx_s2, kx_sl, kx_pre, kx_c2, kx_pl, kx_cmp, kx_oF, kx_eqN, kx_nil, kx_c1, kx_ft, kx_aI, kx_aL, kx_aR, kx_ln, Nat.reduceAdd, Option.toList, List.cons_append, List.nil_append, cf1_11])
      all_goals (repeat' apply And.intro)
      all_goals ((try clear hB hC); first | exact True.intro | with_reducible rfl | with_reducible assumption | (with_reducible refine vp_in_nI ?_ ?_ <;> first | omega | decide) | exact Nat.le_of_ble_eq_true rfl | (with_reducible refine ck_nzI ?_; simp; done) | (with_reducible refine ck_nzL ?_; simp; done) | (simp only [pk_us, pk_uLs, zc8, ze8, zc17, ze17, ↓reduceIte, not_true_eq_false, not_false_eq_true]; done) | (simp only [zc8, ze8, zc17, ze17, ↓reduceIte, not_true_eq_false, not_false_eq_true]; with_reducible rfl) | omega | skip)
    · intro zc17
      first | exact absurd rfl zc17 | exact absurd zc17 (by decide) | exact absurd (by decide) zc17 | (exfalso; first | exact absurd ((nI_ltI (a := x) (b := 0) (by omega) (by omega)).mp zc8) (by omega) | exact absurd ((nI_ltI (a := x) (b := 1667) (by omega) (by omega)).mpr (by omega)) zc17) | (exfalso; simp_all; done)


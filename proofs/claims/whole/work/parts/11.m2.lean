def ck_abs (v : Int32) : Int32 := if v < 0 then -v else v
def ck_us (h : Int32) : Int32 := h + 11 - (h + 11) / 12 * 12 + 1
def ck_last (m lp : Int32) : Int32 := if m = 2 then (if lp = 0 then 28 else 29) else if m = 4 ∨ m = 6 ∨ m = 9 ∨ m = 11 then 30 else 31
def ck_wrong (M : Nat → Int32) (kind place : Int32) : Nat → Int32 := if M 8 = -1 then upd (upd M 8 place) 9 kind else M
theorem ck_its (c w : Nat) : (16 : Int32) * nI c + nI w = nI (16 * c + w) := by rw [show (16 : Int32) = nI 16 from rfl, pk_mul, nI_add]
theorem ck_c {c cl : Nat} (hcl : cl ≤ 8) (hc : c < cl) : (nI c).toInt = (c : Int) ∧ (nI cl).toInt = (cl : Int) ∧ (nI cl - 1).toInt = (cl : Int) - 1 := by
  refine ⟨nI_toInt (by omega), nI_toInt (by omega), ?_⟩
  have : nI cl - 1 = nI (cl - 1) := pk_sub (b := 1) (by omega)
  rw [this, nI_toInt (by omega)]
  omega

def bX11_isKept_0 : List kx_O := [(.iload_n 1, 1, 0, 0, .null), (.ifCond .lt 22, 23, 0, 0, .null)]
theorem kX11_isKept_0 : kx_oks kxL_X11 false cX11_isKept 0 bX11_isKept_0 = true := by decide +kernel
def bX11_isKept_4 : List kx_O := [(.iload_n 1, 1, 0, 0, .null), (.aload_n 0, 0, 0, 0, .null), (.getfield 424, 11, 22, 0, .null), (.if_icmp .ge 14, 23, 0, 0, .null)]
theorem kX11_isKept_4 : kx_oks kxL_X11 false cX11_isKept 4 bX11_isKept_4 = true := by decide +kernel
def bX11_isKept_12 : List kx_O := [(.iload_n 1, 1, 0, 0, .null), (.sipush 200, 0, 0, 0, .int 200), (.if_icmp .ge 7, 23, 0, 0, .null)]
theorem kX11_isKept_12 : kx_oks kxL_X11 false cX11_isKept 12 bX11_isKept_12 = true := by decide +kernel
def bX11_isKept_19 : List kx_O := [(.iconst 1, 0, 0, 0, .int 1), (.goto 4, 24, 0, 0, .null)]
theorem kX11_isKept_19 : kx_oks kxL_X11 false cX11_isKept 19 bX11_isKept_19 = true := by decide +kernel
def bX11_isKept_23 : List kx_O := [(.iconst 0, 0, 0, 0, .int 0)]
theorem kX11_isKept_23 : kx_oks kxL_X11 false cX11_isKept 23 bX11_isKept_23 = true := by decide +kernel
def bX11_isKept_24 : List kx_O := [(.ireturn, 0, 0, 0, .null)]
theorem kX11_isKept_24 : kx_oks kxL_X11 false cX11_isKept 24 bX11_isKept_24 = true := by decide +kernel
set_option maxRecDepth 100000 in
set_option maxHeartbeats 4000000 in
theorem ct_X11_isKept (l : Launch) (G : kx_G) {M : Nat → Int32} {A : Nat → Nat → Int32} {L : Nat → Nat → Int64} {R : kx_P} {sz : Nat} {k : Int32} : kx_M l G sX11_isKept 1 0 0 [.ref 93, .int (k)] (mW M A L R) sz (some (.int (if 0 ≤ k ∧ k < M 22 ∧ k < 200 then 1 else 0))) (mW M A L R) sz := by
  refine kx_mk kx_tab kxLok_X11 (ini := false) [some (.ref 93), some (.int (k))] ⟨by decide, rfl, by decide, by decide⟩ (by first | exact Or.inl rfl | exact Or.inr rfl | (split <;> first | exact Or.inl rfl | exact Or.inr rfl)) rfl rfl (fun g hB hC => ?_)
  refine hB bX11_isKept_0 _ _ _ _ _ _ _ kX11_isKept_0 ?_
  dsimp only [bX11_isKept_0, kx_wp, kx_step, kx_lI, kx_lL, kx_lA, kx_gl, kx_pI, kx_pL, kx_pR, kx_pA, kx_pV, kx_s1, kx_s2, kx_sl, kx_pre, kx_c2, kx_pl, kx_cmp, kx_oF, kx_eqN, kx_nil, kx_c1, kx_ft, kx_aI, kx_aL, kx_aR, kx_ln, Nat.reduceAdd, Option.toList, List.cons_append, List.nil_append, mW_o, mf_22]
  repeat' apply And.intro
  all_goals try (first | with_reducible assumption | (with_reducible refine ck_nzI ?_; simp; done) | (with_reducible refine ck_nzL ?_; simp; done) | omega)
  · intro c1
    refine hB bX11_isKept_23 _ _ _ _ _ _ _ kX11_isKept_23 ?_
    dsimp only [bX11_isKept_23, kx_wp, kx_step, kx_lI, kx_lL, kx_lA, kx_gl, kx_pI, kx_pL, kx_pR, kx_pA, kx_pV, kx_s1, kx_s2, kx_sl, kx_pre, kx_c2, kx_pl, kx_cmp, kx_oF, kx_eqN, kx_nil, kx_c1, kx_ft, kx_aI, kx_aL, kx_aR, kx_ln, Nat.reduceAdd, Option.toList, List.cons_append, List.nil_append, mW_o, mf_22]
    repeat' apply And.intro
    all_goals try (first | with_reducible assumption | (with_reducible refine ck_nzI ?_; simp; done) | (with_reducible refine ck_nzL ?_; simp; done) | omega)
    refine hB bX11_isKept_24 _ _ _ _ _ _ _ kX11_isKept_24 ?_
    dsimp only [bX11_isKept_24, kx_wp, kx_step, kx_lI, kx_lL, kx_lA, kx_gl, kx_pI, kx_pL, kx_pR, kx_pA, kx_pV, kx_s1, kx_s2, kx_sl, kx_pre, kx_c2, kx_pl, kx_cmp, kx_oF, kx_eqN, kx_nil, kx_c1, kx_ft, kx_aI, kx_aL, kx_aR, kx_ln, Nat.reduceAdd, Option.toList, List.cons_append, List.nil_append, mW_o, mf_22]
    all_goals (repeat' apply And.intro)
    all_goals ((try clear hB hC); first | exact True.intro | with_reducible assumption | with_reducible rfl | (with_reducible refine vp_in_nI ?_ ?_ <;> first | omega | decide) | (with_reducible refine Nat.le_of_ble_eq_true ?_; rfl) | (with_reducible refine ck_nzI ?_; simp; done) | (with_reducible refine ck_nzL ?_; simp; done) | (simp [upd, va_up, *]; done) | ((try clear hB hC); simp only [ck_lt, ck_le, ck_eq, not_true_eq_false, not_false_eq_true, Int32.reduceToInt, Int32.reduceAdd, Int32.reduceSub, Int32.reduceMul] at * <;> omega) | (split <;> first | with_reducible rfl | (exfalso; ((try clear hB hC); simp only [ck_lt, ck_le, ck_eq, not_true_eq_false, not_false_eq_true, Int32.reduceToInt, Int32.reduceAdd, Int32.reduceSub, Int32.reduceMul] at * <;> omega)) | (simp_all; done)) | (simp_all; done))
  · intro c1
    refine hB bX11_isKept_4 _ _ _ _ _ _ _ kX11_isKept_4 ?_
    dsimp only [bX11_isKept_4, kx_wp, kx_step, kx_lI, kx_lL, kx_lA, kx_gl, kx_pI, kx_pL, kx_pR, kx_pA, kx_pV, kx_s1, kx_s2, kx_sl, kx_pre, kx_c2, kx_pl, kx_cmp, kx_oF, kx_eqN, kx_nil, kx_c1, kx_ft, kx_aI, kx_aL, kx_aR, kx_ln, Nat.reduceAdd, Option.toList, List.cons_append, List.nil_append, mW_o, mf_22]
    repeat' apply And.intro
    all_goals try (first | with_reducible assumption | (with_reducible refine ck_nzI ?_; simp; done) | (with_reducible refine ck_nzL ?_; simp; done) | omega)
    · intro c9
      refine hB bX11_isKept_23 _ _ _ _ _ _ _ kX11_isKept_23 ?_
      dsimp only [bX11_isKept_23, kx_wp, kx_step, kx_lI, kx_lL, kx_lA, kx_gl, kx_pI, kx_pL, kx_pR, kx_pA, kx_pV, kx_s1, kx_s2, kx_sl, kx_pre, kx_c2, kx_pl, kx_cmp, kx_oF, kx_eqN, kx_nil, kx_c1, kx_ft, kx_aI, kx_aL, kx_aR, kx_ln, Nat.reduceAdd, Option.toList, List.cons_append, List.nil_append, mW_o, mf_22]
      repeat' apply And.intro
      all_goals try (first | with_reducible assumption | (with_reducible refine ck_nzI ?_; simp; done) | (with_reducible refine ck_nzL ?_; simp; done) | omega)
      refine hB bX11_isKept_24 _ _ _ _ _ _ _ kX11_isKept_24 ?_
      dsimp only [bX11_isKept_24, kx_wp, kx_step, kx_lI, kx_lL, kx_lA, kx_gl, kx_pI, kx_pL, kx_pR, kx_pA, kx_pV, kx_s1, kx_s2, kx_sl, kx_pre, kx_c2, kx_pl, kx_cmp, kx_oF, kx_eqN, kx_nil, kx_c1, kx_ft, kx_aI, kx_aL, kx_aR, kx_ln, Nat.reduceAdd, Option.toList, List.cons_append, List.nil_append, mW_o, mf_22]
      all_goals (repeat' apply And.intro)
      all_goals ((try clear hB hC); first | exact True.intro | with_reducible assumption | with_reducible rfl | (with_reducible refine vp_in_nI ?_ ?_ <;> first | omega | decide) | (with_reducible refine Nat.le_of_ble_eq_true ?_; rfl) | (with_reducible refine ck_nzI ?_; simp; done) | (with_reducible refine ck_nzL ?_; simp; done) | (simp [upd, va_up, *]; done) | ((try clear hB hC); simp only [ck_lt, ck_le, ck_eq, not_true_eq_false, not_false_eq_true, Int32.reduceToInt, Int32.reduceAdd, Int32.reduceSub, Int32.reduceMul] at * <;> omega) | (split <;> first | with_reducible rfl | (exfalso; ((try clear hB hC); simp only [ck_lt, ck_le, ck_eq, not_true_eq_false, not_false_eq_true, Int32.reduceToInt, Int32.reduceAdd, Int32.reduceSub, Int32.reduceMul] at * <;> omega)) | (simp_all; done)) | (simp_all; done))
    · intro c9
      refine hB bX11_isKept_12 _ _ _ _ _ _ _ kX11_isKept_12 ?_
      dsimp only [bX11_isKept_12, kx_wp, kx_step, kx_lI, kx_lL, kx_lA, kx_gl, kx_pI, kx_pL, kx_pR, kx_pA, kx_pV, kx_s1, kx_s2, kx_sl, kx_pre, kx_c2, kx_pl, kx_cmp, kx_oF, kx_eqN, kx_nil, kx_c1, kx_ft, kx_aI, kx_aL, kx_aR, kx_ln, Nat.reduceAdd, Option.toList, List.cons_append, List.nil_append, mW_o, mf_22]
      repeat' apply And.intro
      all_goals try (first | with_reducible assumption | (with_reducible refine ck_nzI ?_; simp; done) | (with_reducible refine ck_nzL ?_; simp; done) | omega)
      · intro c16
        refine hB bX11_isKept_23 _ _ _ _ _ _ _ kX11_isKept_23 ?_
        dsimp only [bX11_isKept_23, kx_wp, kx_step, kx_lI, kx_lL, kx_lA, kx_gl, kx_pI, kx_pL, kx_pR, kx_pA, kx_pV, kx_s1, kx_s2, kx_sl, kx_pre, kx_c2, kx_pl, kx_cmp, kx_oF, kx_eqN, kx_nil, kx_c1, kx_ft, kx_aI, kx_aL, kx_aR, kx_ln, Nat.reduceAdd, Option.toList, List.cons_append, List.nil_append, mW_o, mf_22]
        repeat' apply And.intro
        all_goals try (first | with_reducible assumption | (with_reducible refine ck_nzI ?_; simp; done) | (with_reducible refine ck_nzL ?_; simp; done) | omega)
        refine hB bX11_isKept_24 _ _ _ _ _ _ _ kX11_isKept_24 ?_
        dsimp only [bX11_isKept_24, kx_wp, kx_step, kx_lI, kx_lL, kx_lA, kx_gl, kx_pI, kx_pL, kx_pR, kx_pA, kx_pV, kx_s1, kx_s2, kx_sl, kx_pre, kx_c2, kx_pl, kx_cmp, kx_oF, kx_eqN, kx_nil, kx_c1, kx_ft, kx_aI, kx_aL, kx_aR, kx_ln, Nat.reduceAdd, Option.toList, List.cons_append, List.nil_append, mW_o, mf_22]
        all_goals (repeat' apply And.intro)
        all_goals ((try clear hB hC); first | exact True.intro | with_reducible assumption | with_reducible rfl | (with_reducible refine vp_in_nI ?_ ?_ <;> first | omega | decide) | (with_reducible refine Nat.le_of_ble_eq_true ?_; rfl) | (with_reducible refine ck_nzI ?_; simp; done) | (with_reducible refine ck_nzL ?_; simp; done) | (simp [upd, va_up, *]; done) | ((try clear hB hC); simp only [ck_lt, ck_le, ck_eq, not_true_eq_false, not_false_eq_true, Int32.reduceToInt, Int32.reduceAdd, Int32.reduceSub, Int32.reduceMul] at * <;> omega) | (split <;> first | with_reducible rfl | (exfalso; ((try clear hB hC); simp only [ck_lt, ck_le, ck_eq, not_true_eq_false, not_false_eq_true, Int32.reduceToInt, Int32.reduceAdd, Int32.reduceSub, Int32.reduceMul] at * <;> omega)) | (simp_all; done)) | (simp_all; done))
      · intro c16
        refine hB bX11_isKept_19 _ _ _ _ _ _ _ kX11_isKept_19 ?_
        dsimp only [bX11_isKept_19, kx_wp, kx_step, kx_lI, kx_lL, kx_lA, kx_gl, kx_pI, kx_pL, kx_pR, kx_pA, kx_pV, kx_s1, kx_s2, kx_sl, kx_pre, kx_c2, kx_pl, kx_cmp, kx_oF, kx_eqN, kx_nil, kx_c1, kx_ft, kx_aI, kx_aL, kx_aR, kx_ln, Nat.reduceAdd, Option.toList, List.cons_append, List.nil_append, mW_o, mf_22]
        repeat' apply And.intro
        all_goals try (first | with_reducible assumption | (with_reducible refine ck_nzI ?_; simp; done) | (with_reducible refine ck_nzL ?_; simp; done) | omega)
        refine hB bX11_isKept_24 _ _ _ _ _ _ _ kX11_isKept_24 ?_
        dsimp only [bX11_isKept_24, kx_wp, kx_step, kx_lI, kx_lL, kx_lA, kx_gl, kx_pI, kx_pL, kx_pR, kx_pA, kx_pV, kx_s1, kx_s2, kx_sl, kx_pre, kx_c2, kx_pl, kx_cmp, kx_oF, kx_eqN, kx_nil, kx_c1, kx_ft, kx_aI, kx_aL, kx_aR, kx_ln, Nat.reduceAdd, Option.toList, List.cons_append, List.nil_append, mW_o, mf_22]
        all_goals (repeat' apply And.intro)
        all_goals ((try clear hB hC); first | exact True.intro | with_reducible assumption | with_reducible rfl | (with_reducible refine vp_in_nI ?_ ?_ <;> first | omega | decide) | (with_reducible refine Nat.le_of_ble_eq_true ?_; rfl) | (with_reducible refine ck_nzI ?_; simp; done) | (with_reducible refine ck_nzL ?_; simp; done) | (simp [upd, va_up, *]; done) | ((try clear hB hC); simp only [ck_lt, ck_le, ck_eq, not_true_eq_false, not_false_eq_true, Int32.reduceToInt, Int32.reduceAdd, Int32.reduceSub, Int32.reduceMul] at * <;> omega) | (split <;> first | with_reducible rfl | (exfalso; ((try clear hB hC); simp only [ck_lt, ck_le, ck_eq, not_true_eq_false, not_false_eq_true, Int32.reduceToInt, Int32.reduceAdd, Int32.reduceSub, Int32.reduceMul] at * <;> omega)) | (simp_all; done)) | (simp_all; done))

def bX11_usual_0 : List kx_O := [(.iload_n 0, 0, 0, 0, .null), (.bipush 11, 0, 0, 0, .int 11), (.iadd, 0, 0, 0, .null), (.bipush 12, 0, 0, 0, .int 12), (.irem, 0, 0, 0, .null), (.iconst 1, 0, 0, 0, .int 1), (.iadd, 0, 0, 0, .null), (.ireturn, 0, 0, 0, .null)]
theorem kX11_usual_0 : kx_oks kxL_X11 false cX11_usual 0 bX11_usual_0 = true := by decide +kernel
set_option maxRecDepth 100000 in
set_option maxHeartbeats 4000000 in
theorem ct_X11_usual (l : Launch) (G : kx_G) {M : Nat → Int32} {A : Nat → Nat → Int32} {L : Nat → Nat → Int64} {R : kx_P} {sz : Nat} {h : Int32} : kx_M l G sX11_usual 1 0 0 [.int (h)] (mW M A L R) sz (some (.int (ck_us h))) (mW M A L R) sz := by
  refine kx_mk kx_tab kxLok_X11 (ini := false) [some (.int (h))] ⟨by decide, rfl, by decide, by decide⟩ (⟨_, rfl⟩) rfl rfl (fun g hB hC => ?_)
  refine hB bX11_usual_0 _ _ _ _ _ _ _ kX11_usual_0 ?_
  dsimp only [bX11_usual_0, kx_wp, kx_step, kx_lI, kx_lL, kx_lA, kx_gl, kx_pI, kx_pL, kx_pR, kx_pA, kx_pV, kx_s1, kx_s2, kx_sl, kx_pre, kx_c2, kx_pl, kx_cmp, kx_oF, kx_eqN, kx_nil, kx_c1, kx_ft, kx_aI, kx_aL, kx_aR, kx_ln, Nat.reduceAdd, Option.toList, List.cons_append, List.nil_append, mW_o]
  all_goals (repeat' apply And.intro)
  all_goals ((try clear hB hC); first | exact True.intro | (with_reducible refine ck_nzI ?_; simp; done) | (with_reducible refine ck_nzL ?_; simp; done) | rfl)

def bX11_far_0 : List kx_O := [(.iload_n 0, 0, 0, 0, .null), (.iload_n 2, 2, 0, 0, .null), (.isub, 0, 0, 0, .null)]
theorem kX11_far_0 : kx_oks kxL_X11 false cX11_far 0 bX11_far_0 = true := by decide +kernel
def bX11_far_6 : List kx_O := [(.iload_n 1, 1, 0, 0, .null), (.iload_n 3, 3, 0, 0, .null), (.isub, 0, 0, 0, .null)]
theorem kX11_far_6 : kx_oks kxL_X11 false cX11_far 6 bX11_far_6 = true := by decide +kernel
def bX11_far_12 : List kx_O := [(.iadd, 0, 0, 0, .null), (.ireturn, 0, 0, 0, .null)]
theorem kX11_far_12 : kx_oks kxL_X11 false cX11_far 12 bX11_far_12 = true := by decide +kernel
theorem dX11_far_3 : decode cX11_far 3 = .ok (.invokestatic 470, 3) := by decide +kernel
theorem dX11_far_9 : decode cX11_far 9 = .ok (.invokestatic 470, 3) := by decide +kernel
set_option maxRecDepth 100000 in
set_option maxHeartbeats 4000000 in
theorem ct_X11_far (l : Launch) (G : kx_G) {M : Nat → Int32} {A : Nat → Nat → Int32} {L : Nat → Nat → Int64} {R : kx_P} {sz : Nat} {x y u v : Int32} : kx_M l G sX11_far 2 0 0 [.int (x), .int (y), .int (u), .int (v)] (mW M A L R) sz (some (.int (ck_abs (x - u) + ck_abs (y - v)))) (mW M A L R) sz := by
  refine kx_mk kx_tab kxLok_X11 (ini := false) [some (.int (x)), some (.int (y)), some (.int (u)), some (.int (v))] ⟨by decide, rfl, by decide, by decide⟩ (⟨_, rfl⟩) rfl rfl (fun g hB hC => ?_)
  refine hB bX11_far_0 _ _ _ _ _ _ _ kX11_far_0 ?_
  dsimp only [bX11_far_0, kx_wp, kx_step, kx_lI, kx_lL, kx_lA, kx_gl, kx_pI, kx_pL, kx_pR, kx_pA, kx_pV, kx_s1, kx_s2, kx_sl, kx_pre, kx_c2, kx_pl, kx_cmp, kx_oF, kx_eqN, kx_nil, kx_c1, kx_ft, kx_aI, kx_aL, kx_aR, kx_ln, Nat.reduceAdd, Option.toList, List.cons_append, List.nil_append, mW_o]
  repeat' apply And.intro
  all_goals try (first | with_reducible assumption | (with_reducible refine ck_nzI ?_; simp; done) | (with_reducible refine ck_nzL ?_; simp; done) | omega)
  refine hC.2.1 470 _ _ _ _ _ _ _ _ _ _ _ _ _ _ _ _ _ lX11_470 (ct_X11_off l G) rfl rfl (Nat.le_of_ble_eq_true rfl) (by decide) (by decide) (by omega) (by omega) dX11_far_3 ?_
  refine hB bX11_far_6 _ _ _ _ _ _ _ kX11_far_6 ?_
  dsimp only [bX11_far_6, kx_wp, kx_step, kx_lI, kx_lL, kx_lA, kx_gl, kx_pI, kx_pL, kx_pR, kx_pA, kx_pV, kx_s1, kx_s2, kx_sl, kx_pre, kx_c2, kx_pl, kx_cmp, kx_oF, kx_eqN, kx_nil, kx_c1, kx_ft, kx_aI, kx_aL, kx_aR, kx_ln, Nat.reduceAdd, Option.toList, List.cons_append, List.nil_append, mW_o]
  repeat' apply And.intro
  all_goals try (first | with_reducible assumption | (with_reducible refine ck_nzI ?_; simp; done) | (with_reducible refine ck_nzL ?_; simp; done) | omega)
  refine hC.2.1 470 _ _ _ _ _ _ _ _ _ _ _ _ _ _ _ _ _ lX11_470 (ct_X11_off l G) rfl rfl (Nat.le_of_ble_eq_true rfl) (by decide) (by decide) (by omega) (by omega) dX11_far_9 ?_
  refine hB bX11_far_12 _ _ _ _ _ _ _ kX11_far_12 ?_
  dsimp only [bX11_far_12, kx_wp, kx_step, kx_lI, kx_lL, kx_lA, kx_gl, kx_pI, kx_pL, kx_pR, kx_pA, kx_pV, kx_s1, kx_s2, kx_sl, kx_pre, kx_c2, kx_pl, kx_cmp, kx_oF, kx_eqN, kx_nil, kx_c1, kx_ft, kx_aI, kx_aL, kx_aR, kx_ln, Nat.reduceAdd, Option.toList, List.cons_append, List.nil_append, mW_o]
  all_goals (repeat' apply And.intro)
  all_goals ((try clear hB hC); first | exact True.intro | rfl | assumption)

def bX11_isClock_0 : List kx_O := [(.aload_n 0, 0, 0, 0, .null), (.iload_n 1, 1, 0, 0, .null), (.iconst 0, 0, 0, 0, .int 0), (.aload_n 0, 0, 0, 0, .null), (.getfield 337, 11, 21, 0, .null), (.iconst 1, 0, 0, 0, .int 1), (.isub, 0, 0, 0, .null)]
theorem kX11_isClock_0 : kx_oks kxL_X11 false cX11_isClock 0 bX11_isClock_0 = true := by decide +kernel
def bX11_isClock_12 : List kx_O := [(.iconst 1, 0, 0, 0, .int 1)]
theorem kX11_isClock_12 : kx_oks kxL_X11 false cX11_isClock 12 bX11_isClock_12 = true := by decide +kernel
def bX11_isClock_16 : List kx_O := [(.ireturn, 0, 0, 0, .null)]
theorem kX11_isClock_16 : kx_oks kxL_X11 false cX11_isClock 16 bX11_isClock_16 = true := by decide +kernel
theorem dX11_isClock_9 : decode cX11_isClock 9 = .ok (.invokestatic 167, 3) := by decide +kernel
theorem dX11_isClock_13 : decode cX11_isClock 13 = .ok (.invokevirtual 171, 3) := by decide +kernel
set_option maxRecDepth 100000 in
set_option maxHeartbeats 4000000 in
theorem ct_X11_isClock_t (l : Launch) (G : kx_G) {M : Nat → Int32} {A : Nat → Nat → Int32} {L : Nat → Nat → Int64} {R : kx_P} {sz : Nat} {cl c : Nat} (h21 : M 21 = nI cl) (hcl : cl ≤ 8) (hc : c < cl) (h0 : M 0 = 0) : kx_M l G sX11_isClock 2 0 0 [.ref 93, .int (nI c)] (mW M A L R) sz (some (.int (1))) (mW M A L R) sz := by
  refine kx_mk kx_tab kxLok_X11 (ini := false) [some (.ref 93), some (.int (nI c))] ⟨by decide, rfl, by decide, by decide⟩ (by first | exact Or.inl rfl | exact Or.inr rfl | (split <;> first | exact Or.inl rfl | exact Or.inr rfl)) rfl rfl (fun g hB hC => ?_)
  refine hB bX11_isClock_0 _ _ _ _ _ _ _ kX11_isClock_0 ?_
  dsimp only [bX11_isClock_0, kx_wp, kx_step, kx_lI, kx_lL, kx_lA, kx_gl, kx_pI, kx_pL, kx_pR, kx_pA, kx_pV, kx_s1, kx_s2, kx_sl, kx_pre, kx_c2, kx_pl, kx_cmp, kx_oF, kx_eqN, kx_nil, kx_c1, kx_ft, kx_aI, kx_aL, kx_aR, kx_ln, Nat.reduceAdd, Option.toList, List.cons_append, List.nil_append, mW_o, mf_21]
  repeat (simp only [h21]; try dsimp only [kx_wp, kx_step, kx_lI, kx_lL, kx_lA, kx_gl, kx_pI, kx_pL, kx_pR, kx_pA, kx_pV, kx_s1, kx_s2, kx_sl, kx_pre, kx_c2, kx_pl, kx_cmp, kx_oF, kx_eqN, kx_nil, kx_c1, kx_ft, kx_aI, kx_aL, kx_aR, kx_ln, Nat.reduceAdd, Option.toList, List.cons_append, List.nil_append, mW_o, mf_21])
  repeat' apply And.intro
  all_goals try (first | with_reducible assumption | (with_reducible refine ck_nzI ?_; simp; done) | (with_reducible refine ck_nzL ?_; simp; done) | omega)
  refine hC.2.1 167 _ _ _ _ _ _ _ _ _ _ _ _ _ _ _ _ _ lX11_167 (ct_X11_within l G) rfl rfl (Nat.le_of_ble_eq_true rfl) (by decide) (by decide) (by omega) (by omega) dX11_isClock_9 ?_
  refine hB bX11_isClock_12 _ _ _ _ _ _ _ kX11_isClock_12 ?_
  dsimp only [bX11_isClock_12, kx_wp, kx_step, kx_lI, kx_lL, kx_lA, kx_gl, kx_pI, kx_pL, kx_pR, kx_pA, kx_pV, kx_s1, kx_s2, kx_sl, kx_pre, kx_c2, kx_pl, kx_cmp, kx_oF, kx_eqN, kx_nil, kx_c1, kx_ft, kx_aI, kx_aL, kx_aR, kx_ln, Nat.reduceAdd, Option.toList, List.cons_append, List.nil_append, mW_o, mf_21]
  repeat (simp only [h21]; try dsimp only [kx_wp, kx_step, kx_lI, kx_lL, kx_lA, kx_gl, kx_pI, kx_pL, kx_pR, kx_pA, kx_pV, kx_s1, kx_s2, kx_sl, kx_pre, kx_c2, kx_pl, kx_cmp, kx_oF, kx_eqN, kx_nil, kx_c1, kx_ft, kx_aI, kx_aL, kx_aR, kx_ln, Nat.reduceAdd, Option.toList, List.cons_append, List.nil_append, mW_o, mf_21])
  repeat' apply And.intro
  all_goals try (first | with_reducible assumption | (with_reducible refine ck_nzI ?_; simp; done) | (with_reducible refine ck_nzL ?_; simp; done) | omega)
  obtain ⟨e1, e2, e3⟩ := ck_c hcl hc
  rw [if_pos (by constructor <;> (simp only [ck_le, Int32.reduceToInt, e1, e3]; omega))]
  refine hC.1 171 _ _ _ _ _ _ _ 11 _ _ _ _ _ _ _ _ _ _ _ _ lX11_171 (ct_X11_may_t l G h0) ⟨by decide, rfl⟩ (mW_o) rfl rfl (Nat.le_of_ble_eq_true rfl) (by decide) (by decide) (by omega) (by omega) dX11_isClock_13 ?_
  refine hB bX11_isClock_16 _ _ _ _ _ _ _ kX11_isClock_16 ?_
  dsimp only [bX11_isClock_16, kx_wp, kx_step, kx_lI, kx_lL, kx_lA, kx_gl, kx_pI, kx_pL, kx_pR, kx_pA, kx_pV, kx_s1, kx_s2, kx_sl, kx_pre, kx_c2, kx_pl, kx_cmp, kx_oF, kx_eqN, kx_nil, kx_c1, kx_ft, kx_aI, kx_aL, kx_aR, kx_ln, Nat.reduceAdd, Option.toList, List.cons_append, List.nil_append, mW_o, mf_21]
  repeat (simp only [h21]; try dsimp only [kx_wp, kx_step, kx_lI, kx_lL, kx_lA, kx_gl, kx_pI, kx_pL, kx_pR, kx_pA, kx_pV, kx_s1, kx_s2, kx_sl, kx_pre, kx_c2, kx_pl, kx_cmp, kx_oF, kx_eqN, kx_nil, kx_c1, kx_ft, kx_aI, kx_aL, kx_aR, kx_ln, Nat.reduceAdd, Option.toList, List.cons_append, List.nil_append, mW_o, mf_21])
  all_goals (repeat' apply And.intro)
  all_goals ((try clear hB hC); first | exact True.intro | with_reducible assumption | with_reducible rfl | (with_reducible refine vp_in_nI ?_ ?_ <;> first | omega | decide) | (with_reducible refine Nat.le_of_ble_eq_true ?_; rfl) | (with_reducible refine ck_nzI ?_; simp; done) | (with_reducible refine ck_nzL ?_; simp; done) | (simp [upd, va_up, *]; done) | ((try clear hB hC); simp only [ck_lt, ck_le, ck_eq, not_true_eq_false, not_false_eq_true, Int32.reduceToInt, Int32.reduceAdd, Int32.reduceSub, Int32.reduceMul] at * <;> omega) | (split <;> first | with_reducible rfl | (exfalso; ((try clear hB hC); simp only [ck_lt, ck_le, ck_eq, not_true_eq_false, not_false_eq_true, Int32.reduceToInt, Int32.reduceAdd, Int32.reduceSub, Int32.reduceMul] at * <;> omega)) | (simp_all; done)) | (simp_all; done))

set_option maxRecDepth 100000 in
set_option maxHeartbeats 4000000 in
theorem ct_X11_isClock_f (l : Launch) (G : kx_G) {M : Nat → Int32} {A : Nat → Nat → Int32} {L : Nat → Nat → Int64} {R : kx_P} {sz : Nat} {x : Int32} (hx : ¬ (0 ≤ x ∧ x ≤ M 21 - 1)) (h0 : M 0 = 0) : kx_M l G sX11_isClock 2 0 0 [.ref 93, .int (x)] (mW M A L R) sz (some (.int (0))) (mW (upd M 0 1) A L R) sz := by
  refine kx_mk kx_tab kxLok_X11 (ini := false) [some (.ref 93), some (.int (x))] ⟨by decide, rfl, by decide, by decide⟩ (by first | exact Or.inl rfl | exact Or.inr rfl | (split <;> first | exact Or.inl rfl | exact Or.inr rfl)) rfl rfl (fun g hB hC => ?_)
  refine hB bX11_isClock_0 _ _ _ _ _ _ _ kX11_isClock_0 ?_
  dsimp only [bX11_isClock_0, kx_wp, kx_step, kx_lI, kx_lL, kx_lA, kx_gl, kx_pI, kx_pL, kx_pR, kx_pA, kx_pV, kx_s1, kx_s2, kx_sl, kx_pre, kx_c2, kx_pl, kx_cmp, kx_oF, kx_eqN, kx_nil, kx_c1, kx_ft, kx_aI, kx_aL, kx_aR, kx_ln, Nat.reduceAdd, Option.toList, List.cons_append, List.nil_append, mW_o, mf_21]
  repeat' apply And.intro
  all_goals try (first | with_reducible assumption | (with_reducible refine ck_nzI ?_; simp; done) | (with_reducible refine ck_nzL ?_; simp; done) | omega)
  refine hC.2.1 167 _ _ _ _ _ _ _ _ _ _ _ _ _ _ _ _ _ lX11_167 (ct_X11_within l G) rfl rfl (Nat.le_of_ble_eq_true rfl) (by decide) (by decide) (by omega) (by omega) dX11_isClock_9 ?_
  refine hB bX11_isClock_12 _ _ _ _ _ _ _ kX11_isClock_12 ?_
  dsimp only [bX11_isClock_12, kx_wp, kx_step, kx_lI, kx_lL, kx_lA, kx_gl, kx_pI, kx_pL, kx_pR, kx_pA, kx_pV, kx_s1, kx_s2, kx_sl, kx_pre, kx_c2, kx_pl, kx_cmp, kx_oF, kx_eqN, kx_nil, kx_c1, kx_ft, kx_aI, kx_aL, kx_aR, kx_ln, Nat.reduceAdd, Option.toList, List.cons_append, List.nil_append, mW_o, mf_21]
  repeat' apply And.intro
  all_goals try (first | with_reducible assumption | (with_reducible refine ck_nzI ?_; simp; done) | (with_reducible refine ck_nzL ?_; simp; done) | omega)
  rw [if_neg hx]
  refine hC.1 171 _ _ _ _ _ _ _ 11 _ _ _ _ _ _ _ _ _ _ _ _ lX11_171 (ct_X11_may_f l G h0 (by decide)) ⟨by decide, rfl⟩ (mW_o) rfl rfl (Nat.le_of_ble_eq_true rfl) (by decide) (by decide) (by omega) (by omega) dX11_isClock_13 ?_
  refine hB bX11_isClock_16 _ _ _ _ _ _ _ kX11_isClock_16 ?_
  dsimp only [bX11_isClock_16, kx_wp, kx_step, kx_lI, kx_lL, kx_lA, kx_gl, kx_pI, kx_pL, kx_pR, kx_pA, kx_pV, kx_s1, kx_s2, kx_sl, kx_pre, kx_c2, kx_pl, kx_cmp, kx_oF, kx_eqN, kx_nil, kx_c1, kx_ft, kx_aI, kx_aL, kx_aR, kx_ln, Nat.reduceAdd, Option.toList, List.cons_append, List.nil_append, mW_o, mf_21]
  all_goals (repeat' apply And.intro)
  all_goals ((try clear hB hC); first | exact True.intro | with_reducible assumption | with_reducible rfl | (with_reducible refine vp_in_nI ?_ ?_ <;> first | omega | decide) | (with_reducible refine Nat.le_of_ble_eq_true ?_; rfl) | (with_reducible refine ck_nzI ?_; simp; done) | (with_reducible refine ck_nzL ?_; simp; done) | (simp [upd, va_up, *]; done) | ((try clear hB hC); simp only [ck_lt, ck_le, ck_eq, not_true_eq_false, not_false_eq_true, Int32.reduceToInt, Int32.reduceAdd, Int32.reduceSub, Int32.reduceMul] at * <;> omega) | (split <;> first | with_reducible rfl | (exfalso; ((try clear hB hC); simp only [ck_lt, ck_le, ck_eq, not_true_eq_false, not_false_eq_true, Int32.reduceToInt, Int32.reduceAdd, Int32.reduceSub, Int32.reduceMul] at * <;> omega)) | (simp_all; done)) | (simp_all; done))

def bX11_lastDate_0 : List kx_O := [(.iload_n 1, 1, 0, 0, .null), (.iconst 2, 0, 0, 0, .int 2), (.if_icmp .ne 17, 19, 0, 0, .null)]
theorem kX11_lastDate_0 : kx_oks kxL_X11 false cX11_lastDate 0 bX11_lastDate_0 = true := by decide +kernel
def bX11_lastDate_5 : List kx_O := [(.iload_n 2, 2, 0, 0, .null), (.ifCond .eq 8, 14, 0, 0, .null)]
theorem kX11_lastDate_5 : kx_oks kxL_X11 false cX11_lastDate 5 bX11_lastDate_5 = true := by decide +kernel
def bX11_lastDate_9 : List kx_O := [(.bipush 29, 0, 0, 0, .int 29), (.goto 38, 49, 0, 0, .null)]
theorem kX11_lastDate_9 : kx_oks kxL_X11 false cX11_lastDate 9 bX11_lastDate_9 = true := by decide +kernel
def bX11_lastDate_14 : List kx_O := [(.bipush 28, 0, 0, 0, .int 28), (.goto 33, 49, 0, 0, .null)]
theorem kX11_lastDate_14 : kx_oks kxL_X11 false cX11_lastDate 14 bX11_lastDate_14 = true := by decide +kernel
def bX11_lastDate_19 : List kx_O := [(.iload_n 1, 1, 0, 0, .null), (.iconst 4, 0, 0, 0, .int 4), (.if_icmp .eq 21, 42, 0, 0, .null)]
theorem kX11_lastDate_19 : kx_oks kxL_X11 false cX11_lastDate 19 bX11_lastDate_19 = true := by decide +kernel
def bX11_lastDate_24 : List kx_O := [(.iload_n 1, 1, 0, 0, .null), (.bipush 6, 0, 0, 0, .int 6), (.if_icmp .eq 15, 42, 0, 0, .null)]
theorem kX11_lastDate_24 : kx_oks kxL_X11 false cX11_lastDate 24 bX11_lastDate_24 = true := by decide +kernel
def bX11_lastDate_30 : List kx_O := [(.iload_n 1, 1, 0, 0, .null), (.bipush 9, 0, 0, 0, .int 9), (.if_icmp .eq 9, 42, 0, 0, .null)]
theorem kX11_lastDate_30 : kx_oks kxL_X11 false cX11_lastDate 30 bX11_lastDate_30 = true := by decide +kernel
def bX11_lastDate_36 : List kx_O := [(.iload_n 1, 1, 0, 0, .null), (.bipush 11, 0, 0, 0, .int 11), (.if_icmp .ne 8, 47, 0, 0, .null)]
theorem kX11_lastDate_36 : kx_oks kxL_X11 false cX11_lastDate 36 bX11_lastDate_36 = true := by decide +kernel
def bX11_lastDate_42 : List kx_O := [(.bipush 30, 0, 0, 0, .int 30), (.goto 5, 49, 0, 0, .null)]
theorem kX11_lastDate_42 : kx_oks kxL_X11 false cX11_lastDate 42 bX11_lastDate_42 = true := by decide +kernel
def bX11_lastDate_47 : List kx_O := [(.bipush 31, 0, 0, 0, .int 31)]
theorem kX11_lastDate_47 : kx_oks kxL_X11 false cX11_lastDate 47 bX11_lastDate_47 = true := by decide +kernel
def bX11_lastDate_49 : List kx_O := [(.ireturn, 0, 0, 0, .null)]
theorem kX11_lastDate_49 : kx_oks kxL_X11 false cX11_lastDate 49 bX11_lastDate_49 = true := by decide +kernel
set_option maxRecDepth 100000 in
set_option maxHeartbeats 4000000 in
theorem ct_X11_lastDate (l : Launch) (G : kx_G) {M : Nat → Int32} {A : Nat → Nat → Int32} {L : Nat → Nat → Int64} {R : kx_P} {sz : Nat} {m lp : Int32} : kx_M l G sX11_lastDate 1 0 0 [.ref 93, .int (m), .int (lp)] (mW M A L R) sz (some (.int (ck_last m lp))) (mW M A L R) sz := by
  refine kx_mk kx_tab kxLok_X11 (ini := false) [some (.ref 93), some (.int (m)), some (.int (lp))] ⟨by decide, rfl, by decide, by decide⟩ (⟨_, rfl⟩) rfl rfl (fun g hB hC => ?_)
  refine hB bX11_lastDate_0 _ _ _ _ _ _ _ kX11_lastDate_0 ?_
  dsimp only [bX11_lastDate_0, kx_wp, kx_step, kx_lI, kx_lL, kx_lA, kx_gl, kx_pI, kx_pL, kx_pR, kx_pA, kx_pV, kx_s1, kx_s2, kx_sl, kx_pre, kx_c2, kx_pl, kx_cmp, kx_oF, kx_eqN, kx_nil, kx_c1, kx_ft, kx_aI, kx_aL, kx_aR, kx_ln, Nat.reduceAdd, Option.toList, List.cons_append, List.nil_append, mW_o]
  repeat' apply And.intro
  all_goals try (first | with_reducible assumption | (with_reducible refine ck_nzI ?_; simp; done) | (with_reducible refine ck_nzL ?_; simp; done) | omega)
  · intro c2
    refine hB bX11_lastDate_19 _ _ _ _ _ _ _ kX11_lastDate_19 ?_
    dsimp only [bX11_lastDate_19, kx_wp, kx_step, kx_lI, kx_lL, kx_lA, kx_gl, kx_pI, kx_pL, kx_pR, kx_pA, kx_pV, kx_s1, kx_s2, kx_sl, kx_pre, kx_c2, kx_pl, kx_cmp, kx_oF, kx_eqN, kx_nil, kx_c1, kx_ft, kx_aI, kx_aL, kx_aR, kx_ln, Nat.reduceAdd, Option.toList, List.cons_append, List.nil_append, mW_o]
    repeat' apply And.intro
    all_goals try (first | with_reducible assumption | (with_reducible refine ck_nzI ?_; simp; done) | (with_reducible refine ck_nzL ?_; simp; done) | omega)
    · intro c21
      refine hB bX11_lastDate_42 _ _ _ _ _ _ _ kX11_lastDate_42 ?_
      dsimp only [bX11_lastDate_42, kx_wp, kx_step, kx_lI, kx_lL, kx_lA, kx_gl, kx_pI, kx_pL, kx_pR, kx_pA, kx_pV, kx_s1, kx_s2, kx_sl, kx_pre, kx_c2, kx_pl, kx_cmp, kx_oF, kx_eqN, kx_nil, kx_c1, kx_ft, kx_aI, kx_aL, kx_aR, kx_ln, Nat.reduceAdd, Option.toList, List.cons_append, List.nil_append, mW_o]
      repeat' apply And.intro
      all_goals try (first | with_reducible assumption | (with_reducible refine ck_nzI ?_; simp; done) | (with_reducible refine ck_nzL ?_; simp; done) | omega)
      refine hB bX11_lastDate_49 _ _ _ _ _ _ _ kX11_lastDate_49 ?_
      dsimp only [bX11_lastDate_49, kx_wp, kx_step, kx_lI, kx_lL, kx_lA, kx_gl, kx_pI, kx_pL, kx_pR, kx_pA, kx_pV, kx_s1, kx_s2, kx_sl, kx_pre, kx_c2, kx_pl, kx_cmp, kx_oF, kx_eqN, kx_nil, kx_c1, kx_ft, kx_aI, kx_aL, kx_aR, kx_ln, Nat.reduceAdd, Option.toList, List.cons_append, List.nil_append, mW_o]
      all_goals (repeat' apply And.intro)
      all_goals ((try clear hB hC); first | exact True.intro | (simp [ck_last, *]; done) | (simp only [ck_last]; split <;> first | rfl | (split <;> first | rfl | (simp_all; done)) | (simp_all; done)))
    · intro c21
      refine hB bX11_lastDate_24 _ _ _ _ _ _ _ kX11_lastDate_24 ?_
      dsimp only [bX11_lastDate_24, kx_wp, kx_step, kx_lI, kx_lL, kx_lA, kx_gl, kx_pI, kx_pL, kx_pR, kx_pA, kx_pV, kx_s1, kx_s2, kx_sl, kx_pre, kx_c2, kx_pl, kx_cmp, kx_oF, kx_eqN, kx_nil, kx_c1, kx_ft, kx_aI, kx_aL, kx_aR, kx_ln, Nat.reduceAdd, Option.toList, List.cons_append, List.nil_append, mW_o]
      repeat' apply And.intro
      all_goals try (first | with_reducible assumption | (with_reducible refine ck_nzI ?_; simp; done) | (with_reducible refine ck_nzL ?_; simp; done) | omega)
      · intro c27
        refine hB bX11_lastDate_42 _ _ _ _ _ _ _ kX11_lastDate_42 ?_
        dsimp only [bX11_lastDate_42, kx_wp, kx_step, kx_lI, kx_lL, kx_lA, kx_gl, kx_pI, kx_pL, kx_pR, kx_pA, kx_pV, kx_s1, kx_s2, kx_sl, kx_pre, kx_c2, kx_pl, kx_cmp, kx_oF, kx_eqN, kx_nil, kx_c1, kx_ft, kx_aI, kx_aL, kx_aR, kx_ln, Nat.reduceAdd, Option.toList, List.cons_append, List.nil_append, mW_o]
        repeat' apply And.intro
        all_goals try (first | with_reducible assumption | (with_reducible refine ck_nzI ?_; simp; done) | (with_reducible refine ck_nzL ?_; simp; done) | omega)
        refine hB bX11_lastDate_49 _ _ _ _ _ _ _ kX11_lastDate_49 ?_
        dsimp only [bX11_lastDate_49, kx_wp, kx_step, kx_lI, kx_lL, kx_lA, kx_gl, kx_pI, kx_pL, kx_pR, kx_pA, kx_pV, kx_s1, kx_s2, kx_sl, kx_pre, kx_c2, kx_pl, kx_cmp, kx_oF, kx_eqN, kx_nil, kx_c1, kx_ft, kx_aI, kx_aL, kx_aR, kx_ln, Nat.reduceAdd, Option.toList, List.cons_append, List.nil_append, mW_o]
        all_goals (repeat' apply And.intro)
        all_goals ((try clear hB hC); first | exact True.intro | (simp [ck_last, *]; done) | (simp only [ck_last]; split <;> first | rfl | (split <;> first | rfl | (simp_all; done)) | (simp_all; done)))
      · intro c27
        refine hB bX11_lastDate_30 _ _ _ _ _ _ _ kX11_lastDate_30 ?_
        dsimp only [bX11_lastDate_30, kx_wp, kx_step, kx_lI, kx_lL, kx_lA, kx_gl, kx_pI, kx_pL, kx_pR, kx_pA, kx_pV, kx_s1, kx_s2, kx_sl, kx_pre, kx_c2, kx_pl, kx_cmp, kx_oF, kx_eqN, kx_nil, kx_c1, kx_ft, kx_aI, kx_aL, kx_aR, kx_ln, Nat.reduceAdd, Option.toList, List.cons_append, List.nil_append, mW_o]
        repeat' apply And.intro
        all_goals try (first | with_reducible assumption | (with_reducible refine ck_nzI ?_; simp; done) | (with_reducible refine ck_nzL ?_; simp; done) | omega)
        · intro c33
          refine hB bX11_lastDate_42 _ _ _ _ _ _ _ kX11_lastDate_42 ?_
          dsimp only [bX11_lastDate_42, kx_wp, kx_step, kx_lI, kx_lL, kx_lA, kx_gl, kx_pI, kx_pL, kx_pR, kx_pA, kx_pV, kx_s1, kx_s2, kx_sl, kx_pre, kx_c2, kx_pl, kx_cmp, kx_oF, kx_eqN, kx_nil, kx_c1, kx_ft, kx_aI, kx_aL, kx_aR, kx_ln, Nat.reduceAdd, Option.toList, List.cons_append, List.nil_append, mW_o]
          repeat' apply And.intro
          all_goals try (first | with_reducible assumption | (with_reducible refine ck_nzI ?_; simp; done) | (with_reducible refine ck_nzL ?_; simp; done) | omega)
          refine hB bX11_lastDate_49 _ _ _ _ _ _ _ kX11_lastDate_49 ?_
          dsimp only [bX11_lastDate_49, kx_wp, kx_step, kx_lI, kx_lL, kx_lA, kx_gl, kx_pI, kx_pL, kx_pR, kx_pA, kx_pV, kx_s1, kx_s2, kx_sl, kx_pre, kx_c2, kx_pl, kx_cmp, kx_oF, kx_eqN, kx_nil, kx_c1, kx_ft, kx_aI, kx_aL, kx_aR, kx_ln, Nat.reduceAdd, Option.toList, List.cons_append, List.nil_append, mW_o]
          all_goals (repeat' apply And.intro)
          all_goals ((try clear hB hC); first | exact True.intro | (simp [ck_last, *]; done) | (simp only [ck_last]; split <;> first | rfl | (split <;> first | rfl | (simp_all; done)) | (simp_all; done)))
        · intro c33
          refine hB bX11_lastDate_36 _ _ _ _ _ _ _ kX11_lastDate_36 ?_
          dsimp only [bX11_lastDate_36, kx_wp, kx_step, kx_lI, kx_lL, kx_lA, kx_gl, kx_pI, kx_pL, kx_pR, kx_pA, kx_pV, kx_s1, kx_s2, kx_sl, kx_pre, kx_c2, kx_pl, kx_cmp, kx_oF, kx_eqN, kx_nil, kx_c1, kx_ft, kx_aI, kx_aL, kx_aR, kx_ln, Nat.reduceAdd, Option.toList, List.cons_append, List.nil_append, mW_o]
          repeat' apply And.intro
          all_goals try (first | with_reducible assumption | (with_reducible refine ck_nzI ?_; simp; done) | (with_reducible refine ck_nzL ?_; simp; done) | omega)
          · intro c39
            refine hB bX11_lastDate_47 _ _ _ _ _ _ _ kX11_lastDate_47 ?_
            dsimp only [bX11_lastDate_47, kx_wp, kx_step, kx_lI, kx_lL, kx_lA, kx_gl, kx_pI, kx_pL, kx_pR, kx_pA, kx_pV, kx_s1, kx_s2, kx_sl, kx_pre, kx_c2, kx_pl, kx_cmp, kx_oF, kx_eqN, kx_nil, kx_c1, kx_ft, kx_aI, kx_aL, kx_aR, kx_ln, Nat.reduceAdd, Option.toList, List.cons_append, List.nil_append, mW_o]
            repeat' apply And.intro
            all_goals try (first | with_reducible assumption | (with_reducible refine ck_nzI ?_; simp; done) | (with_reducible refine ck_nzL ?_; simp; done) | omega)
            refine hB bX11_lastDate_49 _ _ _ _ _ _ _ kX11_lastDate_49 ?_
            dsimp only [bX11_lastDate_49, kx_wp, kx_step, kx_lI, kx_lL, kx_lA, kx_gl, kx_pI, kx_pL, kx_pR, kx_pA, kx_pV, kx_s1, kx_s2, kx_sl, kx_pre, kx_c2, kx_pl, kx_cmp, kx_oF, kx_eqN, kx_nil, kx_c1, kx_ft, kx_aI, kx_aL, kx_aR, kx_ln, Nat.reduceAdd, Option.toList, List.cons_append, List.nil_append, mW_o]
            all_goals (repeat' apply And.intro)
            all_goals ((try clear hB hC); first | exact True.intro | (simp [ck_last, *]; done) | (simp only [ck_last]; split <;> first | rfl | (split <;> first | rfl | (simp_all; done)) | (simp_all; done)))
          · intro c39
            refine hB bX11_lastDate_42 _ _ _ _ _ _ _ kX11_lastDate_42 ?_
            dsimp only [bX11_lastDate_42, kx_wp, kx_step, kx_lI, kx_lL, kx_lA, kx_gl, kx_pI, kx_pL, kx_pR, kx_pA, kx_pV, kx_s1, kx_s2, kx_sl, kx_pre, kx_c2, kx_pl, kx_cmp, kx_oF, kx_eqN, kx_nil, kx_c1, kx_ft, kx_aI, kx_aL, kx_aR, kx_ln, Nat.reduceAdd, Option.toList, List.cons_append, List.nil_append, mW_o]
            repeat' apply And.intro
            all_goals try (first | with_reducible assumption | (with_reducible refine ck_nzI ?_; simp; done) | (with_reducible refine ck_nzL ?_; simp; done) | omega)
            refine hB bX11_lastDate_49 _ _ _ _ _ _ _ kX11_lastDate_49 ?_
            dsimp only [bX11_lastDate_49, kx_wp, kx_step, kx_lI, kx_lL, kx_lA, kx_gl, kx_pI, kx_pL, kx_pR, kx_pA, kx_pV, kx_s1, kx_s2, kx_sl, kx_pre, kx_c2, kx_pl, kx_cmp, kx_oF, kx_eqN, kx_nil, kx_c1, kx_ft, kx_aI, kx_aL, kx_aR, kx_ln, Nat.reduceAdd, Option.toList, List.cons_append, List.nil_append, mW_o]
            all_goals (repeat' apply And.intro)
            all_goals ((try clear hB hC); first | exact True.intro | (simp [ck_last, *]; done) | (simp only [ck_last]; split <;> first | rfl | (split <;> first | rfl | (simp_all; done)) | (simp_all; done)))
  · intro c2
    refine hB bX11_lastDate_5 _ _ _ _ _ _ _ kX11_lastDate_5 ?_
    dsimp only [bX11_lastDate_5, kx_wp, kx_step, kx_lI, kx_lL, kx_lA, kx_gl, kx_pI, kx_pL, kx_pR, kx_pA, kx_pV, kx_s1, kx_s2, kx_sl, kx_pre, kx_c2, kx_pl, kx_cmp, kx_oF, kx_eqN, kx_nil, kx_c1, kx_ft, kx_aI, kx_aL, kx_aR, kx_ln, Nat.reduceAdd, Option.toList, List.cons_append, List.nil_append, mW_o]
    repeat' apply And.intro
    all_goals try (first | with_reducible assumption | (with_reducible refine ck_nzI ?_; simp; done) | (with_reducible refine ck_nzL ?_; simp; done) | omega)
    · intro c6
      refine hB bX11_lastDate_14 _ _ _ _ _ _ _ kX11_lastDate_14 ?_
      dsimp only [bX11_lastDate_14, kx_wp, kx_step, kx_lI, kx_lL, kx_lA, kx_gl, kx_pI, kx_pL, kx_pR, kx_pA, kx_pV, kx_s1, kx_s2, kx_sl, kx_pre, kx_c2, kx_pl, kx_cmp, kx_oF, kx_eqN, kx_nil, kx_c1, kx_ft, kx_aI, kx_aL, kx_aR, kx_ln, Nat.reduceAdd, Option.toList, List.cons_append, List.nil_append, mW_o]
      repeat' apply And.intro
      all_goals try (first | with_reducible assumption | (with_reducible refine ck_nzI ?_; simp; done) | (with_reducible refine ck_nzL ?_; simp; done) | omega)
      refine hB bX11_lastDate_49 _ _ _ _ _ _ _ kX11_lastDate_49 ?_
      dsimp only [bX11_lastDate_49, kx_wp, kx_step, kx_lI, kx_lL, kx_lA, kx_gl, kx_pI, kx_pL, kx_pR, kx_pA, kx_pV, kx_s1, kx_s2, kx_sl, kx_pre, kx_c2, kx_pl, kx_cmp, kx_oF, kx_eqN, kx_nil, kx_c1, kx_ft, kx_aI, kx_aL, kx_aR, kx_ln, Nat.reduceAdd, Option.toList, List.cons_append, List.nil_append, mW_o]
      all_goals (repeat' apply And.intro)
      all_goals ((try clear hB hC); first | exact True.intro | (simp [ck_last, *]; done) | (simp only [ck_last]; split <;> first | rfl | (split <;> first | rfl | (simp_all; done)) | (simp_all; done)))
    · intro c6
      refine hB bX11_lastDate_9 _ _ _ _ _ _ _ kX11_lastDate_9 ?_
      dsimp only [bX11_lastDate_9, kx_wp, kx_step, kx_lI, kx_lL, kx_lA, kx_gl, kx_pI, kx_pL, kx_pR, kx_pA, kx_pV, kx_s1, kx_s2, kx_sl, kx_pre, kx_c2, kx_pl, kx_cmp, kx_oF, kx_eqN, kx_nil, kx_c1, kx_ft, kx_aI, kx_aL, kx_aR, kx_ln, Nat.reduceAdd, Option.toList, List.cons_append, List.nil_append, mW_o]
      repeat' apply And.intro
      all_goals try (first | with_reducible assumption | (with_reducible refine ck_nzI ?_; simp; done) | (with_reducible refine ck_nzL ?_; simp; done) | omega)
      refine hB bX11_lastDate_49 _ _ _ _ _ _ _ kX11_lastDate_49 ?_
      dsimp only [bX11_lastDate_49, kx_wp, kx_step, kx_lI, kx_lL, kx_lA, kx_gl, kx_pI, kx_pL, kx_pR, kx_pA, kx_pV, kx_s1, kx_s2, kx_sl, kx_pre, kx_c2, kx_pl, kx_cmp, kx_oF, kx_eqN, kx_nil, kx_c1, kx_ft, kx_aI, kx_aL, kx_aR, kx_ln, Nat.reduceAdd, Option.toList, List.cons_append, List.nil_append, mW_o]
      all_goals (repeat' apply And.intro)
      all_goals ((try clear hB hC); first | exact True.intro | (simp [ck_last, *]; done) | (simp only [ck_last]; split <;> first | rfl | (split <;> first | rfl | (simp_all; done)) | (simp_all; done)))

def bX11_wrong_0 : List kx_O := [(.aload_n 0, 0, 0, 0, .null), (.getfield 192, 11, 8, 0, .null), (.iconst (-1), 0, 0, 0, .int (-1)), (.if_icmp .eq 4, 9, 0, 0, .null)]
theorem kX11_wrong_0 : kx_oks kxL_X11 false cX11_wrong 0 bX11_wrong_0 = true := by decide +kernel
def bX11_wrong_8 : List kx_O := [(.return_, 0, 0, 0, .null)]
theorem kX11_wrong_8 : kx_oks kxL_X11 false cX11_wrong 8 bX11_wrong_8 = true := by decide +kernel
def bX11_wrong_9 : List kx_O := [(.aload_n 0, 0, 0, 0, .null), (.iload_n 2, 2, 0, 0, .null), (.putfield 192, 11, 8, 0, .null), (.aload_n 0, 0, 0, 0, .null), (.iload_n 1, 1, 0, 0, .null), (.putfield 195, 11, 9, 0, .null), (.return_, 0, 0, 0, .null)]
theorem kX11_wrong_9 : kx_oks kxL_X11 false cX11_wrong 9 bX11_wrong_9 = true := by decide +kernel
set_option maxRecDepth 100000 in
set_option maxHeartbeats 4000000 in
theorem ct_X11_wrong (l : Launch) (G : kx_G) {M : Nat → Int32} {A : Nat → Nat → Int32} {L : Nat → Nat → Int64} {R : kx_P} {sz : Nat} {kd pl : Int32} : kx_M l G sX11_wrong 1 0 0 [.ref 93, .int (kd), .int (pl)] (mW M A L R) sz none (mW (ck_wrong M kd pl) A L R) sz := by
  refine kx_mk kx_tab kxLok_X11 (ini := false) [some (.ref 93), some (.int (kd)), some (.int (pl))] ⟨by decide, rfl, by decide, by decide⟩ (rfl) rfl rfl (fun g hB hC => ?_)
  refine hB bX11_wrong_0 _ _ _ _ _ _ _ kX11_wrong_0 ?_
  dsimp only [bX11_wrong_0, kx_wp, kx_step, kx_lI, kx_lL, kx_lA, kx_gl, kx_pI, kx_pL, kx_pR, kx_pA, kx_pV, kx_s1, kx_s2, kx_sl, kx_pre, kx_c2, kx_pl, kx_cmp, kx_oF, kx_eqN, kx_nil, kx_c1, kx_ft, kx_aI, kx_aL, kx_aR, kx_ln, Nat.reduceAdd, Option.toList, List.cons_append, List.nil_append, mW_o, mf_8, mf_9]
  repeat (simp only [mu_8, mW_so, mu_9]; try dsimp only [kx_wp, kx_step, kx_lI, kx_lL, kx_lA, kx_gl, kx_pI, kx_pL, kx_pR, kx_pA, kx_pV, kx_s1, kx_s2, kx_sl, kx_pre, kx_c2, kx_pl, kx_cmp, kx_oF, kx_eqN, kx_nil, kx_c1, kx_ft, kx_aI, kx_aL, kx_aR, kx_ln, Nat.reduceAdd, Option.toList, List.cons_append, List.nil_append, mW_o, mf_8, mf_9])
  repeat' apply And.intro
  all_goals try (first | with_reducible assumption | (with_reducible refine ck_nzI ?_; simp; done) | (with_reducible refine ck_nzL ?_; simp; done) | omega)
  · intro c5
    refine hB bX11_wrong_9 _ _ _ _ _ _ _ kX11_wrong_9 ?_
    dsimp only [bX11_wrong_9, kx_wp, kx_step, kx_lI, kx_lL, kx_lA, kx_gl, kx_pI, kx_pL, kx_pR, kx_pA, kx_pV, kx_s1, kx_s2, kx_sl, kx_pre, kx_c2, kx_pl, kx_cmp, kx_oF, kx_eqN, kx_nil, kx_c1, kx_ft, kx_aI, kx_aL, kx_aR, kx_ln, Nat.reduceAdd, Option.toList, List.cons_append, List.nil_append, mW_o, mf_8, mf_9]
    repeat (simp only [mu_8, mW_so, mu_9]; try dsimp only [kx_wp, kx_step, kx_lI, kx_lL, kx_lA, kx_gl, kx_pI, kx_pL, kx_pR, kx_pA, kx_pV, kx_s1, kx_s2, kx_sl, kx_pre, kx_c2, kx_pl, kx_cmp, kx_oF, kx_eqN, kx_nil, kx_c1, kx_ft, kx_aI, kx_aL, kx_aR, kx_ln, Nat.reduceAdd, Option.toList, List.cons_append, List.nil_append, mW_o, mf_8, mf_9])
    all_goals (repeat' apply And.intro)
    all_goals ((try clear hB hC); first | exact True.intro | (simp [ck_wrong, *]; done) | (simp only [ck_wrong]; split <;> simp_all))
  · intro c5
    refine hB bX11_wrong_8 _ _ _ _ _ _ _ kX11_wrong_8 ?_
    dsimp only [bX11_wrong_8, kx_wp, kx_step, kx_lI, kx_lL, kx_lA, kx_gl, kx_pI, kx_pL, kx_pR, kx_pA, kx_pV, kx_s1, kx_s2, kx_sl, kx_pre, kx_c2, kx_pl, kx_cmp, kx_oF, kx_eqN, kx_nil, kx_c1, kx_ft, kx_aI, kx_aL, kx_aR, kx_ln, Nat.reduceAdd, Option.toList, List.cons_append, List.nil_append, mW_o, mf_8, mf_9]
    repeat (simp only [mu_8, mW_so, mu_9]; try dsimp only [kx_wp, kx_step, kx_lI, kx_lL, kx_lA, kx_gl, kx_pI, kx_pL, kx_pR, kx_pA, kx_pV, kx_s1, kx_s2, kx_sl, kx_pre, kx_c2, kx_pl, kx_cmp, kx_oF, kx_eqN, kx_nil, kx_c1, kx_ft, kx_aI, kx_aL, kx_aR, kx_ln, Nat.reduceAdd, Option.toList, List.cons_append, List.nil_append, mW_o, mf_8, mf_9])
    all_goals (repeat' apply And.intro)
    all_goals ((try clear hB hC); first | exact True.intro | (simp [ck_wrong, *]; done) | (simp only [ck_wrong]; split <;> simp_all))

def bX11_its_0 : List kx_O := [(.aload_n 0, 0, 0, 0, .null), (.getfield 41, 11, 25, 0, .null), (.bipush 16, 0, 0, 0, .int 16), (.iload_n 1, 1, 0, 0, .null), (.imul, 0, 0, 0, .null), (.iload_n 2, 2, 0, 0, .null), (.iadd, 0, 0, 0, .null), (.iaload, 0, 0, 0, .null), (.ireturn, 0, 0, 0, .null)]
theorem kX11_its_0 : kx_oks kxL_X11 false cX11_its 0 bX11_its_0 = true := by decide +kernel
set_option maxRecDepth 100000 in
set_option maxHeartbeats 4000000 in
theorem ct_X11_its (l : Launch) (G : kx_G) {M : Nat → Int32} {A : Nat → Nat → Int32} {L : Nat → Nat → Int64} {R : kx_P} {sz : Nat} {c w : Nat} (hc : c < 8) (hw : w < 16) : kx_M l G sX11_its 1 0 0 [.ref 93, .int (nI c), .int (nI w)] (mW M A L R) sz (some (.int (A 102 (16 * c + w)))) (mW M A L R) sz := by
  refine kx_mk kx_tab kxLok_X11 (ini := false) [some (.ref 93), some (.int (nI c)), some (.int (nI w))] ⟨by decide, rfl, by decide, by decide⟩ (⟨_, rfl⟩) rfl rfl (fun g hB hC => ?_)
  refine hB bX11_its_0 _ _ _ _ _ _ _ kX11_its_0 ?_
  dsimp only [bX11_its_0, kx_wp, kx_step, kx_lI, kx_lL, kx_lA, kx_gl, kx_pI, kx_pL, kx_pR, kx_pA, kx_pV, kx_s1, kx_s2, kx_sl, kx_pre, kx_c2, kx_pl, kx_cmp, kx_oF, kx_eqN, kx_nil, kx_c1, kx_ft, kx_aI, kx_aL, kx_aR, kx_ln, Nat.reduceAdd, Option.toList, List.cons_append, List.nil_append, mW_o, mf_25, m_102]
  repeat (simp only [ms_102, ck_its, nI_clamp (show 16 * c + w < 2 ^ 31 by omega)]; try dsimp only [kx_wp, kx_step, kx_lI, kx_lL, kx_lA, kx_gl, kx_pI, kx_pL, kx_pR, kx_pA, kx_pV, kx_s1, kx_s2, kx_sl, kx_pre, kx_c2, kx_pl, kx_cmp, kx_oF, kx_eqN, kx_nil, kx_c1, kx_ft, kx_aI, kx_aL, kx_aR, kx_ln, Nat.reduceAdd, Option.toList, List.cons_append, List.nil_append, mW_o, mf_25, m_102])
  all_goals (repeat' apply And.intro)
  all_goals ((try clear hB hC); first | exact True.intro | with_reducible assumption | with_reducible rfl | (with_reducible refine vp_in_nI ?_ ?_ <;> first | omega | decide) | (with_reducible refine Nat.le_of_ble_eq_true ?_; rfl) | (with_reducible refine ck_nzI ?_; simp; done) | (with_reducible refine ck_nzL ?_; simp; done) | (simp [upd, va_up, *]; done) | ((try clear hB hC); simp only [ck_lt, ck_le, ck_eq, not_true_eq_false, not_false_eq_true, Int32.reduceToInt, Int32.reduceAdd, Int32.reduceSub, Int32.reduceMul] at * <;> omega) | (split <;> first | with_reducible rfl | (exfalso; ((try clear hB hC); simp only [ck_lt, ck_le, ck_eq, not_true_eq_false, not_false_eq_true, Int32.reduceToInt, Int32.reduceAdd, Int32.reduceSub, Int32.reduceMul] at * <;> omega)) | (simp_all; done)) | (simp_all; done))

def bX11_emit_0 : List kx_O := [(.aload_n 0, 0, 0, 0, .null), (.getfield 26, 11, 18, 0, .null), (.aload_n 0, 0, 0, 0, .null), (.getfield 228, 11, 12, 0, .null), (.iload_n 1, 1, 0, 0, .null), (.iastore, 0, 0, 0, .null), (.aload_n 0, 0, 0, 0, .null), (.getfield 29, 11, 19, 0, .null), (.aload_n 0, 0, 0, 0, .null), (.getfield 228, 11, 12, 0, .null), (.iload_n 2, 2, 0, 0, .null), (.iastore, 0, 0, 0, .null), (.aload_n 0, 0, 0, 0, .null), (.dup, 0, 0, 0, .null), (.getfield 228, 11, 12, 0, .null), (.iconst 1, 0, 0, 0, .int 1), (.iadd, 0, 0, 0, .null), (.putfield 228, 11, 12, 0, .null), (.return_, 0, 0, 0, .null)]
theorem kX11_emit_0 : kx_oks kxL_X11 false cX11_emit 0 bX11_emit_0 = true := by decide +kernel
set_option maxRecDepth 100000 in
set_option maxHeartbeats 4000000 in
theorem ct_X11_emit (l : Launch) (G : kx_G) {M : Nat → Int32} {A : Nat → Nat → Int32} {L : Nat → Nat → Int64} {R : kx_P} {sz : Nat} {wh nn : Int32} {k : Nat} (h12 : M 12 = nI k) (hk : k < 400) : kx_M l G sX11_emit 1 0 0 [.ref 93, .int (wh), .int (nn)] (mW M A L R) sz none (mW (upd M 12 (nI (k + 1))) (va_up (va_up A 97 (upd (A 97) k wh)) 98 (upd (A 98) k nn)) L R) sz := by
  refine kx_mk kx_tab kxLok_X11 (ini := false) [some (.ref 93), some (.int (wh)), some (.int (nn))] ⟨by decide, rfl, by decide, by decide⟩ (rfl) rfl rfl (fun g hB hC => ?_)
  refine hB bX11_emit_0 _ _ _ _ _ _ _ kX11_emit_0 ?_
  dsimp only [bX11_emit_0, kx_wp, kx_step, kx_lI, kx_lL, kx_lA, kx_gl, kx_pI, kx_pL, kx_pR, kx_pA, kx_pV, kx_s1, kx_s2, kx_sl, kx_pre, kx_c2, kx_pl, kx_cmp, kx_oF, kx_eqN, kx_nil, kx_c1, kx_ft, kx_aI, kx_aL, kx_aR, kx_ln, Nat.reduceAdd, Option.toList, List.cons_append, List.nil_append, mW_o, mf_18, m_97, mf_12, mf_19, m_98]
  repeat (simp only [ms_97, ms_98, mu_12, mW_so, h12, nI_clamp (show k < 2 ^ 31 by omega), nI_1, va_up]; try dsimp only [kx_wp, kx_step, kx_lI, kx_lL, kx_lA, kx_gl, kx_pI, kx_pL, kx_pR, kx_pA, kx_pV, kx_s1, kx_s2, kx_sl, kx_pre, kx_c2, kx_pl, kx_cmp, kx_oF, kx_eqN, kx_nil, kx_c1, kx_ft, kx_aI, kx_aL, kx_aR, kx_ln, Nat.reduceAdd, Option.toList, List.cons_append, List.nil_append, mW_o, mf_18, m_97, mf_12, mf_19, m_98])
  all_goals (repeat' apply And.intro)
  all_goals ((try clear hB hC); first | exact True.intro | with_reducible assumption | with_reducible rfl | (with_reducible refine vp_in_nI ?_ ?_ <;> first | omega | decide) | (with_reducible refine Nat.le_of_ble_eq_true ?_; rfl) | (with_reducible refine ck_nzI ?_; simp; done) | (with_reducible refine ck_nzL ?_; simp; done) | (simp [upd, va_up, *]; done) | ((try clear hB hC); simp only [ck_lt, ck_le, ck_eq, not_true_eq_false, not_false_eq_true, Int32.reduceToInt, Int32.reduceAdd, Int32.reduceSub, Int32.reduceMul] at * <;> omega) | (split <;> first | with_reducible rfl | (exfalso; ((try clear hB hC); simp only [ck_lt, ck_le, ck_eq, not_true_eq_false, not_false_eq_true, Int32.reduceToInt, Int32.reduceAdd, Int32.reduceSub, Int32.reduceMul] at * <;> omega)) | (simp_all; done)) | (simp_all; done))

def bX11_down_0 : List kx_O := [(.lload_n 0, 0, 0, 0, .null), (.lload_n 2, 2, 0, 0, .null), (.ldiv, 0, 0, 0, .null), (.lstore 4, 4, 0, 0, .null), (.lload 4, 4, 0, 0, .null), (.lload_n 2, 2, 0, 0, .null), (.lmul, 0, 0, 0, .null), (.lload_n 0, 0, 0, 0, .null), (.lcmp, 0, 0, 0, .null), (.ifCond .le 10, 21, 0, 0, .null)]
theorem kX11_down_0 : kx_oks kxL_X11 false cX11_down 0 bX11_down_0 = true := by decide +kernel
def bX11_down_14 : List kx_O := [(.lload 4, 4, 0, 0, .null), (.lconst 1, 0, 0, 0, .long 1), (.lsub, 0, 0, 0, .null), (.goto 5, 23, 0, 0, .null)]
theorem kX11_down_14 : kx_oks kxL_X11 false cX11_down 14 bX11_down_14 = true := by decide +kernel
def bX11_down_21 : List kx_O := [(.lload 4, 4, 0, 0, .null)]
theorem kX11_down_21 : kx_oks kxL_X11 false cX11_down 21 bX11_down_21 = true := by decide +kernel
def bX11_down_23 : List kx_O := [(.lreturn, 0, 0, 0, .null)]
theorem kX11_down_23 : kx_oks kxL_X11 false cX11_down 23 bX11_down_23 = true := by decide +kernel
set_option maxRecDepth 100000 in
set_option maxHeartbeats 4000000 in
theorem ct_X11_down (l : Launch) (G : kx_G) {M : Nat → Int32} {A : Nat → Nat → Int32} {L : Nat → Nat → Int64} {R : kx_P} {sz : Nat} {a b : Int64} (hb : ¬ b = 0) : kx_M l G sX11_down 1 0 0 [.long a, .long b] (mW M A L R) sz (some (.long (if a < a / b * b then a / b - 1 else a / b))) (mW M A L R) sz := by
  refine kx_mk kx_tab kxLok_X11 (ini := false) [some (.long a), none, some (.long b), none, none, none] ⟨by decide, rfl, by decide, by decide⟩ (⟨_, rfl⟩) (by simp [kx_in, Value.category]) rfl (fun g hB hC => ?_)
  refine hB bX11_down_0 _ _ _ _ _ _ _ kX11_down_0 ?_
  dsimp only [bX11_down_0, kx_wp, kx_step, kx_lI, kx_lL, kx_lA, kx_gl, kx_pI, kx_pL, kx_pR, kx_pA, kx_pV, kx_s1, kx_s2, kx_sl, kx_pre, kx_c2, kx_pl, kx_cmp, kx_oF, kx_eqN, kx_nil, kx_c1, kx_ft, kx_aI, kx_aL, kx_aR, kx_ln, Nat.reduceAdd, Option.toList, List.cons_append, List.nil_append, mW_o]
  repeat (simp only [lg_cmp_ge, lg_cmp_le, lg_cmp_gt, lg_cmp_lt, lg_cmp_eq]; try dsimp only [kx_wp, kx_step, kx_lI, kx_lL, kx_lA, kx_gl, kx_pI, kx_pL, kx_pR, kx_pA, kx_pV, kx_s1, kx_s2, kx_sl, kx_pre, kx_c2, kx_pl, kx_cmp, kx_oF, kx_eqN, kx_nil, kx_c1, kx_ft, kx_aI, kx_aL, kx_aR, kx_ln, Nat.reduceAdd, Option.toList, List.cons_append, List.nil_append, mW_o])
  repeat' apply And.intro
  all_goals try (first | assumption | with_reducible rfl)
  · intro c11
    refine hB bX11_down_21 _ _ _ _ _ _ _ kX11_down_21 ?_
    dsimp only [bX11_down_21, kx_wp, kx_step, kx_lI, kx_lL, kx_lA, kx_gl, kx_pI, kx_pL, kx_pR, kx_pA, kx_pV, kx_s1, kx_s2, kx_sl, kx_pre, kx_c2, kx_pl, kx_cmp, kx_oF, kx_eqN, kx_nil, kx_c1, kx_ft, kx_aI, kx_aL, kx_aR, kx_ln, Nat.reduceAdd, Option.toList, List.cons_append, List.nil_append, mW_o]
    repeat (simp only [lg_cmp_ge, lg_cmp_le, lg_cmp_gt, lg_cmp_lt, lg_cmp_eq]; try dsimp only [kx_wp, kx_step, kx_lI, kx_lL, kx_lA, kx_gl, kx_pI, kx_pL, kx_pR, kx_pA, kx_pV, kx_s1, kx_s2, kx_sl, kx_pre, kx_c2, kx_pl, kx_cmp, kx_oF, kx_eqN, kx_nil, kx_c1, kx_ft, kx_aI, kx_aL, kx_aR, kx_ln, Nat.reduceAdd, Option.toList, List.cons_append, List.nil_append, mW_o])
    repeat' apply And.intro
    all_goals try (first | assumption | with_reducible rfl)
    refine hB bX11_down_23 _ _ _ _ _ _ _ kX11_down_23 ?_
    dsimp only [bX11_down_23, kx_wp, kx_step, kx_lI, kx_lL, kx_lA, kx_gl, kx_pI, kx_pL, kx_pR, kx_pA, kx_pV, kx_s1, kx_s2, kx_sl, kx_pre, kx_c2, kx_pl, kx_cmp, kx_oF, kx_eqN, kx_nil, kx_c1, kx_ft, kx_aI, kx_aL, kx_aR, kx_ln, Nat.reduceAdd, Option.toList, List.cons_append, List.nil_append, mW_o]
    repeat (simp only [lg_cmp_ge, lg_cmp_le, lg_cmp_gt, lg_cmp_lt, lg_cmp_eq]; try dsimp only [kx_wp, kx_step, kx_lI, kx_lL, kx_lA, kx_gl, kx_pI, kx_pL, kx_pR, kx_pA, kx_pV, kx_s1, kx_s2, kx_sl, kx_pre, kx_c2, kx_pl, kx_cmp, kx_oF, kx_eqN, kx_nil, kx_c1, kx_ft, kx_aI, kx_aL, kx_aR, kx_ln, Nat.reduceAdd, Option.toList, List.cons_append, List.nil_append, mW_o])
    all_goals (repeat' apply And.intro)
    all_goals ((try clear hB hC); first | exact True.intro | assumption | with_reducible rfl | (rw [if_pos (Int64.not_le.mp ‹_›)]) | (rw [if_neg (Int64.not_lt.mpr ‹_›)]))
  · intro c11
    refine hB bX11_down_14 _ _ _ _ _ _ _ kX11_down_14 ?_
    dsimp only [bX11_down_14, kx_wp, kx_step, kx_lI, kx_lL, kx_lA, kx_gl, kx_pI, kx_pL, kx_pR, kx_pA, kx_pV, kx_s1, kx_s2, kx_sl, kx_pre, kx_c2, kx_pl, kx_cmp, kx_oF, kx_eqN, kx_nil, kx_c1, kx_ft, kx_aI, kx_aL, kx_aR, kx_ln, Nat.reduceAdd, Option.toList, List.cons_append, List.nil_append, mW_o]
    repeat (simp only [lg_cmp_ge, lg_cmp_le, lg_cmp_gt, lg_cmp_lt, lg_cmp_eq]; try dsimp only [kx_wp, kx_step, kx_lI, kx_lL, kx_lA, kx_gl, kx_pI, kx_pL, kx_pR, kx_pA, kx_pV, kx_s1, kx_s2, kx_sl, kx_pre, kx_c2, kx_pl, kx_cmp, kx_oF, kx_eqN, kx_nil, kx_c1, kx_ft, kx_aI, kx_aL, kx_aR, kx_ln, Nat.reduceAdd, Option.toList, List.cons_append, List.nil_append, mW_o])
    repeat' apply And.intro
    all_goals try (first | assumption | with_reducible rfl)
    refine hB bX11_down_23 _ _ _ _ _ _ _ kX11_down_23 ?_
    dsimp only [bX11_down_23, kx_wp, kx_step, kx_lI, kx_lL, kx_lA, kx_gl, kx_pI, kx_pL, kx_pR, kx_pA, kx_pV, kx_s1, kx_s2, kx_sl, kx_pre, kx_c2, kx_pl, kx_cmp, kx_oF, kx_eqN, kx_nil, kx_c1, kx_ft, kx_aI, kx_aL, kx_aR, kx_ln, Nat.reduceAdd, Option.toList, List.cons_append, List.nil_append, mW_o]
    repeat (simp only [lg_cmp_ge, lg_cmp_le, lg_cmp_gt, lg_cmp_lt, lg_cmp_eq]; try dsimp only [kx_wp, kx_step, kx_lI, kx_lL, kx_lA, kx_gl, kx_pI, kx_pL, kx_pR, kx_pA, kx_pV, kx_s1, kx_s2, kx_sl, kx_pre, kx_c2, kx_pl, kx_cmp, kx_oF, kx_eqN, kx_nil, kx_c1, kx_ft, kx_aI, kx_aL, kx_aR, kx_ln, Nat.reduceAdd, Option.toList, List.cons_append, List.nil_append, mW_o])
    all_goals (repeat' apply And.intro)
    all_goals ((try clear hB hC); first | exact True.intro | assumption | with_reducible rfl | (rw [if_pos (Int64.not_le.mp ‹_›)]) | (rw [if_neg (Int64.not_lt.mpr ‹_›)]))

def bX11_leap_0 : List kx_O := [(.aload_n 0, 0, 0, 0, .null), (.iconst 0, 0, 0, 0, .int 0), (.putfield 1, 11, 0, 0, .null), (.aload_n 0, 0, 0, 0, .null), (.getfield 178, 11, 3, 0, .null), (.istore_n 2, 2, 0, 0, .null), (.aload_n 0, 0, 0, 0, .null), (.iload_n 1, 1, 0, 0, .null), (.putfield 178, 11, 3, 2, .null), (.iload_n 2, 2, 0, 0, .null), (.ireturn, 0, 0, 0, .null)]
theorem kX11_leap_0 : kx_oks kxL_X11 false cX11_leap 0 bX11_leap_0 = true := by decide +kernel
set_option maxRecDepth 100000 in
set_option maxHeartbeats 4000000 in
theorem ct_X11_leap (l : Launch) (G : kx_G) {M : Nat → Int32} {A : Nat → Nat → Int32} {L : Nat → Nat → Int64} {R : kx_P} {sz : Nat} {b : Int32} (hb : b = 0 ∨ b = 1) (h3 : M 3 = 0 ∨ M 3 = 1) : kx_M l G sX11_leap 1 0 0 [.ref 93, .int (b)] (mW M A L R) sz (some (.int (M 3))) (mW (upd (upd M 0 0) 3 b) A L R) sz := by
  refine kx_mk kx_tab kxLok_X11 (ini := false) [some (.ref 93), some (.int (b)), none] ⟨by decide, rfl, by decide, by decide⟩ (h3.elim (fun z => Or.inl (by rw [z])) (fun z => Or.inr (by rw [z]))) rfl rfl (fun g hB hC => ?_)
  refine hB bX11_leap_0 _ _ _ _ _ _ _ kX11_leap_0 ?_
  dsimp only [bX11_leap_0, kx_wp, kx_step, kx_lI, kx_lL, kx_lA, kx_gl, kx_pI, kx_pL, kx_pR, kx_pA, kx_pV, kx_s1, kx_s2, kx_sl, kx_pre, kx_c2, kx_pl, kx_cmp, kx_oF, kx_eqN, kx_nil, kx_c1, kx_ft, kx_aI, kx_aL, kx_aR, kx_ln, Nat.reduceAdd, Option.toList, List.cons_append, List.nil_append, mW_o, mf_0, mf_3]
  repeat (simp only [mu_0, mW_so, mu_3]; try dsimp only [kx_wp, kx_step, kx_lI, kx_lL, kx_lA, kx_gl, kx_pI, kx_pL, kx_pR, kx_pA, kx_pV, kx_s1, kx_s2, kx_sl, kx_pre, kx_c2, kx_pl, kx_cmp, kx_oF, kx_eqN, kx_nil, kx_c1, kx_ft, kx_aI, kx_aL, kx_aR, kx_ln, Nat.reduceAdd, Option.toList, List.cons_append, List.nil_append, mW_o, mf_0, mf_3])
  all_goals (repeat' apply And.intro)
  all_goals ((try clear hB hC); first | exact True.intro | with_reducible assumption | with_reducible rfl | (with_reducible refine vp_in_nI ?_ ?_ <;> first | omega | decide) | (with_reducible refine Nat.le_of_ble_eq_true ?_; rfl) | (with_reducible refine ck_nzI ?_; simp; done) | (with_reducible refine ck_nzL ?_; simp; done) | (simp [upd, va_up, *]; done) | ((try clear hB hC); simp only [ck_lt, ck_le, ck_eq, not_true_eq_false, not_false_eq_true, Int32.reduceToInt, Int32.reduceAdd, Int32.reduceSub, Int32.reduceMul] at * <;> omega) | (split <;> first | with_reducible rfl | (exfalso; ((try clear hB hC); simp only [ck_lt, ck_le, ck_eq, not_true_eq_false, not_false_eq_true, Int32.reduceToInt, Int32.reduceAdd, Int32.reduceSub, Int32.reduceMul] at * <;> omega)) | (simp_all; done)) | (simp_all; done))

def bX11_fault_0 : List kx_O := [(.aload_n 0, 0, 0, 0, .null), (.iconst 0, 0, 0, 0, .int 0), (.putfield 1, 11, 0, 0, .null), (.aload_n 0, 0, 0, 0, .null), (.getfield 17, 11, 14, 0, .null), (.ireturn, 0, 0, 0, .null)]
theorem kX11_fault_0 : kx_oks kxL_X11 false cX11_fault 0 bX11_fault_0 = true := by decide +kernel
set_option maxRecDepth 100000 in
set_option maxHeartbeats 4000000 in
theorem ct_X11_fault (l : Launch) (G : kx_G) {M : Nat → Int32} {A : Nat → Nat → Int32} {L : Nat → Nat → Int64} {R : kx_P} {sz : Nat}  : kx_M l G sX11_fault 1 0 0 [.ref 93] (mW M A L R) sz (some (.int (M 14))) (mW (upd M 0 0) A L R) sz := by
  refine kx_mk kx_tab kxLok_X11 (ini := false) [some (.ref 93)] ⟨by decide, rfl, by decide, by decide⟩ (⟨_, rfl⟩) rfl rfl (fun g hB hC => ?_)
  refine hB bX11_fault_0 _ _ _ _ _ _ _ kX11_fault_0 ?_
  dsimp only [bX11_fault_0, kx_wp, kx_step, kx_lI, kx_lL, kx_lA, kx_gl, kx_pI, kx_pL, kx_pR, kx_pA, kx_pV, kx_s1, kx_s2, kx_sl, kx_pre, kx_c2, kx_pl, kx_cmp, kx_oF, kx_eqN, kx_nil, kx_c1, kx_ft, kx_aI, kx_aL, kx_aR, kx_ln, Nat.reduceAdd, Option.toList, List.cons_append, List.nil_append, mW_o, mf_0, mf_14]
  repeat (simp only [mu_0, mW_so]; try dsimp only [kx_wp, kx_step, kx_lI, kx_lL, kx_lA, kx_gl, kx_pI, kx_pL, kx_pR, kx_pA, kx_pV, kx_s1, kx_s2, kx_sl, kx_pre, kx_c2, kx_pl, kx_cmp, kx_oF, kx_eqN, kx_nil, kx_c1, kx_ft, kx_aI, kx_aL, kx_aR, kx_ln, Nat.reduceAdd, Option.toList, List.cons_append, List.nil_append, mW_o, mf_0, mf_14])
  all_goals (repeat' apply And.intro)
  all_goals ((try clear hB hC); first | exact True.intro | with_reducible assumption | with_reducible rfl | (with_reducible refine vp_in_nI ?_ ?_ <;> first | omega | decide) | (with_reducible refine Nat.le_of_ble_eq_true ?_; rfl) | (with_reducible refine ck_nzI ?_; simp; done) | (with_reducible refine ck_nzL ?_; simp; done) | (simp [upd, va_up, *]; done) | ((try clear hB hC); simp only [ck_lt, ck_le, ck_eq, not_true_eq_false, not_false_eq_true, Int32.reduceToInt, Int32.reduceAdd, Int32.reduceSub, Int32.reduceMul] at * <;> omega) | (split <;> first | with_reducible rfl | (exfalso; ((try clear hB hC); simp only [ck_lt, ck_le, ck_eq, not_true_eq_false, not_false_eq_true, Int32.reduceToInt, Int32.reduceAdd, Int32.reduceSub, Int32.reduceMul] at * <;> omega)) | (simp_all; done)) | (simp_all; done))

def bX11_dial_0 : List kx_O := [(.aload_n 0, 0, 0, 0, .null), (.iconst 0, 0, 0, 0, .int 0), (.putfield 1, 11, 0, 0, .null), (.aload_n 0, 0, 0, 0, .null), (.iload_n 1, 1, 0, 0, .null)]
theorem kX11_dial_0 : kx_oks kxL_X11 false cX11_dial 0 bX11_dial_0 = true := by decide +kernel
def bX11_dial_10 : List kx_O := [(.ifCond .ne 5, 15, 0, 0, .null)]
theorem kX11_dial_10 : kx_oks kxL_X11 false cX11_dial 10 bX11_dial_10 = true := by decide +kernel
def bX11_dial_13 : List kx_O := [(.iconst 0, 0, 0, 0, .int 0), (.ireturn, 0, 0, 0, .null)]
theorem kX11_dial_13 : kx_oks kxL_X11 false cX11_dial 13 bX11_dial_13 = true := by decide +kernel
def bX11_dial_15 : List kx_O := [(.aload_n 0, 0, 0, 0, .null), (.getfield 83, 11, 39, 0, .null), (.iload_n 1, 1, 0, 0, .null), (.laload, 0, 0, 0, .null), (.ldc2_w 427, 0, 0, 0, .long (1000)), (.ldiv, 0, 0, 0, .null), (.l2i, 0, 0, 0, .null), (.ireturn, 0, 0, 0, .null)]
theorem kX11_dial_15 : kx_oks kxL_X11 false cX11_dial 15 bX11_dial_15 = true := by decide +kernel
theorem dX11_dial_7 : decode cX11_dial 7 = .ok (.invokevirtual 358, 3) := by decide +kernel
set_option maxRecDepth 100000 in
set_option maxHeartbeats 4000000 in
theorem ct_X11_dial_t (l : Launch) (G : kx_G) {M : Nat → Int32} {A : Nat → Nat → Int32} {L : Nat → Nat → Int64} {R : kx_P} {sz : Nat} {cl c : Nat} (h21 : M 21 = nI cl) (hcl : cl ≤ 8) (hc : c < cl)  : kx_M l G sX11_dial 3 0 0 [.ref 93, .int (nI c)] (mW M A L R) sz (some (.int ((L 116 c / 1000).toInt32))) (mW (upd M 0 0) A L R) sz := by
  refine kx_mk kx_tab kxLok_X11 (ini := false) [some (.ref 93), some (.int (nI c))] ⟨by decide, rfl, by decide, by decide⟩ (⟨_, rfl⟩) rfl rfl (fun g hB hC => ?_)
  refine hB bX11_dial_0 _ _ _ _ _ _ _ kX11_dial_0 ?_
  dsimp only [bX11_dial_0, kx_wp, kx_step, kx_lI, kx_lL, kx_lA, kx_gl, kx_pI, kx_pL, kx_pR, kx_pA, kx_pV, kx_s1, kx_s2, kx_sl, kx_pre, kx_c2, kx_pl, kx_cmp, kx_oF, kx_eqN, kx_nil, kx_c1, kx_ft, kx_aI, kx_aL, kx_aR, kx_ln, Nat.reduceAdd, Option.toList, List.cons_append, List.nil_append, mW_o, mf_0, mf_39, m_116]
  repeat (simp only [mu_0, mW_so, ms_116, nI_clamp (show c < 2 ^ 31 by omega)]; try dsimp only [kx_wp, kx_step, kx_lI, kx_lL, kx_lA, kx_gl, kx_pI, kx_pL, kx_pR, kx_pA, kx_pV, kx_s1, kx_s2, kx_sl, kx_pre, kx_c2, kx_pl, kx_cmp, kx_oF, kx_eqN, kx_nil, kx_c1, kx_ft, kx_aI, kx_aL, kx_aR, kx_ln, Nat.reduceAdd, Option.toList, List.cons_append, List.nil_append, mW_o, mf_0, mf_39, m_116])
  repeat' apply And.intro
  all_goals try (first | with_reducible assumption | (with_reducible refine ck_nzI ?_; simp; done) | (with_reducible refine ck_nzL ?_; simp; done) | (with_reducible refine vp_in_nI ?_ ?_ <;> first | omega | decide) | (with_reducible refine Nat.le_of_ble_eq_true ?_; rfl) | omega)
  refine hC.1 358 _ _ _ _ _ _ _ 11 _ _ _ _ _ _ _ _ _ _ _ _ lX11_358 (ct_X11_isClock_t l G (M := upd M 0 0) h21 hcl hc rfl) ⟨by decide, rfl⟩ (mW_o) rfl rfl (Nat.le_of_ble_eq_true rfl) (by decide) (by decide) (by omega) (by omega) dX11_dial_7 ?_
  refine hB bX11_dial_10 _ _ _ _ _ _ _ kX11_dial_10 ?_
  dsimp only [bX11_dial_10, kx_wp, kx_step, kx_lI, kx_lL, kx_lA, kx_gl, kx_pI, kx_pL, kx_pR, kx_pA, kx_pV, kx_s1, kx_s2, kx_sl, kx_pre, kx_c2, kx_pl, kx_cmp, kx_oF, kx_eqN, kx_nil, kx_c1, kx_ft, kx_aI, kx_aL, kx_aR, kx_ln, Nat.reduceAdd, Option.toList, List.cons_append, List.nil_append, mW_o, mf_0, mf_39, m_116]
  repeat (simp only [mu_0, mW_so, ms_116, nI_clamp (show c < 2 ^ 31 by omega)]; try dsimp only [kx_wp, kx_step, kx_lI, kx_lL, kx_lA, kx_gl, kx_pI, kx_pL, kx_pR, kx_pA, kx_pV, kx_s1, kx_s2, kx_sl, kx_pre, kx_c2, kx_pl, kx_cmp, kx_oF, kx_eqN, kx_nil, kx_c1, kx_ft, kx_aI, kx_aL, kx_aR, kx_ln, Nat.reduceAdd, Option.toList, List.cons_append, List.nil_append, mW_o, mf_0, mf_39, m_116])
  repeat' apply And.intro
  all_goals try (first | with_reducible assumption | (with_reducible refine ck_nzI ?_; simp; done) | (with_reducible refine ck_nzL ?_; simp; done) | (with_reducible refine vp_in_nI ?_ ?_ <;> first | omega | decide) | (with_reducible refine Nat.le_of_ble_eq_true ?_; rfl) | omega)
  · intro c10
    refine hB bX11_dial_15 _ _ _ _ _ _ _ kX11_dial_15 ?_
    dsimp only [bX11_dial_15, kx_wp, kx_step, kx_lI, kx_lL, kx_lA, kx_gl, kx_pI, kx_pL, kx_pR, kx_pA, kx_pV, kx_s1, kx_s2, kx_sl, kx_pre, kx_c2, kx_pl, kx_cmp, kx_oF, kx_eqN, kx_nil, kx_c1, kx_ft, kx_aI, kx_aL, kx_aR, kx_ln, Nat.reduceAdd, Option.toList, List.cons_append, List.nil_append, mW_o, mf_0, mf_39, m_116]
    repeat (simp only [mu_0, mW_so, ms_116, nI_clamp (show c < 2 ^ 31 by omega)]; try dsimp only [kx_wp, kx_step, kx_lI, kx_lL, kx_lA, kx_gl, kx_pI, kx_pL, kx_pR, kx_pA, kx_pV, kx_s1, kx_s2, kx_sl, kx_pre, kx_c2, kx_pl, kx_cmp, kx_oF, kx_eqN, kx_nil, kx_c1, kx_ft, kx_aI, kx_aL, kx_aR, kx_ln, Nat.reduceAdd, Option.toList, List.cons_append, List.nil_append, mW_o, mf_0, mf_39, m_116])
    all_goals (repeat' apply And.intro)
    all_goals ((try clear hB hC); first | exact True.intro | with_reducible assumption | with_reducible rfl | (with_reducible refine vp_in_nI ?_ ?_ <;> first | omega | decide) | (with_reducible refine Nat.le_of_ble_eq_true ?_; rfl) | (with_reducible refine ck_nzI ?_; simp; done) | (with_reducible refine ck_nzL ?_; simp; done) | (simp [upd, va_up, *]; done) | ((try clear hB hC); simp only [ck_lt, ck_le, ck_eq, not_true_eq_false, not_false_eq_true, Int32.reduceToInt, Int32.reduceAdd, Int32.reduceSub, Int32.reduceMul] at * <;> omega) | (split <;> first | with_reducible rfl | (exfalso; ((try clear hB hC); simp only [ck_lt, ck_le, ck_eq, not_true_eq_false, not_false_eq_true, Int32.reduceToInt, Int32.reduceAdd, Int32.reduceSub, Int32.reduceMul] at * <;> omega)) | (simp_all; done)) | (simp_all; done))
  · intro c10
    refine hB bX11_dial_13 _ _ _ _ _ _ _ kX11_dial_13 ?_
    dsimp only [bX11_dial_13, kx_wp, kx_step, kx_lI, kx_lL, kx_lA, kx_gl, kx_pI, kx_pL, kx_pR, kx_pA, kx_pV, kx_s1, kx_s2, kx_sl, kx_pre, kx_c2, kx_pl, kx_cmp, kx_oF, kx_eqN, kx_nil, kx_c1, kx_ft, kx_aI, kx_aL, kx_aR, kx_ln, Nat.reduceAdd, Option.toList, List.cons_append, List.nil_append, mW_o, mf_0, mf_39, m_116]
    repeat (simp only [mu_0, mW_so, ms_116, nI_clamp (show c < 2 ^ 31 by omega)]; try dsimp only [kx_wp, kx_step, kx_lI, kx_lL, kx_lA, kx_gl, kx_pI, kx_pL, kx_pR, kx_pA, kx_pV, kx_s1, kx_s2, kx_sl, kx_pre, kx_c2, kx_pl, kx_cmp, kx_oF, kx_eqN, kx_nil, kx_c1, kx_ft, kx_aI, kx_aL, kx_aR, kx_ln, Nat.reduceAdd, Option.toList, List.cons_append, List.nil_append, mW_o, mf_0, mf_39, m_116])
    all_goals (repeat' apply And.intro)
    all_goals ((try clear hB hC); first | exact True.intro | with_reducible assumption | with_reducible rfl | (with_reducible refine vp_in_nI ?_ ?_ <;> first | omega | decide) | (with_reducible refine Nat.le_of_ble_eq_true ?_; rfl) | (with_reducible refine ck_nzI ?_; simp; done) | (with_reducible refine ck_nzL ?_; simp; done) | (simp [upd, va_up, *]; done) | ((try clear hB hC); simp only [ck_lt, ck_le, ck_eq, not_true_eq_false, not_false_eq_true, Int32.reduceToInt, Int32.reduceAdd, Int32.reduceSub, Int32.reduceMul] at * <;> omega) | (split <;> first | with_reducible rfl | (exfalso; ((try clear hB hC); simp only [ck_lt, ck_le, ck_eq, not_true_eq_false, not_false_eq_true, Int32.reduceToInt, Int32.reduceAdd, Int32.reduceSub, Int32.reduceMul] at * <;> omega)) | (simp_all; done)) | (simp_all; done))

set_option maxRecDepth 100000 in
set_option maxHeartbeats 4000000 in
theorem ct_X11_dial_f (l : Launch) (G : kx_G) {M : Nat → Int32} {A : Nat → Nat → Int32} {L : Nat → Nat → Int64} {R : kx_P} {sz : Nat} {x : Int32} (hx : ¬ (0 ≤ x ∧ x ≤ M 21 - 1)) : kx_M l G sX11_dial 3 0 0 [.ref 93, .int (x)] (mW M A L R) sz (some (.int (0))) (mW (upd (upd M 0 0) 0 1) A L R) sz := by
  refine kx_mk kx_tab kxLok_X11 (ini := false) [some (.ref 93), some (.int (x))] ⟨by decide, rfl, by decide, by decide⟩ (⟨_, rfl⟩) rfl rfl (fun g hB hC => ?_)
  refine hB bX11_dial_0 _ _ _ _ _ _ _ kX11_dial_0 ?_
  dsimp only [bX11_dial_0, kx_wp, kx_step, kx_lI, kx_lL, kx_lA, kx_gl, kx_pI, kx_pL, kx_pR, kx_pA, kx_pV, kx_s1, kx_s2, kx_sl, kx_pre, kx_c2, kx_pl, kx_cmp, kx_oF, kx_eqN, kx_nil, kx_c1, kx_ft, kx_aI, kx_aL, kx_aR, kx_ln, Nat.reduceAdd, Option.toList, List.cons_append, List.nil_append, mW_o, mf_0, mf_39, m_116]
  repeat (simp only [mu_0, mW_so, ms_116]; try dsimp only [kx_wp, kx_step, kx_lI, kx_lL, kx_lA, kx_gl, kx_pI, kx_pL, kx_pR, kx_pA, kx_pV, kx_s1, kx_s2, kx_sl, kx_pre, kx_c2, kx_pl, kx_cmp, kx_oF, kx_eqN, kx_nil, kx_c1, kx_ft, kx_aI, kx_aL, kx_aR, kx_ln, Nat.reduceAdd, Option.toList, List.cons_append, List.nil_append, mW_o, mf_0, mf_39, m_116])
  repeat' apply And.intro
  all_goals try (first | with_reducible assumption | (with_reducible refine ck_nzI ?_; simp; done) | (with_reducible refine ck_nzL ?_; simp; done) | omega)
  have hx2 : ¬ (0 ≤ x ∧ x ≤ upd M 0 0 21 - 1) := by rw [show upd M 0 0 21 = M 21 from rfl]; exact hx
  refine hC.1 358 _ _ _ _ _ _ _ 11 _ _ _ _ _ _ _ _ _ _ _ _ lX11_358 (ct_X11_isClock_f l G (M := upd M 0 0) hx2 rfl) ⟨by decide, rfl⟩ (mW_o) rfl rfl (Nat.le_of_ble_eq_true rfl) (by decide) (by decide) (by omega) (by omega) dX11_dial_7 ?_
  refine hB bX11_dial_10 _ _ _ _ _ _ _ kX11_dial_10 ?_
  dsimp only [bX11_dial_10, kx_wp, kx_step, kx_lI, kx_lL, kx_lA, kx_gl, kx_pI, kx_pL, kx_pR, kx_pA, kx_pV, kx_s1, kx_s2, kx_sl, kx_pre, kx_c2, kx_pl, kx_cmp, kx_oF, kx_eqN, kx_nil, kx_c1, kx_ft, kx_aI, kx_aL, kx_aR, kx_ln, Nat.reduceAdd, Option.toList, List.cons_append, List.nil_append, mW_o, mf_0, mf_39, m_116]
  repeat (simp only [mu_0, mW_so, ms_116]; try dsimp only [kx_wp, kx_step, kx_lI, kx_lL, kx_lA, kx_gl, kx_pI, kx_pL, kx_pR, kx_pA, kx_pV, kx_s1, kx_s2, kx_sl, kx_pre, kx_c2, kx_pl, kx_cmp, kx_oF, kx_eqN, kx_nil, kx_c1, kx_ft, kx_aI, kx_aL, kx_aR, kx_ln, Nat.reduceAdd, Option.toList, List.cons_append, List.nil_append, mW_o, mf_0, mf_39, m_116])
  repeat' apply And.intro
  all_goals try (first | with_reducible assumption | (with_reducible refine ck_nzI ?_; simp; done) | (with_reducible refine ck_nzL ?_; simp; done) | omega)
  · intro c10
    first | exact absurd rfl c10 | exact absurd c10 (by decide) | exact absurd (by decide) c10 | (exfalso; ((try clear hB hC); simp only [ck_lt, ck_le, ck_eq, not_true_eq_false, not_false_eq_true, Int32.reduceToInt, Int32.reduceAdd, Int32.reduceSub, Int32.reduceMul] at * <;> omega)) | (exfalso; simp_all; done)
  · intro c10
    refine hB bX11_dial_13 _ _ _ _ _ _ _ kX11_dial_13 ?_
    dsimp only [bX11_dial_13, kx_wp, kx_step, kx_lI, kx_lL, kx_lA, kx_gl, kx_pI, kx_pL, kx_pR, kx_pA, kx_pV, kx_s1, kx_s2, kx_sl, kx_pre, kx_c2, kx_pl, kx_cmp, kx_oF, kx_eqN, kx_nil, kx_c1, kx_ft, kx_aI, kx_aL, kx_aR, kx_ln, Nat.reduceAdd, Option.toList, List.cons_append, List.nil_append, mW_o, mf_0, mf_39, m_116]
    repeat (simp only [mu_0, mW_so, ms_116]; try dsimp only [kx_wp, kx_step, kx_lI, kx_lL, kx_lA, kx_gl, kx_pI, kx_pL, kx_pR, kx_pA, kx_pV, kx_s1, kx_s2, kx_sl, kx_pre, kx_c2, kx_pl, kx_cmp, kx_oF, kx_eqN, kx_nil, kx_c1, kx_ft, kx_aI, kx_aL, kx_aR, kx_ln, Nat.reduceAdd, Option.toList, List.cons_append, List.nil_append, mW_o, mf_0, mf_39, m_116])
    all_goals (repeat' apply And.intro)
    all_goals ((try clear hB hC); first | exact True.intro | with_reducible assumption | with_reducible rfl | (with_reducible refine vp_in_nI ?_ ?_ <;> first | omega | decide) | (with_reducible refine Nat.le_of_ble_eq_true ?_; rfl) | (with_reducible refine ck_nzI ?_; simp; done) | (with_reducible refine ck_nzL ?_; simp; done) | (simp [upd, va_up, *]; done) | ((try clear hB hC); simp only [ck_lt, ck_le, ck_eq, not_true_eq_false, not_false_eq_true, Int32.reduceToInt, Int32.reduceAdd, Int32.reduceSub, Int32.reduceMul] at * <;> omega) | (split <;> first | with_reducible rfl | (exfalso; ((try clear hB hC); simp only [ck_lt, ck_le, ck_eq, not_true_eq_false, not_false_eq_true, Int32.reduceToInt, Int32.reduceAdd, Int32.reduceSub, Int32.reduceMul] at * <;> omega)) | (simp_all; done)) | (simp_all; done))

theorem ck_iv_0 {cl sd : Nat} {M : Nat → Int32} {A : Nat → Nat → Int32} {L : Nat → Nat → Int64} {x : Int32} (h : ck_iv cl sd (M, A, L)) : ck_iv cl sd (upd M 0 x, A, L) := h
/-- whether the wheel of clock c, were it to strike on from fr, strikes the next n HOURs right -/
def ck_sx (A : Nat → Nat → Int32) (c wm nx fr : Nat) : Nat → Nat → Int32
  | 0, _ => 1
  | n + 1, k => if A 104 (24 * c + (fr + k) % wm) = ck_us (nI ((nx + k) % 24)) then ck_sx A c wm nx fr n (k + 1) else 0
theorem ck_sx_b (A : Nat → Nat → Int32) (c wm nx fr : Nat) : ∀ n k, ck_sx A c wm nx fr n k = 0 ∨ ck_sx A c wm nx fr n k = 1
  | 0, _ => Or.inr rfl
  | n + 1, k => by
    unfold ck_sx
    split
    · exact ck_sx_b A c wm nx fr n (k + 1)
    · exact Or.inl rfl
/-- the hour shown next -/
def ck_nx (L : Nat → Nat → Int64) (c : Nat) : Nat := ck_tn (L 116 c) / 3600000000 + 1

def bX11_wait_0 : List kx_O := [(.aload_n 0, 0, 0, 0, .null), (.iconst 0, 0, 0, 0, .int 0), (.putfield 1, 11, 0, 0, .null), (.aload_n 0, 0, 0, 0, .null), (.iload_n 1, 1, 0, 0, .null), (.iconst 0, 0, 0, 0, .int 0), (.sipush 10000, 0, 0, 0, .int 10000)]
theorem kX11_wait_0 : kx_oks kxL_X11 false cX11_wait 0 bX11_wait_0 = true := by decide +kernel
def bX11_wait_14 : List kx_O := [(.iconst 1, 0, 0, 0, .int 1)]
theorem kX11_wait_14 : kx_oks kxL_X11 false cX11_wait 14 bX11_wait_14 = true := by decide +kernel
def bX11_wait_18 : List kx_O := [(.ifCond .eq 27, 45, 0, 0, .null)]
theorem kX11_wait_18 : kx_oks kxL_X11 false cX11_wait 18 bX11_wait_18 = true := by decide +kernel
def bX11_wait_21 : List kx_O := [(.aload_n 0, 0, 0, 0, .null), (.aload_n 0, 0, 0, 0, .null), (.getfield 182, 11, 1, 0, .null), (.iload_n 1, 1, 0, 0, .null), (.iadd, 0, 0, 0, .null), (.ldc 223, 0, 0, 0, .int (100000)), (.if_icmp .gt 7, 37, 0, 0, .null)]
theorem kX11_wait_21 : kx_oks kxL_X11 false cX11_wait 21 bX11_wait_21 = true := by decide +kernel
def bX11_wait_33 : List kx_O := [(.iconst 1, 0, 0, 0, .int 1), (.goto 4, 38, 0, 0, .null)]
theorem kX11_wait_33 : kx_oks kxL_X11 false cX11_wait 33 bX11_wait_33 = true := by decide +kernel
def bX11_wait_37 : List kx_O := [(.iconst 0, 0, 0, 0, .int 0)]
theorem kX11_wait_37 : kx_oks kxL_X11 false cX11_wait 37 bX11_wait_37 = true := by decide +kernel
def bX11_wait_38 : List kx_O := [(.iconst 2, 0, 0, 0, .int 2)]
theorem kX11_wait_38 : kx_oks kxL_X11 false cX11_wait 38 bX11_wait_38 = true := by decide +kernel
def bX11_wait_42 : List kx_O := [(.ifCond .ne 5, 47, 0, 0, .null)]
theorem kX11_wait_42 : kx_oks kxL_X11 false cX11_wait 42 bX11_wait_42 = true := by decide +kernel
def bX11_wait_45 : List kx_O := [(.iconst 0, 0, 0, 0, .int 0), (.ireturn, 0, 0, 0, .null)]
theorem kX11_wait_45 : kx_oks kxL_X11 false cX11_wait 45 bX11_wait_45 = true := by decide +kernel
def bX11_wait_47 : List kx_O := [(.iconst 0, 0, 0, 0, .int 0), (.istore_n 2, 2, 0, 0, .null)]
theorem kX11_wait_47 : kx_oks kxL_X11 false cX11_wait 47 bX11_wait_47 = true := by decide +kernel
def bX11_wait_49 : List kx_O := [(.iload_n 2, 2, 0, 0, .null), (.iload_n 1, 1, 0, 0, .null), (.if_icmp .ge 13, 64, 0, 0, .null)]
theorem kX11_wait_49 : kx_oks kxL_X11 false cX11_wait 49 bX11_wait_49 = true := by decide +kernel
def bX11_wait_54 : List kx_O := [(.aload_n 0, 0, 0, 0, .null)]
theorem kX11_wait_54 : kx_oks kxL_X11 false cX11_wait 54 bX11_wait_54 = true := by decide +kernel
def bX11_wait_58 : List kx_O := [(.iinc 2 1, 2, 0, 0, .int 1), (.goto (-12), 49, 0, 0, .null)]
theorem kX11_wait_58 : kx_oks kxL_X11 false cX11_wait 58 bX11_wait_58 = true := by decide +kernel
def bX11_wait_64 : List kx_O := [(.aload_n 0, 0, 0, 0, .null), (.getfield 182, 11, 1, 0, .null), (.ireturn, 0, 0, 0, .null)]
theorem kX11_wait_64 : kx_oks kxL_X11 false cX11_wait 64 bX11_wait_64 = true := by decide +kernel
theorem dX11_wait_11 : decode cX11_wait 11 = .ok (.invokestatic 167, 3) := by decide +kernel
theorem dX11_wait_15 : decode cX11_wait 15 = .ok (.invokevirtual 171, 3) := by decide +kernel
theorem dX11_wait_39 : decode cX11_wait 39 = .ok (.invokevirtual 171, 3) := by decide +kernel
theorem dX11_wait_55 : decode cX11_wait 55 = .ok (.invokevirtual 432, 3) := by decide +kernel
set_option maxRecDepth 100000 in
set_option maxHeartbeats 4000000 in
theorem ct_X11_wait_b (l : Launch) (G : kx_G) {M : Nat → Int32} {A : Nat → Nat → Int32} {L : Nat → Nat → Int64} {R : kx_P} {sz : Nat} {m : Int32} (hm : ¬ (0 ≤ m ∧ m ≤ 10000))  : kx_M l G sX11_wait 6 0 0 [.ref 93, .int (m)] (mW M A L R) sz (some (.int (0))) (mW (upd (upd M 0 0) 0 1) A L R) sz := by
  refine kx_mk kx_tab kxLok_X11 (ini := false) [some (.ref 93), some (.int (m)), none] ⟨by decide, rfl, by decide, by decide⟩ (⟨_, rfl⟩) rfl rfl (fun g hB hC => ?_)
  refine hB bX11_wait_0 _ _ _ _ _ _ _ kX11_wait_0 ?_
  dsimp only [bX11_wait_0, kx_wp, kx_step, kx_lI, kx_lL, kx_lA, kx_gl, kx_pI, kx_pL, kx_pR, kx_pA, kx_pV, kx_s1, kx_s2, kx_sl, kx_pre, kx_c2, kx_pl, kx_cmp, kx_oF, kx_eqN, kx_nil, kx_c1, kx_ft, kx_aI, kx_aL, kx_aR, kx_ln, Nat.reduceAdd, Option.toList, List.cons_append, List.nil_append, mW_o, mf_0, mf_1]
  repeat (simp only [mu_0, mW_so]; try dsimp only [kx_wp, kx_step, kx_lI, kx_lL, kx_lA, kx_gl, kx_pI, kx_pL, kx_pR, kx_pA, kx_pV, kx_s1, kx_s2, kx_sl, kx_pre, kx_c2, kx_pl, kx_cmp, kx_oF, kx_eqN, kx_nil, kx_c1, kx_ft, kx_aI, kx_aL, kx_aR, kx_ln, Nat.reduceAdd, Option.toList, List.cons_append, List.nil_append, mW_o, mf_0, mf_1])
  repeat' apply And.intro
  all_goals try (first | with_reducible assumption | (with_reducible refine ck_nzI ?_; simp; done) | (with_reducible refine ck_nzL ?_; simp; done) | (with_reducible refine vp_in_nI ?_ ?_ <;> first | omega | decide) | (with_reducible refine Nat.le_of_ble_eq_true ?_; rfl) | omega)
  refine hC.2.1 167 _ _ _ _ _ _ _ _ _ _ _ _ _ _ _ _ _ lX11_167 (ct_X11_within l G) rfl rfl (Nat.le_of_ble_eq_true rfl) (by decide) (by decide) (by omega) (by omega) dX11_wait_11 ?_
  refine hB bX11_wait_14 _ _ _ _ _ _ _ kX11_wait_14 ?_
  dsimp only [bX11_wait_14, kx_wp, kx_step, kx_lI, kx_lL, kx_lA, kx_gl, kx_pI, kx_pL, kx_pR, kx_pA, kx_pV, kx_s1, kx_s2, kx_sl, kx_pre, kx_c2, kx_pl, kx_cmp, kx_oF, kx_eqN, kx_nil, kx_c1, kx_ft, kx_aI, kx_aL, kx_aR, kx_ln, Nat.reduceAdd, Option.toList, List.cons_append, List.nil_append, mW_o, mf_0, mf_1]
  repeat (simp only [mu_0, mW_so]; try dsimp only [kx_wp, kx_step, kx_lI, kx_lL, kx_lA, kx_gl, kx_pI, kx_pL, kx_pR, kx_pA, kx_pV, kx_s1, kx_s2, kx_sl, kx_pre, kx_c2, kx_pl, kx_cmp, kx_oF, kx_eqN, kx_nil, kx_c1, kx_ft, kx_aI, kx_aL, kx_aR, kx_ln, Nat.reduceAdd, Option.toList, List.cons_append, List.nil_append, mW_o, mf_0, mf_1])
  repeat' apply And.intro
  all_goals try (first | with_reducible assumption | (with_reducible refine ck_nzI ?_; simp; done) | (with_reducible refine ck_nzL ?_; simp; done) | (with_reducible refine vp_in_nI ?_ ?_ <;> first | omega | decide) | (with_reducible refine Nat.le_of_ble_eq_true ?_; rfl) | omega)
  rw [if_neg hm]
  refine hC.1 171 _ _ _ _ _ _ _ 11 _ _ _ _ _ _ _ _ _ _ _ _ lX11_171 (ct_X11_may_f l G (M := upd M 0 0) rfl (by decide)) ⟨by decide, rfl⟩ (mW_o) rfl rfl (Nat.le_of_ble_eq_true rfl) (by decide) (by decide) (by omega) (by omega) dX11_wait_15 ?_
  refine hB bX11_wait_18 _ _ _ _ _ _ _ kX11_wait_18 ?_
  dsimp only [bX11_wait_18, kx_wp, kx_step, kx_lI, kx_lL, kx_lA, kx_gl, kx_pI, kx_pL, kx_pR, kx_pA, kx_pV, kx_s1, kx_s2, kx_sl, kx_pre, kx_c2, kx_pl, kx_cmp, kx_oF, kx_eqN, kx_nil, kx_c1, kx_ft, kx_aI, kx_aL, kx_aR, kx_ln, Nat.reduceAdd, Option.toList, List.cons_append, List.nil_append, mW_o, mf_0, mf_1]
  repeat (simp only [mu_0, mW_so]; try dsimp only [kx_wp, kx_step, kx_lI, kx_lL, kx_lA, kx_gl, kx_pI, kx_pL, kx_pR, kx_pA, kx_pV, kx_s1, kx_s2, kx_sl, kx_pre, kx_c2, kx_pl, kx_cmp, kx_oF, kx_eqN, kx_nil, kx_c1, kx_ft, kx_aI, kx_aL, kx_aR, kx_ln, Nat.reduceAdd, Option.toList, List.cons_append, List.nil_append, mW_o, mf_0, mf_1])
  repeat' apply And.intro
  all_goals try (first | with_reducible assumption | (with_reducible refine ck_nzI ?_; simp; done) | (with_reducible refine ck_nzL ?_; simp; done) | (with_reducible refine vp_in_nI ?_ ?_ <;> first | omega | decide) | (with_reducible refine Nat.le_of_ble_eq_true ?_; rfl) | omega)
  · intro zc18
    have ze18 := zc18
    refine hB bX11_wait_45 _ _ _ _ _ _ _ kX11_wait_45 ?_
    dsimp only [bX11_wait_45, kx_wp, kx_step, kx_lI, kx_lL, kx_lA, kx_gl, kx_pI, kx_pL, kx_pR, kx_pA, kx_pV, kx_s1, kx_s2, kx_sl, kx_pre, kx_c2, kx_pl, kx_cmp, kx_oF, kx_eqN, kx_nil, kx_c1, kx_ft, kx_aI, kx_aL, kx_aR, kx_ln, Nat.reduceAdd, Option.toList, List.cons_append, List.nil_append, mW_o, mf_0, mf_1]
    repeat (simp only [mu_0, mW_so]; try dsimp only [kx_wp, kx_step, kx_lI, kx_lL, kx_lA, kx_gl, kx_pI, kx_pL, kx_pR, kx_pA, kx_pV, kx_s1, kx_s2, kx_sl, kx_pre, kx_c2, kx_pl, kx_cmp, kx_oF, kx_eqN, kx_nil, kx_c1, kx_ft, kx_aI, kx_aL, kx_aR, kx_ln, Nat.reduceAdd, Option.toList, List.cons_append, List.nil_append, mW_o, mf_0, mf_1])
    all_goals (repeat' apply And.intro)
    all_goals ((try clear hB hC); first | exact True.intro | with_reducible rfl | with_reducible assumption | (with_reducible refine vp_in_nI ?_ ?_ <;> first | omega | decide) | exact Nat.le_of_ble_eq_true rfl | (with_reducible refine ck_nzI ?_; simp; done) | (with_reducible refine ck_nzL ?_; simp; done) | (simp only [pk_us, pk_uLs, eq_true ze18, ↓reduceIte, not_true_eq_false, not_false_eq_true]; done) | (simp only [eq_true ze18, ↓reduceIte, not_true_eq_false, not_false_eq_true]; with_reducible rfl) | skip)
  · intro zc18
    first | exact absurd rfl zc18 | exact absurd zc18 (by decide) | exact absurd (by decide) zc18 | (exfalso; ((try clear hB hC); simp only [ck_lt, ck_le, ck_eq, not_true_eq_false, not_false_eq_true, Int32.reduceToInt, Int32.reduceAdd, Int32.reduceSub, Int32.reduceMul] at * <;> omega)) | (exfalso; simp_all; done)

set_option maxRecDepth 100000 in
set_option maxHeartbeats 4000000 in
theorem ct_X11_wait_l (l : Launch) (G : kx_G) {M : Nat → Int32} {A : Nat → Nat → Int32} {L : Nat → Nat → Int64} {R : kx_P} {sz : Nat} {m : Int32} (hm : 0 ≤ m ∧ m ≤ 10000) (hm2 : ¬ M 1 + m ≤ 100000)  : kx_M l G sX11_wait 6 0 0 [.ref 93, .int (m)] (mW M A L R) sz (some (.int (0))) (mW (upd (upd M 0 0) 0 2) A L R) sz := by
  refine kx_mk kx_tab kxLok_X11 (ini := false) [some (.ref 93), some (.int (m)), none] ⟨by decide, rfl, by decide, by decide⟩ (⟨_, rfl⟩) rfl rfl (fun g hB hC => ?_)
  refine hB bX11_wait_0 _ _ _ _ _ _ _ kX11_wait_0 ?_
  dsimp only [bX11_wait_0, kx_wp, kx_step, kx_lI, kx_lL, kx_lA, kx_gl, kx_pI, kx_pL, kx_pR, kx_pA, kx_pV, kx_s1, kx_s2, kx_sl, kx_pre, kx_c2, kx_pl, kx_cmp, kx_oF, kx_eqN, kx_nil, kx_c1, kx_ft, kx_aI, kx_aL, kx_aR, kx_ln, Nat.reduceAdd, Option.toList, List.cons_append, List.nil_append, mW_o, mf_0, mf_1]
  repeat (simp only [mu_0, mW_so, show upd M 0 0 1 = M 1 from rfl]; try dsimp only [kx_wp, kx_step, kx_lI, kx_lL, kx_lA, kx_gl, kx_pI, kx_pL, kx_pR, kx_pA, kx_pV, kx_s1, kx_s2, kx_sl, kx_pre, kx_c2, kx_pl, kx_cmp, kx_oF, kx_eqN, kx_nil, kx_c1, kx_ft, kx_aI, kx_aL, kx_aR, kx_ln, Nat.reduceAdd, Option.toList, List.cons_append, List.nil_append, mW_o, mf_0, mf_1])
  repeat' apply And.intro
  all_goals try (first | with_reducible assumption | (with_reducible refine ck_nzI ?_; simp; done) | (with_reducible refine ck_nzL ?_; simp; done) | (with_reducible refine vp_in_nI ?_ ?_ <;> first | omega | decide) | (with_reducible refine Nat.le_of_ble_eq_true ?_; rfl) | omega)
  refine hC.2.1 167 _ _ _ _ _ _ _ _ _ _ _ _ _ _ _ _ _ lX11_167 (ct_X11_within l G) rfl rfl (Nat.le_of_ble_eq_true rfl) (by decide) (by decide) (by omega) (by omega) dX11_wait_11 ?_
  refine hB bX11_wait_14 _ _ _ _ _ _ _ kX11_wait_14 ?_
  dsimp only [bX11_wait_14, kx_wp, kx_step, kx_lI, kx_lL, kx_lA, kx_gl, kx_pI, kx_pL, kx_pR, kx_pA, kx_pV, kx_s1, kx_s2, kx_sl, kx_pre, kx_c2, kx_pl, kx_cmp, kx_oF, kx_eqN, kx_nil, kx_c1, kx_ft, kx_aI, kx_aL, kx_aR, kx_ln, Nat.reduceAdd, Option.toList, List.cons_append, List.nil_append, mW_o, mf_0, mf_1]
  repeat (simp only [mu_0, mW_so, show upd M 0 0 1 = M 1 from rfl]; try dsimp only [kx_wp, kx_step, kx_lI, kx_lL, kx_lA, kx_gl, kx_pI, kx_pL, kx_pR, kx_pA, kx_pV, kx_s1, kx_s2, kx_sl, kx_pre, kx_c2, kx_pl, kx_cmp, kx_oF, kx_eqN, kx_nil, kx_c1, kx_ft, kx_aI, kx_aL, kx_aR, kx_ln, Nat.reduceAdd, Option.toList, List.cons_append, List.nil_append, mW_o, mf_0, mf_1])
  repeat' apply And.intro
  all_goals try (first | with_reducible assumption | (with_reducible refine ck_nzI ?_; simp; done) | (with_reducible refine ck_nzL ?_; simp; done) | (with_reducible refine vp_in_nI ?_ ?_ <;> first | omega | decide) | (with_reducible refine Nat.le_of_ble_eq_true ?_; rfl) | omega)
  rw [if_pos hm]
  refine hC.1 171 _ _ _ _ _ _ _ 11 _ _ _ _ _ _ _ _ _ _ _ _ lX11_171 (ct_X11_may_t l G (M := upd M 0 0) rfl) ⟨by decide, rfl⟩ (mW_o) rfl rfl (Nat.le_of_ble_eq_true rfl) (by decide) (by decide) (by omega) (by omega) dX11_wait_15 ?_
  refine hB bX11_wait_18 _ _ _ _ _ _ _ kX11_wait_18 ?_
  dsimp only [bX11_wait_18, kx_wp, kx_step, kx_lI, kx_lL, kx_lA, kx_gl, kx_pI, kx_pL, kx_pR, kx_pA, kx_pV, kx_s1, kx_s2, kx_sl, kx_pre, kx_c2, kx_pl, kx_cmp, kx_oF, kx_eqN, kx_nil, kx_c1, kx_ft, kx_aI, kx_aL, kx_aR, kx_ln, Nat.reduceAdd, Option.toList, List.cons_append, List.nil_append, mW_o, mf_0, mf_1]
  repeat (simp only [mu_0, mW_so, show upd M 0 0 1 = M 1 from rfl]; try dsimp only [kx_wp, kx_step, kx_lI, kx_lL, kx_lA, kx_gl, kx_pI, kx_pL, kx_pR, kx_pA, kx_pV, kx_s1, kx_s2, kx_sl, kx_pre, kx_c2, kx_pl, kx_cmp, kx_oF, kx_eqN, kx_nil, kx_c1, kx_ft, kx_aI, kx_aL, kx_aR, kx_ln, Nat.reduceAdd, Option.toList, List.cons_append, List.nil_append, mW_o, mf_0, mf_1])
  repeat' apply And.intro
  all_goals try (first | with_reducible assumption | (with_reducible refine ck_nzI ?_; simp; done) | (with_reducible refine ck_nzL ?_; simp; done) | (with_reducible refine vp_in_nI ?_ ?_ <;> first | omega | decide) | (with_reducible refine Nat.le_of_ble_eq_true ?_; rfl) | omega)
  · intro zc18
    first | exact absurd rfl zc18 | exact absurd zc18 (by decide) | exact absurd (by decide) zc18 | (exfalso; first | exact hm2 (Int32.not_lt.mp zc30) | exact hm2 zc30) | (exfalso; simp_all; done)
  · intro zc18
    have ze18 := zc18
    refine hB bX11_wait_21 _ _ _ _ _ _ _ kX11_wait_21 ?_
    dsimp only [bX11_wait_21, kx_wp, kx_step, kx_lI, kx_lL, kx_lA, kx_gl, kx_pI, kx_pL, kx_pR, kx_pA, kx_pV, kx_s1, kx_s2, kx_sl, kx_pre, kx_c2, kx_pl, kx_cmp, kx_oF, kx_eqN, kx_nil, kx_c1, kx_ft, kx_aI, kx_aL, kx_aR, kx_ln, Nat.reduceAdd, Option.toList, List.cons_append, List.nil_append, mW_o, mf_0, mf_1]
    repeat (simp only [mu_0, mW_so, show upd M 0 0 1 = M 1 from rfl]; try dsimp only [kx_wp, kx_step, kx_lI, kx_lL, kx_lA, kx_gl, kx_pI, kx_pL, kx_pR, kx_pA, kx_pV, kx_s1, kx_s2, kx_sl, kx_pre, kx_c2, kx_pl, kx_cmp, kx_oF, kx_eqN, kx_nil, kx_c1, kx_ft, kx_aI, kx_aL, kx_aR, kx_ln, Nat.reduceAdd, Option.toList, List.cons_append, List.nil_append, mW_o, mf_0, mf_1])
    repeat' apply And.intro
    all_goals try (first | with_reducible assumption | (with_reducible refine ck_nzI ?_; simp; done) | (with_reducible refine ck_nzL ?_; simp; done) | (with_reducible refine vp_in_nI ?_ ?_ <;> first | omega | decide) | (with_reducible refine Nat.le_of_ble_eq_true ?_; rfl) | omega)
    · intro zc30
      with_reducible first | have ze30 := Int32.not_le.mpr zc30 | have ze30 := zc30
      refine hB bX11_wait_37 _ _ _ _ _ _ _ kX11_wait_37 ?_
      dsimp only [bX11_wait_37, kx_wp, kx_step, kx_lI, kx_lL, kx_lA, kx_gl, kx_pI, kx_pL, kx_pR, kx_pA, kx_pV, kx_s1, kx_s2, kx_sl, kx_pre, kx_c2, kx_pl, kx_cmp, kx_oF, kx_eqN, kx_nil, kx_c1, kx_ft, kx_aI, kx_aL, kx_aR, kx_ln, Nat.reduceAdd, Option.toList, List.cons_append, List.nil_append, mW_o, mf_0, mf_1]
      repeat (simp only [mu_0, mW_so, show upd M 0 0 1 = M 1 from rfl]; try dsimp only [kx_wp, kx_step, kx_lI, kx_lL, kx_lA, kx_gl, kx_pI, kx_pL, kx_pR, kx_pA, kx_pV, kx_s1, kx_s2, kx_sl, kx_pre, kx_c2, kx_pl, kx_cmp, kx_oF, kx_eqN, kx_nil, kx_c1, kx_ft, kx_aI, kx_aL, kx_aR, kx_ln, Nat.reduceAdd, Option.toList, List.cons_append, List.nil_append, mW_o, mf_0, mf_1])
      repeat' apply And.intro
      all_goals try (first | with_reducible assumption | (with_reducible refine ck_nzI ?_; simp; done) | (with_reducible refine ck_nzL ?_; simp; done) | (with_reducible refine vp_in_nI ?_ ?_ <;> first | omega | decide) | (with_reducible refine Nat.le_of_ble_eq_true ?_; rfl) | omega)
      refine hB bX11_wait_38 _ _ _ _ _ _ _ kX11_wait_38 ?_
      dsimp only [bX11_wait_38, kx_wp, kx_step, kx_lI, kx_lL, kx_lA, kx_gl, kx_pI, kx_pL, kx_pR, kx_pA, kx_pV, kx_s1, kx_s2, kx_sl, kx_pre, kx_c2, kx_pl, kx_cmp, kx_oF, kx_eqN, kx_nil, kx_c1, kx_ft, kx_aI, kx_aL, kx_aR, kx_ln, Nat.reduceAdd, Option.toList, List.cons_append, List.nil_append, mW_o, mf_0, mf_1]
      repeat (simp only [mu_0, mW_so, show upd M 0 0 1 = M 1 from rfl]; try dsimp only [kx_wp, kx_step, kx_lI, kx_lL, kx_lA, kx_gl, kx_pI, kx_pL, kx_pR, kx_pA, kx_pV, kx_s1, kx_s2, kx_sl, kx_pre, kx_c2, kx_pl, kx_cmp, kx_oF, kx_eqN, kx_nil, kx_c1, kx_ft, kx_aI, kx_aL, kx_aR, kx_ln, Nat.reduceAdd, Option.toList, List.cons_append, List.nil_append, mW_o, mf_0, mf_1])
      repeat' apply And.intro
      all_goals try (first | with_reducible assumption | (with_reducible refine ck_nzI ?_; simp; done) | (with_reducible refine ck_nzL ?_; simp; done) | (with_reducible refine vp_in_nI ?_ ?_ <;> first | omega | decide) | (with_reducible refine Nat.le_of_ble_eq_true ?_; rfl) | omega)
      refine hC.1 171 _ _ _ _ _ _ _ 11 _ _ _ _ _ _ _ _ _ _ _ _ lX11_171 (ct_X11_may_f l G (M := upd M 0 0) rfl (by decide)) ⟨by decide, rfl⟩ (mW_o) rfl rfl (Nat.le_of_ble_eq_true rfl) (by decide) (by decide) (by omega) (by omega) dX11_wait_39 ?_
      refine hB bX11_wait_42 _ _ _ _ _ _ _ kX11_wait_42 ?_
      dsimp only [bX11_wait_42, kx_wp, kx_step, kx_lI, kx_lL, kx_lA, kx_gl, kx_pI, kx_pL, kx_pR, kx_pA, kx_pV, kx_s1, kx_s2, kx_sl, kx_pre, kx_c2, kx_pl, kx_cmp, kx_oF, kx_eqN, kx_nil, kx_c1, kx_ft, kx_aI, kx_aL, kx_aR, kx_ln, Nat.reduceAdd, Option.toList, List.cons_append, List.nil_append, mW_o, mf_0, mf_1]
      repeat (simp only [mu_0, mW_so, show upd M 0 0 1 = M 1 from rfl]; try dsimp only [kx_wp, kx_step, kx_lI, kx_lL, kx_lA, kx_gl, kx_pI, kx_pL, kx_pR, kx_pA, kx_pV, kx_s1, kx_s2, kx_sl, kx_pre, kx_c2, kx_pl, kx_cmp, kx_oF, kx_eqN, kx_nil, kx_c1, kx_ft, kx_aI, kx_aL, kx_aR, kx_ln, Nat.reduceAdd, Option.toList, List.cons_append, List.nil_append, mW_o, mf_0, mf_1])
      repeat' apply And.intro
      all_goals try (first | with_reducible assumption | (with_reducible refine ck_nzI ?_; simp; done) | (with_reducible refine ck_nzL ?_; simp; done) | (with_reducible refine vp_in_nI ?_ ?_ <;> first | omega | decide) | (with_reducible refine Nat.le_of_ble_eq_true ?_; rfl) | omega)
      · intro zc42
        first | exact absurd rfl zc42 | exact absurd zc42 (by decide) | exact absurd (by decide) zc42 | (exfalso; first | exact hm2 (Int32.not_lt.mp zc30) | exact hm2 zc30) | (exfalso; simp_all; done)
      · intro zc42
        with_reducible first | have ze42 := Decidable.not_not.mp zc42 | have ze42 := zc42
        refine hB bX11_wait_45 _ _ _ _ _ _ _ kX11_wait_45 ?_
        dsimp only [bX11_wait_45, kx_wp, kx_step, kx_lI, kx_lL, kx_lA, kx_gl, kx_pI, kx_pL, kx_pR, kx_pA, kx_pV, kx_s1, kx_s2, kx_sl, kx_pre, kx_c2, kx_pl, kx_cmp, kx_oF, kx_eqN, kx_nil, kx_c1, kx_ft, kx_aI, kx_aL, kx_aR, kx_ln, Nat.reduceAdd, Option.toList, List.cons_append, List.nil_append, mW_o, mf_0, mf_1]
        repeat (simp only [mu_0, mW_so, show upd M 0 0 1 = M 1 from rfl]; try dsimp only [kx_wp, kx_step, kx_lI, kx_lL, kx_lA, kx_gl, kx_pI, kx_pL, kx_pR, kx_pA, kx_pV, kx_s1, kx_s2, kx_sl, kx_pre, kx_c2, kx_pl, kx_cmp, kx_oF, kx_eqN, kx_nil, kx_c1, kx_ft, kx_aI, kx_aL, kx_aR, kx_ln, Nat.reduceAdd, Option.toList, List.cons_append, List.nil_append, mW_o, mf_0, mf_1])
        all_goals (repeat' apply And.intro)
        all_goals ((try clear hB hC); first | exact True.intro | with_reducible rfl | with_reducible assumption | (with_reducible refine vp_in_nI ?_ ?_ <;> first | omega | decide) | exact Nat.le_of_ble_eq_true rfl | (with_reducible refine ck_nzI ?_; simp; done) | (with_reducible refine ck_nzL ?_; simp; done) | (simp only [pk_us, pk_uLs, ze18, zc30, ze30, eq_true ze42, ↓reduceIte, not_true_eq_false, not_false_eq_true]; done) | (simp only [ze18, zc30, ze30, eq_true ze42, ↓reduceIte, not_true_eq_false, not_false_eq_true]; with_reducible rfl) | skip)
    · intro zc30
      first | exact absurd rfl zc30 | exact absurd zc30 (by decide) | exact absurd (by decide) zc30 | (exfalso; first | exact hm2 (Int32.not_lt.mp zc30) | exact hm2 zc30) | (exfalso; simp_all; done)

set_option maxRecDepth 100000 in
set_option maxHeartbeats 4000000 in
theorem ct_X11_wait_t (l : Launch) (G : kx_G) {M : Nat → Int32} {A : Nat → Nat → Int32} {L : Nat → Nat → Int64} {R : kx_P} {sz : Nat} {cl sd mi k : Nat} (h21 : M 21 = nI cl) (hcl : cl ≤ 8) (h1 : M 1 = nI mi) (hk : k ≤ 10000) (hmk : mi + k ≤ 100000) (hsd : sd + 8 * 100000 < 2 ^ 29) (hI : ck_iv cl sd (M, A, L))  : kx_M l G sX11_wait 6 0 0 [.ref 93, .int (nI k)] (mW M A L R) sz (some (.int (nI (mi + k)))) (ck_W (ck_mns (upd M 0 0, A, L) cl k) R) sz := by
  have zm : 0 ≤ nI k ∧ nI k ≤ 10000 := ⟨nI_pos' (by omega), nI_le (b := 10000) hk (by decide)⟩
  have zI := fun n => ck_mns_iv (ck_iv_0 (x := 0) hI) (show (upd M 0 0, A, L).1 1 = nI mi from h1) n
  have z21 : ∀ n, (ck_mns (upd M 0 0, A, L) cl n).1 21 = nI cl := fun n => (ck_mns_M (by decide) (by decide) (by decide) (by decide) (by decide) (by decide) n).trans h21
  have z1 : ∀ n, mi + n ≤ 100000 → (ck_mns (upd M 0 0, A, L) cl n).1 1 = nI (mi + n) := fun n hn => (zI n hn).2
  refine kx_mk kx_tab kxLok_X11 (ini := false) [some (.ref 93), some (.int (nI k)), none] ⟨by decide, rfl, by decide, by decide⟩ (⟨_, rfl⟩) rfl rfl (fun g hB hC => ?_)
  have zs : ∀ i, i ≤ 100000 → sd + i * cl < 2 ^ 29 := fun i hi => by
    have : i * cl ≤ 100000 * 8 := Nat.mul_le_mul hi hcl
    omega
  have loop49 : ∀ (n9 : Nat) (i : Nat), i + n9 = k → g 49 [some (.ref 93), some (.int (nI k)), some (.int (nI i))] [] (ck_W (ck_mns (upd M 0 0, A, L) cl i) R) sz 0 0 := by
    intro n9
    induction n9 with
    | zero =>
      intro i hi
      obtain rfl : i = k := by omega
      refine hB bX11_wait_49 _ _ _ _ _ _ _ kX11_wait_49 ?_
      dsimp only [bX11_wait_49, kx_wp, kx_step, kx_lI, kx_lL, kx_lA, kx_gl, kx_pI, kx_pL, kx_pR, kx_pA, kx_pV, kx_s1, kx_s2, kx_sl, kx_pre, kx_c2, kx_pl, kx_cmp, kx_oF, kx_eqN, kx_nil, kx_c1, kx_ft, kx_aI, kx_aL, kx_aR, kx_ln, Nat.reduceAdd, Option.toList, List.cons_append, List.nil_append, mW_o, mf_0, mf_1]
      repeat (simp only [mu_0, mW_so, show upd M 0 0 1 = M 1 from rfl, h1, nI_add, nI_1, z1 i (by omega)]; try dsimp only [kx_wp, kx_step, kx_lI, kx_lL, kx_lA, kx_gl, kx_pI, kx_pL, kx_pR, kx_pA, kx_pV, kx_s1, kx_s2, kx_sl, kx_pre, kx_c2, kx_pl, kx_cmp, kx_oF, kx_eqN, kx_nil, kx_c1, kx_ft, kx_aI, kx_aL, kx_aR, kx_ln, Nat.reduceAdd, Option.toList, List.cons_append, List.nil_append, mW_o, mf_0, mf_1])
      repeat' apply And.intro
      all_goals try (first | with_reducible assumption | (with_reducible refine ck_nzI ?_; simp; done) | (with_reducible refine ck_nzL ?_; simp; done) | (with_reducible refine vp_in_nI ?_ ?_ <;> first | omega | decide) | (with_reducible refine Nat.le_of_ble_eq_true ?_; rfl) | omega)
      · intro zc51
        with_reducible first | have ze51 := Int32.not_lt.mpr zc51 | have ze51 := zc51
        refine hB bX11_wait_64 _ _ _ _ _ _ _ kX11_wait_64 ?_
        dsimp only [bX11_wait_64, kx_wp, kx_step, kx_lI, kx_lL, kx_lA, kx_gl, kx_pI, kx_pL, kx_pR, kx_pA, kx_pV, kx_s1, kx_s2, kx_sl, kx_pre, kx_c2, kx_pl, kx_cmp, kx_oF, kx_eqN, kx_nil, kx_c1, kx_ft, kx_aI, kx_aL, kx_aR, kx_ln, Nat.reduceAdd, Option.toList, List.cons_append, List.nil_append, mW_o, mf_0, mf_1]
        repeat (simp only [mu_0, mW_so, show upd M 0 0 1 = M 1 from rfl, h1, nI_add, nI_1, z1 i (by omega)]; try dsimp only [kx_wp, kx_step, kx_lI, kx_lL, kx_lA, kx_gl, kx_pI, kx_pL, kx_pR, kx_pA, kx_pV, kx_s1, kx_s2, kx_sl, kx_pre, kx_c2, kx_pl, kx_cmp, kx_oF, kx_eqN, kx_nil, kx_c1, kx_ft, kx_aI, kx_aL, kx_aR, kx_ln, Nat.reduceAdd, Option.toList, List.cons_append, List.nil_append, mW_o, mf_0, mf_1])
        all_goals (repeat' apply And.intro)
        all_goals ((try clear hB hC); first | exact True.intro | with_reducible rfl | with_reducible assumption | (with_reducible refine vp_in_nI ?_ ?_ <;> first | omega | decide) | exact Nat.le_of_ble_eq_true rfl | (with_reducible refine ck_nzI ?_; simp; done) | (with_reducible refine ck_nzL ?_; simp; done) | (simp only [pk_us, pk_uLs, zc51, ze51, ↓reduceIte, not_true_eq_false, not_false_eq_true]; done) | (simp only [zc51, ze51, ↓reduceIte, not_true_eq_false, not_false_eq_true]; with_reducible rfl) | skip)
      · intro zc51
        first | exact absurd rfl zc51 | exact absurd zc51 (by decide) | exact absurd (by decide) zc51 | (exfalso; first | exact absurd zc51 (by first | (simp only [nI_leI (show k < 2 ^ 31 by omega) (show i < 2 ^ 31 by omega)]; omega) | (simp only [nI_leI (show k < 2 ^ 31 by omega) (show i < 2 ^ 31 by omega), Decidable.not_not]; omega))) | (exfalso; simp_all; done)
    | succ n9 ih =>
      intro i hi
      refine hB bX11_wait_49 _ _ _ _ _ _ _ kX11_wait_49 ?_
      dsimp only [bX11_wait_49, kx_wp, kx_step, kx_lI, kx_lL, kx_lA, kx_gl, kx_pI, kx_pL, kx_pR, kx_pA, kx_pV, kx_s1, kx_s2, kx_sl, kx_pre, kx_c2, kx_pl, kx_cmp, kx_oF, kx_eqN, kx_nil, kx_c1, kx_ft, kx_aI, kx_aL, kx_aR, kx_ln, Nat.reduceAdd, Option.toList, List.cons_append, List.nil_append, mW_o, mf_0, mf_1]
      repeat (simp only [mu_0, mW_so, show upd M 0 0 1 = M 1 from rfl, h1, nI_add, nI_1, z1 i (by omega)]; try dsimp only [kx_wp, kx_step, kx_lI, kx_lL, kx_lA, kx_gl, kx_pI, kx_pL, kx_pR, kx_pA, kx_pV, kx_s1, kx_s2, kx_sl, kx_pre, kx_c2, kx_pl, kx_cmp, kx_oF, kx_eqN, kx_nil, kx_c1, kx_ft, kx_aI, kx_aL, kx_aR, kx_ln, Nat.reduceAdd, Option.toList, List.cons_append, List.nil_append, mW_o, mf_0, mf_1])
      repeat' apply And.intro
      all_goals try (first | with_reducible assumption | (with_reducible refine ck_nzI ?_; simp; done) | (with_reducible refine ck_nzL ?_; simp; done) | (with_reducible refine vp_in_nI ?_ ?_ <;> first | omega | decide) | (with_reducible refine Nat.le_of_ble_eq_true ?_; rfl) | omega)
      · intro zc51
        first | exact absurd rfl zc51 | exact absurd zc51 (by decide) | exact absurd (by decide) zc51 | (exfalso; first | exact absurd zc51 (by first | (simp only [nI_leI (show k < 2 ^ 31 by omega) (show i < 2 ^ 31 by omega)]; omega) | (simp only [nI_leI (show k < 2 ^ 31 by omega) (show i < 2 ^ 31 by omega), Decidable.not_not]; omega))) | (exfalso; simp_all; done)
      · intro zc51
        with_reducible first | have ze51 := Int32.not_le.mp zc51 | have ze51 := zc51
        refine hB bX11_wait_54 _ _ _ _ _ _ _ kX11_wait_54 ?_
        dsimp only [bX11_wait_54, kx_wp, kx_step, kx_lI, kx_lL, kx_lA, kx_gl, kx_pI, kx_pL, kx_pR, kx_pA, kx_pV, kx_s1, kx_s2, kx_sl, kx_pre, kx_c2, kx_pl, kx_cmp, kx_oF, kx_eqN, kx_nil, kx_c1, kx_ft, kx_aI, kx_aL, kx_aR, kx_ln, Nat.reduceAdd, Option.toList, List.cons_append, List.nil_append, mW_o, mf_0, mf_1]
        repeat (simp only [mu_0, mW_so, show upd M 0 0 1 = M 1 from rfl, h1, nI_add, nI_1, z1 i (by omega)]; try dsimp only [kx_wp, kx_step, kx_lI, kx_lL, kx_lA, kx_gl, kx_pI, kx_pL, kx_pR, kx_pA, kx_pV, kx_s1, kx_s2, kx_sl, kx_pre, kx_c2, kx_pl, kx_cmp, kx_oF, kx_eqN, kx_nil, kx_c1, kx_ft, kx_aI, kx_aL, kx_aR, kx_ln, Nat.reduceAdd, Option.toList, List.cons_append, List.nil_append, mW_o, mf_0, mf_1])
        repeat' apply And.intro
        all_goals try (first | with_reducible assumption | (with_reducible refine ck_nzI ?_; simp; done) | (with_reducible refine ck_nzL ?_; simp; done) | (with_reducible refine vp_in_nI ?_ ?_ <;> first | omega | decide) | (with_reducible refine Nat.le_of_ble_eq_true ?_; rfl) | omega)
        refine hC.1 432 _ _ _ _ _ _ _ 11 _ _ _ _ _ _ _ _ _ _ _ _ lX11_432 (ct_X11_minuteGoes l G (S := ck_mns (upd M 0 0, A, L) cl i) (mi := mi + i) (sd := sd + i * cl) (z21 i) hcl (z1 i (by omega)) (by omega) (zs i (by omega)) (zI i (by omega)).1) ⟨by decide, rfl⟩ (mW_o) rfl rfl (Nat.le_of_ble_eq_true rfl) (by decide) (by decide) (by omega) (by omega) dX11_wait_55 ?_
        dsimp only [ck_W]
        rw [ck_mns_s]
        refine hB bX11_wait_58 _ _ _ _ _ _ _ kX11_wait_58 ?_
        dsimp only [bX11_wait_58, kx_wp, kx_step, kx_lI, kx_lL, kx_lA, kx_gl, kx_pI, kx_pL, kx_pR, kx_pA, kx_pV, kx_s1, kx_s2, kx_sl, kx_pre, kx_c2, kx_pl, kx_cmp, kx_oF, kx_eqN, kx_nil, kx_c1, kx_ft, kx_aI, kx_aL, kx_aR, kx_ln, Nat.reduceAdd, Option.toList, List.cons_append, List.nil_append, mW_o, mf_0, mf_1]
        repeat (simp only [mu_0, mW_so, show upd M 0 0 1 = M 1 from rfl, h1, nI_add, nI_1, z1 i (by omega)]; try dsimp only [kx_wp, kx_step, kx_lI, kx_lL, kx_lA, kx_gl, kx_pI, kx_pL, kx_pR, kx_pA, kx_pV, kx_s1, kx_s2, kx_sl, kx_pre, kx_c2, kx_pl, kx_cmp, kx_oF, kx_eqN, kx_nil, kx_c1, kx_ft, kx_aI, kx_aL, kx_aR, kx_ln, Nat.reduceAdd, Option.toList, List.cons_append, List.nil_append, mW_o, mf_0, mf_1])
        repeat' apply And.intro
        all_goals try (first | with_reducible assumption | (with_reducible refine ck_nzI ?_; simp; done) | (with_reducible refine ck_nzL ?_; simp; done) | (with_reducible refine vp_in_nI ?_ ?_ <;> first | omega | decide) | (with_reducible refine Nat.le_of_ble_eq_true ?_; rfl) | omega)
        exact ih (i + 1) (by omega)
  refine hB bX11_wait_0 _ _ _ _ _ _ _ kX11_wait_0 ?_
  dsimp only [bX11_wait_0, kx_wp, kx_step, kx_lI, kx_lL, kx_lA, kx_gl, kx_pI, kx_pL, kx_pR, kx_pA, kx_pV, kx_s1, kx_s2, kx_sl, kx_pre, kx_c2, kx_pl, kx_cmp, kx_oF, kx_eqN, kx_nil, kx_c1, kx_ft, kx_aI, kx_aL, kx_aR, kx_ln, Nat.reduceAdd, Option.toList, List.cons_append, List.nil_append, mW_o, mf_0, mf_1]
  repeat (simp only [mu_0, mW_so, show upd M 0 0 1 = M 1 from rfl, h1, nI_add, nI_1]; try dsimp only [kx_wp, kx_step, kx_lI, kx_lL, kx_lA, kx_gl, kx_pI, kx_pL, kx_pR, kx_pA, kx_pV, kx_s1, kx_s2, kx_sl, kx_pre, kx_c2, kx_pl, kx_cmp, kx_oF, kx_eqN, kx_nil, kx_c1, kx_ft, kx_aI, kx_aL, kx_aR, kx_ln, Nat.reduceAdd, Option.toList, List.cons_append, List.nil_append, mW_o, mf_0, mf_1])
  repeat' apply And.intro
  all_goals try (first | with_reducible assumption | (with_reducible refine ck_nzI ?_; simp; done) | (with_reducible refine ck_nzL ?_; simp; done) | (with_reducible refine vp_in_nI ?_ ?_ <;> first | omega | decide) | (with_reducible refine Nat.le_of_ble_eq_true ?_; rfl) | omega)
  refine hC.2.1 167 _ _ _ _ _ _ _ _ _ _ _ _ _ _ _ _ _ lX11_167 (ct_X11_within l G) rfl rfl (Nat.le_of_ble_eq_true rfl) (by decide) (by decide) (by omega) (by omega) dX11_wait_11 ?_
  refine hB bX11_wait_14 _ _ _ _ _ _ _ kX11_wait_14 ?_
  dsimp only [bX11_wait_14, kx_wp, kx_step, kx_lI, kx_lL, kx_lA, kx_gl, kx_pI, kx_pL, kx_pR, kx_pA, kx_pV, kx_s1, kx_s2, kx_sl, kx_pre, kx_c2, kx_pl, kx_cmp, kx_oF, kx_eqN, kx_nil, kx_c1, kx_ft, kx_aI, kx_aL, kx_aR, kx_ln, Nat.reduceAdd, Option.toList, List.cons_append, List.nil_append, mW_o, mf_0, mf_1]
  repeat (simp only [mu_0, mW_so, show upd M 0 0 1 = M 1 from rfl, h1, nI_add, nI_1]; try dsimp only [kx_wp, kx_step, kx_lI, kx_lL, kx_lA, kx_gl, kx_pI, kx_pL, kx_pR, kx_pA, kx_pV, kx_s1, kx_s2, kx_sl, kx_pre, kx_c2, kx_pl, kx_cmp, kx_oF, kx_eqN, kx_nil, kx_c1, kx_ft, kx_aI, kx_aL, kx_aR, kx_ln, Nat.reduceAdd, Option.toList, List.cons_append, List.nil_append, mW_o, mf_0, mf_1])
  repeat' apply And.intro
  all_goals try (first | with_reducible assumption | (with_reducible refine ck_nzI ?_; simp; done) | (with_reducible refine ck_nzL ?_; simp; done) | (with_reducible refine vp_in_nI ?_ ?_ <;> first | omega | decide) | (with_reducible refine Nat.le_of_ble_eq_true ?_; rfl) | omega)
  rw [if_pos zm]
  refine hC.1 171 _ _ _ _ _ _ _ 11 _ _ _ _ _ _ _ _ _ _ _ _ lX11_171 (ct_X11_may_t l G (M := upd M 0 0) rfl) ⟨by decide, rfl⟩ (mW_o) rfl rfl (Nat.le_of_ble_eq_true rfl) (by decide) (by decide) (by omega) (by omega) dX11_wait_15 ?_
  refine hB bX11_wait_18 _ _ _ _ _ _ _ kX11_wait_18 ?_
  dsimp only [bX11_wait_18, kx_wp, kx_step, kx_lI, kx_lL, kx_lA, kx_gl, kx_pI, kx_pL, kx_pR, kx_pA, kx_pV, kx_s1, kx_s2, kx_sl, kx_pre, kx_c2, kx_pl, kx_cmp, kx_oF, kx_eqN, kx_nil, kx_c1, kx_ft, kx_aI, kx_aL, kx_aR, kx_ln, Nat.reduceAdd, Option.toList, List.cons_append, List.nil_append, mW_o, mf_0, mf_1]
  repeat (simp only [mu_0, mW_so, show upd M 0 0 1 = M 1 from rfl, h1, nI_add, nI_1]; try dsimp only [kx_wp, kx_step, kx_lI, kx_lL, kx_lA, kx_gl, kx_pI, kx_pL, kx_pR, kx_pA, kx_pV, kx_s1, kx_s2, kx_sl, kx_pre, kx_c2, kx_pl, kx_cmp, kx_oF, kx_eqN, kx_nil, kx_c1, kx_ft, kx_aI, kx_aL, kx_aR, kx_ln, Nat.reduceAdd, Option.toList, List.cons_append, List.nil_append, mW_o, mf_0, mf_1])
  repeat' apply And.intro
  all_goals try (first | with_reducible assumption | (with_reducible refine ck_nzI ?_; simp; done) | (with_reducible refine ck_nzL ?_; simp; done) | (with_reducible refine vp_in_nI ?_ ?_ <;> first | omega | decide) | (with_reducible refine Nat.le_of_ble_eq_true ?_; rfl) | omega)
  · intro zc18
    first | exact absurd rfl zc18 | exact absurd zc18 (by decide) | exact absurd (by decide) zc18 | (exfalso; first | exact absurd zc30 (by rw [show (100000 : Int32) = nI 100000 from rfl, nI_ltI (by omega) (by omega)]; omega)) | (exfalso; simp_all; done)
  · intro zc18
    have ze18 := zc18
    refine hB bX11_wait_21 _ _ _ _ _ _ _ kX11_wait_21 ?_
    dsimp only [bX11_wait_21, kx_wp, kx_step, kx_lI, kx_lL, kx_lA, kx_gl, kx_pI, kx_pL, kx_pR, kx_pA, kx_pV, kx_s1, kx_s2, kx_sl, kx_pre, kx_c2, kx_pl, kx_cmp, kx_oF, kx_eqN, kx_nil, kx_c1, kx_ft, kx_aI, kx_aL, kx_aR, kx_ln, Nat.reduceAdd, Option.toList, List.cons_append, List.nil_append, mW_o, mf_0, mf_1]
    repeat (simp only [mu_0, mW_so, show upd M 0 0 1 = M 1 from rfl, h1, nI_add, nI_1]; try dsimp only [kx_wp, kx_step, kx_lI, kx_lL, kx_lA, kx_gl, kx_pI, kx_pL, kx_pR, kx_pA, kx_pV, kx_s1, kx_s2, kx_sl, kx_pre, kx_c2, kx_pl, kx_cmp, kx_oF, kx_eqN, kx_nil, kx_c1, kx_ft, kx_aI, kx_aL, kx_aR, kx_ln, Nat.reduceAdd, Option.toList, List.cons_append, List.nil_append, mW_o, mf_0, mf_1])
    repeat' apply And.intro
    all_goals try (first | with_reducible assumption | (with_reducible refine ck_nzI ?_; simp; done) | (with_reducible refine ck_nzL ?_; simp; done) | (with_reducible refine vp_in_nI ?_ ?_ <;> first | omega | decide) | (with_reducible refine Nat.le_of_ble_eq_true ?_; rfl) | omega)
    · intro zc30
      first | exact absurd rfl zc30 | exact absurd zc30 (by decide) | exact absurd (by decide) zc30 | (exfalso; first | exact absurd zc30 (by rw [show (100000 : Int32) = nI 100000 from rfl, nI_ltI (by omega) (by omega)]; omega)) | (exfalso; simp_all; done)
    · intro zc30
      with_reducible first | have ze30 := Int32.not_lt.mp zc30 | have ze30 := zc30
      refine hB bX11_wait_33 _ _ _ _ _ _ _ kX11_wait_33 ?_
      dsimp only [bX11_wait_33, kx_wp, kx_step, kx_lI, kx_lL, kx_lA, kx_gl, kx_pI, kx_pL, kx_pR, kx_pA, kx_pV, kx_s1, kx_s2, kx_sl, kx_pre, kx_c2, kx_pl, kx_cmp, kx_oF, kx_eqN, kx_nil, kx_c1, kx_ft, kx_aI, kx_aL, kx_aR, kx_ln, Nat.reduceAdd, Option.toList, List.cons_append, List.nil_append, mW_o, mf_0, mf_1]
      repeat (simp only [mu_0, mW_so, show upd M 0 0 1 = M 1 from rfl, h1, nI_add, nI_1]; try dsimp only [kx_wp, kx_step, kx_lI, kx_lL, kx_lA, kx_gl, kx_pI, kx_pL, kx_pR, kx_pA, kx_pV, kx_s1, kx_s2, kx_sl, kx_pre, kx_c2, kx_pl, kx_cmp, kx_oF, kx_eqN, kx_nil, kx_c1, kx_ft, kx_aI, kx_aL, kx_aR, kx_ln, Nat.reduceAdd, Option.toList, List.cons_append, List.nil_append, mW_o, mf_0, mf_1])
      repeat' apply And.intro
      all_goals try (first | with_reducible assumption | (with_reducible refine ck_nzI ?_; simp; done) | (with_reducible refine ck_nzL ?_; simp; done) | (with_reducible refine vp_in_nI ?_ ?_ <;> first | omega | decide) | (with_reducible refine Nat.le_of_ble_eq_true ?_; rfl) | omega)
      refine hB bX11_wait_38 _ _ _ _ _ _ _ kX11_wait_38 ?_
      dsimp only [bX11_wait_38, kx_wp, kx_step, kx_lI, kx_lL, kx_lA, kx_gl, kx_pI, kx_pL, kx_pR, kx_pA, kx_pV, kx_s1, kx_s2, kx_sl, kx_pre, kx_c2, kx_pl, kx_cmp, kx_oF, kx_eqN, kx_nil, kx_c1, kx_ft, kx_aI, kx_aL, kx_aR, kx_ln, Nat.reduceAdd, Option.toList, List.cons_append, List.nil_append, mW_o, mf_0, mf_1]
      repeat (simp only [mu_0, mW_so, show upd M 0 0 1 = M 1 from rfl, h1, nI_add, nI_1]; try dsimp only [kx_wp, kx_step, kx_lI, kx_lL, kx_lA, kx_gl, kx_pI, kx_pL, kx_pR, kx_pA, kx_pV, kx_s1, kx_s2, kx_sl, kx_pre, kx_c2, kx_pl, kx_cmp, kx_oF, kx_eqN, kx_nil, kx_c1, kx_ft, kx_aI, kx_aL, kx_aR, kx_ln, Nat.reduceAdd, Option.toList, List.cons_append, List.nil_append, mW_o, mf_0, mf_1])
      repeat' apply And.intro
      all_goals try (first | with_reducible assumption | (with_reducible refine ck_nzI ?_; simp; done) | (with_reducible refine ck_nzL ?_; simp; done) | (with_reducible refine vp_in_nI ?_ ?_ <;> first | omega | decide) | (with_reducible refine Nat.le_of_ble_eq_true ?_; rfl) | omega)
      refine hC.1 171 _ _ _ _ _ _ _ 11 _ _ _ _ _ _ _ _ _ _ _ _ lX11_171 (ct_X11_may_t l G (M := upd M 0 0) rfl) ⟨by decide, rfl⟩ (mW_o) rfl rfl (Nat.le_of_ble_eq_true rfl) (by decide) (by decide) (by omega) (by omega) dX11_wait_39 ?_
      refine hB bX11_wait_42 _ _ _ _ _ _ _ kX11_wait_42 ?_
      dsimp only [bX11_wait_42, kx_wp, kx_step, kx_lI, kx_lL, kx_lA, kx_gl, kx_pI, kx_pL, kx_pR, kx_pA, kx_pV, kx_s1, kx_s2, kx_sl, kx_pre, kx_c2, kx_pl, kx_cmp, kx_oF, kx_eqN, kx_nil, kx_c1, kx_ft, kx_aI, kx_aL, kx_aR, kx_ln, Nat.reduceAdd, Option.toList, List.cons_append, List.nil_append, mW_o, mf_0, mf_1]
      repeat (simp only [mu_0, mW_so, show upd M 0 0 1 = M 1 from rfl, h1, nI_add, nI_1]; try dsimp only [kx_wp, kx_step, kx_lI, kx_lL, kx_lA, kx_gl, kx_pI, kx_pL, kx_pR, kx_pA, kx_pV, kx_s1, kx_s2, kx_sl, kx_pre, kx_c2, kx_pl, kx_cmp, kx_oF, kx_eqN, kx_nil, kx_c1, kx_ft, kx_aI, kx_aL, kx_aR, kx_ln, Nat.reduceAdd, Option.toList, List.cons_append, List.nil_append, mW_o, mf_0, mf_1])
      repeat' apply And.intro
      all_goals try (first | with_reducible assumption | (with_reducible refine ck_nzI ?_; simp; done) | (with_reducible refine ck_nzL ?_; simp; done) | (with_reducible refine vp_in_nI ?_ ?_ <;> first | omega | decide) | (with_reducible refine Nat.le_of_ble_eq_true ?_; rfl) | omega)
      · intro zc42
        have ze42 := zc42
        refine hB bX11_wait_47 _ _ _ _ _ _ _ kX11_wait_47 ?_
        dsimp only [bX11_wait_47, kx_wp, kx_step, kx_lI, kx_lL, kx_lA, kx_gl, kx_pI, kx_pL, kx_pR, kx_pA, kx_pV, kx_s1, kx_s2, kx_sl, kx_pre, kx_c2, kx_pl, kx_cmp, kx_oF, kx_eqN, kx_nil, kx_c1, kx_ft, kx_aI, kx_aL, kx_aR, kx_ln, Nat.reduceAdd, Option.toList, List.cons_append, List.nil_append, mW_o, mf_0, mf_1]
        repeat (simp only [mu_0, mW_so, show upd M 0 0 1 = M 1 from rfl, h1, nI_add, nI_1]; try dsimp only [kx_wp, kx_step, kx_lI, kx_lL, kx_lA, kx_gl, kx_pI, kx_pL, kx_pR, kx_pA, kx_pV, kx_s1, kx_s2, kx_sl, kx_pre, kx_c2, kx_pl, kx_cmp, kx_oF, kx_eqN, kx_nil, kx_c1, kx_ft, kx_aI, kx_aL, kx_aR, kx_ln, Nat.reduceAdd, Option.toList, List.cons_append, List.nil_append, mW_o, mf_0, mf_1])
        repeat' apply And.intro
        all_goals try (first | with_reducible assumption | (with_reducible refine ck_nzI ?_; simp; done) | (with_reducible refine ck_nzL ?_; simp; done) | (with_reducible refine vp_in_nI ?_ ?_ <;> first | omega | decide) | (with_reducible refine Nat.le_of_ble_eq_true ?_; rfl) | omega)
        exact loop49 k 0 (by omega)
      · intro zc42
        first | exact absurd rfl zc42 | exact absurd zc42 (by decide) | exact absurd (by decide) zc42 | (exfalso; first | exact absurd zc30 (by rw [show (100000 : Int32) = nI 100000 from rfl, nI_ltI (by omega) (by omega)]; omega)) | (exfalso; simp_all; done)

def bX11_isInStep_0 : List kx_O := [(.aload_n 0, 0, 0, 0, .null), (.getfield 83, 11, 39, 0, .null), (.iload_n 1, 1, 0, 0, .null), (.laload, 0, 0, 0, .null), (.ldc2_w 372, 0, 0, 0, .long (3600000000)), (.ldiv, 0, 0, 0, .null), (.l2i, 0, 0, 0, .null), (.iconst 1, 0, 0, 0, .int 1), (.iadd, 0, 0, 0, .null), (.istore_n 3, 3, 0, 0, .null), (.iconst 0, 0, 0, 0, .int 0), (.istore 4, 4, 0, 0, .null)]
theorem kX11_isInStep_0 : kx_oks kxL_X11 false cX11_isInStep 0 bX11_isInStep_0 = true := by decide +kernel
def bX11_isInStep_17 : List kx_O := [(.iload 4, 4, 0, 0, .null), (.bipush 24, 0, 0, 0, .int 24), (.if_icmp .ge 45, 66, 0, 0, .null)]
theorem kX11_isInStep_17 : kx_oks kxL_X11 false cX11_isInStep 17 bX11_isInStep_17 = true := by decide +kernel
def bX11_isInStep_24 : List kx_O := [(.aload_n 0, 0, 0, 0, .null), (.getfield 47, 11, 27, 0, .null), (.bipush 24, 0, 0, 0, .int 24), (.iload_n 1, 1, 0, 0, .null), (.imul, 0, 0, 0, .null), (.iload_n 2, 2, 0, 0, .null), (.iload 4, 4, 0, 0, .null), (.iadd, 0, 0, 0, .null), (.aload_n 0, 0, 0, 0, .null), (.getfield 44, 11, 26, 0, .null), (.iload_n 1, 1, 0, 0, .null), (.iaload, 0, 0, 0, .null), (.irem, 0, 0, 0, .null), (.iadd, 0, 0, 0, .null), (.iaload, 0, 0, 0, .null), (.iload_n 3, 3, 0, 0, .null), (.iload 4, 4, 0, 0, .null), (.iadd, 0, 0, 0, .null), (.bipush 24, 0, 0, 0, .int 24), (.irem, 0, 0, 0, .null)]
theorem kX11_isInStep_24 : kx_oks kxL_X11 false cX11_isInStep 24 bX11_isInStep_24 = true := by decide +kernel
def bX11_isInStep_55 : List kx_O := [(.if_icmp .eq 5, 60, 0, 0, .null)]
theorem kX11_isInStep_55 : kx_oks kxL_X11 false cX11_isInStep 55 bX11_isInStep_55 = true := by decide +kernel
def bX11_isInStep_58 : List kx_O := [(.iconst 0, 0, 0, 0, .int 0), (.ireturn, 0, 0, 0, .null)]
theorem kX11_isInStep_58 : kx_oks kxL_X11 false cX11_isInStep 58 bX11_isInStep_58 = true := by decide +kernel
def bX11_isInStep_60 : List kx_O := [(.iinc 4 1, 4, 0, 0, .int 1), (.goto (-46), 17, 0, 0, .null)]
theorem kX11_isInStep_60 : kx_oks kxL_X11 false cX11_isInStep 60 bX11_isInStep_60 = true := by decide +kernel
def bX11_isInStep_66 : List kx_O := [(.iconst 1, 0, 0, 0, .int 1), (.ireturn, 0, 0, 0, .null)]
theorem kX11_isInStep_66 : kx_oks kxL_X11 false cX11_isInStep 66 bX11_isInStep_66 = true := by decide +kernel
theorem dX11_isInStep_52 : decode cX11_isInStep 52 = .ok (.invokestatic 442, 3) := by decide +kernel
set_option maxRecDepth 100000 in
set_option maxHeartbeats 4000000 in
theorem ct_X11_isInStep (l : Launch) (G : kx_G) {M : Nat → Int32} {A : Nat → Nat → Int32} {L : Nat → Nat → Int64} {R : kx_P} {sz : Nat} {c : Nat} (hc : c < 8) {wm fr a : Nat} (h103 : A 103 c = nI wm) (hwm : 1 ≤ wm ∧ wm ≤ 24) (hfr : fr < 1000) (ha : L 116 c = lN a) (haW : a < 86400000000)  : kx_M l G sX11_isInStep 2 0 0 [.ref 93, .int (nI c), .int (nI fr)] (mW M A L R) sz (some (.int (ck_sx A c wm (a / 3600000000 + 1) fr 24 0))) (mW M A L R) sz := by
  have zq : lN a / 3600000000 = lN (a / 3600000000) := pk_lDiv (b := 3600000000) (by omega) (by decide) (by decide)
  have zw : ¬ nI wm = 0 := nI_ne0 (by omega) (by omega)
  have hrr := ck_sx_b A c wm (a / 3600000000 + 1) fr 24 0
  generalize hR : ck_sx A c wm (a / 3600000000 + 1) fr 24 0 = rr at hrr
  replace hR := hR.symm
  refine kx_mk kx_tab kxLok_X11 (ini := false) [some (.ref 93), some (.int (nI c)), some (.int (nI fr)), none, none] ⟨by decide, rfl, by decide, by decide⟩ (hrr.elim (fun z => Or.inl (by rw [z])) (fun z => Or.inr (by rw [z]))) rfl rfl (fun g hB hC => ?_)
  have loop17 : ∀ (n9 k : Nat), k + n9 = 24 → rr = ck_sx A c wm (a / 3600000000 + 1) fr n9 k → g 17 [some (.ref 93), some (.int (nI c)), some (.int (nI fr)), some (.int (nI (a / 3600000000 + 1))), some (.int (nI k))] [] (mW M A L R) sz 0 0 := by
    intro n9
    induction n9 with
    | zero =>
      intro k hk hE
      rw [ck_sx] at hE
      subst hE
      refine hB bX11_isInStep_17 _ _ _ _ _ _ _ kX11_isInStep_17 ?_
      dsimp only [bX11_isInStep_17, kx_wp, kx_step, kx_lI, kx_lL, kx_lA, kx_gl, kx_pI, kx_pL, kx_pR, kx_pA, kx_pV, kx_s1, kx_s2, kx_sl, kx_pre, kx_c2, kx_pl, kx_cmp, kx_oF, kx_eqN, kx_nil, kx_c1, kx_ft, kx_aI, kx_aL, kx_aR, kx_ln, Nat.reduceAdd, Option.toList, List.cons_append, List.nil_append, mW_o, mf_39, m_116, mf_27, m_104, mf_26, m_103]
      repeat (simp only [ms_116, ms_104, ms_103, nI_clamp (show c < 2 ^ 31 by omega), ha, h103, zq, lN_i, nI_1, ck_i24, nI_add, nI_clamp (show k < 2 ^ 31 by omega)]; try dsimp only [kx_wp, kx_step, kx_lI, kx_lL, kx_lA, kx_gl, kx_pI, kx_pL, kx_pR, kx_pA, kx_pV, kx_s1, kx_s2, kx_sl, kx_pre, kx_c2, kx_pl, kx_cmp, kx_oF, kx_eqN, kx_nil, kx_c1, kx_ft, kx_aI, kx_aL, kx_aR, kx_ln, Nat.reduceAdd, Option.toList, List.cons_append, List.nil_append, mW_o, mf_39, m_116, mf_27, m_104, mf_26, m_103])
      repeat' apply And.intro
      all_goals try (first | with_reducible assumption | (with_reducible refine ck_nzI ?_; simp; done) | (with_reducible refine ck_nzL ?_; simp; done) | (with_reducible refine vp_in_nI ?_ ?_ <;> first | omega | decide) | (with_reducible refine Nat.le_of_ble_eq_true ?_; rfl) | omega)
      · intro zc21
        with_reducible first | have ze21 := Int32.not_lt.mpr zc21 | have ze21 := zc21
        refine hB bX11_isInStep_66 _ _ _ _ _ _ _ kX11_isInStep_66 ?_
        dsimp only [bX11_isInStep_66, kx_wp, kx_step, kx_lI, kx_lL, kx_lA, kx_gl, kx_pI, kx_pL, kx_pR, kx_pA, kx_pV, kx_s1, kx_s2, kx_sl, kx_pre, kx_c2, kx_pl, kx_cmp, kx_oF, kx_eqN, kx_nil, kx_c1, kx_ft, kx_aI, kx_aL, kx_aR, kx_ln, Nat.reduceAdd, Option.toList, List.cons_append, List.nil_append, mW_o, mf_39, m_116, mf_27, m_104, mf_26, m_103]
        repeat (simp only [ms_116, ms_104, ms_103, nI_clamp (show c < 2 ^ 31 by omega), ha, h103, zq, lN_i, nI_1, ck_i24, nI_add, nI_clamp (show k < 2 ^ 31 by omega)]; try dsimp only [kx_wp, kx_step, kx_lI, kx_lL, kx_lA, kx_gl, kx_pI, kx_pL, kx_pR, kx_pA, kx_pV, kx_s1, kx_s2, kx_sl, kx_pre, kx_c2, kx_pl, kx_cmp, kx_oF, kx_eqN, kx_nil, kx_c1, kx_ft, kx_aI, kx_aL, kx_aR, kx_ln, Nat.reduceAdd, Option.toList, List.cons_append, List.nil_append, mW_o, mf_39, m_116, mf_27, m_104, mf_26, m_103])
        all_goals (repeat' apply And.intro)
        all_goals ((try clear hB hC); first | exact True.intro | with_reducible rfl | with_reducible assumption | (with_reducible refine vp_in_nI ?_ ?_ <;> first | omega | decide) | exact Nat.le_of_ble_eq_true rfl | (with_reducible refine ck_nzI ?_; simp; done) | (with_reducible refine ck_nzL ?_; simp; done) | (simp only [pk_us, pk_uLs, ck_sx, zc21, ze21, ↓reduceIte, not_true_eq_false, not_false_eq_true]; done) | (simp only [ck_sx, zc21, ze21, ↓reduceIte, not_true_eq_false, not_false_eq_true]; with_reducible rfl) | skip)
      · intro zc21
        first | exact absurd rfl zc21 | exact absurd zc21 (by decide) | exact absurd (by decide) zc21 | (exfalso; first | exact absurd zc21 (by first | (rw [show (24 : Int32) = nI 24 from rfl, nI_leI (by omega) (by omega)]; omega) | (rw [show (24 : Int32) = nI 24 from rfl, nI_leI (by omega) (by omega), Decidable.not_not]; omega))) | (exfalso; simp_all; done)
    | succ n9 ih =>
      intro k hk hE
      rw [ck_sx] at hE
      have zr1 : nI (fr + k) - nI (fr + k) / nI wm * nI wm = nI ((fr + k) % wm) := pk_rem (by omega) (by omega) (by omega)
      have zr2 : nI (a / 3600000000 + 1 + k) - nI (a / 3600000000 + 1 + k) / 24 * 24 = nI ((a / 3600000000 + 1 + k) % 24) := pk_rem (d := 24) (by omega) (by decide) (by decide)
      have zm := Nat.mod_lt (fr + k) (show 0 < wm by omega)
      refine hB bX11_isInStep_17 _ _ _ _ _ _ _ kX11_isInStep_17 ?_
      dsimp only [bX11_isInStep_17, kx_wp, kx_step, kx_lI, kx_lL, kx_lA, kx_gl, kx_pI, kx_pL, kx_pR, kx_pA, kx_pV, kx_s1, kx_s2, kx_sl, kx_pre, kx_c2, kx_pl, kx_cmp, kx_oF, kx_eqN, kx_nil, kx_c1, kx_ft, kx_aI, kx_aL, kx_aR, kx_ln, Nat.reduceAdd, Option.toList, List.cons_append, List.nil_append, mW_o, mf_39, m_116, mf_27, m_104, mf_26, m_103]
      repeat (simp only [ms_116, ms_104, ms_103, nI_clamp (show c < 2 ^ 31 by omega), ha, h103, zq, lN_i, nI_1, ck_i24, nI_add, nI_clamp (show 24 * c + (fr + k) % wm < 2 ^ 31 by omega), zr1, zr2]; try dsimp only [kx_wp, kx_step, kx_lI, kx_lL, kx_lA, kx_gl, kx_pI, kx_pL, kx_pR, kx_pA, kx_pV, kx_s1, kx_s2, kx_sl, kx_pre, kx_c2, kx_pl, kx_cmp, kx_oF, kx_eqN, kx_nil, kx_c1, kx_ft, kx_aI, kx_aL, kx_aR, kx_ln, Nat.reduceAdd, Option.toList, List.cons_append, List.nil_append, mW_o, mf_39, m_116, mf_27, m_104, mf_26, m_103])
      repeat' apply And.intro
      all_goals try (first | with_reducible assumption | (with_reducible refine ck_nzI ?_; simp; done) | (with_reducible refine ck_nzL ?_; simp; done) | (with_reducible refine vp_in_nI ?_ ?_ <;> first | omega | decide) | (with_reducible refine Nat.le_of_ble_eq_true ?_; rfl) | omega)
      · intro zc21
        first | exact absurd rfl zc21 | exact absurd zc21 (by decide) | exact absurd (by decide) zc21 | (exfalso; first | exact absurd zc21 (by first | (rw [show (24 : Int32) = nI 24 from rfl, nI_leI (by omega) (by omega)]; omega) | (rw [show (24 : Int32) = nI 24 from rfl, nI_leI (by omega) (by omega), Decidable.not_not]; omega))) | (exfalso; simp_all; done)
      · intro zc21
        with_reducible first | have ze21 := Int32.not_le.mp zc21 | have ze21 := zc21
        refine hB bX11_isInStep_24 _ _ _ _ _ _ _ kX11_isInStep_24 ?_
        dsimp only [bX11_isInStep_24, kx_wp, kx_step, kx_lI, kx_lL, kx_lA, kx_gl, kx_pI, kx_pL, kx_pR, kx_pA, kx_pV, kx_s1, kx_s2, kx_sl, kx_pre, kx_c2, kx_pl, kx_cmp, kx_oF, kx_eqN, kx_nil, kx_c1, kx_ft, kx_aI, kx_aL, kx_aR, kx_ln, Nat.reduceAdd, Option.toList, List.cons_append, List.nil_append, mW_o, mf_39, m_116, mf_27, m_104, mf_26, m_103]
        repeat (simp only [ms_116, ms_104, ms_103, nI_clamp (show c < 2 ^ 31 by omega), ha, h103, zq, lN_i, nI_1, ck_i24, nI_add, nI_clamp (show 24 * c + (fr + k) % wm < 2 ^ 31 by omega), zr1, zr2]; try dsimp only [kx_wp, kx_step, kx_lI, kx_lL, kx_lA, kx_gl, kx_pI, kx_pL, kx_pR, kx_pA, kx_pV, kx_s1, kx_s2, kx_sl, kx_pre, kx_c2, kx_pl, kx_cmp, kx_oF, kx_eqN, kx_nil, kx_c1, kx_ft, kx_aI, kx_aL, kx_aR, kx_ln, Nat.reduceAdd, Option.toList, List.cons_append, List.nil_append, mW_o, mf_39, m_116, mf_27, m_104, mf_26, m_103])
        repeat' apply And.intro
        all_goals try (first | with_reducible assumption | (with_reducible refine ck_nzI ?_; simp; done) | (with_reducible refine ck_nzL ?_; simp; done) | (with_reducible refine vp_in_nI ?_ ?_ <;> first | omega | decide) | (with_reducible refine Nat.le_of_ble_eq_true ?_; rfl) | omega)
        refine hC.2.1 442 _ _ _ _ _ _ _ _ _ _ _ _ _ _ _ _ _ lX11_442 (ct_X11_usual l G) rfl rfl (Nat.le_of_ble_eq_true rfl) (by decide) (by decide) (by omega) (by omega) dX11_isInStep_52 ?_
        refine hB bX11_isInStep_55 _ _ _ _ _ _ _ kX11_isInStep_55 ?_
        dsimp only [bX11_isInStep_55, kx_wp, kx_step, kx_lI, kx_lL, kx_lA, kx_gl, kx_pI, kx_pL, kx_pR, kx_pA, kx_pV, kx_s1, kx_s2, kx_sl, kx_pre, kx_c2, kx_pl, kx_cmp, kx_oF, kx_eqN, kx_nil, kx_c1, kx_ft, kx_aI, kx_aL, kx_aR, kx_ln, Nat.reduceAdd, Option.toList, List.cons_append, List.nil_append, mW_o, mf_39, m_116, mf_27, m_104, mf_26, m_103]
        repeat (simp only [ms_116, ms_104, ms_103, nI_clamp (show c < 2 ^ 31 by omega), ha, h103, zq, lN_i, nI_1, ck_i24, nI_add, nI_clamp (show 24 * c + (fr + k) % wm < 2 ^ 31 by omega), zr1, zr2]; try dsimp only [kx_wp, kx_step, kx_lI, kx_lL, kx_lA, kx_gl, kx_pI, kx_pL, kx_pR, kx_pA, kx_pV, kx_s1, kx_s2, kx_sl, kx_pre, kx_c2, kx_pl, kx_cmp, kx_oF, kx_eqN, kx_nil, kx_c1, kx_ft, kx_aI, kx_aL, kx_aR, kx_ln, Nat.reduceAdd, Option.toList, List.cons_append, List.nil_append, mW_o, mf_39, m_116, mf_27, m_104, mf_26, m_103])
        repeat' apply And.intro
        all_goals try (first | with_reducible assumption | (with_reducible refine ck_nzI ?_; simp; done) | (with_reducible refine ck_nzL ?_; simp; done) | (with_reducible refine vp_in_nI ?_ ?_ <;> first | omega | decide) | (with_reducible refine Nat.le_of_ble_eq_true ?_; rfl) | omega)
        · intro zc55
          have ze55 := zc55
          rw [if_pos ze55] at hE
          refine hB bX11_isInStep_60 _ _ _ _ _ _ _ kX11_isInStep_60 ?_
          dsimp only [bX11_isInStep_60, kx_wp, kx_step, kx_lI, kx_lL, kx_lA, kx_gl, kx_pI, kx_pL, kx_pR, kx_pA, kx_pV, kx_s1, kx_s2, kx_sl, kx_pre, kx_c2, kx_pl, kx_cmp, kx_oF, kx_eqN, kx_nil, kx_c1, kx_ft, kx_aI, kx_aL, kx_aR, kx_ln, Nat.reduceAdd, Option.toList, List.cons_append, List.nil_append]
          simp only [nI_1]
          exact ih (k + 1) (by omega) hE
        · intro zc55
          have ze55 := zc55
          rw [if_neg ze55] at hE
          subst hE
          refine hB bX11_isInStep_58 _ _ _ _ _ _ _ kX11_isInStep_58 ?_
          dsimp only [bX11_isInStep_58, kx_wp, kx_step, kx_lI, kx_lL, kx_lA, kx_gl, kx_pI, kx_pL, kx_pR, kx_pA, kx_pV, kx_s1, kx_s2, kx_sl, kx_pre, kx_c2, kx_pl, kx_cmp, kx_oF, kx_eqN, kx_nil, kx_c1, kx_ft, kx_aI, kx_aL, kx_aR, kx_ln, Nat.reduceAdd, Option.toList, List.cons_append, List.nil_append, mW_o, mf_39, m_116, mf_27, m_104, mf_26, m_103]
          repeat (simp only [ms_116, ms_104, ms_103, nI_clamp (show c < 2 ^ 31 by omega), ha, h103, zq, lN_i, nI_1, ck_i24, nI_add]; try dsimp only [kx_wp, kx_step, kx_lI, kx_lL, kx_lA, kx_gl, kx_pI, kx_pL, kx_pR, kx_pA, kx_pV, kx_s1, kx_s2, kx_sl, kx_pre, kx_c2, kx_pl, kx_cmp, kx_oF, kx_eqN, kx_nil, kx_c1, kx_ft, kx_aI, kx_aL, kx_aR, kx_ln, Nat.reduceAdd, Option.toList, List.cons_append, List.nil_append, mW_o, mf_39, m_116, mf_27, m_104, mf_26, m_103])
          all_goals (repeat' apply And.intro)
          all_goals ((try clear hB hC); first | exact True.intro | with_reducible rfl | with_reducible assumption | (with_reducible refine vp_in_nI ?_ ?_ <;> first | omega | decide) | exact Nat.le_of_ble_eq_true rfl | (with_reducible refine ck_nzI ?_; simp; done) | (with_reducible refine ck_nzL ?_; simp; done) | (simp only [pk_us, pk_uLs, ck_sx, ↓reduceIte, not_true_eq_false, not_false_eq_true]; done) | (simp only [ck_sx, ↓reduceIte, not_true_eq_false, not_false_eq_true]; with_reducible rfl) | skip)
          
  refine hB bX11_isInStep_0 _ _ _ _ _ _ _ kX11_isInStep_0 ?_
  dsimp only [bX11_isInStep_0, kx_wp, kx_step, kx_lI, kx_lL, kx_lA, kx_gl, kx_pI, kx_pL, kx_pR, kx_pA, kx_pV, kx_s1, kx_s2, kx_sl, kx_pre, kx_c2, kx_pl, kx_cmp, kx_oF, kx_eqN, kx_nil, kx_c1, kx_ft, kx_aI, kx_aL, kx_aR, kx_ln, Nat.reduceAdd, Option.toList, List.cons_append, List.nil_append, mW_o, mf_39, m_116, mf_27, m_104, mf_26, m_103]
  repeat (simp only [ms_116, ms_104, ms_103, nI_clamp (show c < 2 ^ 31 by omega), ha, h103, zq, lN_i, nI_1, ck_i24, nI_add]; try dsimp only [kx_wp, kx_step, kx_lI, kx_lL, kx_lA, kx_gl, kx_pI, kx_pL, kx_pR, kx_pA, kx_pV, kx_s1, kx_s2, kx_sl, kx_pre, kx_c2, kx_pl, kx_cmp, kx_oF, kx_eqN, kx_nil, kx_c1, kx_ft, kx_aI, kx_aL, kx_aR, kx_ln, Nat.reduceAdd, Option.toList, List.cons_append, List.nil_append, mW_o, mf_39, m_116, mf_27, m_104, mf_26, m_103])
  repeat' apply And.intro
  all_goals try (first | with_reducible assumption | (with_reducible refine ck_nzI ?_; simp; done) | (with_reducible refine ck_nzL ?_; simp; done) | (with_reducible refine vp_in_nI ?_ ?_ <;> first | omega | decide) | (with_reducible refine Nat.le_of_ble_eq_true ?_; rfl) | omega)
  exact loop17 24 0 (by omega) hR


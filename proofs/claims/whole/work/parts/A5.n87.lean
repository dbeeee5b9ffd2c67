/-! the class's reader of texts: its small steps -/
theorem kz_uu {f : Nat → Int32} {k : Nat} {x y : Int32} : upd (upd f k x) k y = upd f k y := by
  funext j
  unfold upd
  by_cases h : j = k
  · rw [if_pos h, if_pos h]
  · rw [if_neg h, if_neg h, if_neg h]
theorem kz_uc {f : Nat → Int32} {k i : Nat} {x y : Int32} (h : ¬ k = i) : upd (upd f k x) i y = upd (upd f i y) k x := by
  funext j
  unfold upd
  by_cases h1 : j = i
  · rw [if_pos h1, if_neg (fun q => h (q.symm.trans h1)), if_pos h1]
  · rw [if_neg h1]
    by_cases h2 : j = k
    · rw [if_pos h2, if_pos h2]
    · rw [if_neg h2, if_neg h2, if_neg h1]
theorem kz_ui {f : Nat → Int32} {k : Nat} {x : Int32} (h : f k = x) : upd f k x = f := by
  funext j
  unfold upd
  by_cases e : j = k
  · rw [if_pos e, e, h]
  · rw [if_neg e]
/-- what is next -/
def cx_nx (T : Nat → Int32) (n a : Nat) : Int32 := if a < n then T a else 0
def cx_rf (kd pl : Int32) (F : Nat → Int32) : Nat → Int32 := if F 4 = 0 then upd (upd F 4 kd) 5 pl else F
def cx_8 (P : kx_P) (x : Value) (F : Nat → Int32) : kx_P := kx_set P 68 (kO 8 (kf (cr8 (.ref 67) x) F))
theorem cx_8o {P : kx_P} {x : Value} {F : Nat → Int32} : cx_8 P x F 68 = kO 8 (kf (cr8 (.ref 67) x) F) := ks_eq _ _ _
theorem cx_8n {P : kx_P} {x : Value} {F : Nat → Int32} {n : Nat} (h : ¬ n = 68) : cx_8 P x F n = P n := ks_ne h
theorem cx_8s {P : kx_P} {x y : Value} {F F2 : Nat → Int32} : kx_set (cx_8 P x F) 68 (kO 8 (kf (cr8 (.ref 67) y) F2)) = cx_8 P y F2 := ks_ss _ _ _ _
theorem cx_8ss {P : kx_P} {x y : Value} {F F2 : Nat → Int32} : cx_8 (cx_8 P x F) y F2 = cx_8 P y F2 := ks_ss _ _ _ _
theorem cx_8i {P : kx_P} {x : Value} {F : Nat → Int32} (h : P 68 = kO 8 (kf (cr8 (.ref 67) x) F)) : cx_8 P x F = P := ks_id h
theorem cx_8w {P : kx_P} {x y : Value} {F F2 : Nat → Int32} (h : P 68 = kO 8 (kf (cr8 (.ref 67) x) F)) : kx_set P 68 (kO 8 (kf (cr8 (.ref 67) y) F2)) = cx_8 P y F2 := rfl
def bX8_refuse_0 : List kx_O := [(.aload_n 0, 0, 0, 0, .null), (.getfield 34, 8, 4, 0, .null), (.ifCond .ne 13, 17, 0, 0, .null)]
theorem kX8_refuse_0 : kx_oks kxL_X8 false cX8_refuse 0 bX8_refuse_0 = true := by decide +kernel
def bX8_refuse_7 : List kx_O := [(.aload_n 0, 0, 0, 0, .null), (.iload_n 1, 1, 0, 0, .null), (.putfield 34, 8, 4, 0, .null), (.aload_n 0, 0, 0, 0, .null), (.iload_n 2, 2, 0, 0, .null), (.putfield 9, 8, 5, 0, .null)]
theorem kX8_refuse_7 : kx_oks kxL_X8 false cX8_refuse 7 bX8_refuse_7 = true := by decide +kernel
def bX8_refuse_17 : List kx_O := [(.iconst 0, 0, 0, 0, .int 0), (.ireturn, 0, 0, 0, .null)]
theorem kX8_refuse_17 : kx_oks kxL_X8 false cX8_refuse 17 bX8_refuse_17 = true := by decide +kernel
set_option maxRecDepth 100000 in
set_option maxHeartbeats 4000000 in
theorem ct_X8_refuse (l : Launch) (G : kx_G) {P : kx_P} {sz : Nat} {F : Nat → Int32} {x : Value} {kd pl : Int32}  : kx_M l G sX8_refuse 1 0 0 [.ref 68, .int (kd), .int (pl)] (cx_8 P x F) sz (some (.int (0))) (cx_8 P x (cx_rf kd pl F)) sz := by
  refine kx_mk kx_tab kxLok_X8 (ini := false) [some (.ref 68), some (.int (kd)), some (.int (pl))] ⟨by decide, rfl, by decide, by decide⟩ (by first | exact Or.inl rfl | exact Or.inr rfl) rfl rfl (fun g hB hC => ?_)
  refine hB bX8_refuse_0 _ _ _ _ _ _ _ kX8_refuse_0 ?_
  dsimp only [bX8_refuse_0, kx_wp, kx_step, kx_lI, kx_lL, kx_lA, kx_gl, kx_pI, kx_pL, kx_pR, kx_pA, kx_pV, kx_s1, kx_s2, kx_sl, kx_pre, kx_c2, kx_pl, kx_cmp, kx_oF, kx_eqN, kx_nil, kx_c1, kx_ft, kx_aI, kx_aL, kx_aR, kx_ln, Nat.reduceAdd, Option.toList, List.cons_append, List.nil_append, cf8_4, cf8_5]
  repeat (simp only [pk_us, pk_un, kz_uu, ne_eq, Nat.reduceEqDiff, not_false_eq_true, nI_1, cx_8s, cx_8ss, cx_8o, cx_8n (show ¬ (67:Nat) = 68 by decide), cp8_4, cp8_5, ks_eq, ks_ss]; try dsimp only [kx_wp, kx_step, kx_lI, kx_lL, kx_lA, kx_gl, kx_pI, kx_pL, kx_pR, kx_pA, kx_pV, kx_s1, kx_s2, kx_sl, kx_pre, kx_c2, kx_pl, kx_cmp, kx_oF, kx_eqN, kx_nil, kx_c1, kx_ft, kx_aI, kx_aL, kx_aR, kx_ln, Nat.reduceAdd, Option.toList, List.cons_append, List.nil_append, cf8_4, cf8_5])
  repeat' apply And.intro
  all_goals try (first | with_reducible assumption | (with_reducible refine ck_nzI ?_; simp; done) | (with_reducible refine ck_nzL ?_; simp; done) | (with_reducible refine vp_in_nI ?_ ?_ <;> first | omega | decide) | (with_reducible refine Nat.le_of_ble_eq_true ?_; rfl) | omega | exact Or.inl trivial | exact Or.inr trivial | exact Or.inl rfl | exact Or.inr rfl)
  · intro zc4
    have ze4 := zc4
    refine hB bX8_refuse_17 _ _ _ _ _ _ _ kX8_refuse_17 ?_
    dsimp only [bX8_refuse_17, kx_wp, kx_step, kx_lI, kx_lL, kx_lA, kx_gl, kx_pI, kx_pL, kx_pR, kx_pA, kx_pV, kx_s1, kx_s2, kx_sl, kx_pre, kx_c2, kx_pl, kx_cmp, kx_oF, kx_eqN, kx_nil, kx_c1, kx_ft, kx_aI, kx_aL, kx_aR, kx_ln, Nat.reduceAdd, Option.toList, List.cons_append, List.nil_append, cf8_4, cf8_5]
    repeat (simp only [pk_us, pk_un, kz_uu, ne_eq, Nat.reduceEqDiff, not_false_eq_true, nI_1, cx_8s, cx_8ss, cx_8o, cx_8n (show ¬ (67:Nat) = 68 by decide), cp8_4, cp8_5, ks_eq, ks_ss]; try dsimp only [kx_wp, kx_step, kx_lI, kx_lL, kx_lA, kx_gl, kx_pI, kx_pL, kx_pR, kx_pA, kx_pV, kx_s1, kx_s2, kx_sl, kx_pre, kx_c2, kx_pl, kx_cmp, kx_oF, kx_eqN, kx_nil, kx_c1, kx_ft, kx_aI, kx_aL, kx_aR, kx_ln, Nat.reduceAdd, Option.toList, List.cons_append, List.nil_append, cf8_4, cf8_5])
    all_goals (repeat' apply And.intro)
    all_goals ((try clear hB hC); first | exact True.intro | rfl | (unfold cx_rf; simp only [ze4, ↓reduceIte, true_and, and_true, and_false, false_and, and_self, not_true_eq_false, not_false_eq_true]))
  · intro zc4
    with_reducible first | have ze4 := Decidable.not_not.mp zc4 | have ze4 := zc4
    refine hB bX8_refuse_7 _ _ _ _ _ _ _ kX8_refuse_7 ?_
    dsimp only [bX8_refuse_7, kx_wp, kx_step, kx_lI, kx_lL, kx_lA, kx_gl, kx_pI, kx_pL, kx_pR, kx_pA, kx_pV, kx_s1, kx_s2, kx_sl, kx_pre, kx_c2, kx_pl, kx_cmp, kx_oF, kx_eqN, kx_nil, kx_c1, kx_ft, kx_aI, kx_aL, kx_aR, kx_ln, Nat.reduceAdd, Option.toList, List.cons_append, List.nil_append, cf8_4, cf8_5]
    repeat (simp only [pk_us, pk_un, kz_uu, ne_eq, Nat.reduceEqDiff, not_false_eq_true, nI_1, cx_8s, cx_8ss, cx_8o, cx_8n (show ¬ (67:Nat) = 68 by decide), cp8_4, cp8_5, ks_eq, ks_ss]; try dsimp only [kx_wp, kx_step, kx_lI, kx_lL, kx_lA, kx_gl, kx_pI, kx_pL, kx_pR, kx_pA, kx_pV, kx_s1, kx_s2, kx_sl, kx_pre, kx_c2, kx_pl, kx_cmp, kx_oF, kx_eqN, kx_nil, kx_c1, kx_ft, kx_aI, kx_aL, kx_aR, kx_ln, Nat.reduceAdd, Option.toList, List.cons_append, List.nil_append, cf8_4, cf8_5])
    repeat' apply And.intro
    all_goals try (first | with_reducible assumption | (with_reducible refine ck_nzI ?_; simp; done) | (with_reducible refine ck_nzL ?_; simp; done) | (with_reducible refine vp_in_nI ?_ ?_ <;> first | omega | decide) | (with_reducible refine Nat.le_of_ble_eq_true ?_; rfl) | omega | exact Or.inl trivial | exact Or.inr trivial | exact Or.inl rfl | exact Or.inr rfl)
    refine hB bX8_refuse_17 _ _ _ _ _ _ _ kX8_refuse_17 ?_
    dsimp only [bX8_refuse_17, kx_wp, kx_step, kx_lI, kx_lL, kx_lA, kx_gl, kx_pI, kx_pL, kx_pR, kx_pA, kx_pV, kx_s1, kx_s2, kx_sl, kx_pre, kx_c2, kx_pl, kx_cmp, kx_oF, kx_eqN, kx_nil, kx_c1, kx_ft, kx_aI, kx_aL, kx_aR, kx_ln, Nat.reduceAdd, Option.toList, List.cons_append, List.nil_append, cf8_4, cf8_5]
    repeat (simp only [pk_us, pk_un, kz_uu, ne_eq, Nat.reduceEqDiff, not_false_eq_true, nI_1, cx_8s, cx_8ss, cx_8o, cx_8n (show ¬ (67:Nat) = 68 by decide), cp8_4, cp8_5, ks_eq, ks_ss]; try dsimp only [kx_wp, kx_step, kx_lI, kx_lL, kx_lA, kx_gl, kx_pI, kx_pL, kx_pR, kx_pA, kx_pV, kx_s1, kx_s2, kx_sl, kx_pre, kx_c2, kx_pl, kx_cmp, kx_oF, kx_eqN, kx_nil, kx_c1, kx_ft, kx_aI, kx_aL, kx_aR, kx_ln, Nat.reduceAdd, Option.toList, List.cons_append, List.nil_append, cf8_4, cf8_5])
    all_goals (repeat' apply And.intro)
    all_goals ((try clear hB hC); first | exact True.intro | rfl | (unfold cx_rf; simp only [eq_true ze4, ↓reduceIte, true_and, and_true, and_false, false_and, and_self, not_true_eq_false, not_false_eq_true]))

def bX8_skip_0 : List kx_O := [(.aload_n 0, 0, 0, 0, .null), (.dup, 0, 0, 0, .null), (.getfield 28, 8, 2, 0, .null), (.iload_n 1, 1, 0, 0, .null), (.iadd, 0, 0, 0, .null), (.putfield 28, 8, 2, 0, .null)]
theorem kX8_skip_0 : kx_oks kxL_X8 false cX8_skip 0 bX8_skip_0 = true := by decide +kernel
def bX8_skip_10 : List kx_O := [(.aload_n 0, 0, 0, 0, .null), (.getfield 28, 8, 2, 0, .null), (.aload_n 0, 0, 0, 0, .null), (.getfield 25, 8, 1, 0, .null), (.if_icmp .ge 30, 48, 0, 0, .null)]
theorem kX8_skip_10 : kx_oks kxL_X8 false cX8_skip 10 bX8_skip_10 = true := by decide +kernel
def bX8_skip_21 : List kx_O := [(.aload_n 0, 0, 0, 0, .null), (.getfield 15, 8, 0, 0, .null), (.aload_n 0, 0, 0, 0, .null), (.getfield 28, 8, 2, 0, .null), (.iaload, 0, 0, 0, .null), (.bipush 32, 0, 0, 0, .int 32), (.if_icmp .ne 16, 48, 0, 0, .null)]
theorem kX8_skip_21 : kx_oks kxL_X8 false cX8_skip 21 bX8_skip_21 = true := by decide +kernel
def bX8_skip_35 : List kx_O := [(.aload_n 0, 0, 0, 0, .null), (.dup, 0, 0, 0, .null), (.getfield 28, 8, 2, 0, .null), (.iconst 1, 0, 0, 0, .int 1), (.iadd, 0, 0, 0, .null), (.putfield 28, 8, 2, 0, .null), (.goto (-35), 10, 0, 0, .null)]
theorem kX8_skip_35 : kx_oks kxL_X8 false cX8_skip 35 bX8_skip_35 = true := by decide +kernel
def bX8_skip_48 : List kx_O := [(.return_, 0, 0, 0, .null)]
theorem kX8_skip_48 : kx_oks kxL_X8 false cX8_skip 48 bX8_skip_48 = true := by decide +kernel
set_option maxRecDepth 100000 in
set_option maxHeartbeats 4000000 in
theorem ct_X8_skip (l : Launch) (G : kx_G) {P : kx_P} {sz : Nat} {F T : Nat → Int32} {x : Value} (hT : P 67 = kI 0 400 T) {n a : Nat} (h1 : F 1 = nI n) (hn : n ≤ 400) {v : Int32} (h2 : F 2 + v = nI a) (ha : a ≤ n)  : kx_M l G sX8_skip 1 0 0 [.ref 68, .int (v)] (cx_8 P x F) sz none (cx_8 P x (upd (F) 2 (nI (ck_sk T n a)))) sz := by
  refine kx_mk kx_tab kxLok_X8 (ini := false) [some (.ref 68), some (.int (v))] ⟨by decide, rfl, by decide, by decide⟩ (rfl) rfl rfl (fun g hB hC => ?_)
  have loop10 : ∀ (n9 : Nat) (b : Nat), b + n9 = n → ck_skf T n9 b = ck_sk T n a → g 10 [some (.ref 68), some (.int v)] [] (cx_8 P x (upd F 2 (nI b))) sz 0 0 := by
    intro n9
    induction n9 with
    | zero =>
      intro b hb he
      refine hB bX8_skip_10 _ _ _ _ _ _ _ kX8_skip_10 ?_
      dsimp only [bX8_skip_10, kx_wp, kx_step, kx_lI, kx_lL, kx_lA, kx_gl, kx_pI, kx_pL, kx_pR, kx_pA, kx_pV, kx_s1, kx_s2, kx_sl, kx_pre, kx_c2, kx_pl, kx_cmp, kx_oF, kx_eqN, kx_nil, kx_c1, kx_ft, kx_aI, kx_aL, kx_aR, kx_ln, Nat.reduceAdd, Option.toList, List.cons_append, List.nil_append, cf8_2, cf8_1, cf8_0]
      repeat (simp only [pk_us, pk_un, kz_uu, ne_eq, Nat.reduceEqDiff, not_false_eq_true, nI_1, cx_8s, cx_8ss, cx_8o, cx_8n (show ¬ (67:Nat) = 68 by decide), h1, hT, cp8_2, ks_eq, ks_ss, nI_clamp (show b < 2 ^ 31 by omega)]; try dsimp only [kx_wp, kx_step, kx_lI, kx_lL, kx_lA, kx_gl, kx_pI, kx_pL, kx_pR, kx_pA, kx_pV, kx_s1, kx_s2, kx_sl, kx_pre, kx_c2, kx_pl, kx_cmp, kx_oF, kx_eqN, kx_nil, kx_c1, kx_ft, kx_aI, kx_aL, kx_aR, kx_ln, Nat.reduceAdd, Option.toList, List.cons_append, List.nil_append, cf8_2, cf8_1, cf8_0])
      repeat' apply And.intro
      all_goals try (first | with_reducible assumption | (with_reducible refine ck_nzI ?_; simp; done) | (with_reducible refine ck_nzL ?_; simp; done) | (with_reducible refine vp_in_nI ?_ ?_ <;> first | omega | decide) | (with_reducible refine Nat.le_of_ble_eq_true ?_; rfl) | omega | exact Or.inl trivial | exact Or.inr trivial | exact Or.inl rfl | exact Or.inr rfl)
      · intro zc18
        with_reducible first | have ze18 := Int32.not_lt.mpr zc18 | have ze18 := zc18
        refine hB bX8_skip_48 _ _ _ _ _ _ _ kX8_skip_48 ?_
        dsimp only [bX8_skip_48, kx_wp, kx_step, kx_lI, kx_lL, kx_lA, kx_gl, kx_pI, kx_pL, kx_pR, kx_pA, kx_pV, kx_s1, kx_s2, kx_sl, kx_pre, kx_c2, kx_pl, kx_cmp, kx_oF, kx_eqN, kx_nil, kx_c1, kx_ft, kx_aI, kx_aL, kx_aR, kx_ln, Nat.reduceAdd, Option.toList, List.cons_append, List.nil_append, cf8_2, cf8_1, cf8_0]
        repeat (simp only [pk_us, pk_un, kz_uu, ne_eq, Nat.reduceEqDiff, not_false_eq_true, nI_1, cx_8s, cx_8ss, cx_8o, cx_8n (show ¬ (67:Nat) = 68 by decide), h1, hT, cp8_2, ks_eq, ks_ss, nI_clamp (show b < 2 ^ 31 by omega)]; try dsimp only [kx_wp, kx_step, kx_lI, kx_lL, kx_lA, kx_gl, kx_pI, kx_pL, kx_pR, kx_pA, kx_pV, kx_s1, kx_s2, kx_sl, kx_pre, kx_c2, kx_pl, kx_cmp, kx_oF, kx_eqN, kx_nil, kx_c1, kx_ft, kx_aI, kx_aL, kx_aR, kx_ln, Nat.reduceAdd, Option.toList, List.cons_append, List.nil_append, cf8_2, cf8_1, cf8_0])
        all_goals (repeat' apply And.intro)
        all_goals first | exact True.intro | rfl | (have zq : b = ck_sk T n a := (by first | exact he | (rw [if_neg ze32] at he2; exact he2)); rw [zq])
      · intro zc18
        first | exact absurd rfl zc18 | exact absurd zc18 (by decide) | exact absurd (by decide) zc18 | (exfalso; first | exact absurd ((nI_leI (a := n) (b := b) (by omega) (by omega)).mp zc18) (by omega) | exact absurd ((nI_leI (a := n) (b := b) (by omega) (by omega)).mpr (by omega)) zc18) | (exfalso; simp_all; done)
    | succ n9 ih =>
      intro b hb he
      have he2 : (if T b = 32 then ck_skf T n9 (b + 1) else b) = ck_sk T n a := he
      refine hB bX8_skip_10 _ _ _ _ _ _ _ kX8_skip_10 ?_
      dsimp only [bX8_skip_10, kx_wp, kx_step, kx_lI, kx_lL, kx_lA, kx_gl, kx_pI, kx_pL, kx_pR, kx_pA, kx_pV, kx_s1, kx_s2, kx_sl, kx_pre, kx_c2, kx_pl, kx_cmp, kx_oF, kx_eqN, kx_nil, kx_c1, kx_ft, kx_aI, kx_aL, kx_aR, kx_ln, Nat.reduceAdd, Option.toList, List.cons_append, List.nil_append, cf8_2, cf8_1, cf8_0]
      repeat (simp only [pk_us, pk_un, kz_uu, ne_eq, Nat.reduceEqDiff, not_false_eq_true, nI_1, cx_8s, cx_8ss, cx_8o, cx_8n (show ¬ (67:Nat) = 68 by decide), h1, hT, cp8_2, ks_eq, ks_ss, nI_clamp (show b < 2 ^ 31 by omega)]; try dsimp only [kx_wp, kx_step, kx_lI, kx_lL, kx_lA, kx_gl, kx_pI, kx_pL, kx_pR, kx_pA, kx_pV, kx_s1, kx_s2, kx_sl, kx_pre, kx_c2, kx_pl, kx_cmp, kx_oF, kx_eqN, kx_nil, kx_c1, kx_ft, kx_aI, kx_aL, kx_aR, kx_ln, Nat.reduceAdd, Option.toList, List.cons_append, List.nil_append, cf8_2, cf8_1, cf8_0])
      repeat' apply And.intro
      all_goals try (first | with_reducible assumption | (with_reducible refine ck_nzI ?_; simp; done) | (with_reducible refine ck_nzL ?_; simp; done) | (with_reducible refine vp_in_nI ?_ ?_ <;> first | omega | decide) | (with_reducible refine Nat.le_of_ble_eq_true ?_; rfl) | omega | exact Or.inl trivial | exact Or.inr trivial | exact Or.inl rfl | exact Or.inr rfl)
      · intro zc18
        first | exact absurd rfl zc18 | exact absurd zc18 (by decide) | exact absurd (by decide) zc18 | (exfalso; first | exact absurd ((nI_leI (a := n) (b := b) (by omega) (by omega)).mp zc18) (by omega) | exact absurd ((nI_leI (a := n) (b := b) (by omega) (by omega)).mpr (by omega)) zc18) | (exfalso; simp_all; done)
      · intro zc18
        with_reducible first | have ze18 := Int32.not_le.mp zc18 | have ze18 := zc18
        refine hB bX8_skip_21 _ _ _ _ _ _ _ kX8_skip_21 ?_
        dsimp only [bX8_skip_21, kx_wp, kx_step, kx_lI, kx_lL, kx_lA, kx_gl, kx_pI, kx_pL, kx_pR, kx_pA, kx_pV, kx_s1, kx_s2, kx_sl, kx_pre, kx_c2, kx_pl, kx_cmp, kx_oF, kx_eqN, kx_nil, kx_c1, kx_ft, kx_aI, kx_aL, kx_aR, kx_ln, Nat.reduceAdd, Option.toList, List.cons_append, List.nil_append, cf8_2, cf8_1, cf8_0]
        repeat (simp only [pk_us, pk_un, kz_uu, ne_eq, Nat.reduceEqDiff, not_false_eq_true, nI_1, cx_8s, cx_8ss, cx_8o, cx_8n (show ¬ (67:Nat) = 68 by decide), h1, hT, cp8_2, ks_eq, ks_ss, nI_clamp (show b < 2 ^ 31 by omega)]; try dsimp only [kx_wp, kx_step, kx_lI, kx_lL, kx_lA, kx_gl, kx_pI, kx_pL, kx_pR, kx_pA, kx_pV, kx_s1, kx_s2, kx_sl, kx_pre, kx_c2, kx_pl, kx_cmp, kx_oF, kx_eqN, kx_nil, kx_c1, kx_ft, kx_aI, kx_aL, kx_aR, kx_ln, Nat.reduceAdd, Option.toList, List.cons_append, List.nil_append, cf8_2, cf8_1, cf8_0])
        repeat' apply And.intro
        all_goals try (first | with_reducible assumption | (with_reducible refine ck_nzI ?_; simp; done) | (with_reducible refine ck_nzL ?_; simp; done) | (with_reducible refine vp_in_nI ?_ ?_ <;> first | omega | decide) | (with_reducible refine Nat.le_of_ble_eq_true ?_; rfl) | omega | exact Or.inl trivial | exact Or.inr trivial | exact Or.inl rfl | exact Or.inr rfl)
        · intro zc32
          have ze32 := zc32
          refine hB bX8_skip_48 _ _ _ _ _ _ _ kX8_skip_48 ?_
          dsimp only [bX8_skip_48, kx_wp, kx_step, kx_lI, kx_lL, kx_lA, kx_gl, kx_pI, kx_pL, kx_pR, kx_pA, kx_pV, kx_s1, kx_s2, kx_sl, kx_pre, kx_c2, kx_pl, kx_cmp, kx_oF, kx_eqN, kx_nil, kx_c1, kx_ft, kx_aI, kx_aL, kx_aR, kx_ln, Nat.reduceAdd, Option.toList, List.cons_append, List.nil_append, cf8_2, cf8_1, cf8_0]
          repeat (simp only [pk_us, pk_un, kz_uu, ne_eq, Nat.reduceEqDiff, not_false_eq_true, nI_1, cx_8s, cx_8ss, cx_8o, cx_8n (show ¬ (67:Nat) = 68 by decide), h1, hT, cp8_2, ks_eq, ks_ss, nI_clamp (show b < 2 ^ 31 by omega)]; try dsimp only [kx_wp, kx_step, kx_lI, kx_lL, kx_lA, kx_gl, kx_pI, kx_pL, kx_pR, kx_pA, kx_pV, kx_s1, kx_s2, kx_sl, kx_pre, kx_c2, kx_pl, kx_cmp, kx_oF, kx_eqN, kx_nil, kx_c1, kx_ft, kx_aI, kx_aL, kx_aR, kx_ln, Nat.reduceAdd, Option.toList, List.cons_append, List.nil_append, cf8_2, cf8_1, cf8_0])
          all_goals (repeat' apply And.intro)
          all_goals first | exact True.intro | rfl | (have zq : b = ck_sk T n a := (by first | exact he | (rw [if_neg ze32] at he2; exact he2)); rw [zq])
        · intro zc32
          with_reducible first | have ze32 := Decidable.not_not.mp zc32 | have ze32 := zc32
          refine hB bX8_skip_35 _ _ _ _ _ _ _ kX8_skip_35 ?_
          dsimp only [bX8_skip_35, kx_wp, kx_step, kx_lI, kx_lL, kx_lA, kx_gl, kx_pI, kx_pL, kx_pR, kx_pA, kx_pV, kx_s1, kx_s2, kx_sl, kx_pre, kx_c2, kx_pl, kx_cmp, kx_oF, kx_eqN, kx_nil, kx_c1, kx_ft, kx_aI, kx_aL, kx_aR, kx_ln, Nat.reduceAdd, Option.toList, List.cons_append, List.nil_append, cf8_2, cf8_1, cf8_0]
          repeat (simp only [pk_us, pk_un, kz_uu, ne_eq, Nat.reduceEqDiff, not_false_eq_true, nI_1, cx_8s, cx_8ss, cx_8o, cx_8n (show ¬ (67:Nat) = 68 by decide), h1, hT, cp8_2, ks_eq, ks_ss, nI_clamp (show b < 2 ^ 31 by omega)]; try dsimp only [kx_wp, kx_step, kx_lI, kx_lL, kx_lA, kx_gl, kx_pI, kx_pL, kx_pR, kx_pA, kx_pV, kx_s1, kx_s2, kx_sl, kx_pre, kx_c2, kx_pl, kx_cmp, kx_oF, kx_eqN, kx_nil, kx_c1, kx_ft, kx_aI, kx_aL, kx_aR, kx_ln, Nat.reduceAdd, Option.toList, List.cons_append, List.nil_append, cf8_2, cf8_1, cf8_0])
          repeat' apply And.intro
          all_goals try (first | with_reducible assumption | (with_reducible refine ck_nzI ?_; simp; done) | (with_reducible refine ck_nzL ?_; simp; done) | (with_reducible refine vp_in_nI ?_ ?_ <;> first | omega | decide) | (with_reducible refine Nat.le_of_ble_eq_true ?_; rfl) | omega | exact Or.inl trivial | exact Or.inr trivial | exact Or.inl rfl | exact Or.inr rfl)
          rw [if_pos ze32] at he2
          exact ih (b + 1) (by omega) he2
  refine hB bX8_skip_0 _ _ _ _ _ _ _ kX8_skip_0 ?_
  dsimp only [bX8_skip_0, kx_wp, kx_step, kx_lI, kx_lL, kx_lA, kx_gl, kx_pI, kx_pL, kx_pR, kx_pA, kx_pV, kx_s1, kx_s2, kx_sl, kx_pre, kx_c2, kx_pl, kx_cmp, kx_oF, kx_eqN, kx_nil, kx_c1, kx_ft, kx_aI, kx_aL, kx_aR, kx_ln, Nat.reduceAdd, Option.toList, List.cons_append, List.nil_append, cf8_2, cf8_1, cf8_0]
  repeat (simp only [pk_us, pk_un, kz_uu, ne_eq, Nat.reduceEqDiff, not_false_eq_true, nI_1, cx_8s, cx_8ss, cx_8o, cx_8n (show ¬ (67:Nat) = 68 by decide), h1, hT, cp8_2, ks_eq, ks_ss, h2]; try dsimp only [kx_wp, kx_step, kx_lI, kx_lL, kx_lA, kx_gl, kx_pI, kx_pL, kx_pR, kx_pA, kx_pV, kx_s1, kx_s2, kx_sl, kx_pre, kx_c2, kx_pl, kx_cmp, kx_oF, kx_eqN, kx_nil, kx_c1, kx_ft, kx_aI, kx_aL, kx_aR, kx_ln, Nat.reduceAdd, Option.toList, List.cons_append, List.nil_append, cf8_2, cf8_1, cf8_0])
  repeat' apply And.intro
  all_goals try (first | with_reducible assumption | (with_reducible refine ck_nzI ?_; simp; done) | (with_reducible refine ck_nzL ?_; simp; done) | (with_reducible refine vp_in_nI ?_ ?_ <;> first | omega | decide) | (with_reducible refine Nat.le_of_ble_eq_true ?_; rfl) | omega | exact Or.inl trivial | exact Or.inr trivial | exact Or.inl rfl | exact Or.inr rfl)
  exact loop10 (n - a) a (by omega) rfl

theorem ct_X8_skip0 (l : Launch) (G : kx_G) {P : kx_P} {sz : Nat} {F T : Nat → Int32} {x : Value} (hT : P 67 = kI 0 400 T) {n a : Nat} (h1 : F 1 = nI n) (hn : n ≤ 400) (h2 : F 2 = nI a) (ha : a ≤ n) : kx_M l G sX8_skip 1 0 0 [.ref 68, .int 0] (cx_8 P x F) sz none (cx_8 P x (upd F 2 (nI (ck_sk T n a)))) sz :=
  ct_X8_skip l G hT h1 hn ((Int32.add_zero _).trans h2) ha
theorem ct_X8_skip1 (l : Launch) (G : kx_G) {P : kx_P} {sz : Nat} {F T : Nat → Int32} {x : Value} (hT : P 67 = kI 0 400 T) {n a : Nat} (h1 : F 1 = nI n) (hn : n ≤ 400) (h2 : F 2 = nI a) (ha : a < n) : kx_M l G sX8_skip 1 0 0 [.ref 68, .int 1] (cx_8 P x F) sz none (cx_8 P x (upd F 2 (nI (ck_sk T n (a + 1))))) sz :=
  ct_X8_skip l G hT h1 hn ((congrArg (fun z => z + 1) h2).trans (nI_1 _)) ha
theorem kz_rb (p : Prop) [Decidable p] : kx_rok (some .boolean) (some (.int (if p then 1 else 0))) := by
  by_cases h : p
  · rw [if_pos h]; exact Or.inr rfl
  · rw [if_neg h]; exact Or.inl rfl
def bX8_nextIs_0 : List kx_O := [(.aload_n 0, 0, 0, 0, .null), (.getfield 28, 8, 2, 0, .null), (.aload_n 0, 0, 0, 0, .null), (.getfield 25, 8, 1, 0, .null), (.if_icmp .ge 20, 28, 0, 0, .null)]
theorem kX8_nextIs_0 : kx_oks kxL_X8 false cX8_nextIs 0 bX8_nextIs_0 = true := by decide +kernel
def bX8_nextIs_11 : List kx_O := [(.aload_n 0, 0, 0, 0, .null), (.getfield 15, 8, 0, 0, .null), (.aload_n 0, 0, 0, 0, .null), (.getfield 28, 8, 2, 0, .null), (.iaload, 0, 0, 0, .null), (.iload_n 1, 1, 0, 0, .null), (.if_icmp .ne 7, 28, 0, 0, .null)]
theorem kX8_nextIs_11 : kx_oks kxL_X8 false cX8_nextIs 11 bX8_nextIs_11 = true := by decide +kernel
def bX8_nextIs_24 : List kx_O := [(.iconst 1, 0, 0, 0, .int 1), (.goto 4, 29, 0, 0, .null)]
theorem kX8_nextIs_24 : kx_oks kxL_X8 false cX8_nextIs 24 bX8_nextIs_24 = true := by decide +kernel
def bX8_nextIs_28 : List kx_O := [(.iconst 0, 0, 0, 0, .int 0)]
theorem kX8_nextIs_28 : kx_oks kxL_X8 false cX8_nextIs 28 bX8_nextIs_28 = true := by decide +kernel
def bX8_nextIs_29 : List kx_O := [(.ireturn, 0, 0, 0, .null)]
theorem kX8_nextIs_29 : kx_oks kxL_X8 false cX8_nextIs 29 bX8_nextIs_29 = true := by decide +kernel
set_option maxRecDepth 100000 in
set_option maxHeartbeats 4000000 in
theorem ct_X8_nextIs (l : Launch) (G : kx_G) {P : kx_P} {sz : Nat} {F T : Nat → Int32} {x : Value} (hT : P 67 = kI 0 400 T) {n a : Nat} (h1 : F 1 = nI n) (hn : n ≤ 400) (h2 : F 2 = nI a) (ha : a ≤ n) {ch : Int32} (hch : ¬ ch = 0)  : kx_M l G sX8_nextIs 1 0 0 [.ref 68, .int (ch)] (cx_8 P x F) sz (some (.int (if cx_nx T n a = ch then 1 else 0))) (cx_8 P x F) sz := by
  refine kx_mk kx_tab kxLok_X8 (ini := false) [some (.ref 68), some (.int (ch))] ⟨by decide, rfl, by decide, by decide⟩ (kz_rb _) rfl rfl (fun g hB hC => ?_)
  refine hB bX8_nextIs_0 _ _ _ _ _ _ _ kX8_nextIs_0 ?_
  dsimp only [bX8_nextIs_0, kx_wp, kx_step, kx_lI, kx_lL, kx_lA, kx_gl, kx_pI, kx_pL, kx_pR, kx_pA, kx_pV, kx_s1, kx_s2, kx_sl, kx_pre, kx_c2, kx_pl, kx_cmp, kx_oF, kx_eqN, kx_nil, kx_c1, kx_ft, kx_aI, kx_aL, kx_aR, kx_ln, Nat.reduceAdd, Option.toList, List.cons_append, List.nil_append, cf8_2, cf8_1, cf8_0]
  repeat (simp only [pk_us, pk_un, kz_uu, ne_eq, Nat.reduceEqDiff, not_false_eq_true, nI_1, cx_8s, cx_8ss, cx_8o, cx_8n (show ¬ (67:Nat) = 68 by decide), h1, h2, hT, nI_clamp (show a < 2 ^ 31 by omega), ks_eq, ks_ss]; try dsimp only [kx_wp, kx_step, kx_lI, kx_lL, kx_lA, kx_gl, kx_pI, kx_pL, kx_pR, kx_pA, kx_pV, kx_s1, kx_s2, kx_sl, kx_pre, kx_c2, kx_pl, kx_cmp, kx_oF, kx_eqN, kx_nil, kx_c1, kx_ft, kx_aI, kx_aL, kx_aR, kx_ln, Nat.reduceAdd, Option.toList, List.cons_append, List.nil_append, cf8_2, cf8_1, cf8_0])
  repeat' apply And.intro
  all_goals try (first | with_reducible assumption | (with_reducible refine ck_nzI ?_; simp; done) | (with_reducible refine ck_nzL ?_; simp; done) | (with_reducible refine vp_in_nI ?_ ?_ <;> first | omega | decide) | (with_reducible refine Nat.le_of_ble_eq_true ?_; rfl) | omega | exact Or.inl trivial | exact Or.inr trivial | exact Or.inl rfl | exact Or.inr rfl)
  · intro zc8
    with_reducible first | have ze8 := Int32.not_lt.mpr zc8 | have ze8 := zc8
    refine hB bX8_nextIs_28 _ _ _ _ _ _ _ kX8_nextIs_28 ?_
    dsimp only [bX8_nextIs_28, kx_wp, kx_step, kx_lI, kx_lL, kx_lA, kx_gl, kx_pI, kx_pL, kx_pR, kx_pA, kx_pV, kx_s1, kx_s2, kx_sl, kx_pre, kx_c2, kx_pl, kx_cmp, kx_oF, kx_eqN, kx_nil, kx_c1, kx_ft, kx_aI, kx_aL, kx_aR, kx_ln, Nat.reduceAdd, Option.toList, List.cons_append, List.nil_append, cf8_2, cf8_1, cf8_0]
    repeat (simp only [pk_us, pk_un, kz_uu, ne_eq, Nat.reduceEqDiff, not_false_eq_true, nI_1, cx_8s, cx_8ss, cx_8o, cx_8n (show ¬ (67:Nat) = 68 by decide), h1, h2, hT, nI_clamp (show a < 2 ^ 31 by omega), ks_eq, ks_ss]; try dsimp only [kx_wp, kx_step, kx_lI, kx_lL, kx_lA, kx_gl, kx_pI, kx_pL, kx_pR, kx_pA, kx_pV, kx_s1, kx_s2, kx_sl, kx_pre, kx_c2, kx_pl, kx_cmp, kx_oF, kx_eqN, kx_nil, kx_c1, kx_ft, kx_aI, kx_aL, kx_aR, kx_ln, Nat.reduceAdd, Option.toList, List.cons_append, List.nil_append, cf8_2, cf8_1, cf8_0])
    repeat' apply And.intro
    all_goals try (first | with_reducible assumption | (with_reducible refine ck_nzI ?_; simp; done) | (with_reducible refine ck_nzL ?_; simp; done) | (with_reducible refine vp_in_nI ?_ ?_ <;> first | omega | decide) | (with_reducible refine Nat.le_of_ble_eq_true ?_; rfl) | omega | exact Or.inl trivial | exact Or.inr trivial | exact Or.inl rfl | exact Or.inr rfl)
    refine hB bX8_nextIs_29 _ _ _ _ _ _ _ kX8_nextIs_29 ?_
    dsimp only [bX8_nextIs_29, kx_wp, kx_step, kx_lI, kx_lL, kx_lA, kx_gl, kx_pI, kx_pL, kx_pR, kx_pA, kx_pV, kx_s1, kx_s2, kx_sl, kx_pre, kx_c2, kx_pl, kx_cmp, kx_oF, kx_eqN, kx_nil, kx_c1, kx_ft, kx_aI, kx_aL, kx_aR, kx_ln, Nat.reduceAdd, Option.toList, List.cons_append, List.nil_append, cf8_2, cf8_1, cf8_0]
    repeat (simp only [pk_us, pk_un, kz_uu, ne_eq, Nat.reduceEqDiff, not_false_eq_true, nI_1, cx_8s, cx_8ss, cx_8o, cx_8n (show ¬ (67:Nat) = 68 by decide), h1, h2, hT, nI_clamp (show a < 2 ^ 31 by omega), ks_eq, ks_ss]; try dsimp only [kx_wp, kx_step, kx_lI, kx_lL, kx_lA, kx_gl, kx_pI, kx_pL, kx_pR, kx_pA, kx_pV, kx_s1, kx_s2, kx_sl, kx_pre, kx_c2, kx_pl, kx_cmp, kx_oF, kx_eqN, kx_nil, kx_c1, kx_ft, kx_aI, kx_aL, kx_aR, kx_ln, Nat.reduceAdd, Option.toList, List.cons_append, List.nil_append, cf8_2, cf8_1, cf8_0])
    all_goals (repeat' apply And.intro)
    all_goals ((try clear hB hC); first | exact True.intro | rfl | (have zq : a < n := (nI_ltI (by omega) (by omega)).mp ze8; unfold cx_nx; simp only [if_pos zq]; simp only [zc8, ze8, ↓reduceIte, true_and, and_true, and_false, false_and, and_self, not_true_eq_false, not_false_eq_true]) | (have zq : ¬ a < n := fun q => ze8 ((nI_ltI (by omega) (by omega)).mpr q); unfold cx_nx; simp only [if_neg zq]; rw [if_neg (fun e => hch e.symm)]))
  · intro zc8
    with_reducible first | have ze8 := Int32.not_le.mp zc8 | have ze8 := zc8
    have zl : a < 400 := Nat.lt_of_lt_of_le ((nI_ltI (by omega) (by omega)).mp ze8) hn
    refine hB bX8_nextIs_11 _ _ _ _ _ _ _ kX8_nextIs_11 ?_
    dsimp only [bX8_nextIs_11, kx_wp, kx_step, kx_lI, kx_lL, kx_lA, kx_gl, kx_pI, kx_pL, kx_pR, kx_pA, kx_pV, kx_s1, kx_s2, kx_sl, kx_pre, kx_c2, kx_pl, kx_cmp, kx_oF, kx_eqN, kx_nil, kx_c1, kx_ft, kx_aI, kx_aL, kx_aR, kx_ln, Nat.reduceAdd, Option.toList, List.cons_append, List.nil_append, cf8_2, cf8_1, cf8_0]
    repeat (simp only [pk_us, pk_un, kz_uu, ne_eq, Nat.reduceEqDiff, not_false_eq_true, nI_1, cx_8s, cx_8ss, cx_8o, cx_8n (show ¬ (67:Nat) = 68 by decide), h1, h2, hT, nI_clamp (show a < 2 ^ 31 by omega), ks_eq, ks_ss]; try dsimp only [kx_wp, kx_step, kx_lI, kx_lL, kx_lA, kx_gl, kx_pI, kx_pL, kx_pR, kx_pA, kx_pV, kx_s1, kx_s2, kx_sl, kx_pre, kx_c2, kx_pl, kx_cmp, kx_oF, kx_eqN, kx_nil, kx_c1, kx_ft, kx_aI, kx_aL, kx_aR, kx_ln, Nat.reduceAdd, Option.toList, List.cons_append, List.nil_append, cf8_2, cf8_1, cf8_0])
    repeat' apply And.intro
    all_goals try (first | with_reducible assumption | (with_reducible refine ck_nzI ?_; simp; done) | (with_reducible refine ck_nzL ?_; simp; done) | (with_reducible refine vp_in_nI ?_ ?_ <;> first | omega | decide) | (with_reducible refine Nat.le_of_ble_eq_true ?_; rfl) | omega | exact Or.inl trivial | exact Or.inr trivial | exact Or.inl rfl | exact Or.inr rfl)
    · intro zc21
      have ze21 := zc21
      refine hB bX8_nextIs_28 _ _ _ _ _ _ _ kX8_nextIs_28 ?_
      dsimp only [bX8_nextIs_28, kx_wp, kx_step, kx_lI, kx_lL, kx_lA, kx_gl, kx_pI, kx_pL, kx_pR, kx_pA, kx_pV, kx_s1, kx_s2, kx_sl, kx_pre, kx_c2, kx_pl, kx_cmp, kx_oF, kx_eqN, kx_nil, kx_c1, kx_ft, kx_aI, kx_aL, kx_aR, kx_ln, Nat.reduceAdd, Option.toList, List.cons_append, List.nil_append, cf8_2, cf8_1, cf8_0]
      repeat (simp only [pk_us, pk_un, kz_uu, ne_eq, Nat.reduceEqDiff, not_false_eq_true, nI_1, cx_8s, cx_8ss, cx_8o, cx_8n (show ¬ (67:Nat) = 68 by decide), h1, h2, hT, nI_clamp (show a < 2 ^ 31 by omega), ks_eq, ks_ss]; try dsimp only [kx_wp, kx_step, kx_lI, kx_lL, kx_lA, kx_gl, kx_pI, kx_pL, kx_pR, kx_pA, kx_pV, kx_s1, kx_s2, kx_sl, kx_pre, kx_c2, kx_pl, kx_cmp, kx_oF, kx_eqN, kx_nil, kx_c1, kx_ft, kx_aI, kx_aL, kx_aR, kx_ln, Nat.reduceAdd, Option.toList, List.cons_append, List.nil_append, cf8_2, cf8_1, cf8_0])
      repeat' apply And.intro
      all_goals try (first | with_reducible assumption | (with_reducible refine ck_nzI ?_; simp; done) | (with_reducible refine ck_nzL ?_; simp; done) | (with_reducible refine vp_in_nI ?_ ?_ <;> first | omega | decide) | (with_reducible refine Nat.le_of_ble_eq_true ?_; rfl) | omega | exact Or.inl trivial | exact Or.inr trivial | exact Or.inl rfl | exact Or.inr rfl)
      refine hB bX8_nextIs_29 _ _ _ _ _ _ _ kX8_nextIs_29 ?_
      dsimp only [bX8_nextIs_29, kx_wp, kx_step, kx_lI, kx_lL, kx_lA, kx_gl, kx_pI, kx_pL, kx_pR, kx_pA, kx_pV, kx_s1, kx_s2, kx_sl, kx_pre, kx_c2, kx_pl, kx_cmp, kx_oF, kx_eqN, kx_nil, kx_c1, kx_ft, kx_aI, kx_aL, kx_aR, kx_ln, Nat.reduceAdd, Option.toList, List.cons_append, List.nil_append, cf8_2, cf8_1, cf8_0]
      repeat (simp only [pk_us, pk_un, kz_uu, ne_eq, Nat.reduceEqDiff, not_false_eq_true, nI_1, cx_8s, cx_8ss, cx_8o, cx_8n (show ¬ (67:Nat) = 68 by decide), h1, h2, hT, nI_clamp (show a < 2 ^ 31 by omega), ks_eq, ks_ss]; try dsimp only [kx_wp, kx_step, kx_lI, kx_lL, kx_lA, kx_gl, kx_pI, kx_pL, kx_pR, kx_pA, kx_pV, kx_s1, kx_s2, kx_sl, kx_pre, kx_c2, kx_pl, kx_cmp, kx_oF, kx_eqN, kx_nil, kx_c1, kx_ft, kx_aI, kx_aL, kx_aR, kx_ln, Nat.reduceAdd, Option.toList, List.cons_append, List.nil_append, cf8_2, cf8_1, cf8_0])
      all_goals (repeat' apply And.intro)
      all_goals ((try clear hB hC); first | exact True.intro | rfl | (have zq : a < n := (nI_ltI (by omega) (by omega)).mp ze8; unfold cx_nx; simp only [if_pos zq]; simp only [zc8, ze8, ze21, ↓reduceIte, true_and, and_true, and_false, false_and, and_self, not_true_eq_false, not_false_eq_true]) | (have zq : ¬ a < n := fun q => ze8 ((nI_ltI (by omega) (by omega)).mpr q); unfold cx_nx; simp only [if_neg zq]; rw [if_neg (fun e => hch e.symm)]))
    · intro zc21
      with_reducible first | have ze21 := Decidable.not_not.mp zc21 | have ze21 := zc21
      refine hB bX8_nextIs_24 _ _ _ _ _ _ _ kX8_nextIs_24 ?_
      dsimp only [bX8_nextIs_24, kx_wp, kx_step, kx_lI, kx_lL, kx_lA, kx_gl, kx_pI, kx_pL, kx_pR, kx_pA, kx_pV, kx_s1, kx_s2, kx_sl, kx_pre, kx_c2, kx_pl, kx_cmp, kx_oF, kx_eqN, kx_nil, kx_c1, kx_ft, kx_aI, kx_aL, kx_aR, kx_ln, Nat.reduceAdd, Option.toList, List.cons_append, List.nil_append, cf8_2, cf8_1, cf8_0]
      repeat (simp only [pk_us, pk_un, kz_uu, ne_eq, Nat.reduceEqDiff, not_false_eq_true, nI_1, cx_8s, cx_8ss, cx_8o, cx_8n (show ¬ (67:Nat) = 68 by decide), h1, h2, hT, nI_clamp (show a < 2 ^ 31 by omega), ks_eq, ks_ss]; try dsimp only [kx_wp, kx_step, kx_lI, kx_lL, kx_lA, kx_gl, kx_pI, kx_pL, kx_pR, kx_pA, kx_pV, kx_s1, kx_s2, kx_sl, kx_pre, kx_c2, kx_pl, kx_cmp, kx_oF, kx_eqN, kx_nil, kx_c1, kx_ft, kx_aI, kx_aL, kx_aR, kx_ln, Nat.reduceAdd, Option.toList, List.cons_append, List.nil_append, cf8_2, cf8_1, cf8_0])
      repeat' apply And.intro
      all_goals try (first | with_reducible assumption | (with_reducible refine ck_nzI ?_; simp; done) | (with_reducible refine ck_nzL ?_; simp; done) | (with_reducible refine vp_in_nI ?_ ?_ <;> first | omega | decide) | (with_reducible refine Nat.le_of_ble_eq_true ?_; rfl) | omega | exact Or.inl trivial | exact Or.inr trivial | exact Or.inl rfl | exact Or.inr rfl)
      refine hB bX8_nextIs_29 _ _ _ _ _ _ _ kX8_nextIs_29 ?_
      dsimp only [bX8_nextIs_29, kx_wp, kx_step, kx_lI, kx_lL, kx_lA, kx_gl, kx_pI, kx_pL, kx_pR, kx_pA, kx_pV, kx_s1, kx_s2, kx_sl, kx_pre, kx_c2, kx_pl, kx_cmp, kx_oF, kx_eqN, kx_nil, kx_c1, kx_ft, kx_aI, kx_aL, kx_aR, kx_ln, Nat.reduceAdd, Option.toList, List.cons_append, List.nil_append, cf8_2, cf8_1, cf8_0]
      repeat (simp only [pk_us, pk_un, kz_uu, ne_eq, Nat.reduceEqDiff, not_false_eq_true, nI_1, cx_8s, cx_8ss, cx_8o, cx_8n (show ¬ (67:Nat) = 68 by decide), h1, h2, hT, nI_clamp (show a < 2 ^ 31 by omega), ks_eq, ks_ss]; try dsimp only [kx_wp, kx_step, kx_lI, kx_lL, kx_lA, kx_gl, kx_pI, kx_pL, kx_pR, kx_pA, kx_pV, kx_s1, kx_s2, kx_sl, kx_pre, kx_c2, kx_pl, kx_cmp, kx_oF, kx_eqN, kx_nil, kx_c1, kx_ft, kx_aI, kx_aL, kx_aR, kx_ln, Nat.reduceAdd, Option.toList, List.cons_append, List.nil_append, cf8_2, cf8_1, cf8_0])
      all_goals (repeat' apply And.intro)
      all_goals ((try clear hB hC); first | exact True.intro | rfl | (have zq : a < n := (nI_ltI (by omega) (by omega)).mp ze8; unfold cx_nx; simp only [if_pos zq]; simp only [zc8, ze8, eq_true ze21, ↓reduceIte, true_and, and_true, and_false, false_and, and_self, not_true_eq_false, not_false_eq_true]) | (have zq : ¬ a < n := fun q => ze8 ((nI_ltI (by omega) (by omega)).mpr q); unfold cx_nx; simp only [if_neg zq]; rw [if_neg (fun e => hch e.symm)]))

def bX8_nextIsDigit_0 : List kx_O := [(.aload_n 0, 0, 0, 0, .null), (.getfield 28, 8, 2, 0, .null), (.aload_n 0, 0, 0, 0, .null), (.getfield 25, 8, 1, 0, .null), (.if_icmp .ge 35, 43, 0, 0, .null)]
theorem kX8_nextIsDigit_0 : kx_oks kxL_X8 false cX8_nextIsDigit 0 bX8_nextIsDigit_0 = true := by decide +kernel
def bX8_nextIsDigit_11 : List kx_O := [(.aload_n 0, 0, 0, 0, .null), (.getfield 15, 8, 0, 0, .null), (.aload_n 0, 0, 0, 0, .null), (.getfield 28, 8, 2, 0, .null), (.iaload, 0, 0, 0, .null), (.bipush 48, 0, 0, 0, .int 48), (.if_icmp .lt 21, 43, 0, 0, .null)]
theorem kX8_nextIsDigit_11 : kx_oks kxL_X8 false cX8_nextIsDigit 11 bX8_nextIsDigit_11 = true := by decide +kernel
def bX8_nextIsDigit_25 : List kx_O := [(.aload_n 0, 0, 0, 0, .null), (.getfield 15, 8, 0, 0, .null), (.aload_n 0, 0, 0, 0, .null), (.getfield 28, 8, 2, 0, .null), (.iaload, 0, 0, 0, .null), (.bipush 57, 0, 0, 0, .int 57), (.if_icmp .gt 7, 43, 0, 0, .null)]
theorem kX8_nextIsDigit_25 : kx_oks kxL_X8 false cX8_nextIsDigit 25 bX8_nextIsDigit_25 = true := by decide +kernel
def bX8_nextIsDigit_39 : List kx_O := [(.iconst 1, 0, 0, 0, .int 1), (.goto 4, 44, 0, 0, .null)]
theorem kX8_nextIsDigit_39 : kx_oks kxL_X8 false cX8_nextIsDigit 39 bX8_nextIsDigit_39 = true := by decide +kernel
def bX8_nextIsDigit_43 : List kx_O := [(.iconst 0, 0, 0, 0, .int 0)]
theorem kX8_nextIsDigit_43 : kx_oks kxL_X8 false cX8_nextIsDigit 43 bX8_nextIsDigit_43 = true := by decide +kernel
def bX8_nextIsDigit_44 : List kx_O := [(.ireturn, 0, 0, 0, .null)]
theorem kX8_nextIsDigit_44 : kx_oks kxL_X8 false cX8_nextIsDigit 44 bX8_nextIsDigit_44 = true := by decide +kernel
set_option maxRecDepth 100000 in
set_option maxHeartbeats 4000000 in
theorem ct_X8_nextIsDigit (l : Launch) (G : kx_G) {P : kx_P} {sz : Nat} {F T : Nat → Int32} {x : Value} (hT : P 67 = kI 0 400 T) {n a : Nat} (h1 : F 1 = nI n) (hn : n ≤ 400) (h2 : F 2 = nI a) (ha : a ≤ n)  : kx_M l G sX8_nextIsDigit 1 0 0 [.ref 68] (cx_8 P x F) sz (some (.int (if 48 ≤ cx_nx T n a ∧ cx_nx T n a ≤ 57 then 1 else 0))) (cx_8 P x F) sz := by
  refine kx_mk kx_tab kxLok_X8 (ini := false) [some (.ref 68)] ⟨by decide, rfl, by decide, by decide⟩ (kz_rb _) rfl rfl (fun g hB hC => ?_)
  refine hB bX8_nextIsDigit_0 _ _ _ _ _ _ _ kX8_nextIsDigit_0 ?_
  dsimp only [bX8_nextIsDigit_0, kx_wp, kx_step, kx_lI, kx_lL, kx_lA, kx_gl, kx_pI, kx_pL, kx_pR, kx_pA, kx_pV, kx_s1, kx_s2, kx_sl, kx_pre, kx_c2, kx_pl, kx_cmp, kx_oF, kx_eqN, kx_nil, kx_c1, kx_ft, kx_aI, kx_aL, kx_aR, kx_ln, Nat.reduceAdd, Option.toList, List.cons_append, List.nil_append, cf8_2, cf8_1, cf8_0]
  repeat (simp only [pk_us, pk_un, kz_uu, ne_eq, Nat.reduceEqDiff, not_false_eq_true, nI_1, cx_8s, cx_8ss, cx_8o, cx_8n (show ¬ (67:Nat) = 68 by decide), h1, h2, hT, nI_clamp (show a < 2 ^ 31 by omega), ks_eq, ks_ss]; try dsimp only [kx_wp, kx_step, kx_lI, kx_lL, kx_lA, kx_gl, kx_pI, kx_pL, kx_pR, kx_pA, kx_pV, kx_s1, kx_s2, kx_sl, kx_pre, kx_c2, kx_pl, kx_cmp, kx_oF, kx_eqN, kx_nil, kx_c1, kx_ft, kx_aI, kx_aL, kx_aR, kx_ln, Nat.reduceAdd, Option.toList, List.cons_append, List.nil_append, cf8_2, cf8_1, cf8_0])
  repeat' apply And.intro
  all_goals try (first | with_reducible assumption | (with_reducible refine ck_nzI ?_; simp; done) | (with_reducible refine ck_nzL ?_; simp; done) | (with_reducible refine vp_in_nI ?_ ?_ <;> first | omega | decide) | (with_reducible refine Nat.le_of_ble_eq_true ?_; rfl) | omega | exact Or.inl trivial | exact Or.inr trivial | exact Or.inl rfl | exact Or.inr rfl)
  · intro zc8
    with_reducible first | have ze8 := Int32.not_lt.mpr zc8 | have ze8 := zc8
    refine hB bX8_nextIsDigit_43 _ _ _ _ _ _ _ kX8_nextIsDigit_43 ?_
    dsimp only [bX8_nextIsDigit_43, kx_wp, kx_step, kx_lI, kx_lL, kx_lA, kx_gl, kx_pI, kx_pL, kx_pR, kx_pA, kx_pV, kx_s1, kx_s2, kx_sl, kx_pre, kx_c2, kx_pl, kx_cmp, kx_oF, kx_eqN, kx_nil, kx_c1, kx_ft, kx_aI, kx_aL, kx_aR, kx_ln, Nat.reduceAdd, Option.toList, List.cons_append, List.nil_append, cf8_2, cf8_1, cf8_0]
    repeat (simp only [pk_us, pk_un, kz_uu, ne_eq, Nat.reduceEqDiff, not_false_eq_true, nI_1, cx_8s, cx_8ss, cx_8o, cx_8n (show ¬ (67:Nat) = 68 by decide), h1, h2, hT, nI_clamp (show a < 2 ^ 31 by omega), ks_eq, ks_ss]; try dsimp only [kx_wp, kx_step, kx_lI, kx_lL, kx_lA, kx_gl, kx_pI, kx_pL, kx_pR, kx_pA, kx_pV, kx_s1, kx_s2, kx_sl, kx_pre, kx_c2, kx_pl, kx_cmp, kx_oF, kx_eqN, kx_nil, kx_c1, kx_ft, kx_aI, kx_aL, kx_aR, kx_ln, Nat.reduceAdd, Option.toList, List.cons_append, List.nil_append, cf8_2, cf8_1, cf8_0])
    repeat' apply And.intro
    all_goals try (first | with_reducible assumption | (with_reducible refine ck_nzI ?_; simp; done) | (with_reducible refine ck_nzL ?_; simp; done) | (with_reducible refine vp_in_nI ?_ ?_ <;> first | omega | decide) | (with_reducible refine Nat.le_of_ble_eq_true ?_; rfl) | omega | exact Or.inl trivial | exact Or.inr trivial | exact Or.inl rfl | exact Or.inr rfl)
    refine hB bX8_nextIsDigit_44 _ _ _ _ _ _ _ kX8_nextIsDigit_44 ?_
    dsimp only [bX8_nextIsDigit_44, kx_wp, kx_step, kx_lI, kx_lL, kx_lA, kx_gl, kx_pI, kx_pL, kx_pR, kx_pA, kx_pV, kx_s1, kx_s2, kx_sl, kx_pre, kx_c2, kx_pl, kx_cmp, kx_oF, kx_eqN, kx_nil, kx_c1, kx_ft, kx_aI, kx_aL, kx_aR, kx_ln, Nat.reduceAdd, Option.toList, List.cons_append, List.nil_append, cf8_2, cf8_1, cf8_0]
    repeat (simp only [pk_us, pk_un, kz_uu, ne_eq, Nat.reduceEqDiff, not_false_eq_true, nI_1, cx_8s, cx_8ss, cx_8o, cx_8n (show ¬ (67:Nat) = 68 by decide), h1, h2, hT, nI_clamp (show a < 2 ^ 31 by omega), ks_eq, ks_ss]; try dsimp only [kx_wp, kx_step, kx_lI, kx_lL, kx_lA, kx_gl, kx_pI, kx_pL, kx_pR, kx_pA, kx_pV, kx_s1, kx_s2, kx_sl, kx_pre, kx_c2, kx_pl, kx_cmp, kx_oF, kx_eqN, kx_nil, kx_c1, kx_ft, kx_aI, kx_aL, kx_aR, kx_ln, Nat.reduceAdd, Option.toList, List.cons_append, List.nil_append, cf8_2, cf8_1, cf8_0])
    all_goals (repeat' apply And.intro)
    all_goals ((try clear hB hC); first | exact True.intro | rfl | (have zq : a < n := (nI_ltI (by omega) (by omega)).mp ze8; unfold cx_nx; simp only [if_pos zq]; simp only [zc8, ze8, ↓reduceIte, true_and, and_true, and_false, false_and, and_self, not_true_eq_false, not_false_eq_true]) | (have zq : ¬ a < n := fun q => ze8 ((nI_ltI (by omega) (by omega)).mpr q); unfold cx_nx; simp only [if_neg zq]; rw [if_neg (by decide)]))
  · intro zc8
    with_reducible first | have ze8 := Int32.not_le.mp zc8 | have ze8 := zc8
    have zl : a < 400 := Nat.lt_of_lt_of_le ((nI_ltI (by omega) (by omega)).mp ze8) hn
    refine hB bX8_nextIsDigit_11 _ _ _ _ _ _ _ kX8_nextIsDigit_11 ?_
    dsimp only [bX8_nextIsDigit_11, kx_wp, kx_step, kx_lI, kx_lL, kx_lA, kx_gl, kx_pI, kx_pL, kx_pR, kx_pA, kx_pV, kx_s1, kx_s2, kx_sl, kx_pre, kx_c2, kx_pl, kx_cmp, kx_oF, kx_eqN, kx_nil, kx_c1, kx_ft, kx_aI, kx_aL, kx_aR, kx_ln, Nat.reduceAdd, Option.toList, List.cons_append, List.nil_append, cf8_2, cf8_1, cf8_0]
    repeat (simp only [pk_us, pk_un, kz_uu, ne_eq, Nat.reduceEqDiff, not_false_eq_true, nI_1, cx_8s, cx_8ss, cx_8o, cx_8n (show ¬ (67:Nat) = 68 by decide), h1, h2, hT, nI_clamp (show a < 2 ^ 31 by omega), ks_eq, ks_ss]; try dsimp only [kx_wp, kx_step, kx_lI, kx_lL, kx_lA, kx_gl, kx_pI, kx_pL, kx_pR, kx_pA, kx_pV, kx_s1, kx_s2, kx_sl, kx_pre, kx_c2, kx_pl, kx_cmp, kx_oF, kx_eqN, kx_nil, kx_c1, kx_ft, kx_aI, kx_aL, kx_aR, kx_ln, Nat.reduceAdd, Option.toList, List.cons_append, List.nil_append, cf8_2, cf8_1, cf8_0])
    repeat' apply And.intro
    all_goals try (first | with_reducible assumption | (with_reducible refine ck_nzI ?_; simp; done) | (with_reducible refine ck_nzL ?_; simp; done) | (with_reducible refine vp_in_nI ?_ ?_ <;> first | omega | decide) | (with_reducible refine Nat.le_of_ble_eq_true ?_; rfl) | omega | exact Or.inl trivial | exact Or.inr trivial | exact Or.inl rfl | exact Or.inr rfl)
    · intro zc22
      with_reducible first | have ze22 := Int32.not_le.mpr zc22 | have ze22 := zc22
      refine hB bX8_nextIsDigit_43 _ _ _ _ _ _ _ kX8_nextIsDigit_43 ?_
      dsimp only [bX8_nextIsDigit_43, kx_wp, kx_step, kx_lI, kx_lL, kx_lA, kx_gl, kx_pI, kx_pL, kx_pR, kx_pA, kx_pV, kx_s1, kx_s2, kx_sl, kx_pre, kx_c2, kx_pl, kx_cmp, kx_oF, kx_eqN, kx_nil, kx_c1, kx_ft, kx_aI, kx_aL, kx_aR, kx_ln, Nat.reduceAdd, Option.toList, List.cons_append, List.nil_append, cf8_2, cf8_1, cf8_0]
      repeat (simp only [pk_us, pk_un, kz_uu, ne_eq, Nat.reduceEqDiff, not_false_eq_true, nI_1, cx_8s, cx_8ss, cx_8o, cx_8n (show ¬ (67:Nat) = 68 by decide), h1, h2, hT, nI_clamp (show a < 2 ^ 31 by omega), ks_eq, ks_ss]; try dsimp only [kx_wp, kx_step, kx_lI, kx_lL, kx_lA, kx_gl, kx_pI, kx_pL, kx_pR, kx_pA, kx_pV, kx_s1, kx_s2, kx_sl, kx_pre, kx_c2, kx_pl, kx_cmp, kx_oF, kx_eqN, kx_nil, kx_c1, kx_ft, kx_aI, kx_aL, kx_aR, kx_ln, Nat.reduceAdd, Option.toList, List.cons_append, List.nil_append, cf8_2, cf8_1, cf8_0])
      repeat' apply And.intro
      all_goals try (first | with_reducible assumption | (with_reducible refine ck_nzI ?_; simp; done) | (with_reducible refine ck_nzL ?_; simp; done) | (with_reducible refine vp_in_nI ?_ ?_ <;> first | omega | decide) | (with_reducible refine Nat.le_of_ble_eq_true ?_; rfl) | omega | exact Or.inl trivial | exact Or.inr trivial | exact Or.inl rfl | exact Or.inr rfl)
      refine hB bX8_nextIsDigit_44 _ _ _ _ _ _ _ kX8_nextIsDigit_44 ?_
      dsimp only [bX8_nextIsDigit_44, kx_wp, kx_step, kx_lI, kx_lL, kx_lA, kx_gl, kx_pI, kx_pL, kx_pR, kx_pA, kx_pV, kx_s1, kx_s2, kx_sl, kx_pre, kx_c2, kx_pl, kx_cmp, kx_oF, kx_eqN, kx_nil, kx_c1, kx_ft, kx_aI, kx_aL, kx_aR, kx_ln, Nat.reduceAdd, Option.toList, List.cons_append, List.nil_append, cf8_2, cf8_1, cf8_0]
      repeat (simp only [pk_us, pk_un, kz_uu, ne_eq, Nat.reduceEqDiff, not_false_eq_true, nI_1, cx_8s, cx_8ss, cx_8o, cx_8n (show ¬ (67:Nat) = 68 by decide), h1, h2, hT, nI_clamp (show a < 2 ^ 31 by omega), ks_eq, ks_ss]; try dsimp only [kx_wp, kx_step, kx_lI, kx_lL, kx_lA, kx_gl, kx_pI, kx_pL, kx_pR, kx_pA, kx_pV, kx_s1, kx_s2, kx_sl, kx_pre, kx_c2, kx_pl, kx_cmp, kx_oF, kx_eqN, kx_nil, kx_c1, kx_ft, kx_aI, kx_aL, kx_aR, kx_ln, Nat.reduceAdd, Option.toList, List.cons_append, List.nil_append, cf8_2, cf8_1, cf8_0])
      all_goals (repeat' apply And.intro)
      all_goals ((try clear hB hC); first | exact True.intro | rfl | (have zq : a < n := (nI_ltI (by omega) (by omega)).mp ze8; unfold cx_nx; simp only [if_pos zq]; simp only [zc8, ze8, zc22, ze22, ↓reduceIte, true_and, and_true, and_false, false_and, and_self, not_true_eq_false, not_false_eq_true]) | (have zq : ¬ a < n := fun q => ze8 ((nI_ltI (by omega) (by omega)).mpr q); unfold cx_nx; simp only [if_neg zq]; rw [if_neg (by decide)]))
    · intro zc22
      with_reducible first | have ze22 := Int32.not_lt.mp zc22 | have ze22 := zc22
      refine hB bX8_nextIsDigit_25 _ _ _ _ _ _ _ kX8_nextIsDigit_25 ?_
      dsimp only [bX8_nextIsDigit_25, kx_wp, kx_step, kx_lI, kx_lL, kx_lA, kx_gl, kx_pI, kx_pL, kx_pR, kx_pA, kx_pV, kx_s1, kx_s2, kx_sl, kx_pre, kx_c2, kx_pl, kx_cmp, kx_oF, kx_eqN, kx_nil, kx_c1, kx_ft, kx_aI, kx_aL, kx_aR, kx_ln, Nat.reduceAdd, Option.toList, List.cons_append, List.nil_append, cf8_2, cf8_1, cf8_0]
      repeat (simp only [pk_us, pk_un, kz_uu, ne_eq, Nat.reduceEqDiff, not_false_eq_true, nI_1, cx_8s, cx_8ss, cx_8o, cx_8n (show ¬ (67:Nat) = 68 by decide), h1, h2, hT, nI_clamp (show a < 2 ^ 31 by omega), ks_eq, ks_ss]; try dsimp only [kx_wp, kx_step, kx_lI, kx_lL, kx_lA, kx_gl, kx_pI, kx_pL, kx_pR, kx_pA, kx_pV, kx_s1, kx_s2, kx_sl, kx_pre, kx_c2, kx_pl, kx_cmp, kx_oF, kx_eqN, kx_nil, kx_c1, kx_ft, kx_aI, kx_aL, kx_aR, kx_ln, Nat.reduceAdd, Option.toList, List.cons_append, List.nil_append, cf8_2, cf8_1, cf8_0])
      repeat' apply And.intro
      all_goals try (first | with_reducible assumption | (with_reducible refine ck_nzI ?_; simp; done) | (with_reducible refine ck_nzL ?_; simp; done) | (with_reducible refine vp_in_nI ?_ ?_ <;> first | omega | decide) | (with_reducible refine Nat.le_of_ble_eq_true ?_; rfl) | omega | exact Or.inl trivial | exact Or.inr trivial | exact Or.inl rfl | exact Or.inr rfl)
      · intro zc36
        with_reducible first | have ze36 := Int32.not_le.mpr zc36 | have ze36 := zc36
        refine hB bX8_nextIsDigit_43 _ _ _ _ _ _ _ kX8_nextIsDigit_43 ?_
        dsimp only [bX8_nextIsDigit_43, kx_wp, kx_step, kx_lI, kx_lL, kx_lA, kx_gl, kx_pI, kx_pL, kx_pR, kx_pA, kx_pV, kx_s1, kx_s2, kx_sl, kx_pre, kx_c2, kx_pl, kx_cmp, kx_oF, kx_eqN, kx_nil, kx_c1, kx_ft, kx_aI, kx_aL, kx_aR, kx_ln, Nat.reduceAdd, Option.toList, List.cons_append, List.nil_append, cf8_2, cf8_1, cf8_0]
        repeat (simp only [pk_us, pk_un, kz_uu, ne_eq, Nat.reduceEqDiff, not_false_eq_true, nI_1, cx_8s, cx_8ss, cx_8o, cx_8n (show ¬ (67:Nat) = 68 by decide), h1, h2, hT, nI_clamp (show a < 2 ^ 31 by omega), ks_eq, ks_ss]; try dsimp only [kx_wp, kx_step, kx_lI, kx_lL, kx_lA, kx_gl, kx_pI, kx_pL, kx_pR, kx_pA, kx_pV, kx_s1, kx_s2, kx_sl, kx_pre, kx_c2, kx_pl, kx_cmp, kx_oF, kx_eqN, kx_nil, kx_c1, kx_ft, kx_aI, kx_aL, kx_aR, kx_ln, Nat.reduceAdd, Option.toList, List.cons_append, List.nil_append, cf8_2, cf8_1, cf8_0])
        repeat' apply And.intro
        all_goals try (first | with_reducible assumption | (with_reducible refine ck_nzI ?_; simp; done) | (with_reducible refine ck_nzL ?_; simp; done) | (with_reducible refine vp_in_nI ?_ ?_ <;> first | omega | decide) | (with_reducible refine Nat.le_of_ble_eq_true ?_; rfl) | omega | exact Or.inl trivial | exact Or.inr trivial | exact Or.inl rfl | exact Or.inr rfl)
        refine hB bX8_nextIsDigit_44 _ _ _ _ _ _ _ kX8_nextIsDigit_44 ?_
        dsimp only [bX8_nextIsDigit_44, kx_wp, kx_step, kx_lI, kx_lL, kx_lA, kx_gl, kx_pI, kx_pL, kx_pR, kx_pA, kx_pV, kx_s1, kx_s2, kx_sl, kx_pre, kx_c2, kx_pl, kx_cmp, kx_oF, kx_eqN, kx_nil, kx_c1, kx_ft, kx_aI, kx_aL, kx_aR, kx_ln, Nat.reduceAdd, Option.toList, List.cons_append, List.nil_append, cf8_2, cf8_1, cf8_0]
        repeat (simp only [pk_us, pk_un, kz_uu, ne_eq, Nat.reduceEqDiff, not_false_eq_true, nI_1, cx_8s, cx_8ss, cx_8o, cx_8n (show ¬ (67:Nat) = 68 by decide), h1, h2, hT, nI_clamp (show a < 2 ^ 31 by omega), ks_eq, ks_ss]; try dsimp only [kx_wp, kx_step, kx_lI, kx_lL, kx_lA, kx_gl, kx_pI, kx_pL, kx_pR, kx_pA, kx_pV, kx_s1, kx_s2, kx_sl, kx_pre, kx_c2, kx_pl, kx_cmp, kx_oF, kx_eqN, kx_nil, kx_c1, kx_ft, kx_aI, kx_aL, kx_aR, kx_ln, Nat.reduceAdd, Option.toList, List.cons_append, List.nil_append, cf8_2, cf8_1, cf8_0])
        all_goals (repeat' apply And.intro)
        all_goals ((try clear hB hC); first | exact True.intro | rfl | (have zq : a < n := (nI_ltI (by omega) (by omega)).mp ze8; unfold cx_nx; simp only [if_pos zq]; simp only [zc8, ze8, zc22, ze22, zc36, ze36, ↓reduceIte, true_and, and_true, and_false, false_and, and_self, not_true_eq_false, not_false_eq_true]) | (have zq : ¬ a < n := fun q => ze8 ((nI_ltI (by omega) (by omega)).mpr q); unfold cx_nx; simp only [if_neg zq]; rw [if_neg (by decide)]))
      · intro zc36
        with_reducible first | have ze36 := Int32.not_lt.mp zc36 | have ze36 := zc36
        refine hB bX8_nextIsDigit_39 _ _ _ _ _ _ _ kX8_nextIsDigit_39 ?_
        dsimp only [bX8_nextIsDigit_39, kx_wp, kx_step, kx_lI, kx_lL, kx_lA, kx_gl, kx_pI, kx_pL, kx_pR, kx_pA, kx_pV, kx_s1, kx_s2, kx_sl, kx_pre, kx_c2, kx_pl, kx_cmp, kx_oF, kx_eqN, kx_nil, kx_c1, kx_ft, kx_aI, kx_aL, kx_aR, kx_ln, Nat.reduceAdd, Option.toList, List.cons_append, List.nil_append, cf8_2, cf8_1, cf8_0]
        repeat (simp only [pk_us, pk_un, kz_uu, ne_eq, Nat.reduceEqDiff, not_false_eq_true, nI_1, cx_8s, cx_8ss, cx_8o, cx_8n (show ¬ (67:Nat) = 68 by decide), h1, h2, hT, nI_clamp (show a < 2 ^ 31 by omega), ks_eq, ks_ss]; try dsimp only [kx_wp, kx_step, kx_lI, kx_lL, kx_lA, kx_gl, kx_pI, kx_pL, kx_pR, kx_pA, kx_pV, kx_s1, kx_s2, kx_sl, kx_pre, kx_c2, kx_pl, kx_cmp, kx_oF, kx_eqN, kx_nil, kx_c1, kx_ft, kx_aI, kx_aL, kx_aR, kx_ln, Nat.reduceAdd, Option.toList, List.cons_append, List.nil_append, cf8_2, cf8_1, cf8_0])
        repeat' apply And.intro
        all_goals try (first | with_reducible assumption | (with_reducible refine ck_nzI ?_; simp; done) | (with_reducible refine ck_nzL ?_; simp; done) | (with_reducible refine vp_in_nI ?_ ?_ <;> first | omega | decide) | (with_reducible refine Nat.le_of_ble_eq_true ?_; rfl) | omega | exact Or.inl trivial | exact Or.inr trivial | exact Or.inl rfl | exact Or.inr rfl)
        refine hB bX8_nextIsDigit_44 _ _ _ _ _ _ _ kX8_nextIsDigit_44 ?_
        dsimp only [bX8_nextIsDigit_44, kx_wp, kx_step, kx_lI, kx_lL, kx_lA, kx_gl, kx_pI, kx_pL, kx_pR, kx_pA, kx_pV, kx_s1, kx_s2, kx_sl, kx_pre, kx_c2, kx_pl, kx_cmp, kx_oF, kx_eqN, kx_nil, kx_c1, kx_ft, kx_aI, kx_aL, kx_aR, kx_ln, Nat.reduceAdd, Option.toList, List.cons_append, List.nil_append, cf8_2, cf8_1, cf8_0]
        repeat (simp only [pk_us, pk_un, kz_uu, ne_eq, Nat.reduceEqDiff, not_false_eq_true, nI_1, cx_8s, cx_8ss, cx_8o, cx_8n (show ¬ (67:Nat) = 68 by decide), h1, h2, hT, nI_clamp (show a < 2 ^ 31 by omega), ks_eq, ks_ss]; try dsimp only [kx_wp, kx_step, kx_lI, kx_lL, kx_lA, kx_gl, kx_pI, kx_pL, kx_pR, kx_pA, kx_pV, kx_s1, kx_s2, kx_sl, kx_pre, kx_c2, kx_pl, kx_cmp, kx_oF, kx_eqN, kx_nil, kx_c1, kx_ft, kx_aI, kx_aL, kx_aR, kx_ln, Nat.reduceAdd, Option.toList, List.cons_append, List.nil_append, cf8_2, cf8_1, cf8_0])
        all_goals (repeat' apply And.intro)
        all_goals ((try clear hB hC); first | exact True.intro | rfl | (have zq : a < n := (nI_ltI (by omega) (by omega)).mp ze8; unfold cx_nx; simp only [if_pos zq]; simp only [zc8, ze8, zc22, ze22, zc36, ze36, ↓reduceIte, true_and, and_true, and_false, false_and, and_self, not_true_eq_false, not_false_eq_true]) | (have zq : ¬ a < n := fun q => ze8 ((nI_ltI (by omega) (by omega)).mpr q); unfold cx_nx; simp only [if_neg zq]; rw [if_neg (by decide)]))

section KZR
variable {l : Launch} {G : kx_G} {P : kx_P} {sz : Nat} {F T : Nat → Int32} {x : Value} {n a : Nat}
theorem ct_X8_nextIs_t (hT : P 67 = kI 0 400 T) (h1 : F 1 = nI n) (hn : n ≤ 400) (h2 : F 2 = nI a) (ha : a ≤ n) {ch : Int32} (hch : ¬ ch = 0) (h : cx_nx T n a = ch) : kx_M l G sX8_nextIs 1 0 0 [.ref 68, .int ch] (cx_8 P x F) sz (some (.int 1)) (cx_8 P x F) sz := by
  have z := ct_X8_nextIs l G (sz := sz) (x := x) hT h1 hn h2 ha hch
  rw [if_pos h] at z
  exact z
theorem ct_X8_nextIs_f (hT : P 67 = kI 0 400 T) (h1 : F 1 = nI n) (hn : n ≤ 400) (h2 : F 2 = nI a) (ha : a ≤ n) {ch : Int32} (hch : ¬ ch = 0) (h : ¬ cx_nx T n a = ch) : kx_M l G sX8_nextIs 1 0 0 [.ref 68, .int ch] (cx_8 P x F) sz (some (.int 0)) (cx_8 P x F) sz := by
  have z := ct_X8_nextIs l G (sz := sz) (x := x) hT h1 hn h2 ha hch
  rw [if_neg h] at z
  exact z
theorem ct_X8_nextIsDigit_t (hT : P 67 = kI 0 400 T) (h1 : F 1 = nI n) (hn : n ≤ 400) (h2 : F 2 = nI a) (ha : a ≤ n) (h : 48 ≤ cx_nx T n a ∧ cx_nx T n a ≤ 57) : kx_M l G sX8_nextIsDigit 1 0 0 [.ref 68] (cx_8 P x F) sz (some (.int 1)) (cx_8 P x F) sz := by
  have z := ct_X8_nextIsDigit l G (sz := sz) (x := x) hT h1 hn h2 ha
  rw [if_pos h] at z
  exact z
theorem ct_X8_nextIsDigit_f (hT : P 67 = kI 0 400 T) (h1 : F 1 = nI n) (hn : n ≤ 400) (h2 : F 2 = nI a) (ha : a ≤ n) (h : ¬ (48 ≤ cx_nx T n a ∧ cx_nx T n a ≤ 57)) : kx_M l G sX8_nextIsDigit 1 0 0 [.ref 68] (cx_8 P x F) sz (some (.int 0)) (cx_8 P x F) sz := by
  have z := ct_X8_nextIsDigit l G (sz := sz) (x := x) hT h1 hn h2 ha
  rw [if_neg h] at z
  exact z
end KZR
theorem cx_nx_lt {T : Nat → Int32} {n a : Nat} {ch : Int32} (h : cx_nx T n a = ch) (hch : ¬ ch = 0) : a < n := by
  unfold cx_nx at h
  by_cases q : a < n
  · exact q
  · rw [if_neg q] at h; exact absurd h.symm hch
theorem cx_nx_d {T : Nat → Int32} {n a : Nat} (h : 48 ≤ cx_nx T n a ∧ cx_nx T n a ≤ 57) : a < n ∧ cx_nx T n a = T a := by
  unfold cx_nx at h ⊢
  by_cases q : a < n
  · exact ⟨q, if_pos q⟩
  · rw [if_neg q] at h; exact absurd h.1 (by decide)
def bX8_takeSign_0 : List kx_O := [(.aload_n 0, 0, 0, 0, .null), (.iload_n 1, 1, 0, 0, .null)]
theorem kX8_takeSign_0 : kx_oks kxL_X8 false cX8_takeSign 0 bX8_takeSign_0 = true := by decide +kernel
def bX8_takeSign_5 : List kx_O := [(.ifCond .ne 13, 18, 0, 0, .null)]
theorem kX8_takeSign_5 : kx_oks kxL_X8 false cX8_takeSign 5 bX8_takeSign_5 = true := by decide +kernel
def bX8_takeSign_8 : List kx_O := [(.aload_n 0, 0, 0, 0, .null), (.iconst 1, 0, 0, 0, .int 1), (.aload_n 0, 0, 0, 0, .null), (.getfield 28, 8, 2, 0, .null)]
theorem kX8_takeSign_8 : kx_oks kxL_X8 false cX8_takeSign 8 bX8_takeSign_8 = true := by decide +kernel
def bX8_takeSign_17 : List kx_O := [(.ireturn, 0, 0, 0, .null)]
theorem kX8_takeSign_17 : kx_oks kxL_X8 false cX8_takeSign 17 bX8_takeSign_17 = true := by decide +kernel
def bX8_takeSign_18 : List kx_O := [(.aload_n 0, 0, 0, 0, .null), (.iconst 1, 0, 0, 0, .int 1)]
theorem kX8_takeSign_18 : kx_oks kxL_X8 false cX8_takeSign 18 bX8_takeSign_18 = true := by decide +kernel
def bX8_takeSign_23 : List kx_O := [(.iconst 1, 0, 0, 0, .int 1), (.ireturn, 0, 0, 0, .null)]
theorem kX8_takeSign_23 : kx_oks kxL_X8 false cX8_takeSign 23 bX8_takeSign_23 = true := by decide +kernel
theorem dX8_takeSign_2 : decode cX8_takeSign 2 = .ok (.invokevirtual 54, 3) := by decide +kernel
theorem dX8_takeSign_14 : decode cX8_takeSign 14 = .ok (.invokevirtual 58, 3) := by decide +kernel
theorem dX8_takeSign_20 : decode cX8_takeSign 20 = .ok (.invokevirtual 46, 3) := by decide +kernel
set_option maxRecDepth 100000 in
set_option maxHeartbeats 4000000 in
theorem ct_X8_takeSign_t (l : Launch) (G : kx_G) {P : kx_P} {sz : Nat} {F T : Nat → Int32} {x : Value} (hT : P 67 = kI 0 400 T) {n a : Nat} (h1 : F 1 = nI n) (hn : n ≤ 400) (h2 : F 2 = nI a) (ha : a ≤ n) {ch : Int32} (hch : ¬ ch = 0) (h : cx_nx T n a = ch)  : kx_M l G sX8_takeSign 3 0 0 [.ref 68, .int (ch)] (cx_8 P x F) sz (some (.int (1))) (cx_8 P x (upd (F) 2 (nI (ck_sk T n (a + 1))))) sz := by
  refine kx_mk kx_tab kxLok_X8 (ini := false) [some (.ref 68), some (.int (ch))] ⟨by decide, rfl, by decide, by decide⟩ (by first | exact Or.inl rfl | exact Or.inr rfl) rfl rfl (fun g hB hC => ?_)
  refine hB bX8_takeSign_0 _ _ _ _ _ _ _ kX8_takeSign_0 ?_
  dsimp only [bX8_takeSign_0, kx_wp, kx_step, kx_lI, kx_lL, kx_lA, kx_gl, kx_pI, kx_pL, kx_pR, kx_pA, kx_pV, kx_s1, kx_s2, kx_sl, kx_pre, kx_c2, kx_pl, kx_cmp, kx_oF, kx_eqN, kx_nil, kx_c1, kx_ft, kx_aI, kx_aL, kx_aR, kx_ln, Nat.reduceAdd, Option.toList, List.cons_append, List.nil_append, cf8_2]
  repeat (simp only [pk_us, pk_un, kz_uu, ne_eq, Nat.reduceEqDiff, not_false_eq_true, nI_1, cx_8s, cx_8ss, cx_8o, cx_8n (show ¬ (67:Nat) = 68 by decide), h1, h2, hT, nI_clamp (show a < 2 ^ 31 by omega), ks_eq, ks_ss]; try dsimp only [kx_wp, kx_step, kx_lI, kx_lL, kx_lA, kx_gl, kx_pI, kx_pL, kx_pR, kx_pA, kx_pV, kx_s1, kx_s2, kx_sl, kx_pre, kx_c2, kx_pl, kx_cmp, kx_oF, kx_eqN, kx_nil, kx_c1, kx_ft, kx_aI, kx_aL, kx_aR, kx_ln, Nat.reduceAdd, Option.toList, List.cons_append, List.nil_append, cf8_2])
  repeat' apply And.intro
  all_goals try (first | with_reducible assumption | (with_reducible refine ck_nzI ?_; simp; done) | (with_reducible refine ck_nzL ?_; simp; done) | (with_reducible refine vp_in_nI ?_ ?_ <;> first | omega | decide) | (with_reducible refine Nat.le_of_ble_eq_true ?_; rfl) | omega | exact Or.inl trivial | exact Or.inr trivial | exact Or.inl rfl | exact Or.inr rfl)
  refine hC.1 54 _ _ _ _ _ _ _ 8 _ _ _ _ _ _ _ _ _ _ _ _ lX8_54 (ct_X8_nextIs_t hT h1 hn h2 ha hch h) ⟨by decide, rfl⟩ (cx_8o) rfl rfl (Nat.le_of_ble_eq_true rfl) (by first | decide | omega) (by decide) (by omega) (by omega) dX8_takeSign_2 ?_
  refine hB bX8_takeSign_5 _ _ _ _ _ _ _ kX8_takeSign_5 ?_
  dsimp only [bX8_takeSign_5, kx_wp, kx_step, kx_lI, kx_lL, kx_lA, kx_gl, kx_pI, kx_pL, kx_pR, kx_pA, kx_pV, kx_s1, kx_s2, kx_sl, kx_pre, kx_c2, kx_pl, kx_cmp, kx_oF, kx_eqN, kx_nil, kx_c1, kx_ft, kx_aI, kx_aL, kx_aR, kx_ln, Nat.reduceAdd, Option.toList, List.cons_append, List.nil_append, cf8_2]
  repeat (simp only [pk_us, pk_un, kz_uu, ne_eq, Nat.reduceEqDiff, not_false_eq_true, nI_1, cx_8s, cx_8ss, cx_8o, cx_8n (show ¬ (67:Nat) = 68 by decide), h1, h2, hT, nI_clamp (show a < 2 ^ 31 by omega), ks_eq, ks_ss]; try dsimp only [kx_wp, kx_step, kx_lI, kx_lL, kx_lA, kx_gl, kx_pI, kx_pL, kx_pR, kx_pA, kx_pV, kx_s1, kx_s2, kx_sl, kx_pre, kx_c2, kx_pl, kx_cmp, kx_oF, kx_eqN, kx_nil, kx_c1, kx_ft, kx_aI, kx_aL, kx_aR, kx_ln, Nat.reduceAdd, Option.toList, List.cons_append, List.nil_append, cf8_2])
  repeat' apply And.intro
  all_goals try (first | with_reducible assumption | (with_reducible refine ck_nzI ?_; simp; done) | (with_reducible refine ck_nzL ?_; simp; done) | (with_reducible refine vp_in_nI ?_ ?_ <;> first | omega | decide) | (with_reducible refine Nat.le_of_ble_eq_true ?_; rfl) | omega | exact Or.inl trivial | exact Or.inr trivial | exact Or.inl rfl | exact Or.inr rfl)
  · intro zc5
    have ze5 := zc5
    refine hB bX8_takeSign_18 _ _ _ _ _ _ _ kX8_takeSign_18 ?_
    dsimp only [bX8_takeSign_18, kx_wp, kx_step, kx_lI, kx_lL, kx_lA, kx_gl, kx_pI, kx_pL, kx_pR, kx_pA, kx_pV, kx_s1, kx_s2, kx_sl, kx_pre, kx_c2, kx_pl, kx_cmp, kx_oF, kx_eqN, kx_nil, kx_c1, kx_ft, kx_aI, kx_aL, kx_aR, kx_ln, Nat.reduceAdd, Option.toList, List.cons_append, List.nil_append, cf8_2]
    repeat (simp only [pk_us, pk_un, kz_uu, ne_eq, Nat.reduceEqDiff, not_false_eq_true, nI_1, cx_8s, cx_8ss, cx_8o, cx_8n (show ¬ (67:Nat) = 68 by decide), h1, h2, hT, nI_clamp (show a < 2 ^ 31 by omega), ks_eq, ks_ss]; try dsimp only [kx_wp, kx_step, kx_lI, kx_lL, kx_lA, kx_gl, kx_pI, kx_pL, kx_pR, kx_pA, kx_pV, kx_s1, kx_s2, kx_sl, kx_pre, kx_c2, kx_pl, kx_cmp, kx_oF, kx_eqN, kx_nil, kx_c1, kx_ft, kx_aI, kx_aL, kx_aR, kx_ln, Nat.reduceAdd, Option.toList, List.cons_append, List.nil_append, cf8_2])
    repeat' apply And.intro
    all_goals try (first | with_reducible assumption | (with_reducible refine ck_nzI ?_; simp; done) | (with_reducible refine ck_nzL ?_; simp; done) | (with_reducible refine vp_in_nI ?_ ?_ <;> first | omega | decide) | (with_reducible refine Nat.le_of_ble_eq_true ?_; rfl) | omega | exact Or.inl trivial | exact Or.inr trivial | exact Or.inl rfl | exact Or.inr rfl)
    refine hC.1 46 _ _ _ _ _ _ _ 8 _ _ _ _ _ _ _ _ _ _ _ _ lX8_46 (ct_X8_skip1 l G hT h1 hn h2 (cx_nx_lt h hch)) ⟨by decide, rfl⟩ (cx_8o) rfl rfl (Nat.le_of_ble_eq_true rfl) (by first | decide | omega) (by decide) (by omega) (by omega) dX8_takeSign_20 ?_
    refine hB bX8_takeSign_23 _ _ _ _ _ _ _ kX8_takeSign_23 ?_
    dsimp only [bX8_takeSign_23, kx_wp, kx_step, kx_lI, kx_lL, kx_lA, kx_gl, kx_pI, kx_pL, kx_pR, kx_pA, kx_pV, kx_s1, kx_s2, kx_sl, kx_pre, kx_c2, kx_pl, kx_cmp, kx_oF, kx_eqN, kx_nil, kx_c1, kx_ft, kx_aI, kx_aL, kx_aR, kx_ln, Nat.reduceAdd, Option.toList, List.cons_append, List.nil_append, cf8_2]
    repeat (simp only [pk_us, pk_un, kz_uu, ne_eq, Nat.reduceEqDiff, not_false_eq_true, nI_1, cx_8s, cx_8ss, cx_8o, cx_8n (show ¬ (67:Nat) = 68 by decide), h1, h2, hT, nI_clamp (show a < 2 ^ 31 by omega), ks_eq, ks_ss]; try dsimp only [kx_wp, kx_step, kx_lI, kx_lL, kx_lA, kx_gl, kx_pI, kx_pL, kx_pR, kx_pA, kx_pV, kx_s1, kx_s2, kx_sl, kx_pre, kx_c2, kx_pl, kx_cmp, kx_oF, kx_eqN, kx_nil, kx_c1, kx_ft, kx_aI, kx_aL, kx_aR, kx_ln, Nat.reduceAdd, Option.toList, List.cons_append, List.nil_append, cf8_2])
    all_goals (repeat' apply And.intro)
    all_goals ((try clear hB hC); first | exact True.intro | with_reducible rfl | with_reducible assumption | (with_reducible refine vp_in_nI ?_ ?_ <;> first | omega | decide) | exact Nat.le_of_ble_eq_true rfl | (with_reducible refine ck_nzI ?_; simp; done) | (with_reducible refine ck_nzL ?_; simp; done) | (simp only [pk_us, pk_uLs, ze5, ↓reduceIte, not_true_eq_false, not_false_eq_true]; done) | (simp only [ze5, ↓reduceIte, not_true_eq_false, not_false_eq_true]; with_reducible rfl) | omega | skip)
  · intro zc5
    first | exact absurd rfl zc5 | exact absurd zc5 (by decide) | exact absurd (by decide) zc5 | (exfalso; ((try clear hB hC); simp only [ck_lt, ck_le, ck_eq, not_true_eq_false, not_false_eq_true, Int32.reduceToInt, Int32.reduceAdd, Int32.reduceSub, Int32.reduceMul] at * <;> omega)) | (exfalso; simp_all; done)

set_option maxRecDepth 100000 in
set_option maxHeartbeats 4000000 in
theorem ct_X8_takeSign_f (l : Launch) (G : kx_G) {P : kx_P} {sz : Nat} {F T : Nat → Int32} {x : Value} (hT : P 67 = kI 0 400 T) {n a : Nat} (h1 : F 1 = nI n) (hn : n ≤ 400) (h2 : F 2 = nI a) (ha : a ≤ n) {ch : Int32} (hch : ¬ ch = 0) (h : ¬ cx_nx T n a = ch)  : kx_M l G sX8_takeSign 3 0 0 [.ref 68, .int (ch)] (cx_8 P x F) sz (some (.int (0))) (cx_8 P x (cx_rf 1 (nI a) F)) sz := by
  refine kx_mk kx_tab kxLok_X8 (ini := false) [some (.ref 68), some (.int (ch))] ⟨by decide, rfl, by decide, by decide⟩ (by first | exact Or.inl rfl | exact Or.inr rfl) rfl rfl (fun g hB hC => ?_)
  refine hB bX8_takeSign_0 _ _ _ _ _ _ _ kX8_takeSign_0 ?_
  dsimp only [bX8_takeSign_0, kx_wp, kx_step, kx_lI, kx_lL, kx_lA, kx_gl, kx_pI, kx_pL, kx_pR, kx_pA, kx_pV, kx_s1, kx_s2, kx_sl, kx_pre, kx_c2, kx_pl, kx_cmp, kx_oF, kx_eqN, kx_nil, kx_c1, kx_ft, kx_aI, kx_aL, kx_aR, kx_ln, Nat.reduceAdd, Option.toList, List.cons_append, List.nil_append, cf8_2]
  repeat (simp only [pk_us, pk_un, kz_uu, ne_eq, Nat.reduceEqDiff, not_false_eq_true, nI_1, cx_8s, cx_8ss, cx_8o, cx_8n (show ¬ (67:Nat) = 68 by decide), h1, h2, hT, nI_clamp (show a < 2 ^ 31 by omega), ks_eq, ks_ss]; try dsimp only [kx_wp, kx_step, kx_lI, kx_lL, kx_lA, kx_gl, kx_pI, kx_pL, kx_pR, kx_pA, kx_pV, kx_s1, kx_s2, kx_sl, kx_pre, kx_c2, kx_pl, kx_cmp, kx_oF, kx_eqN, kx_nil, kx_c1, kx_ft, kx_aI, kx_aL, kx_aR, kx_ln, Nat.reduceAdd, Option.toList, List.cons_append, List.nil_append, cf8_2])
  repeat' apply And.intro
  all_goals try (first | with_reducible assumption | (with_reducible refine ck_nzI ?_; simp; done) | (with_reducible refine ck_nzL ?_; simp; done) | (with_reducible refine vp_in_nI ?_ ?_ <;> first | omega | decide) | (with_reducible refine Nat.le_of_ble_eq_true ?_; rfl) | omega | exact Or.inl trivial | exact Or.inr trivial | exact Or.inl rfl | exact Or.inr rfl)
  refine hC.1 54 _ _ _ _ _ _ _ 8 _ _ _ _ _ _ _ _ _ _ _ _ lX8_54 (ct_X8_nextIs_f hT h1 hn h2 ha hch h) ⟨by decide, rfl⟩ (cx_8o) rfl rfl (Nat.le_of_ble_eq_true rfl) (by first | decide | omega) (by decide) (by omega) (by omega) dX8_takeSign_2 ?_
  refine hB bX8_takeSign_5 _ _ _ _ _ _ _ kX8_takeSign_5 ?_
  dsimp only [bX8_takeSign_5, kx_wp, kx_step, kx_lI, kx_lL, kx_lA, kx_gl, kx_pI, kx_pL, kx_pR, kx_pA, kx_pV, kx_s1, kx_s2, kx_sl, kx_pre, kx_c2, kx_pl, kx_cmp, kx_oF, kx_eqN, kx_nil, kx_c1, kx_ft, kx_aI, kx_aL, kx_aR, kx_ln, Nat.reduceAdd, Option.toList, List.cons_append, List.nil_append, cf8_2]
  repeat (simp only [pk_us, pk_un, kz_uu, ne_eq, Nat.reduceEqDiff, not_false_eq_true, nI_1, cx_8s, cx_8ss, cx_8o, cx_8n (show ¬ (67:Nat) = 68 by decide), h1, h2, hT, nI_clamp (show a < 2 ^ 31 by omega), ks_eq, ks_ss]; try dsimp only [kx_wp, kx_step, kx_lI, kx_lL, kx_lA, kx_gl, kx_pI, kx_pL, kx_pR, kx_pA, kx_pV, kx_s1, kx_s2, kx_sl, kx_pre, kx_c2, kx_pl, kx_cmp, kx_oF, kx_eqN, kx_nil, kx_c1, kx_ft, kx_aI, kx_aL, kx_aR, kx_ln, Nat.reduceAdd, Option.toList, List.cons_append, List.nil_append, cf8_2])
  repeat' apply And.intro
  all_goals try (first | with_reducible assumption | (with_reducible refine ck_nzI ?_; simp; done) | (with_reducible refine ck_nzL ?_; simp; done) | (with_reducible refine vp_in_nI ?_ ?_ <;> first | omega | decide) | (with_reducible refine Nat.le_of_ble_eq_true ?_; rfl) | omega | exact Or.inl trivial | exact Or.inr trivial | exact Or.inl rfl | exact Or.inr rfl)
  · intro zc5
    first | exact absurd rfl zc5 | exact absurd zc5 (by decide) | exact absurd (by decide) zc5 | (exfalso; ((try clear hB hC); simp only [ck_lt, ck_le, ck_eq, not_true_eq_false, not_false_eq_true, Int32.reduceToInt, Int32.reduceAdd, Int32.reduceSub, Int32.reduceMul] at * <;> omega)) | (exfalso; simp_all; done)
  · intro zc5
    with_reducible first | have ze5 := Decidable.not_not.mp zc5 | have ze5 := zc5
    refine hB bX8_takeSign_8 _ _ _ _ _ _ _ kX8_takeSign_8 ?_
    dsimp only [bX8_takeSign_8, kx_wp, kx_step, kx_lI, kx_lL, kx_lA, kx_gl, kx_pI, kx_pL, kx_pR, kx_pA, kx_pV, kx_s1, kx_s2, kx_sl, kx_pre, kx_c2, kx_pl, kx_cmp, kx_oF, kx_eqN, kx_nil, kx_c1, kx_ft, kx_aI, kx_aL, kx_aR, kx_ln, Nat.reduceAdd, Option.toList, List.cons_append, List.nil_append, cf8_2]
    repeat (simp only [pk_us, pk_un, kz_uu, ne_eq, Nat.reduceEqDiff, not_false_eq_true, nI_1, cx_8s, cx_8ss, cx_8o, cx_8n (show ¬ (67:Nat) = 68 by decide), h1, h2, hT, nI_clamp (show a < 2 ^ 31 by omega), ks_eq, ks_ss]; try dsimp only [kx_wp, kx_step, kx_lI, kx_lL, kx_lA, kx_gl, kx_pI, kx_pL, kx_pR, kx_pA, kx_pV, kx_s1, kx_s2, kx_sl, kx_pre, kx_c2, kx_pl, kx_cmp, kx_oF, kx_eqN, kx_nil, kx_c1, kx_ft, kx_aI, kx_aL, kx_aR, kx_ln, Nat.reduceAdd, Option.toList, List.cons_append, List.nil_append, cf8_2])
    repeat' apply And.intro
    all_goals try (first | with_reducible assumption | (with_reducible refine ck_nzI ?_; simp; done) | (with_reducible refine ck_nzL ?_; simp; done) | (with_reducible refine vp_in_nI ?_ ?_ <;> first | omega | decide) | (with_reducible refine Nat.le_of_ble_eq_true ?_; rfl) | omega | exact Or.inl trivial | exact Or.inr trivial | exact Or.inl rfl | exact Or.inr rfl)
    refine hC.1 58 _ _ _ _ _ _ _ 8 _ _ _ _ _ _ _ _ _ _ _ _ lX8_58 (ct_X8_refuse l G) ⟨by decide, rfl⟩ (cx_8o) rfl rfl (Nat.le_of_ble_eq_true rfl) (by first | decide | omega) (by decide) (by omega) (by omega) dX8_takeSign_14 ?_
    refine hB bX8_takeSign_17 _ _ _ _ _ _ _ kX8_takeSign_17 ?_
    dsimp only [bX8_takeSign_17, kx_wp, kx_step, kx_lI, kx_lL, kx_lA, kx_gl, kx_pI, kx_pL, kx_pR, kx_pA, kx_pV, kx_s1, kx_s2, kx_sl, kx_pre, kx_c2, kx_pl, kx_cmp, kx_oF, kx_eqN, kx_nil, kx_c1, kx_ft, kx_aI, kx_aL, kx_aR, kx_ln, Nat.reduceAdd, Option.toList, List.cons_append, List.nil_append, cf8_2]
    repeat (simp only [pk_us, pk_un, kz_uu, ne_eq, Nat.reduceEqDiff, not_false_eq_true, nI_1, cx_8s, cx_8ss, cx_8o, cx_8n (show ¬ (67:Nat) = 68 by decide), h1, h2, hT, nI_clamp (show a < 2 ^ 31 by omega), ks_eq, ks_ss]; try dsimp only [kx_wp, kx_step, kx_lI, kx_lL, kx_lA, kx_gl, kx_pI, kx_pL, kx_pR, kx_pA, kx_pV, kx_s1, kx_s2, kx_sl, kx_pre, kx_c2, kx_pl, kx_cmp, kx_oF, kx_eqN, kx_nil, kx_c1, kx_ft, kx_aI, kx_aL, kx_aR, kx_ln, Nat.reduceAdd, Option.toList, List.cons_append, List.nil_append, cf8_2])
    all_goals (repeat' apply And.intro)
    all_goals ((try clear hB hC); first | exact True.intro | with_reducible rfl | with_reducible assumption | (with_reducible refine vp_in_nI ?_ ?_ <;> first | omega | decide) | exact Nat.le_of_ble_eq_true rfl | (with_reducible refine ck_nzI ?_; simp; done) | (with_reducible refine ck_nzL ?_; simp; done) | (simp only [pk_us, pk_uLs, eq_true ze5, ↓reduceIte, not_true_eq_false, not_false_eq_true]; done) | (simp only [eq_true ze5, ↓reduceIte, not_true_eq_false, not_false_eq_true]; with_reducible rfl) | omega | skip)


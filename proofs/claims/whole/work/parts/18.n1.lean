/-! a switch's cases one by one -/
def kx_swl (x lo : Int) (g : Nat → Prop) : List Nat → Nat → Prop
  | [], _ => True
  | w :: r, j => (x = lo + (j : Int) → g w) ∧ kx_swl x lo g r (j + 1)
theorem kx_sw0 {x lo : Int} {g : Nat → Prop} : ∀ (ws : List Nat) (b : Nat), kx_swl x lo g ws b → ∀ (j w : Nat), x = lo + ((b + j : Nat) : Int) → ws[j]? = some w → g w := by
  intro ws
  induction ws with
  | nil => intro b _ j w _ h; cases h
  | cons a r ih =>
    intro b h j w hx hw
    cases j with
    | zero => cases hw; exact h.1 hx
    | succ j => exact ih (b + 1) h.2 j w (by rw [hx]; congr 2; omega) hw
theorem kx_sw {x lo : Int} {g : Nat → Prop} {pc : Nat} {offs : Array Int} {ws : List Nat} (h : offs.toList.map (fun o => ((pc : Int) + o).toNat) = ws) (k : kx_swl x lo g ws 0) : ∀ (j w : Nat), x = lo + (j : Int) → (offs.map fun o => ((pc : Int) + o).toNat)[j]? = some w → g w := by
  intro j w hx hw
  refine kx_sw0 ws 0 k j w (by rw [hx]; congr 2; omega) ?_
  rw [← h]
  rw [Array.getElem?_map] at hw
  rw [List.getElem?_map, Array.getElem?_toList]
  exact hw

def ck_two (w a b : Int32) : Int32 := if w = 4 then a + b else if w = 5 then a - b else if w = 6 then a * b else if w = 7 then (if b = 0 then 0 else if b = -1 then -a else a / b) else if b = 0 then 0 else if b = -1 then 0 else a - a / b * b
def bX11_two_0 : List kx_O := [(.iload_n 0, 0, 0, 0, .null), (.tableswitch 65 4 7 #[31, 35, 39, 43], 66, 31, 0, .null)]
theorem kX11_two_0 : kx_oks kxL_X11 false cX11_two 0 bX11_two_0 = true := by decide +kernel
def bX11_two_32 : List kx_O := [(.iload_n 1, 1, 0, 0, .null), (.iload_n 2, 2, 0, 0, .null), (.iadd, 0, 0, 0, .null), (.ireturn, 0, 0, 0, .null)]
theorem kX11_two_32 : kx_oks kxL_X11 false cX11_two 32 bX11_two_32 = true := by decide +kernel
def bX11_two_36 : List kx_O := [(.iload_n 1, 1, 0, 0, .null), (.iload_n 2, 2, 0, 0, .null), (.isub, 0, 0, 0, .null), (.ireturn, 0, 0, 0, .null)]
theorem kX11_two_36 : kx_oks kxL_X11 false cX11_two 36 bX11_two_36 = true := by decide +kernel
def bX11_two_40 : List kx_O := [(.iload_n 1, 1, 0, 0, .null), (.iload_n 2, 2, 0, 0, .null), (.imul, 0, 0, 0, .null), (.ireturn, 0, 0, 0, .null)]
theorem kX11_two_40 : kx_oks kxL_X11 false cX11_two 40 bX11_two_40 = true := by decide +kernel
def bX11_two_44 : List kx_O := [(.iload_n 2, 2, 0, 0, .null), (.ifCond .ne 7, 52, 0, 0, .null)]
theorem kX11_two_44 : kx_oks kxL_X11 false cX11_two 44 bX11_two_44 = true := by decide +kernel
def bX11_two_48 : List kx_O := [(.iconst 0, 0, 0, 0, .int 0), (.goto 16, 65, 0, 0, .null)]
theorem kX11_two_48 : kx_oks kxL_X11 false cX11_two 48 bX11_two_48 = true := by decide +kernel
def bX11_two_52 : List kx_O := [(.iload_n 2, 2, 0, 0, .null), (.iconst (-1), 0, 0, 0, .int (-1)), (.if_icmp .ne 8, 62, 0, 0, .null)]
theorem kX11_two_52 : kx_oks kxL_X11 false cX11_two 52 bX11_two_52 = true := by decide +kernel
def bX11_two_57 : List kx_O := [(.iload_n 1, 1, 0, 0, .null), (.ineg, 0, 0, 0, .null), (.goto 6, 65, 0, 0, .null)]
theorem kX11_two_57 : kx_oks kxL_X11 false cX11_two 57 bX11_two_57 = true := by decide +kernel
def bX11_two_62 : List kx_O := [(.iload_n 1, 1, 0, 0, .null), (.iload_n 2, 2, 0, 0, .null), (.idiv, 0, 0, 0, .null)]
theorem kX11_two_62 : kx_oks kxL_X11 false cX11_two 62 bX11_two_62 = true := by decide +kernel
def bX11_two_65 : List kx_O := [(.ireturn, 0, 0, 0, .null)]
theorem kX11_two_65 : kx_oks kxL_X11 false cX11_two 65 bX11_two_65 = true := by decide +kernel
def bX11_two_66 : List kx_O := [(.iload_n 2, 2, 0, 0, .null), (.ifCond .eq 8, 75, 0, 0, .null)]
theorem kX11_two_66 : kx_oks kxL_X11 false cX11_two 66 bX11_two_66 = true := by decide +kernel
def bX11_two_70 : List kx_O := [(.iload_n 2, 2, 0, 0, .null), (.iconst (-1), 0, 0, 0, .int (-1)), (.if_icmp .ne 7, 79, 0, 0, .null)]
theorem kX11_two_70 : kx_oks kxL_X11 false cX11_two 70 bX11_two_70 = true := by decide +kernel
def bX11_two_75 : List kx_O := [(.iconst 0, 0, 0, 0, .int 0), (.goto 6, 82, 0, 0, .null)]
theorem kX11_two_75 : kx_oks kxL_X11 false cX11_two 75 bX11_two_75 = true := by decide +kernel
def bX11_two_79 : List kx_O := [(.iload_n 1, 1, 0, 0, .null), (.iload_n 2, 2, 0, 0, .null), (.irem, 0, 0, 0, .null)]
theorem kX11_two_79 : kx_oks kxL_X11 false cX11_two 79 bX11_two_79 = true := by decide +kernel
def bX11_two_82 : List kx_O := [(.ireturn, 0, 0, 0, .null)]
theorem kX11_two_82 : kx_oks kxL_X11 false cX11_two 82 bX11_two_82 = true := by decide +kernel
set_option maxRecDepth 100000 in
set_option maxHeartbeats 4000000 in
theorem ct_X11_two (l : Launch) (G : kx_G) {M : Nat → Int32} {A : Nat → Nat → Int32} {L : Nat → Nat → Int64} {R : kx_P} {sz : Nat} {w a b : Int32} : kx_M l G sX11_two 1 0 0 [.int (w), .int (a), .int (b)] (mW M A L R) sz (some (.int (ck_two w a b))) (mW M A L R) sz := by
  refine kx_mk kx_tab kxLok_X11 (ini := false) [some (.int (w)), some (.int (a)), some (.int (b))] ⟨by decide, rfl, by decide, by decide⟩ (⟨_, rfl⟩) rfl rfl (fun g hB hC => ?_)
  refine hB bX11_two_0 _ _ _ _ _ _ _ kX11_two_0 ?_
  dsimp only [bX11_two_0, kx_wp, kx_step, kx_lI, kx_lL, kx_lA, kx_gl, kx_pI, kx_pL, kx_pR, kx_pA, kx_pV, kx_s1, kx_s2, kx_sl, kx_pre, kx_c2, kx_pl, kx_cmp, kx_oF, kx_eqN, kx_nil, kx_c1, kx_ft, kx_aI, kx_aL, kx_aR, kx_ln, Nat.reduceAdd, Option.toList, List.cons_append, List.nil_append, mW_o]
  repeat' apply And.intro
  all_goals try (first | with_reducible assumption | (with_reducible refine ck_nzI ?_; simp; done) | (with_reducible refine ck_nzL ?_; simp; done) | (with_reducible refine vp_in_nI ?_ ?_ <;> first | omega | decide) | (with_reducible refine Nat.le_of_ble_eq_true ?_; rfl) | omega)
  · intro c1
    have n1_0 : ¬ w = 4 := fun h => by rw [h] at c1; exact absurd c1 (by decide)
    have n1_1 : ¬ w = 5 := fun h => by rw [h] at c1; exact absurd c1 (by decide)
    have n1_2 : ¬ w = 6 := fun h => by rw [h] at c1; exact absurd c1 (by decide)
    have n1_3 : ¬ w = 7 := fun h => by rw [h] at c1; exact absurd c1 (by decide)
    refine hB bX11_two_66 _ _ _ _ _ _ _ kX11_two_66 ?_
    dsimp only [bX11_two_66, kx_wp, kx_step, kx_lI, kx_lL, kx_lA, kx_gl, kx_pI, kx_pL, kx_pR, kx_pA, kx_pV, kx_s1, kx_s2, kx_sl, kx_pre, kx_c2, kx_pl, kx_cmp, kx_oF, kx_eqN, kx_nil, kx_c1, kx_ft, kx_aI, kx_aL, kx_aR, kx_ln, Nat.reduceAdd, Option.toList, List.cons_append, List.nil_append, mW_o]
    repeat' apply And.intro
    all_goals try (first | with_reducible assumption | (with_reducible refine ck_nzI ?_; simp; done) | (with_reducible refine ck_nzL ?_; simp; done) | (with_reducible refine vp_in_nI ?_ ?_ <;> first | omega | decide) | (with_reducible refine Nat.le_of_ble_eq_true ?_; rfl) | omega)
    · intro c67
      with_reducible first | have e67 := Int32.not_lt.mpr c67 | have e67 := Int32.not_le.mpr c67 | have e67 := Int32.not_le.mp c67 | have e67 := Int32.not_lt.mp c67 | have e67 := Int64.not_lt.mpr c67 | have e67 := Int64.not_le.mpr c67 | have e67 := Int64.not_le.mp c67 | have e67 := Int64.not_lt.mp c67 | have e67 := Decidable.not_not.mp c67 | have e67 := c67
      refine hB bX11_two_75 _ _ _ _ _ _ _ kX11_two_75 ?_
      dsimp only [bX11_two_75, kx_wp, kx_step, kx_lI, kx_lL, kx_lA, kx_gl, kx_pI, kx_pL, kx_pR, kx_pA, kx_pV, kx_s1, kx_s2, kx_sl, kx_pre, kx_c2, kx_pl, kx_cmp, kx_oF, kx_eqN, kx_nil, kx_c1, kx_ft, kx_aI, kx_aL, kx_aR, kx_ln, Nat.reduceAdd, Option.toList, List.cons_append, List.nil_append, mW_o]
      repeat' apply And.intro
      all_goals try (first | with_reducible assumption | (with_reducible refine ck_nzI ?_; simp; done) | (with_reducible refine ck_nzL ?_; simp; done) | (with_reducible refine vp_in_nI ?_ ?_ <;> first | omega | decide) | (with_reducible refine Nat.le_of_ble_eq_true ?_; rfl) | omega)
      refine hB bX11_two_82 _ _ _ _ _ _ _ kX11_two_82 ?_
      dsimp only [bX11_two_82, kx_wp, kx_step, kx_lI, kx_lL, kx_lA, kx_gl, kx_pI, kx_pL, kx_pR, kx_pA, kx_pV, kx_s1, kx_s2, kx_sl, kx_pre, kx_c2, kx_pl, kx_cmp, kx_oF, kx_eqN, kx_nil, kx_c1, kx_ft, kx_aI, kx_aL, kx_aR, kx_ln, Nat.reduceAdd, Option.toList, List.cons_append, List.nil_append, mW_o]
      all_goals (repeat' apply And.intro)
      all_goals ((try clear hB hC); first | exact True.intro | with_reducible rfl | with_reducible assumption | (with_reducible refine vp_in_nI ?_ ?_ <;> first | omega | decide) | (with_reducible refine Nat.le_of_ble_eq_true ?_; rfl) | (with_reducible refine ck_nzI ?_; simp; done) | (with_reducible refine ck_nzL ?_; simp; done) | (simp only [ck_two, n1_0, n1_1, n1_2, n1_3, eq_true e67, ↓reduceIte, not_true_eq_false, not_false_eq_true]; done) | (simp only [ck_two, n1_0, n1_1, n1_2, n1_3, eq_true e67, ↓reduceIte, not_true_eq_false, not_false_eq_true]; with_reducible rfl))
    · intro c67
      with_reducible first | have e67 := Int32.not_lt.mpr c67 | have e67 := Int32.not_le.mpr c67 | have e67 := Int32.not_le.mp c67 | have e67 := Int32.not_lt.mp c67 | have e67 := Int64.not_lt.mpr c67 | have e67 := Int64.not_le.mpr c67 | have e67 := Int64.not_le.mp c67 | have e67 := Int64.not_lt.mp c67 | have e67 := Decidable.not_not.mp c67 | have e67 := c67
      refine hB bX11_two_70 _ _ _ _ _ _ _ kX11_two_70 ?_
      dsimp only [bX11_two_70, kx_wp, kx_step, kx_lI, kx_lL, kx_lA, kx_gl, kx_pI, kx_pL, kx_pR, kx_pA, kx_pV, kx_s1, kx_s2, kx_sl, kx_pre, kx_c2, kx_pl, kx_cmp, kx_oF, kx_eqN, kx_nil, kx_c1, kx_ft, kx_aI, kx_aL, kx_aR, kx_ln, Nat.reduceAdd, Option.toList, List.cons_append, List.nil_append, mW_o]
      repeat' apply And.intro
      all_goals try (first | with_reducible assumption | (with_reducible refine ck_nzI ?_; simp; done) | (with_reducible refine ck_nzL ?_; simp; done) | (with_reducible refine vp_in_nI ?_ ?_ <;> first | omega | decide) | (with_reducible refine Nat.le_of_ble_eq_true ?_; rfl) | omega)
      · intro c72
        with_reducible first | have e72 := Int32.not_lt.mpr c72 | have e72 := Int32.not_le.mpr c72 | have e72 := Int32.not_le.mp c72 | have e72 := Int32.not_lt.mp c72 | have e72 := Int64.not_lt.mpr c72 | have e72 := Int64.not_le.mpr c72 | have e72 := Int64.not_le.mp c72 | have e72 := Int64.not_lt.mp c72 | have e72 := Decidable.not_not.mp c72 | have e72 := c72
        refine hB bX11_two_79 _ _ _ _ _ _ _ kX11_two_79 ?_
        dsimp only [bX11_two_79, kx_wp, kx_step, kx_lI, kx_lL, kx_lA, kx_gl, kx_pI, kx_pL, kx_pR, kx_pA, kx_pV, kx_s1, kx_s2, kx_sl, kx_pre, kx_c2, kx_pl, kx_cmp, kx_oF, kx_eqN, kx_nil, kx_c1, kx_ft, kx_aI, kx_aL, kx_aR, kx_ln, Nat.reduceAdd, Option.toList, List.cons_append, List.nil_append, mW_o]
        repeat' apply And.intro
        all_goals try (first | with_reducible assumption | (with_reducible refine ck_nzI ?_; simp; done) | (with_reducible refine ck_nzL ?_; simp; done) | (with_reducible refine vp_in_nI ?_ ?_ <;> first | omega | decide) | (with_reducible refine Nat.le_of_ble_eq_true ?_; rfl) | omega)
        refine hB bX11_two_82 _ _ _ _ _ _ _ kX11_two_82 ?_
        dsimp only [bX11_two_82, kx_wp, kx_step, kx_lI, kx_lL, kx_lA, kx_gl, kx_pI, kx_pL, kx_pR, kx_pA, kx_pV, kx_s1, kx_s2, kx_sl, kx_pre, kx_c2, kx_pl, kx_cmp, kx_oF, kx_eqN, kx_nil, kx_c1, kx_ft, kx_aI, kx_aL, kx_aR, kx_ln, Nat.reduceAdd, Option.toList, List.cons_append, List.nil_append, mW_o]
        all_goals (repeat' apply And.intro)
        all_goals ((try clear hB hC); first | exact True.intro | with_reducible rfl | with_reducible assumption | (with_reducible refine vp_in_nI ?_ ?_ <;> first | omega | decide) | (with_reducible refine Nat.le_of_ble_eq_true ?_; rfl) | (with_reducible refine ck_nzI ?_; simp; done) | (with_reducible refine ck_nzL ?_; simp; done) | (simp only [ck_two, n1_0, n1_1, n1_2, n1_3, e67, e72, ↓reduceIte, not_true_eq_false, not_false_eq_true]; done) | (simp only [ck_two, n1_0, n1_1, n1_2, n1_3, e67, e72, ↓reduceIte, not_true_eq_false, not_false_eq_true]; with_reducible rfl))
      · intro c72
        with_reducible first | have e72 := Int32.not_lt.mpr c72 | have e72 := Int32.not_le.mpr c72 | have e72 := Int32.not_le.mp c72 | have e72 := Int32.not_lt.mp c72 | have e72 := Int64.not_lt.mpr c72 | have e72 := Int64.not_le.mpr c72 | have e72 := Int64.not_le.mp c72 | have e72 := Int64.not_lt.mp c72 | have e72 := Decidable.not_not.mp c72 | have e72 := c72
        refine hB bX11_two_75 _ _ _ _ _ _ _ kX11_two_75 ?_
        dsimp only [bX11_two_75, kx_wp, kx_step, kx_lI, kx_lL, kx_lA, kx_gl, kx_pI, kx_pL, kx_pR, kx_pA, kx_pV, kx_s1, kx_s2, kx_sl, kx_pre, kx_c2, kx_pl, kx_cmp, kx_oF, kx_eqN, kx_nil, kx_c1, kx_ft, kx_aI, kx_aL, kx_aR, kx_ln, Nat.reduceAdd, Option.toList, List.cons_append, List.nil_append, mW_o]
        repeat' apply And.intro
        all_goals try (first | with_reducible assumption | (with_reducible refine ck_nzI ?_; simp; done) | (with_reducible refine ck_nzL ?_; simp; done) | (with_reducible refine vp_in_nI ?_ ?_ <;> first | omega | decide) | (with_reducible refine Nat.le_of_ble_eq_true ?_; rfl) | omega)
        refine hB bX11_two_82 _ _ _ _ _ _ _ kX11_two_82 ?_
        dsimp only [bX11_two_82, kx_wp, kx_step, kx_lI, kx_lL, kx_lA, kx_gl, kx_pI, kx_pL, kx_pR, kx_pA, kx_pV, kx_s1, kx_s2, kx_sl, kx_pre, kx_c2, kx_pl, kx_cmp, kx_oF, kx_eqN, kx_nil, kx_c1, kx_ft, kx_aI, kx_aL, kx_aR, kx_ln, Nat.reduceAdd, Option.toList, List.cons_append, List.nil_append, mW_o]
        all_goals (repeat' apply And.intro)
        all_goals ((try clear hB hC); first | exact True.intro | with_reducible rfl | with_reducible assumption | (with_reducible refine vp_in_nI ?_ ?_ <;> first | omega | decide) | (with_reducible refine Nat.le_of_ble_eq_true ?_; rfl) | (with_reducible refine ck_nzI ?_; simp; done) | (with_reducible refine ck_nzL ?_; simp; done) | (simp only [ck_two, n1_0, n1_1, n1_2, n1_3, e67, eq_true e72, ↓reduceIte, not_true_eq_false, not_false_eq_true]; done) | (simp only [ck_two, n1_0, n1_1, n1_2, n1_3, e67, eq_true e72, ↓reduceIte, not_true_eq_false, not_false_eq_true]; with_reducible rfl))
  refine kx_sw (ws := [32, 36, 40, 44]) rfl ?_
  dsimp only [kx_swl]
  refine ⟨fun c1_0 => ?_, fun c1_1 => ?_, fun c1_2 => ?_, fun c1_3 => ?_, trivial⟩
  · have e1_0 : w = 4 := Int32.toInt_inj.mp (c1_0.trans (by decide))
    have n1_1 : ¬ w = 5 := by rw [e1_0]; decide
    have n1_2 : ¬ w = 6 := by rw [e1_0]; decide
    have n1_3 : ¬ w = 7 := by rw [e1_0]; decide
    refine hB bX11_two_32 _ _ _ _ _ _ _ kX11_two_32 ?_
    dsimp only [bX11_two_32, kx_wp, kx_step, kx_lI, kx_lL, kx_lA, kx_gl, kx_pI, kx_pL, kx_pR, kx_pA, kx_pV, kx_s1, kx_s2, kx_sl, kx_pre, kx_c2, kx_pl, kx_cmp, kx_oF, kx_eqN, kx_nil, kx_c1, kx_ft, kx_aI, kx_aL, kx_aR, kx_ln, Nat.reduceAdd, Option.toList, List.cons_append, List.nil_append, mW_o]
    all_goals (repeat' apply And.intro)
    all_goals ((try clear hB hC); first | exact True.intro | with_reducible rfl | with_reducible assumption | (with_reducible refine vp_in_nI ?_ ?_ <;> first | omega | decide) | (with_reducible refine Nat.le_of_ble_eq_true ?_; rfl) | (with_reducible refine ck_nzI ?_; simp; done) | (with_reducible refine ck_nzL ?_; simp; done) | (simp only [ck_two, eq_true e1_0, n1_1, n1_2, n1_3, ↓reduceIte, not_true_eq_false, not_false_eq_true]; done) | (simp only [ck_two, eq_true e1_0, n1_1, n1_2, n1_3, ↓reduceIte, not_true_eq_false, not_false_eq_true]; with_reducible rfl))
  · have e1_1 : w = 5 := Int32.toInt_inj.mp (c1_1.trans (by decide))
    have n1_0 : ¬ w = 4 := by rw [e1_1]; decide
    have n1_2 : ¬ w = 6 := by rw [e1_1]; decide
    have n1_3 : ¬ w = 7 := by rw [e1_1]; decide
    refine hB bX11_two_36 _ _ _ _ _ _ _ kX11_two_36 ?_
    dsimp only [bX11_two_36, kx_wp, kx_step, kx_lI, kx_lL, kx_lA, kx_gl, kx_pI, kx_pL, kx_pR, kx_pA, kx_pV, kx_s1, kx_s2, kx_sl, kx_pre, kx_c2, kx_pl, kx_cmp, kx_oF, kx_eqN, kx_nil, kx_c1, kx_ft, kx_aI, kx_aL, kx_aR, kx_ln, Nat.reduceAdd, Option.toList, List.cons_append, List.nil_append, mW_o]
    all_goals (repeat' apply And.intro)
    all_goals ((try clear hB hC); first | exact True.intro | with_reducible rfl | with_reducible assumption | (with_reducible refine vp_in_nI ?_ ?_ <;> first | omega | decide) | (with_reducible refine Nat.le_of_ble_eq_true ?_; rfl) | (with_reducible refine ck_nzI ?_; simp; done) | (with_reducible refine ck_nzL ?_; simp; done) | (simp only [ck_two, eq_true e1_1, n1_0, n1_2, n1_3, ↓reduceIte, not_true_eq_false, not_false_eq_true]; done) | (simp only [ck_two, eq_true e1_1, n1_0, n1_2, n1_3, ↓reduceIte, not_true_eq_false, not_false_eq_true]; with_reducible rfl))
  · have e1_2 : w = 6 := Int32.toInt_inj.mp (c1_2.trans (by decide))
    have n1_0 : ¬ w = 4 := by rw [e1_2]; decide
    have n1_1 : ¬ w = 5 := by rw [e1_2]; decide
    have n1_3 : ¬ w = 7 := by rw [e1_2]; decide
    refine hB bX11_two_40 _ _ _ _ _ _ _ kX11_two_40 ?_
    dsimp only [bX11_two_40, kx_wp, kx_step, kx_lI, kx_lL, kx_lA, kx_gl, kx_pI, kx_pL, kx_pR, kx_pA, kx_pV, kx_s1, kx_s2, kx_sl, kx_pre, kx_c2, kx_pl, kx_cmp, kx_oF, kx_eqN, kx_nil, kx_c1, kx_ft, kx_aI, kx_aL, kx_aR, kx_ln, Nat.reduceAdd, Option.toList, List.cons_append, List.nil_append, mW_o]
    all_goals (repeat' apply And.intro)
    all_goals ((try clear hB hC); first | exact True.intro | with_reducible rfl | with_reducible assumption | (with_reducible refine vp_in_nI ?_ ?_ <;> first | omega | decide) | (with_reducible refine Nat.le_of_ble_eq_true ?_; rfl) | (with_reducible refine ck_nzI ?_; simp; done) | (with_reducible refine ck_nzL ?_; simp; done) | (simp only [ck_two, eq_true e1_2, n1_0, n1_1, n1_3, ↓reduceIte, not_true_eq_false, not_false_eq_true]; done) | (simp only [ck_two, eq_true e1_2, n1_0, n1_1, n1_3, ↓reduceIte, not_true_eq_false, not_false_eq_true]; with_reducible rfl))
  · have e1_3 : w = 7 := Int32.toInt_inj.mp (c1_3.trans (by decide))
    have n1_0 : ¬ w = 4 := by rw [e1_3]; decide
    have n1_1 : ¬ w = 5 := by rw [e1_3]; decide
    have n1_2 : ¬ w = 6 := by rw [e1_3]; decide
    refine hB bX11_two_44 _ _ _ _ _ _ _ kX11_two_44 ?_
    dsimp only [bX11_two_44, kx_wp, kx_step, kx_lI, kx_lL, kx_lA, kx_gl, kx_pI, kx_pL, kx_pR, kx_pA, kx_pV, kx_s1, kx_s2, kx_sl, kx_pre, kx_c2, kx_pl, kx_cmp, kx_oF, kx_eqN, kx_nil, kx_c1, kx_ft, kx_aI, kx_aL, kx_aR, kx_ln, Nat.reduceAdd, Option.toList, List.cons_append, List.nil_append, mW_o]
    repeat' apply And.intro
    all_goals try (first | with_reducible assumption | (with_reducible refine ck_nzI ?_; simp; done) | (with_reducible refine ck_nzL ?_; simp; done) | (with_reducible refine vp_in_nI ?_ ?_ <;> first | omega | decide) | (with_reducible refine Nat.le_of_ble_eq_true ?_; rfl) | omega)
    · intro c45
      with_reducible first | have e45 := Int32.not_lt.mpr c45 | have e45 := Int32.not_le.mpr c45 | have e45 := Int32.not_le.mp c45 | have e45 := Int32.not_lt.mp c45 | have e45 := Int64.not_lt.mpr c45 | have e45 := Int64.not_le.mpr c45 | have e45 := Int64.not_le.mp c45 | have e45 := Int64.not_lt.mp c45 | have e45 := Decidable.not_not.mp c45 | have e45 := c45
      refine hB bX11_two_52 _ _ _ _ _ _ _ kX11_two_52 ?_
      dsimp only [bX11_two_52, kx_wp, kx_step, kx_lI, kx_lL, kx_lA, kx_gl, kx_pI, kx_pL, kx_pR, kx_pA, kx_pV, kx_s1, kx_s2, kx_sl, kx_pre, kx_c2, kx_pl, kx_cmp, kx_oF, kx_eqN, kx_nil, kx_c1, kx_ft, kx_aI, kx_aL, kx_aR, kx_ln, Nat.reduceAdd, Option.toList, List.cons_append, List.nil_append, mW_o]
      repeat' apply And.intro
      all_goals try (first | with_reducible assumption | (with_reducible refine ck_nzI ?_; simp; done) | (with_reducible refine ck_nzL ?_; simp; done) | (with_reducible refine vp_in_nI ?_ ?_ <;> first | omega | decide) | (with_reducible refine Nat.le_of_ble_eq_true ?_; rfl) | omega)
      · intro c54
        with_reducible first | have e54 := Int32.not_lt.mpr c54 | have e54 := Int32.not_le.mpr c54 | have e54 := Int32.not_le.mp c54 | have e54 := Int32.not_lt.mp c54 | have e54 := Int64.not_lt.mpr c54 | have e54 := Int64.not_le.mpr c54 | have e54 := Int64.not_le.mp c54 | have e54 := Int64.not_lt.mp c54 | have e54 := Decidable.not_not.mp c54 | have e54 := c54
        refine hB bX11_two_62 _ _ _ _ _ _ _ kX11_two_62 ?_
        dsimp only [bX11_two_62, kx_wp, kx_step, kx_lI, kx_lL, kx_lA, kx_gl, kx_pI, kx_pL, kx_pR, kx_pA, kx_pV, kx_s1, kx_s2, kx_sl, kx_pre, kx_c2, kx_pl, kx_cmp, kx_oF, kx_eqN, kx_nil, kx_c1, kx_ft, kx_aI, kx_aL, kx_aR, kx_ln, Nat.reduceAdd, Option.toList, List.cons_append, List.nil_append, mW_o]
        repeat' apply And.intro
        all_goals try (first | with_reducible assumption | (with_reducible refine ck_nzI ?_; simp; done) | (with_reducible refine ck_nzL ?_; simp; done) | (with_reducible refine vp_in_nI ?_ ?_ <;> first | omega | decide) | (with_reducible refine Nat.le_of_ble_eq_true ?_; rfl) | omega)
        refine hB bX11_two_65 _ _ _ _ _ _ _ kX11_two_65 ?_
        dsimp only [bX11_two_65, kx_wp, kx_step, kx_lI, kx_lL, kx_lA, kx_gl, kx_pI, kx_pL, kx_pR, kx_pA, kx_pV, kx_s1, kx_s2, kx_sl, kx_pre, kx_c2, kx_pl, kx_cmp, kx_oF, kx_eqN, kx_nil, kx_c1, kx_ft, kx_aI, kx_aL, kx_aR, kx_ln, Nat.reduceAdd, Option.toList, List.cons_append, List.nil_append, mW_o]
        all_goals (repeat' apply And.intro)
        all_goals ((try clear hB hC); first | exact True.intro | with_reducible rfl | with_reducible assumption | (with_reducible refine vp_in_nI ?_ ?_ <;> first | omega | decide) | (with_reducible refine Nat.le_of_ble_eq_true ?_; rfl) | (with_reducible refine ck_nzI ?_; simp; done) | (with_reducible refine ck_nzL ?_; simp; done) | (simp only [ck_two, eq_true e1_3, n1_0, n1_1, n1_2, e45, e54, ↓reduceIte, not_true_eq_false, not_false_eq_true]; done) | (simp only [ck_two, eq_true e1_3, n1_0, n1_1, n1_2, e45, e54, ↓reduceIte, not_true_eq_false, not_false_eq_true]; with_reducible rfl))
      · intro c54
        with_reducible first | have e54 := Int32.not_lt.mpr c54 | have e54 := Int32.not_le.mpr c54 | have e54 := Int32.not_le.mp c54 | have e54 := Int32.not_lt.mp c54 | have e54 := Int64.not_lt.mpr c54 | have e54 := Int64.not_le.mpr c54 | have e54 := Int64.not_le.mp c54 | have e54 := Int64.not_lt.mp c54 | have e54 := Decidable.not_not.mp c54 | have e54 := c54
        refine hB bX11_two_57 _ _ _ _ _ _ _ kX11_two_57 ?_
        dsimp only [bX11_two_57, kx_wp, kx_step, kx_lI, kx_lL, kx_lA, kx_gl, kx_pI, kx_pL, kx_pR, kx_pA, kx_pV, kx_s1, kx_s2, kx_sl, kx_pre, kx_c2, kx_pl, kx_cmp, kx_oF, kx_eqN, kx_nil, kx_c1, kx_ft, kx_aI, kx_aL, kx_aR, kx_ln, Nat.reduceAdd, Option.toList, List.cons_append, List.nil_append, mW_o]
        repeat' apply And.intro
        all_goals try (first | with_reducible assumption | (with_reducible refine ck_nzI ?_; simp; done) | (with_reducible refine ck_nzL ?_; simp; done) | (with_reducible refine vp_in_nI ?_ ?_ <;> first | omega | decide) | (with_reducible refine Nat.le_of_ble_eq_true ?_; rfl) | omega)
        refine hB bX11_two_65 _ _ _ _ _ _ _ kX11_two_65 ?_
        dsimp only [bX11_two_65, kx_wp, kx_step, kx_lI, kx_lL, kx_lA, kx_gl, kx_pI, kx_pL, kx_pR, kx_pA, kx_pV, kx_s1, kx_s2, kx_sl, kx_pre, kx_c2, kx_pl, kx_cmp, kx_oF, kx_eqN, kx_nil, kx_c1, kx_ft, kx_aI, kx_aL, kx_aR, kx_ln, Nat.reduceAdd, Option.toList, List.cons_append, List.nil_append, mW_o]
        all_goals (repeat' apply And.intro)
        all_goals ((try clear hB hC); first | exact True.intro | with_reducible rfl | with_reducible assumption | (with_reducible refine vp_in_nI ?_ ?_ <;> first | omega | decide) | (with_reducible refine Nat.le_of_ble_eq_true ?_; rfl) | (with_reducible refine ck_nzI ?_; simp; done) | (with_reducible refine ck_nzL ?_; simp; done) | (simp only [ck_two, eq_true e1_3, n1_0, n1_1, n1_2, e45, eq_true e54, ↓reduceIte, not_true_eq_false, not_false_eq_true]; done) | (simp only [ck_two, eq_true e1_3, n1_0, n1_1, n1_2, e45, eq_true e54, ↓reduceIte, not_true_eq_false, not_false_eq_true]; with_reducible rfl))
    · intro c45
      with_reducible first | have e45 := Int32.not_lt.mpr c45 | have e45 := Int32.not_le.mpr c45 | have e45 := Int32.not_le.mp c45 | have e45 := Int32.not_lt.mp c45 | have e45 := Int64.not_lt.mpr c45 | have e45 := Int64.not_le.mpr c45 | have e45 := Int64.not_le.mp c45 | have e45 := Int64.not_lt.mp c45 | have e45 := Decidable.not_not.mp c45 | have e45 := c45
      refine hB bX11_two_48 _ _ _ _ _ _ _ kX11_two_48 ?_
      dsimp only [bX11_two_48, kx_wp, kx_step, kx_lI, kx_lL, kx_lA, kx_gl, kx_pI, kx_pL, kx_pR, kx_pA, kx_pV, kx_s1, kx_s2, kx_sl, kx_pre, kx_c2, kx_pl, kx_cmp, kx_oF, kx_eqN, kx_nil, kx_c1, kx_ft, kx_aI, kx_aL, kx_aR, kx_ln, Nat.reduceAdd, Option.toList, List.cons_append, List.nil_append, mW_o]
      repeat' apply And.intro
      all_goals try (first | with_reducible assumption | (with_reducible refine ck_nzI ?_; simp; done) | (with_reducible refine ck_nzL ?_; simp; done) | (with_reducible refine vp_in_nI ?_ ?_ <;> first | omega | decide) | (with_reducible refine Nat.le_of_ble_eq_true ?_; rfl) | omega)
      refine hB bX11_two_65 _ _ _ _ _ _ _ kX11_two_65 ?_
      dsimp only [bX11_two_65, kx_wp, kx_step, kx_lI, kx_lL, kx_lA, kx_gl, kx_pI, kx_pL, kx_pR, kx_pA, kx_pV, kx_s1, kx_s2, kx_sl, kx_pre, kx_c2, kx_pl, kx_cmp, kx_oF, kx_eqN, kx_nil, kx_c1, kx_ft, kx_aI, kx_aL, kx_aR, kx_ln, Nat.reduceAdd, Option.toList, List.cons_append, List.nil_append, mW_o]
      all_goals (repeat' apply And.intro)
      all_goals ((try clear hB hC); first | exact True.intro | with_reducible rfl | with_reducible assumption | (with_reducible refine vp_in_nI ?_ ?_ <;> first | omega | decide) | (with_reducible refine Nat.le_of_ble_eq_true ?_; rfl) | (with_reducible refine ck_nzI ?_; simp; done) | (with_reducible refine ck_nzL ?_; simp; done) | (simp only [ck_two, eq_true e1_3, n1_0, n1_1, n1_2, eq_true e45, ↓reduceIte, not_true_eq_false, not_false_eq_true]; done) | (simp only [ck_two, eq_true e1_3, n1_0, n1_1, n1_2, eq_true e45, ↓reduceIte, not_true_eq_false, not_false_eq_true]; with_reducible rfl))


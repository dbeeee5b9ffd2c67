def cx_to (V T : Nat → Int32) (p : Int32) : Int32 := if p < 0 then 0 else if V 14 ≤ p then 0 else if Int32.ofNat 24 ≤ p then 0 else T p.toNatClampNeg
def cx_pa (V : Nat → Int32) (p b : Int32) : Int32 := if 1 ≤ V 14 then cj_fm (p + b) (V 14) else 0
def cx_cm (Q : Nat → Int32) (q : Int32) : Int32 := if q < 0 then 0 else if Int32.ofNat 4 ≤ q then 0 else Q q.toNatClampNeg
def cx_si (a b h : Int32) : Int32 := if a ≤ b then (if a ≤ h then (if h < b then 1 else 0) else 0) else if a ≤ h then 1 else if h < b then 1 else 0
theorem cx_ge1 {x : Int32} (h : 1 ≤ x) : ¬ x = 0 := fun e => by subst e; revert h; decide
theorem cx_rs0 {C N S S2 : Nat → Int32} {h d m : Int32} (n : Nat) (hok : ∀ k, k < n → ck_rko (C k) (ck_ht C k)) : ∀ k, k ≤ n → ∀ j, j < ck_ht C k → (ck_rkS C N h d m S k).1 j = (ck_rkS C N h d m S2 k).1 j := by
  intro k
  induction k with
  | zero => intro _ j hj; exact absurd hj (Nat.not_lt_zero _)
  | succ k ih =>
    intro hk j hj
    obtain ⟨q1, q2, q3, q4⟩ := hok k (by omega)
    have ih := ih (by omega)
    by_cases hl : C k ≤ 3
    · obtain ⟨e1, e2⟩ := cx_vs_p (C := C) (N := N) (S := S) (h := h) (d := d) (m := m) hl
      obtain ⟨-, e3⟩ := cx_vs_p (C := C) (N := N) (S := S2) (h := h) (d := d) (m := m) hl
      rw [e2, e3]
      unfold upd
      split
      · rfl
      · exact ih j (by omega)
    · by_cases h9 : 9 ≤ C k
      · obtain ⟨e1, e2⟩ := cx_vs_c (C := C) (N := N) (S := S) (h := h) (d := d) (m := m) hl h9
        obtain ⟨-, e3⟩ := cx_vs_c (C := C) (N := N) (S := S2) (h := h) (d := d) (m := m) hl h9
        have := q3 hl h9
        rw [e2, e3, ih _ (show ck_ht C k - 4 < ck_ht C k by omega), ih _ (show ck_ht C k - 3 < ck_ht C k by omega), ih _ (show ck_ht C k - 2 < ck_ht C k by omega), ih _ (show ck_ht C k - 1 < ck_ht C k by omega)]
        unfold upd
        split
        · rfl
        · exact ih j (by omega)
      · obtain ⟨e1, e2⟩ := cx_vs_t (C := C) (N := N) (S := S) (h := h) (d := d) (m := m) hl h9
        obtain ⟨-, e3⟩ := cx_vs_t (C := C) (N := N) (S := S2) (h := h) (d := d) (m := m) hl h9
        have := q4 hl h9
        rw [e2, e3, ih _ (show ck_ht C k - 2 < ck_ht C k by omega), ih _ (show ck_ht C k - 1 < ck_ht C k by omega)]
        unfold upd
        split
        · rfl
        · exact ih j (by omega)
def bX9_fullLeft_0 : List kx_O := [(.sipush 1440, 0, 0, 0, .int 1440), (.aload_n 0, 0, 0, 0, .null), (.getfield 25, 9, 0, 0, .null), (.imul, 0, 0, 0, .null), (.ireturn, 0, 0, 0, .null)]
theorem kX9_fullLeft_0 : kx_oks kxL_X9 false cX9_fullLeft 0 bX9_fullLeft_0 = true := by decide +kernel
set_option maxRecDepth 100000 in
set_option maxHeartbeats 4000000 in
theorem ct_X9_fullLeft (l : Launch) (G : kx_G) {P : kx_P} {sz : Nat} {w : Nat} {V : Nat → Int32} (hO : P w = kO 9 (kf (cr9 w) V))  : kx_M l G sX9_fullLeft 1 0 0 [.ref w] P sz (some (.int (1440 * V 0))) P sz := by
  refine kx_mk kx_tab kxLok_X9 (ini := false) [some (.ref w)] ⟨by decide, rfl, by decide, by decide⟩ (⟨_, rfl⟩) rfl rfl (fun g hB hC => ?_)
  refine hB bX9_fullLeft_0 _ _ _ _ _ _ _ kX9_fullLeft_0 ?_
  dsimp only [bX9_fullLeft_0, kx_wp, kx_step, kx_lI, kx_lL, kx_lA, kx_gl, kx_pI, kx_pL, kx_pR, kx_pA, kx_pV, kx_s1, kx_s2, kx_sl, kx_pre, kx_c2, kx_pl, kx_cmp, kx_oF, kx_eqN, kx_nil, kx_c1, kx_ft, kx_aI, kx_aL, kx_aR, kx_ln, Nat.reduceAdd, Option.toList, List.cons_append, List.nil_append, cf9_0]
  repeat (simp only [hO, ks_eq, ks_ss]; try dsimp only [kx_wp, kx_step, kx_lI, kx_lL, kx_lA, kx_gl, kx_pI, kx_pL, kx_pR, kx_pA, kx_pV, kx_s1, kx_s2, kx_sl, kx_pre, kx_c2, kx_pl, kx_cmp, kx_oF, kx_eqN, kx_nil, kx_c1, kx_ft, kx_aI, kx_aL, kx_aR, kx_ln, Nat.reduceAdd, Option.toList, List.cons_append, List.nil_append, cf9_0])
  all_goals (repeat' apply And.intro)
  all_goals ((try clear hB hC); first | exact True.intro | with_reducible rfl | with_reducible assumption | (with_reducible refine vp_in_nI ?_ ?_ <;> first | omega | decide) | exact Nat.le_of_ble_eq_true rfl | (with_reducible refine ck_nzI ?_; simp; done) | (with_reducible refine ck_nzL ?_; simp; done) | (simp only [pk_us, pk_uLs, ↓reduceIte, not_true_eq_false, not_false_eq_true]; done) | (simp only [↓reduceIte, not_true_eq_false, not_false_eq_true]; with_reducible rfl) | omega | skip)

def bX9_toothAt_0 : List kx_O := [(.iload_n 1, 1, 0, 0, .null), (.ifCond .lt 29, 30, 0, 0, .null)]
theorem kX9_toothAt_0 : kx_oks kxL_X9 false cX9_toothAt 0 bX9_toothAt_0 = true := by decide +kernel
def bX9_toothAt_4 : List kx_O := [(.iload_n 1, 1, 0, 0, .null), (.aload_n 0, 0, 0, 0, .null), (.getfield 82, 9, 14, 0, .null), (.if_icmp .ge 21, 30, 0, 0, .null)]
theorem kX9_toothAt_4 : kx_oks kxL_X9 false cX9_toothAt 4 bX9_toothAt_4 = true := by decide +kernel
def bX9_toothAt_12 : List kx_O := [(.iload_n 1, 1, 0, 0, .null), (.aload_n 0, 0, 0, 0, .null), (.getfield 11, 9, 13, 0, .null), (.arraylength, 0, 0, 0, .null), (.if_icmp .ge 12, 30, 0, 0, .null)]
theorem kX9_toothAt_12 : kx_oks kxL_X9 false cX9_toothAt 12 bX9_toothAt_12 = true := by decide +kernel
def bX9_toothAt_21 : List kx_O := [(.aload_n 0, 0, 0, 0, .null), (.getfield 11, 9, 13, 0, .null), (.iload_n 1, 1, 0, 0, .null), (.iaload, 0, 0, 0, .null), (.goto 4, 31, 0, 0, .null)]
theorem kX9_toothAt_21 : kx_oks kxL_X9 false cX9_toothAt 21 bX9_toothAt_21 = true := by decide +kernel
def bX9_toothAt_30 : List kx_O := [(.iconst 0, 0, 0, 0, .int 0)]
theorem kX9_toothAt_30 : kx_oks kxL_X9 false cX9_toothAt 30 bX9_toothAt_30 = true := by decide +kernel
def bX9_toothAt_31 : List kx_O := [(.ireturn, 0, 0, 0, .null)]
theorem kX9_toothAt_31 : kx_oks kxL_X9 false cX9_toothAt 31 bX9_toothAt_31 = true := by decide +kernel
set_option maxRecDepth 100000 in
set_option maxHeartbeats 4000000 in
theorem ct_X9_toothAt (l : Launch) (G : kx_G) {P : kx_P} {sz : Nat} {w : Nat} {V : Nat → Int32} (hO : P w = kO 9 (kf (cr9 w) V)) {T : Nat → Int32} (hT : P (w + 1) = kI 0 24 T) {p : Int32}  : kx_M l G sX9_toothAt 1 0 0 [.ref w, .int (p)] P sz (some (.int (cx_to V T p))) P sz := by
  refine kx_mk kx_tab kxLok_X9 (ini := false) [some (.ref w), some (.int (p))] ⟨by decide, rfl, by decide, by decide⟩ (⟨_, rfl⟩) rfl rfl (fun g hB hC => ?_)
  refine hB bX9_toothAt_0 _ _ _ _ _ _ _ kX9_toothAt_0 ?_
  dsimp only [bX9_toothAt_0, kx_wp, kx_step, kx_lI, kx_lL, kx_lA, kx_gl, kx_pI, kx_pL, kx_pR, kx_pA, kx_pV, kx_s1, kx_s2, kx_sl, kx_pre, kx_c2, kx_pl, kx_cmp, kx_oF, kx_eqN, kx_nil, kx_c1, kx_ft, kx_aI, kx_aL, kx_aR, kx_ln, Nat.reduceAdd, Option.toList, List.cons_append, List.nil_append, cf9_14, cf9_13]
  repeat (simp only [hO, hT, ks_eq, ks_ss]; try dsimp only [kx_wp, kx_step, kx_lI, kx_lL, kx_lA, kx_gl, kx_pI, kx_pL, kx_pR, kx_pA, kx_pV, kx_s1, kx_s2, kx_sl, kx_pre, kx_c2, kx_pl, kx_cmp, kx_oF, kx_eqN, kx_nil, kx_c1, kx_ft, kx_aI, kx_aL, kx_aR, kx_ln, Nat.reduceAdd, Option.toList, List.cons_append, List.nil_append, cf9_14, cf9_13])
  repeat' apply And.intro
  all_goals try (first | with_reducible assumption | (with_reducible refine ck_nzI ?_; simp; done) | (with_reducible refine ck_nzL ?_; simp; done) | (with_reducible refine vp_in_nI ?_ ?_ <;> first | omega | decide) | (with_reducible refine Nat.le_of_ble_eq_true ?_; rfl) | omega | (with_reducible refine kz_in ?_ ?_ ?_ <;> first | with_reducible assumption | decide))
  · intro zc1
    with_reducible first | have ze1 := Int32.not_le.mpr zc1 | have ze1 := zc1
    refine hB bX9_toothAt_30 _ _ _ _ _ _ _ kX9_toothAt_30 ?_
    dsimp only [bX9_toothAt_30, kx_wp, kx_step, kx_lI, kx_lL, kx_lA, kx_gl, kx_pI, kx_pL, kx_pR, kx_pA, kx_pV, kx_s1, kx_s2, kx_sl, kx_pre, kx_c2, kx_pl, kx_cmp, kx_oF, kx_eqN, kx_nil, kx_c1, kx_ft, kx_aI, kx_aL, kx_aR, kx_ln, Nat.reduceAdd, Option.toList, List.cons_append, List.nil_append, cf9_14, cf9_13]
    repeat (simp only [hO, hT, ks_eq, ks_ss]; try dsimp only [kx_wp, kx_step, kx_lI, kx_lL, kx_lA, kx_gl, kx_pI, kx_pL, kx_pR, kx_pA, kx_pV, kx_s1, kx_s2, kx_sl, kx_pre, kx_c2, kx_pl, kx_cmp, kx_oF, kx_eqN, kx_nil, kx_c1, kx_ft, kx_aI, kx_aL, kx_aR, kx_ln, Nat.reduceAdd, Option.toList, List.cons_append, List.nil_append, cf9_14, cf9_13])
    repeat' apply And.intro
    all_goals try (first | with_reducible assumption | (with_reducible refine ck_nzI ?_; simp; done) | (with_reducible refine ck_nzL ?_; simp; done) | (with_reducible refine vp_in_nI ?_ ?_ <;> first | omega | decide) | (with_reducible refine Nat.le_of_ble_eq_true ?_; rfl) | omega | (with_reducible refine kz_in ?_ ?_ ?_ <;> first | with_reducible assumption | decide))
    refine hB bX9_toothAt_31 _ _ _ _ _ _ _ kX9_toothAt_31 ?_
    dsimp only [bX9_toothAt_31, kx_wp, kx_step, kx_lI, kx_lL, kx_lA, kx_gl, kx_pI, kx_pL, kx_pR, kx_pA, kx_pV, kx_s1, kx_s2, kx_sl, kx_pre, kx_c2, kx_pl, kx_cmp, kx_oF, kx_eqN, kx_nil, kx_c1, kx_ft, kx_aI, kx_aL, kx_aR, kx_ln, Nat.reduceAdd, Option.toList, List.cons_append, List.nil_append, cf9_14, cf9_13]
    repeat (simp only [hO, hT, ks_eq, ks_ss]; try dsimp only [kx_wp, kx_step, kx_lI, kx_lL, kx_lA, kx_gl, kx_pI, kx_pL, kx_pR, kx_pA, kx_pV, kx_s1, kx_s2, kx_sl, kx_pre, kx_c2, kx_pl, kx_cmp, kx_oF, kx_eqN, kx_nil, kx_c1, kx_ft, kx_aI, kx_aL, kx_aR, kx_ln, Nat.reduceAdd, Option.toList, List.cons_append, List.nil_append, cf9_14, cf9_13])
    all_goals (repeat' apply And.intro)
    all_goals ((try clear hB hC); first | exact True.intro | with_reducible rfl | with_reducible assumption | (with_reducible refine vp_in_nI ?_ ?_ <;> first | omega | decide) | exact Nat.le_of_ble_eq_true rfl | (with_reducible refine ck_nzI ?_; simp; done) | (with_reducible refine ck_nzL ?_; simp; done) | (simp only [pk_us, pk_uLs, cx_to, zc1, ze1, ↓reduceIte, not_true_eq_false, not_false_eq_true]; done) | (simp only [cx_to, zc1, ze1, ↓reduceIte, not_true_eq_false, not_false_eq_true]; with_reducible rfl) | omega | skip)
  · intro zc1
    with_reducible first | have ze1 := Int32.not_lt.mp zc1 | have ze1 := zc1
    refine hB bX9_toothAt_4 _ _ _ _ _ _ _ kX9_toothAt_4 ?_
    dsimp only [bX9_toothAt_4, kx_wp, kx_step, kx_lI, kx_lL, kx_lA, kx_gl, kx_pI, kx_pL, kx_pR, kx_pA, kx_pV, kx_s1, kx_s2, kx_sl, kx_pre, kx_c2, kx_pl, kx_cmp, kx_oF, kx_eqN, kx_nil, kx_c1, kx_ft, kx_aI, kx_aL, kx_aR, kx_ln, Nat.reduceAdd, Option.toList, List.cons_append, List.nil_append, cf9_14, cf9_13]
    repeat (simp only [hO, hT, ks_eq, ks_ss]; try dsimp only [kx_wp, kx_step, kx_lI, kx_lL, kx_lA, kx_gl, kx_pI, kx_pL, kx_pR, kx_pA, kx_pV, kx_s1, kx_s2, kx_sl, kx_pre, kx_c2, kx_pl, kx_cmp, kx_oF, kx_eqN, kx_nil, kx_c1, kx_ft, kx_aI, kx_aL, kx_aR, kx_ln, Nat.reduceAdd, Option.toList, List.cons_append, List.nil_append, cf9_14, cf9_13])
    repeat' apply And.intro
    all_goals try (first | with_reducible assumption | (with_reducible refine ck_nzI ?_; simp; done) | (with_reducible refine ck_nzL ?_; simp; done) | (with_reducible refine vp_in_nI ?_ ?_ <;> first | omega | decide) | (with_reducible refine Nat.le_of_ble_eq_true ?_; rfl) | omega | (with_reducible refine kz_in ?_ ?_ ?_ <;> first | with_reducible assumption | decide))
    · intro zc9
      with_reducible first | have ze9 := Int32.not_lt.mpr zc9 | have ze9 := zc9
      refine hB bX9_toothAt_30 _ _ _ _ _ _ _ kX9_toothAt_30 ?_
      dsimp only [bX9_toothAt_30, kx_wp, kx_step, kx_lI, kx_lL, kx_lA, kx_gl, kx_pI, kx_pL, kx_pR, kx_pA, kx_pV, kx_s1, kx_s2, kx_sl, kx_pre, kx_c2, kx_pl, kx_cmp, kx_oF, kx_eqN, kx_nil, kx_c1, kx_ft, kx_aI, kx_aL, kx_aR, kx_ln, Nat.reduceAdd, Option.toList, List.cons_append, List.nil_append, cf9_14, cf9_13]
      repeat (simp only [hO, hT, ks_eq, ks_ss]; try dsimp only [kx_wp, kx_step, kx_lI, kx_lL, kx_lA, kx_gl, kx_pI, kx_pL, kx_pR, kx_pA, kx_pV, kx_s1, kx_s2, kx_sl, kx_pre, kx_c2, kx_pl, kx_cmp, kx_oF, kx_eqN, kx_nil, kx_c1, kx_ft, kx_aI, kx_aL, kx_aR, kx_ln, Nat.reduceAdd, Option.toList, List.cons_append, List.nil_append, cf9_14, cf9_13])
      repeat' apply And.intro
      all_goals try (first | with_reducible assumption | (with_reducible refine ck_nzI ?_; simp; done) | (with_reducible refine ck_nzL ?_; simp; done) | (with_reducible refine vp_in_nI ?_ ?_ <;> first | omega | decide) | (with_reducible refine Nat.le_of_ble_eq_true ?_; rfl) | omega | (with_reducible refine kz_in ?_ ?_ ?_ <;> first | with_reducible assumption | decide))
      refine hB bX9_toothAt_31 _ _ _ _ _ _ _ kX9_toothAt_31 ?_
      dsimp only [bX9_toothAt_31, kx_wp, kx_step, kx_lI, kx_lL, kx_lA, kx_gl, kx_pI, kx_pL, kx_pR, kx_pA, kx_pV, kx_s1, kx_s2, kx_sl, kx_pre, kx_c2, kx_pl, kx_cmp, kx_oF, kx_eqN, kx_nil, kx_c1, kx_ft, kx_aI, kx_aL, kx_aR, kx_ln, Nat.reduceAdd, Option.toList, List.cons_append, List.nil_append, cf9_14, cf9_13]
      repeat (simp only [hO, hT, ks_eq, ks_ss]; try dsimp only [kx_wp, kx_step, kx_lI, kx_lL, kx_lA, kx_gl, kx_pI, kx_pL, kx_pR, kx_pA, kx_pV, kx_s1, kx_s2, kx_sl, kx_pre, kx_c2, kx_pl, kx_cmp, kx_oF, kx_eqN, kx_nil, kx_c1, kx_ft, kx_aI, kx_aL, kx_aR, kx_ln, Nat.reduceAdd, Option.toList, List.cons_append, List.nil_append, cf9_14, cf9_13])
      all_goals (repeat' apply And.intro)
      all_goals ((try clear hB hC); first | exact True.intro | with_reducible rfl | with_reducible assumption | (with_reducible refine vp_in_nI ?_ ?_ <;> first | omega | decide) | exact Nat.le_of_ble_eq_true rfl | (with_reducible refine ck_nzI ?_; simp; done) | (with_reducible refine ck_nzL ?_; simp; done) | (simp only [pk_us, pk_uLs, cx_to, zc1, ze1, zc9, ze9, ↓reduceIte, not_true_eq_false, not_false_eq_true]; done) | (simp only [cx_to, zc1, ze1, zc9, ze9, ↓reduceIte, not_true_eq_false, not_false_eq_true]; with_reducible rfl) | omega | skip)
    · intro zc9
      with_reducible first | have ze9 := Int32.not_le.mp zc9 | have ze9 := zc9
      refine hB bX9_toothAt_12 _ _ _ _ _ _ _ kX9_toothAt_12 ?_
      dsimp only [bX9_toothAt_12, kx_wp, kx_step, kx_lI, kx_lL, kx_lA, kx_gl, kx_pI, kx_pL, kx_pR, kx_pA, kx_pV, kx_s1, kx_s2, kx_sl, kx_pre, kx_c2, kx_pl, kx_cmp, kx_oF, kx_eqN, kx_nil, kx_c1, kx_ft, kx_aI, kx_aL, kx_aR, kx_ln, Nat.reduceAdd, Option.toList, List.cons_append, List.nil_append, cf9_14, cf9_13]
      repeat (simp only [hO, hT, ks_eq, ks_ss]; try dsimp only [kx_wp, kx_step, kx_lI, kx_lL, kx_lA, kx_gl, kx_pI, kx_pL, kx_pR, kx_pA, kx_pV, kx_s1, kx_s2, kx_sl, kx_pre, kx_c2, kx_pl, kx_cmp, kx_oF, kx_eqN, kx_nil, kx_c1, kx_ft, kx_aI, kx_aL, kx_aR, kx_ln, Nat.reduceAdd, Option.toList, List.cons_append, List.nil_append, cf9_14, cf9_13])
      repeat' apply And.intro
      all_goals try (first | with_reducible assumption | (with_reducible refine ck_nzI ?_; simp; done) | (with_reducible refine ck_nzL ?_; simp; done) | (with_reducible refine vp_in_nI ?_ ?_ <;> first | omega | decide) | (with_reducible refine Nat.le_of_ble_eq_true ?_; rfl) | omega | (with_reducible refine kz_in ?_ ?_ ?_ <;> first | with_reducible assumption | decide))
      · intro zc18
        with_reducible first | have ze18 := Int32.not_lt.mpr zc18 | have ze18 := zc18
        refine hB bX9_toothAt_30 _ _ _ _ _ _ _ kX9_toothAt_30 ?_
        dsimp only [bX9_toothAt_30, kx_wp, kx_step, kx_lI, kx_lL, kx_lA, kx_gl, kx_pI, kx_pL, kx_pR, kx_pA, kx_pV, kx_s1, kx_s2, kx_sl, kx_pre, kx_c2, kx_pl, kx_cmp, kx_oF, kx_eqN, kx_nil, kx_c1, kx_ft, kx_aI, kx_aL, kx_aR, kx_ln, Nat.reduceAdd, Option.toList, List.cons_append, List.nil_append, cf9_14, cf9_13]
        repeat (simp only [hO, hT, ks_eq, ks_ss]; try dsimp only [kx_wp, kx_step, kx_lI, kx_lL, kx_lA, kx_gl, kx_pI, kx_pL, kx_pR, kx_pA, kx_pV, kx_s1, kx_s2, kx_sl, kx_pre, kx_c2, kx_pl, kx_cmp, kx_oF, kx_eqN, kx_nil, kx_c1, kx_ft, kx_aI, kx_aL, kx_aR, kx_ln, Nat.reduceAdd, Option.toList, List.cons_append, List.nil_append, cf9_14, cf9_13])
        repeat' apply And.intro
        all_goals try (first | with_reducible assumption | (with_reducible refine ck_nzI ?_; simp; done) | (with_reducible refine ck_nzL ?_; simp; done) | (with_reducible refine vp_in_nI ?_ ?_ <;> first | omega | decide) | (with_reducible refine Nat.le_of_ble_eq_true ?_; rfl) | omega | (with_reducible refine kz_in ?_ ?_ ?_ <;> first | with_reducible assumption | decide))
        refine hB bX9_toothAt_31 _ _ _ _ _ _ _ kX9_toothAt_31 ?_
        dsimp only [bX9_toothAt_31, kx_wp, kx_step, kx_lI, kx_lL, kx_lA, kx_gl, kx_pI, kx_pL, kx_pR, kx_pA, kx_pV, kx_s1, kx_s2, kx_sl, kx_pre, kx_c2, kx_pl, kx_cmp, kx_oF, kx_eqN, kx_nil, kx_c1, kx_ft, kx_aI, kx_aL, kx_aR, kx_ln, Nat.reduceAdd, Option.toList, List.cons_append, List.nil_append, cf9_14, cf9_13]
        repeat (simp only [hO, hT, ks_eq, ks_ss]; try dsimp only [kx_wp, kx_step, kx_lI, kx_lL, kx_lA, kx_gl, kx_pI, kx_pL, kx_pR, kx_pA, kx_pV, kx_s1, kx_s2, kx_sl, kx_pre, kx_c2, kx_pl, kx_cmp, kx_oF, kx_eqN, kx_nil, kx_c1, kx_ft, kx_aI, kx_aL, kx_aR, kx_ln, Nat.reduceAdd, Option.toList, List.cons_append, List.nil_append, cf9_14, cf9_13])
        all_goals (repeat' apply And.intro)
        all_goals ((try clear hB hC); first | exact True.intro | with_reducible rfl | with_reducible assumption | (with_reducible refine vp_in_nI ?_ ?_ <;> first | omega | decide) | exact Nat.le_of_ble_eq_true rfl | (with_reducible refine ck_nzI ?_; simp; done) | (with_reducible refine ck_nzL ?_; simp; done) | (simp only [pk_us, pk_uLs, cx_to, zc1, ze1, zc9, ze9, zc18, ze18, ↓reduceIte, not_true_eq_false, not_false_eq_true]; done) | (simp only [cx_to, zc1, ze1, zc9, ze9, zc18, ze18, ↓reduceIte, not_true_eq_false, not_false_eq_true]; with_reducible rfl) | omega | skip)
      · intro zc18
        with_reducible first | have ze18 := Int32.not_le.mp zc18 | have ze18 := zc18
        refine hB bX9_toothAt_21 _ _ _ _ _ _ _ kX9_toothAt_21 ?_
        dsimp only [bX9_toothAt_21, kx_wp, kx_step, kx_lI, kx_lL, kx_lA, kx_gl, kx_pI, kx_pL, kx_pR, kx_pA, kx_pV, kx_s1, kx_s2, kx_sl, kx_pre, kx_c2, kx_pl, kx_cmp, kx_oF, kx_eqN, kx_nil, kx_c1, kx_ft, kx_aI, kx_aL, kx_aR, kx_ln, Nat.reduceAdd, Option.toList, List.cons_append, List.nil_append, cf9_14, cf9_13]
        repeat (simp only [hO, hT, ks_eq, ks_ss]; try dsimp only [kx_wp, kx_step, kx_lI, kx_lL, kx_lA, kx_gl, kx_pI, kx_pL, kx_pR, kx_pA, kx_pV, kx_s1, kx_s2, kx_sl, kx_pre, kx_c2, kx_pl, kx_cmp, kx_oF, kx_eqN, kx_nil, kx_c1, kx_ft, kx_aI, kx_aL, kx_aR, kx_ln, Nat.reduceAdd, Option.toList, List.cons_append, List.nil_append, cf9_14, cf9_13])
        repeat' apply And.intro
        all_goals try (first | with_reducible assumption | (with_reducible refine ck_nzI ?_; simp; done) | (with_reducible refine ck_nzL ?_; simp; done) | (with_reducible refine vp_in_nI ?_ ?_ <;> first | omega | decide) | (with_reducible refine Nat.le_of_ble_eq_true ?_; rfl) | omega | (with_reducible refine kz_in ?_ ?_ ?_ <;> first | with_reducible assumption | decide))
        refine hB bX9_toothAt_31 _ _ _ _ _ _ _ kX9_toothAt_31 ?_
        dsimp only [bX9_toothAt_31, kx_wp, kx_step, kx_lI, kx_lL, kx_lA, kx_gl, kx_pI, kx_pL, kx_pR, kx_pA, kx_pV, kx_s1, kx_s2, kx_sl, kx_pre, kx_c2, kx_pl, kx_cmp, kx_oF, kx_eqN, kx_nil, kx_c1, kx_ft, kx_aI, kx_aL, kx_aR, kx_ln, Nat.reduceAdd, Option.toList, List.cons_append, List.nil_append, cf9_14, cf9_13]
        repeat (simp only [hO, hT, ks_eq, ks_ss]; try dsimp only [kx_wp, kx_step, kx_lI, kx_lL, kx_lA, kx_gl, kx_pI, kx_pL, kx_pR, kx_pA, kx_pV, kx_s1, kx_s2, kx_sl, kx_pre, kx_c2, kx_pl, kx_cmp, kx_oF, kx_eqN, kx_nil, kx_c1, kx_ft, kx_aI, kx_aL, kx_aR, kx_ln, Nat.reduceAdd, Option.toList, List.cons_append, List.nil_append, cf9_14, cf9_13])
        all_goals (repeat' apply And.intro)
        all_goals ((try clear hB hC); first | exact True.intro | with_reducible rfl | with_reducible assumption | (with_reducible refine vp_in_nI ?_ ?_ <;> first | omega | decide) | exact Nat.le_of_ble_eq_true rfl | (with_reducible refine ck_nzI ?_; simp; done) | (with_reducible refine ck_nzL ?_; simp; done) | (simp only [pk_us, pk_uLs, cx_to, zc1, ze1, zc9, ze9, zc18, ze18, ↓reduceIte, not_true_eq_false, not_false_eq_true]; done) | (simp only [cx_to, zc1, ze1, zc9, ze9, zc18, ze18, ↓reduceIte, not_true_eq_false, not_false_eq_true]; with_reducible rfl) | omega | skip)

def bX9_placeAfter_0 : List kx_O := [(.aload_n 0, 0, 0, 0, .null), (.getfield 82, 9, 14, 0, .null), (.iconst 1, 0, 0, 0, .int 1), (.if_icmp .ge 7, 12, 0, 0, .null)]
theorem kX9_placeAfter_0 : kx_oks kxL_X9 false cX9_placeAfter 0 bX9_placeAfter_0 = true := by decide +kernel
def bX9_placeAfter_8 : List kx_O := [(.iconst 0, 0, 0, 0, .int 0), (.goto 13, 22, 0, 0, .null)]
theorem kX9_placeAfter_8 : kx_oks kxL_X9 false cX9_placeAfter 8 bX9_placeAfter_8 = true := by decide +kernel
def bX9_placeAfter_12 : List kx_O := [(.iload_n 1, 1, 0, 0, .null), (.iload_n 2, 2, 0, 0, .null), (.iadd, 0, 0, 0, .null), (.aload_n 0, 0, 0, 0, .null), (.getfield 82, 9, 14, 0, .null)]
theorem kX9_placeAfter_12 : kx_oks kxL_X9 false cX9_placeAfter 12 bX9_placeAfter_12 = true := by decide +kernel
def bX9_placeAfter_22 : List kx_O := [(.ireturn, 0, 0, 0, .null)]
theorem kX9_placeAfter_22 : kx_oks kxL_X9 false cX9_placeAfter 22 bX9_placeAfter_22 = true := by decide +kernel
theorem dX9_placeAfter_19 : decode cX9_placeAfter 19 = .ok (.invokestatic 88, 3) := by decide +kernel
set_option maxRecDepth 100000 in
set_option maxHeartbeats 4000000 in
theorem ct_X9_placeAfter (l : Launch) (G : kx_G) {P : kx_P} {sz : Nat} {w : Nat} {V : Nat → Int32} (hO : P w = kO 9 (kf (cr9 w) V)) {p b : Int32}  : kx_M l G sX9_placeAfter 2 0 0 [.ref w, .int (p), .int (b)] P sz (some (.int (cx_pa V p b))) P sz := by
  refine kx_mk kx_tab kxLok_X9 (ini := false) [some (.ref w), some (.int (p)), some (.int (b))] ⟨by decide, rfl, by decide, by decide⟩ (⟨_, rfl⟩) rfl rfl (fun g hB hC => ?_)
  refine hB bX9_placeAfter_0 _ _ _ _ _ _ _ kX9_placeAfter_0 ?_
  dsimp only [bX9_placeAfter_0, kx_wp, kx_step, kx_lI, kx_lL, kx_lA, kx_gl, kx_pI, kx_pL, kx_pR, kx_pA, kx_pV, kx_s1, kx_s2, kx_sl, kx_pre, kx_c2, kx_pl, kx_cmp, kx_oF, kx_eqN, kx_nil, kx_c1, kx_ft, kx_aI, kx_aL, kx_aR, kx_ln, Nat.reduceAdd, Option.toList, List.cons_append, List.nil_append, cf9_14]
  repeat (simp only [hO, ks_eq, ks_ss]; try dsimp only [kx_wp, kx_step, kx_lI, kx_lL, kx_lA, kx_gl, kx_pI, kx_pL, kx_pR, kx_pA, kx_pV, kx_s1, kx_s2, kx_sl, kx_pre, kx_c2, kx_pl, kx_cmp, kx_oF, kx_eqN, kx_nil, kx_c1, kx_ft, kx_aI, kx_aL, kx_aR, kx_ln, Nat.reduceAdd, Option.toList, List.cons_append, List.nil_append, cf9_14])
  repeat' apply And.intro
  all_goals try (first | with_reducible assumption | (with_reducible refine ck_nzI ?_; simp; done) | (with_reducible refine ck_nzL ?_; simp; done) | (with_reducible refine vp_in_nI ?_ ?_ <;> first | omega | decide) | (with_reducible refine Nat.le_of_ble_eq_true ?_; rfl) | omega)
  · intro zc5
    with_reducible first | have ze5 := Int32.not_lt.mpr zc5 | have ze5 := zc5
    refine hB bX9_placeAfter_12 _ _ _ _ _ _ _ kX9_placeAfter_12 ?_
    dsimp only [bX9_placeAfter_12, kx_wp, kx_step, kx_lI, kx_lL, kx_lA, kx_gl, kx_pI, kx_pL, kx_pR, kx_pA, kx_pV, kx_s1, kx_s2, kx_sl, kx_pre, kx_c2, kx_pl, kx_cmp, kx_oF, kx_eqN, kx_nil, kx_c1, kx_ft, kx_aI, kx_aL, kx_aR, kx_ln, Nat.reduceAdd, Option.toList, List.cons_append, List.nil_append, cf9_14]
    repeat (simp only [hO, ks_eq, ks_ss]; try dsimp only [kx_wp, kx_step, kx_lI, kx_lL, kx_lA, kx_gl, kx_pI, kx_pL, kx_pR, kx_pA, kx_pV, kx_s1, kx_s2, kx_sl, kx_pre, kx_c2, kx_pl, kx_cmp, kx_oF, kx_eqN, kx_nil, kx_c1, kx_ft, kx_aI, kx_aL, kx_aR, kx_ln, Nat.reduceAdd, Option.toList, List.cons_append, List.nil_append, cf9_14])
    repeat' apply And.intro
    all_goals try (first | with_reducible assumption | (with_reducible refine ck_nzI ?_; simp; done) | (with_reducible refine ck_nzL ?_; simp; done) | (with_reducible refine vp_in_nI ?_ ?_ <;> first | omega | decide) | (with_reducible refine Nat.le_of_ble_eq_true ?_; rfl) | omega)
    refine hC.2.1 88 _ _ _ _ _ _ _ _ _ _ _ _ _ _ _ _ _ lX9_88 (ct_J9_floorMod_7cf53 l G (cx_ge1 (by assumption))) rfl rfl (Nat.le_of_ble_eq_true rfl) (by decide) (by decide) (by omega) (by omega) dX9_placeAfter_19 ?_
    refine hB bX9_placeAfter_22 _ _ _ _ _ _ _ kX9_placeAfter_22 ?_
    dsimp only [bX9_placeAfter_22, kx_wp, kx_step, kx_lI, kx_lL, kx_lA, kx_gl, kx_pI, kx_pL, kx_pR, kx_pA, kx_pV, kx_s1, kx_s2, kx_sl, kx_pre, kx_c2, kx_pl, kx_cmp, kx_oF, kx_eqN, kx_nil, kx_c1, kx_ft, kx_aI, kx_aL, kx_aR, kx_ln, Nat.reduceAdd, Option.toList, List.cons_append, List.nil_append, cf9_14]
    repeat (simp only [hO, ks_eq, ks_ss]; try dsimp only [kx_wp, kx_step, kx_lI, kx_lL, kx_lA, kx_gl, kx_pI, kx_pL, kx_pR, kx_pA, kx_pV, kx_s1, kx_s2, kx_sl, kx_pre, kx_c2, kx_pl, kx_cmp, kx_oF, kx_eqN, kx_nil, kx_c1, kx_ft, kx_aI, kx_aL, kx_aR, kx_ln, Nat.reduceAdd, Option.toList, List.cons_append, List.nil_append, cf9_14])
    all_goals (repeat' apply And.intro)
    all_goals ((try clear hB hC); first | exact True.intro | with_reducible rfl | with_reducible assumption | (with_reducible refine vp_in_nI ?_ ?_ <;> first | omega | decide) | exact Nat.le_of_ble_eq_true rfl | (with_reducible refine ck_nzI ?_; simp; done) | (with_reducible refine ck_nzL ?_; simp; done) | (simp only [pk_us, pk_uLs, cx_pa, zc5, ze5, ↓reduceIte, not_true_eq_false, not_false_eq_true]; done) | (simp only [cx_pa, zc5, ze5, ↓reduceIte, not_true_eq_false, not_false_eq_true]; with_reducible rfl) | omega | skip)
  · intro zc5
    with_reducible first | have ze5 := Int32.not_le.mp zc5 | have ze5 := zc5
    refine hB bX9_placeAfter_8 _ _ _ _ _ _ _ kX9_placeAfter_8 ?_
    dsimp only [bX9_placeAfter_8, kx_wp, kx_step, kx_lI, kx_lL, kx_lA, kx_gl, kx_pI, kx_pL, kx_pR, kx_pA, kx_pV, kx_s1, kx_s2, kx_sl, kx_pre, kx_c2, kx_pl, kx_cmp, kx_oF, kx_eqN, kx_nil, kx_c1, kx_ft, kx_aI, kx_aL, kx_aR, kx_ln, Nat.reduceAdd, Option.toList, List.cons_append, List.nil_append, cf9_14]
    repeat (simp only [hO, ks_eq, ks_ss]; try dsimp only [kx_wp, kx_step, kx_lI, kx_lL, kx_lA, kx_gl, kx_pI, kx_pL, kx_pR, kx_pA, kx_pV, kx_s1, kx_s2, kx_sl, kx_pre, kx_c2, kx_pl, kx_cmp, kx_oF, kx_eqN, kx_nil, kx_c1, kx_ft, kx_aI, kx_aL, kx_aR, kx_ln, Nat.reduceAdd, Option.toList, List.cons_append, List.nil_append, cf9_14])
    repeat' apply And.intro
    all_goals try (first | with_reducible assumption | (with_reducible refine ck_nzI ?_; simp; done) | (with_reducible refine ck_nzL ?_; simp; done) | (with_reducible refine vp_in_nI ?_ ?_ <;> first | omega | decide) | (with_reducible refine Nat.le_of_ble_eq_true ?_; rfl) | omega)
    refine hB bX9_placeAfter_22 _ _ _ _ _ _ _ kX9_placeAfter_22 ?_
    dsimp only [bX9_placeAfter_22, kx_wp, kx_step, kx_lI, kx_lL, kx_lA, kx_gl, kx_pI, kx_pL, kx_pR, kx_pA, kx_pV, kx_s1, kx_s2, kx_sl, kx_pre, kx_c2, kx_pl, kx_cmp, kx_oF, kx_eqN, kx_nil, kx_c1, kx_ft, kx_aI, kx_aL, kx_aR, kx_ln, Nat.reduceAdd, Option.toList, List.cons_append, List.nil_append, cf9_14]
    repeat (simp only [hO, ks_eq, ks_ss]; try dsimp only [kx_wp, kx_step, kx_lI, kx_lL, kx_lA, kx_gl, kx_pI, kx_pL, kx_pR, kx_pA, kx_pV, kx_s1, kx_s2, kx_sl, kx_pre, kx_c2, kx_pl, kx_cmp, kx_oF, kx_eqN, kx_nil, kx_c1, kx_ft, kx_aI, kx_aL, kx_aR, kx_ln, Nat.reduceAdd, Option.toList, List.cons_append, List.nil_append, cf9_14])
    all_goals (repeat' apply And.intro)
    all_goals ((try clear hB hC); first | exact True.intro | with_reducible rfl | with_reducible assumption | (with_reducible refine vp_in_nI ?_ ?_ <;> first | omega | decide) | exact Nat.le_of_ble_eq_true rfl | (with_reducible refine ck_nzI ?_; simp; done) | (with_reducible refine ck_nzL ?_; simp; done) | (simp only [pk_us, pk_uLs, cx_pa, zc5, ze5, ↓reduceIte, not_true_eq_false, not_false_eq_true]; done) | (simp only [cx_pa, zc5, ze5, ↓reduceIte, not_true_eq_false, not_false_eq_true]; with_reducible rfl) | omega | skip)

def bX9_chimeOf_0 : List kx_O := [(.iload_n 1, 1, 0, 0, .null), (.ifCond .lt 21, 22, 0, 0, .null)]
theorem kX9_chimeOf_0 : kx_oks kxL_X9 false cX9_chimeOf 0 bX9_chimeOf_0 = true := by decide +kernel
def bX9_chimeOf_4 : List kx_O := [(.iload_n 1, 1, 0, 0, .null), (.aload_n 0, 0, 0, 0, .null), (.getfield 15, 9, 15, 0, .null), (.arraylength, 0, 0, 0, .null), (.if_icmp .ge 12, 22, 0, 0, .null)]
theorem kX9_chimeOf_4 : kx_oks kxL_X9 false cX9_chimeOf 4 bX9_chimeOf_4 = true := by decide +kernel
def bX9_chimeOf_13 : List kx_O := [(.aload_n 0, 0, 0, 0, .null), (.getfield 15, 9, 15, 0, .null), (.iload_n 1, 1, 0, 0, .null), (.iaload, 0, 0, 0, .null), (.goto 4, 23, 0, 0, .null)]
theorem kX9_chimeOf_13 : kx_oks kxL_X9 false cX9_chimeOf 13 bX9_chimeOf_13 = true := by decide +kernel
def bX9_chimeOf_22 : List kx_O := [(.iconst 0, 0, 0, 0, .int 0)]
theorem kX9_chimeOf_22 : kx_oks kxL_X9 false cX9_chimeOf 22 bX9_chimeOf_22 = true := by decide +kernel
def bX9_chimeOf_23 : List kx_O := [(.ireturn, 0, 0, 0, .null)]
theorem kX9_chimeOf_23 : kx_oks kxL_X9 false cX9_chimeOf 23 bX9_chimeOf_23 = true := by decide +kernel
set_option maxRecDepth 100000 in
set_option maxHeartbeats 4000000 in
theorem ct_X9_chimeOf (l : Launch) (G : kx_G) {P : kx_P} {sz : Nat} {w : Nat} {V : Nat → Int32} (hO : P w = kO 9 (kf (cr9 w) V)) {Q : Nat → Int32} (hQ : P (w + 2) = kI 0 4 Q) {q : Int32}  : kx_M l G sX9_chimeOf 1 0 0 [.ref w, .int (q)] P sz (some (.int (cx_cm Q q))) P sz := by
  refine kx_mk kx_tab kxLok_X9 (ini := false) [some (.ref w), some (.int (q))] ⟨by decide, rfl, by decide, by decide⟩ (⟨_, rfl⟩) rfl rfl (fun g hB hC => ?_)
  refine hB bX9_chimeOf_0 _ _ _ _ _ _ _ kX9_chimeOf_0 ?_
  dsimp only [bX9_chimeOf_0, kx_wp, kx_step, kx_lI, kx_lL, kx_lA, kx_gl, kx_pI, kx_pL, kx_pR, kx_pA, kx_pV, kx_s1, kx_s2, kx_sl, kx_pre, kx_c2, kx_pl, kx_cmp, kx_oF, kx_eqN, kx_nil, kx_c1, kx_ft, kx_aI, kx_aL, kx_aR, kx_ln, Nat.reduceAdd, Option.toList, List.cons_append, List.nil_append, cf9_15]
  repeat (simp only [hO, hQ, ks_eq, ks_ss]; try dsimp only [kx_wp, kx_step, kx_lI, kx_lL, kx_lA, kx_gl, kx_pI, kx_pL, kx_pR, kx_pA, kx_pV, kx_s1, kx_s2, kx_sl, kx_pre, kx_c2, kx_pl, kx_cmp, kx_oF, kx_eqN, kx_nil, kx_c1, kx_ft, kx_aI, kx_aL, kx_aR, kx_ln, Nat.reduceAdd, Option.toList, List.cons_append, List.nil_append, cf9_15])
  repeat' apply And.intro
  all_goals try (first | with_reducible assumption | (with_reducible refine ck_nzI ?_; simp; done) | (with_reducible refine ck_nzL ?_; simp; done) | (with_reducible refine vp_in_nI ?_ ?_ <;> first | omega | decide) | (with_reducible refine Nat.le_of_ble_eq_true ?_; rfl) | omega | (with_reducible refine kz_in ?_ ?_ ?_ <;> first | with_reducible assumption | decide))
  · intro zc1
    with_reducible first | have ze1 := Int32.not_le.mpr zc1 | have ze1 := zc1
    refine hB bX9_chimeOf_22 _ _ _ _ _ _ _ kX9_chimeOf_22 ?_
    dsimp only [bX9_chimeOf_22, kx_wp, kx_step, kx_lI, kx_lL, kx_lA, kx_gl, kx_pI, kx_pL, kx_pR, kx_pA, kx_pV, kx_s1, kx_s2, kx_sl, kx_pre, kx_c2, kx_pl, kx_cmp, kx_oF, kx_eqN, kx_nil, kx_c1, kx_ft, kx_aI, kx_aL, kx_aR, kx_ln, Nat.reduceAdd, Option.toList, List.cons_append, List.nil_append, cf9_15]
    repeat (simp only [hO, hQ, ks_eq, ks_ss]; try dsimp only [kx_wp, kx_step, kx_lI, kx_lL, kx_lA, kx_gl, kx_pI, kx_pL, kx_pR, kx_pA, kx_pV, kx_s1, kx_s2, kx_sl, kx_pre, kx_c2, kx_pl, kx_cmp, kx_oF, kx_eqN, kx_nil, kx_c1, kx_ft, kx_aI, kx_aL, kx_aR, kx_ln, Nat.reduceAdd, Option.toList, List.cons_append, List.nil_append, cf9_15])
    repeat' apply And.intro
    all_goals try (first | with_reducible assumption | (with_reducible refine ck_nzI ?_; simp; done) | (with_reducible refine ck_nzL ?_; simp; done) | (with_reducible refine vp_in_nI ?_ ?_ <;> first | omega | decide) | (with_reducible refine Nat.le_of_ble_eq_true ?_; rfl) | omega | (with_reducible refine kz_in ?_ ?_ ?_ <;> first | with_reducible assumption | decide))
    refine hB bX9_chimeOf_23 _ _ _ _ _ _ _ kX9_chimeOf_23 ?_
    dsimp only [bX9_chimeOf_23, kx_wp, kx_step, kx_lI, kx_lL, kx_lA, kx_gl, kx_pI, kx_pL, kx_pR, kx_pA, kx_pV, kx_s1, kx_s2, kx_sl, kx_pre, kx_c2, kx_pl, kx_cmp, kx_oF, kx_eqN, kx_nil, kx_c1, kx_ft, kx_aI, kx_aL, kx_aR, kx_ln, Nat.reduceAdd, Option.toList, List.cons_append, List.nil_append, cf9_15]
    repeat (simp only [hO, hQ, ks_eq, ks_ss]; try dsimp only [kx_wp, kx_step, kx_lI, kx_lL, kx_lA, kx_gl, kx_pI, kx_pL, kx_pR, kx_pA, kx_pV, kx_s1, kx_s2, kx_sl, kx_pre, kx_c2, kx_pl, kx_cmp, kx_oF, kx_eqN, kx_nil, kx_c1, kx_ft, kx_aI, kx_aL, kx_aR, kx_ln, Nat.reduceAdd, Option.toList, List.cons_append, List.nil_append, cf9_15])
    all_goals (repeat' apply And.intro)
    all_goals ((try clear hB hC); first | exact True.intro | with_reducible rfl | with_reducible assumption | (with_reducible refine vp_in_nI ?_ ?_ <;> first | omega | decide) | exact Nat.le_of_ble_eq_true rfl | (with_reducible refine ck_nzI ?_; simp; done) | (with_reducible refine ck_nzL ?_; simp; done) | (simp only [pk_us, pk_uLs, cx_cm, zc1, ze1, ↓reduceIte, not_true_eq_false, not_false_eq_true]; done) | (simp only [cx_cm, zc1, ze1, ↓reduceIte, not_true_eq_false, not_false_eq_true]; with_reducible rfl) | omega | skip)
  · intro zc1
    with_reducible first | have ze1 := Int32.not_lt.mp zc1 | have ze1 := zc1
    refine hB bX9_chimeOf_4 _ _ _ _ _ _ _ kX9_chimeOf_4 ?_
    dsimp only [bX9_chimeOf_4, kx_wp, kx_step, kx_lI, kx_lL, kx_lA, kx_gl, kx_pI, kx_pL, kx_pR, kx_pA, kx_pV, kx_s1, kx_s2, kx_sl, kx_pre, kx_c2, kx_pl, kx_cmp, kx_oF, kx_eqN, kx_nil, kx_c1, kx_ft, kx_aI, kx_aL, kx_aR, kx_ln, Nat.reduceAdd, Option.toList, List.cons_append, List.nil_append, cf9_15]
    repeat (simp only [hO, hQ, ks_eq, ks_ss]; try dsimp only [kx_wp, kx_step, kx_lI, kx_lL, kx_lA, kx_gl, kx_pI, kx_pL, kx_pR, kx_pA, kx_pV, kx_s1, kx_s2, kx_sl, kx_pre, kx_c2, kx_pl, kx_cmp, kx_oF, kx_eqN, kx_nil, kx_c1, kx_ft, kx_aI, kx_aL, kx_aR, kx_ln, Nat.reduceAdd, Option.toList, List.cons_append, List.nil_append, cf9_15])
    repeat' apply And.intro
    all_goals try (first | with_reducible assumption | (with_reducible refine ck_nzI ?_; simp; done) | (with_reducible refine ck_nzL ?_; simp; done) | (with_reducible refine vp_in_nI ?_ ?_ <;> first | omega | decide) | (with_reducible refine Nat.le_of_ble_eq_true ?_; rfl) | omega | (with_reducible refine kz_in ?_ ?_ ?_ <;> first | with_reducible assumption | decide))
    · intro zc10
      with_reducible first | have ze10 := Int32.not_lt.mpr zc10 | have ze10 := zc10
      refine hB bX9_chimeOf_22 _ _ _ _ _ _ _ kX9_chimeOf_22 ?_
      dsimp only [bX9_chimeOf_22, kx_wp, kx_step, kx_lI, kx_lL, kx_lA, kx_gl, kx_pI, kx_pL, kx_pR, kx_pA, kx_pV, kx_s1, kx_s2, kx_sl, kx_pre, kx_c2, kx_pl, kx_cmp, kx_oF, kx_eqN, kx_nil, kx_c1, kx_ft, kx_aI, kx_aL, kx_aR, kx_ln, Nat.reduceAdd, Option.toList, List.cons_append, List.nil_append, cf9_15]
      repeat (simp only [hO, hQ, ks_eq, ks_ss]; try dsimp only [kx_wp, kx_step, kx_lI, kx_lL, kx_lA, kx_gl, kx_pI, kx_pL, kx_pR, kx_pA, kx_pV, kx_s1, kx_s2, kx_sl, kx_pre, kx_c2, kx_pl, kx_cmp, kx_oF, kx_eqN, kx_nil, kx_c1, kx_ft, kx_aI, kx_aL, kx_aR, kx_ln, Nat.reduceAdd, Option.toList, List.cons_append, List.nil_append, cf9_15])
      repeat' apply And.intro
      all_goals try (first | with_reducible assumption | (with_reducible refine ck_nzI ?_; simp; done) | (with_reducible refine ck_nzL ?_; simp; done) | (with_reducible refine vp_in_nI ?_ ?_ <;> first | omega | decide) | (with_reducible refine Nat.le_of_ble_eq_true ?_; rfl) | omega | (with_reducible refine kz_in ?_ ?_ ?_ <;> first | with_reducible assumption | decide))
      refine hB bX9_chimeOf_23 _ _ _ _ _ _ _ kX9_chimeOf_23 ?_
      dsimp only [bX9_chimeOf_23, kx_wp, kx_step, kx_lI, kx_lL, kx_lA, kx_gl, kx_pI, kx_pL, kx_pR, kx_pA, kx_pV, kx_s1, kx_s2, kx_sl, kx_pre, kx_c2, kx_pl, kx_cmp, kx_oF, kx_eqN, kx_nil, kx_c1, kx_ft, kx_aI, kx_aL, kx_aR, kx_ln, Nat.reduceAdd, Option.toList, List.cons_append, List.nil_append, cf9_15]
      repeat (simp only [hO, hQ, ks_eq, ks_ss]; try dsimp only [kx_wp, kx_step, kx_lI, kx_lL, kx_lA, kx_gl, kx_pI, kx_pL, kx_pR, kx_pA, kx_pV, kx_s1, kx_s2, kx_sl, kx_pre, kx_c2, kx_pl, kx_cmp, kx_oF, kx_eqN, kx_nil, kx_c1, kx_ft, kx_aI, kx_aL, kx_aR, kx_ln, Nat.reduceAdd, Option.toList, List.cons_append, List.nil_append, cf9_15])
      all_goals (repeat' apply And.intro)
      all_goals ((try clear hB hC); first | exact True.intro | with_reducible rfl | with_reducible assumption | (with_reducible refine vp_in_nI ?_ ?_ <;> first | omega | decide) | exact Nat.le_of_ble_eq_true rfl | (with_reducible refine ck_nzI ?_; simp; done) | (with_reducible refine ck_nzL ?_; simp; done) | (simp only [pk_us, pk_uLs, cx_cm, zc1, ze1, zc10, ze10, ↓reduceIte, not_true_eq_false, not_false_eq_true]; done) | (simp only [cx_cm, zc1, ze1, zc10, ze10, ↓reduceIte, not_true_eq_false, not_false_eq_true]; with_reducible rfl) | omega | skip)
    · intro zc10
      with_reducible first | have ze10 := Int32.not_le.mp zc10 | have ze10 := zc10
      refine hB bX9_chimeOf_13 _ _ _ _ _ _ _ kX9_chimeOf_13 ?_
      dsimp only [bX9_chimeOf_13, kx_wp, kx_step, kx_lI, kx_lL, kx_lA, kx_gl, kx_pI, kx_pL, kx_pR, kx_pA, kx_pV, kx_s1, kx_s2, kx_sl, kx_pre, kx_c2, kx_pl, kx_cmp, kx_oF, kx_eqN, kx_nil, kx_c1, kx_ft, kx_aI, kx_aL, kx_aR, kx_ln, Nat.reduceAdd, Option.toList, List.cons_append, List.nil_append, cf9_15]
      repeat (simp only [hO, hQ, ks_eq, ks_ss]; try dsimp only [kx_wp, kx_step, kx_lI, kx_lL, kx_lA, kx_gl, kx_pI, kx_pL, kx_pR, kx_pA, kx_pV, kx_s1, kx_s2, kx_sl, kx_pre, kx_c2, kx_pl, kx_cmp, kx_oF, kx_eqN, kx_nil, kx_c1, kx_ft, kx_aI, kx_aL, kx_aR, kx_ln, Nat.reduceAdd, Option.toList, List.cons_append, List.nil_append, cf9_15])
      repeat' apply And.intro
      all_goals try (first | with_reducible assumption | (with_reducible refine ck_nzI ?_; simp; done) | (with_reducible refine ck_nzL ?_; simp; done) | (with_reducible refine vp_in_nI ?_ ?_ <;> first | omega | decide) | (with_reducible refine Nat.le_of_ble_eq_true ?_; rfl) | omega | (with_reducible refine kz_in ?_ ?_ ?_ <;> first | with_reducible assumption | decide))
      refine hB bX9_chimeOf_23 _ _ _ _ _ _ _ kX9_chimeOf_23 ?_
      dsimp only [bX9_chimeOf_23, kx_wp, kx_step, kx_lI, kx_lL, kx_lA, kx_gl, kx_pI, kx_pL, kx_pR, kx_pA, kx_pV, kx_s1, kx_s2, kx_sl, kx_pre, kx_c2, kx_pl, kx_cmp, kx_oF, kx_eqN, kx_nil, kx_c1, kx_ft, kx_aI, kx_aL, kx_aR, kx_ln, Nat.reduceAdd, Option.toList, List.cons_append, List.nil_append, cf9_15]
      repeat (simp only [hO, hQ, ks_eq, ks_ss]; try dsimp only [kx_wp, kx_step, kx_lI, kx_lL, kx_lA, kx_gl, kx_pI, kx_pL, kx_pR, kx_pA, kx_pV, kx_s1, kx_s2, kx_sl, kx_pre, kx_c2, kx_pl, kx_cmp, kx_oF, kx_eqN, kx_nil, kx_c1, kx_ft, kx_aI, kx_aL, kx_aR, kx_ln, Nat.reduceAdd, Option.toList, List.cons_append, List.nil_append, cf9_15])
      all_goals (repeat' apply And.intro)
      all_goals ((try clear hB hC); first | exact True.intro | with_reducible rfl | with_reducible assumption | (with_reducible refine vp_in_nI ?_ ?_ <;> first | omega | decide) | exact Nat.le_of_ble_eq_true rfl | (with_reducible refine ck_nzI ?_; simp; done) | (with_reducible refine ck_nzL ?_; simp; done) | (simp only [pk_us, pk_uLs, cx_cm, zc1, ze1, zc10, ze10, ↓reduceIte, not_true_eq_false, not_false_eq_true]; done) | (simp only [cx_cm, zc1, ze1, zc10, ze10, ↓reduceIte, not_true_eq_false, not_false_eq_true]; with_reducible rfl) | omega | skip)

def bX9_isSilent_0 : List kx_O := [(.aload_n 0, 0, 0, 0, .null), (.getfield 53, 9, 9, 0, .null), (.aload_n 0, 0, 0, 0, .null), (.getfield 56, 9, 10, 0, .null), (.if_icmp .gt 25, 33, 0, 0, .null)]
theorem kX9_isSilent_0 : kx_oks kxL_X9 false cX9_isSilent 0 bX9_isSilent_0 = true := by decide +kernel
def bX9_isSilent_11 : List kx_O := [(.iload_n 1, 1, 0, 0, .null), (.aload_n 0, 0, 0, 0, .null), (.getfield 53, 9, 9, 0, .null), (.if_icmp .lt 15, 31, 0, 0, .null)]
theorem kX9_isSilent_11 : kx_oks kxL_X9 false cX9_isSilent 11 bX9_isSilent_11 = true := by decide +kernel
def bX9_isSilent_19 : List kx_O := [(.iload_n 1, 1, 0, 0, .null), (.aload_n 0, 0, 0, 0, .null), (.getfield 56, 9, 10, 0, .null), (.if_icmp .ge 7, 31, 0, 0, .null)]
theorem kX9_isSilent_19 : kx_oks kxL_X9 false cX9_isSilent 19 bX9_isSilent_19 = true := by decide +kernel
def bX9_isSilent_27 : List kx_O := [(.iconst 1, 0, 0, 0, .int 1), (.goto 4, 32, 0, 0, .null)]
theorem kX9_isSilent_27 : kx_oks kxL_X9 false cX9_isSilent 27 bX9_isSilent_27 = true := by decide +kernel
def bX9_isSilent_31 : List kx_O := [(.iconst 0, 0, 0, 0, .int 0)]
theorem kX9_isSilent_31 : kx_oks kxL_X9 false cX9_isSilent 31 bX9_isSilent_31 = true := by decide +kernel
def bX9_isSilent_32 : List kx_O := [(.ireturn, 0, 0, 0, .null)]
theorem kX9_isSilent_32 : kx_oks kxL_X9 false cX9_isSilent 32 bX9_isSilent_32 = true := by decide +kernel
def bX9_isSilent_33 : List kx_O := [(.iload_n 1, 1, 0, 0, .null), (.aload_n 0, 0, 0, 0, .null), (.getfield 53, 9, 9, 0, .null), (.if_icmp .ge 11, 49, 0, 0, .null)]
theorem kX9_isSilent_33 : kx_oks kxL_X9 false cX9_isSilent 33 bX9_isSilent_33 = true := by decide +kernel
def bX9_isSilent_41 : List kx_O := [(.iload_n 1, 1, 0, 0, .null), (.aload_n 0, 0, 0, 0, .null), (.getfield 56, 9, 10, 0, .null), (.if_icmp .ge 7, 53, 0, 0, .null)]
theorem kX9_isSilent_41 : kx_oks kxL_X9 false cX9_isSilent 41 bX9_isSilent_41 = true := by decide +kernel
def bX9_isSilent_49 : List kx_O := [(.iconst 1, 0, 0, 0, .int 1), (.goto 4, 54, 0, 0, .null)]
theorem kX9_isSilent_49 : kx_oks kxL_X9 false cX9_isSilent 49 bX9_isSilent_49 = true := by decide +kernel
def bX9_isSilent_53 : List kx_O := [(.iconst 0, 0, 0, 0, .int 0)]
theorem kX9_isSilent_53 : kx_oks kxL_X9 false cX9_isSilent 53 bX9_isSilent_53 = true := by decide +kernel
def bX9_isSilent_54 : List kx_O := [(.ireturn, 0, 0, 0, .null)]
theorem kX9_isSilent_54 : kx_oks kxL_X9 false cX9_isSilent 54 bX9_isSilent_54 = true := by decide +kernel
set_option maxRecDepth 100000 in
set_option maxHeartbeats 4000000 in
theorem ct_X9_isSilent (l : Launch) (G : kx_G) {P : kx_P} {sz : Nat} {w : Nat} {V : Nat → Int32} (hO : P w = kO 9 (kf (cr9 w) V)) {h : Int32}  : kx_M l G sX9_isSilent 1 0 0 [.ref w, .int (h)] P sz (some (.int (cx_si (V 9) (V 10) h))) P sz := by
  refine kx_mk kx_tab kxLok_X9 (ini := false) [some (.ref w), some (.int (h))] ⟨by decide, rfl, by decide, by decide⟩ (by unfold cx_si; split <;> (try split) <;> (try split) <;> first | exact Or.inl rfl | exact Or.inr rfl) rfl rfl (fun g hB hC => ?_)
  refine hB bX9_isSilent_0 _ _ _ _ _ _ _ kX9_isSilent_0 ?_
  dsimp only [bX9_isSilent_0, kx_wp, kx_step, kx_lI, kx_lL, kx_lA, kx_gl, kx_pI, kx_pL, kx_pR, kx_pA, kx_pV, kx_s1, kx_s2, kx_sl, kx_pre, kx_c2, kx_pl, kx_cmp, kx_oF, kx_eqN, kx_nil, kx_c1, kx_ft, kx_aI, kx_aL, kx_aR, kx_ln, Nat.reduceAdd, Option.toList, List.cons_append, List.nil_append, cf9_9, cf9_10]
  repeat (simp only [hO, ks_eq, ks_ss]; try dsimp only [kx_wp, kx_step, kx_lI, kx_lL, kx_lA, kx_gl, kx_pI, kx_pL, kx_pR, kx_pA, kx_pV, kx_s1, kx_s2, kx_sl, kx_pre, kx_c2, kx_pl, kx_cmp, kx_oF, kx_eqN, kx_nil, kx_c1, kx_ft, kx_aI, kx_aL, kx_aR, kx_ln, Nat.reduceAdd, Option.toList, List.cons_append, List.nil_append, cf9_9, cf9_10])
  repeat' apply And.intro
  all_goals try (first | with_reducible assumption | (with_reducible refine ck_nzI ?_; simp; done) | (with_reducible refine ck_nzL ?_; simp; done) | (with_reducible refine vp_in_nI ?_ ?_ <;> first | omega | decide) | (with_reducible refine Nat.le_of_ble_eq_true ?_; rfl) | omega)
  · intro zc8
    with_reducible first | have ze8 := Int32.not_le.mpr zc8 | have ze8 := zc8
    refine hB bX9_isSilent_33 _ _ _ _ _ _ _ kX9_isSilent_33 ?_
    dsimp only [bX9_isSilent_33, kx_wp, kx_step, kx_lI, kx_lL, kx_lA, kx_gl, kx_pI, kx_pL, kx_pR, kx_pA, kx_pV, kx_s1, kx_s2, kx_sl, kx_pre, kx_c2, kx_pl, kx_cmp, kx_oF, kx_eqN, kx_nil, kx_c1, kx_ft, kx_aI, kx_aL, kx_aR, kx_ln, Nat.reduceAdd, Option.toList, List.cons_append, List.nil_append, cf9_9, cf9_10]
    repeat (simp only [hO, ks_eq, ks_ss]; try dsimp only [kx_wp, kx_step, kx_lI, kx_lL, kx_lA, kx_gl, kx_pI, kx_pL, kx_pR, kx_pA, kx_pV, kx_s1, kx_s2, kx_sl, kx_pre, kx_c2, kx_pl, kx_cmp, kx_oF, kx_eqN, kx_nil, kx_c1, kx_ft, kx_aI, kx_aL, kx_aR, kx_ln, Nat.reduceAdd, Option.toList, List.cons_append, List.nil_append, cf9_9, cf9_10])
    repeat' apply And.intro
    all_goals try (first | with_reducible assumption | (with_reducible refine ck_nzI ?_; simp; done) | (with_reducible refine ck_nzL ?_; simp; done) | (with_reducible refine vp_in_nI ?_ ?_ <;> first | omega | decide) | (with_reducible refine Nat.le_of_ble_eq_true ?_; rfl) | omega)
    · intro zc38
      with_reducible first | have ze38 := Int32.not_lt.mpr zc38 | have ze38 := zc38
      refine hB bX9_isSilent_49 _ _ _ _ _ _ _ kX9_isSilent_49 ?_
      dsimp only [bX9_isSilent_49, kx_wp, kx_step, kx_lI, kx_lL, kx_lA, kx_gl, kx_pI, kx_pL, kx_pR, kx_pA, kx_pV, kx_s1, kx_s2, kx_sl, kx_pre, kx_c2, kx_pl, kx_cmp, kx_oF, kx_eqN, kx_nil, kx_c1, kx_ft, kx_aI, kx_aL, kx_aR, kx_ln, Nat.reduceAdd, Option.toList, List.cons_append, List.nil_append, cf9_9, cf9_10]
      repeat (simp only [hO, ks_eq, ks_ss]; try dsimp only [kx_wp, kx_step, kx_lI, kx_lL, kx_lA, kx_gl, kx_pI, kx_pL, kx_pR, kx_pA, kx_pV, kx_s1, kx_s2, kx_sl, kx_pre, kx_c2, kx_pl, kx_cmp, kx_oF, kx_eqN, kx_nil, kx_c1, kx_ft, kx_aI, kx_aL, kx_aR, kx_ln, Nat.reduceAdd, Option.toList, List.cons_append, List.nil_append, cf9_9, cf9_10])
      repeat' apply And.intro
      all_goals try (first | with_reducible assumption | (with_reducible refine ck_nzI ?_; simp; done) | (with_reducible refine ck_nzL ?_; simp; done) | (with_reducible refine vp_in_nI ?_ ?_ <;> first | omega | decide) | (with_reducible refine Nat.le_of_ble_eq_true ?_; rfl) | omega)
      refine hB bX9_isSilent_54 _ _ _ _ _ _ _ kX9_isSilent_54 ?_
      dsimp only [bX9_isSilent_54, kx_wp, kx_step, kx_lI, kx_lL, kx_lA, kx_gl, kx_pI, kx_pL, kx_pR, kx_pA, kx_pV, kx_s1, kx_s2, kx_sl, kx_pre, kx_c2, kx_pl, kx_cmp, kx_oF, kx_eqN, kx_nil, kx_c1, kx_ft, kx_aI, kx_aL, kx_aR, kx_ln, Nat.reduceAdd, Option.toList, List.cons_append, List.nil_append, cf9_9, cf9_10]
      repeat (simp only [hO, ks_eq, ks_ss]; try dsimp only [kx_wp, kx_step, kx_lI, kx_lL, kx_lA, kx_gl, kx_pI, kx_pL, kx_pR, kx_pA, kx_pV, kx_s1, kx_s2, kx_sl, kx_pre, kx_c2, kx_pl, kx_cmp, kx_oF, kx_eqN, kx_nil, kx_c1, kx_ft, kx_aI, kx_aL, kx_aR, kx_ln, Nat.reduceAdd, Option.toList, List.cons_append, List.nil_append, cf9_9, cf9_10])
      all_goals (repeat' apply And.intro)
      all_goals ((try clear hB hC); first | exact True.intro | with_reducible rfl | with_reducible assumption | (with_reducible refine vp_in_nI ?_ ?_ <;> first | omega | decide) | exact Nat.le_of_ble_eq_true rfl | (with_reducible refine ck_nzI ?_; simp; done) | (with_reducible refine ck_nzL ?_; simp; done) | (simp only [pk_us, pk_uLs, cx_si, zc8, ze8, zc38, ze38, ↓reduceIte, not_true_eq_false, not_false_eq_true]; done) | (simp only [cx_si, zc8, ze8, zc38, ze38, ↓reduceIte, not_true_eq_false, not_false_eq_true]; with_reducible rfl) | omega | skip)
    · intro zc38
      with_reducible first | have ze38 := Int32.not_le.mp zc38 | have ze38 := zc38
      refine hB bX9_isSilent_41 _ _ _ _ _ _ _ kX9_isSilent_41 ?_
      dsimp only [bX9_isSilent_41, kx_wp, kx_step, kx_lI, kx_lL, kx_lA, kx_gl, kx_pI, kx_pL, kx_pR, kx_pA, kx_pV, kx_s1, kx_s2, kx_sl, kx_pre, kx_c2, kx_pl, kx_cmp, kx_oF, kx_eqN, kx_nil, kx_c1, kx_ft, kx_aI, kx_aL, kx_aR, kx_ln, Nat.reduceAdd, Option.toList, List.cons_append, List.nil_append, cf9_9, cf9_10]
      repeat (simp only [hO, ks_eq, ks_ss]; try dsimp only [kx_wp, kx_step, kx_lI, kx_lL, kx_lA, kx_gl, kx_pI, kx_pL, kx_pR, kx_pA, kx_pV, kx_s1, kx_s2, kx_sl, kx_pre, kx_c2, kx_pl, kx_cmp, kx_oF, kx_eqN, kx_nil, kx_c1, kx_ft, kx_aI, kx_aL, kx_aR, kx_ln, Nat.reduceAdd, Option.toList, List.cons_append, List.nil_append, cf9_9, cf9_10])
      repeat' apply And.intro
      all_goals try (first | with_reducible assumption | (with_reducible refine ck_nzI ?_; simp; done) | (with_reducible refine ck_nzL ?_; simp; done) | (with_reducible refine vp_in_nI ?_ ?_ <;> first | omega | decide) | (with_reducible refine Nat.le_of_ble_eq_true ?_; rfl) | omega)
      · intro zc46
        with_reducible first | have ze46 := Int32.not_lt.mpr zc46 | have ze46 := zc46
        refine hB bX9_isSilent_53 _ _ _ _ _ _ _ kX9_isSilent_53 ?_
        dsimp only [bX9_isSilent_53, kx_wp, kx_step, kx_lI, kx_lL, kx_lA, kx_gl, kx_pI, kx_pL, kx_pR, kx_pA, kx_pV, kx_s1, kx_s2, kx_sl, kx_pre, kx_c2, kx_pl, kx_cmp, kx_oF, kx_eqN, kx_nil, kx_c1, kx_ft, kx_aI, kx_aL, kx_aR, kx_ln, Nat.reduceAdd, Option.toList, List.cons_append, List.nil_append, cf9_9, cf9_10]
        repeat (simp only [hO, ks_eq, ks_ss]; try dsimp only [kx_wp, kx_step, kx_lI, kx_lL, kx_lA, kx_gl, kx_pI, kx_pL, kx_pR, kx_pA, kx_pV, kx_s1, kx_s2, kx_sl, kx_pre, kx_c2, kx_pl, kx_cmp, kx_oF, kx_eqN, kx_nil, kx_c1, kx_ft, kx_aI, kx_aL, kx_aR, kx_ln, Nat.reduceAdd, Option.toList, List.cons_append, List.nil_append, cf9_9, cf9_10])
        repeat' apply And.intro
        all_goals try (first | with_reducible assumption | (with_reducible refine ck_nzI ?_; simp; done) | (with_reducible refine ck_nzL ?_; simp; done) | (with_reducible refine vp_in_nI ?_ ?_ <;> first | omega | decide) | (with_reducible refine Nat.le_of_ble_eq_true ?_; rfl) | omega)
        refine hB bX9_isSilent_54 _ _ _ _ _ _ _ kX9_isSilent_54 ?_
        dsimp only [bX9_isSilent_54, kx_wp, kx_step, kx_lI, kx_lL, kx_lA, kx_gl, kx_pI, kx_pL, kx_pR, kx_pA, kx_pV, kx_s1, kx_s2, kx_sl, kx_pre, kx_c2, kx_pl, kx_cmp, kx_oF, kx_eqN, kx_nil, kx_c1, kx_ft, kx_aI, kx_aL, kx_aR, kx_ln, Nat.reduceAdd, Option.toList, List.cons_append, List.nil_append, cf9_9, cf9_10]
        repeat (simp only [hO, ks_eq, ks_ss]; try dsimp only [kx_wp, kx_step, kx_lI, kx_lL, kx_lA, kx_gl, kx_pI, kx_pL, kx_pR, kx_pA, kx_pV, kx_s1, kx_s2, kx_sl, kx_pre, kx_c2, kx_pl, kx_cmp, kx_oF, kx_eqN, kx_nil, kx_c1, kx_ft, kx_aI, kx_aL, kx_aR, kx_ln, Nat.reduceAdd, Option.toList, List.cons_append, List.nil_append, cf9_9, cf9_10])
        all_goals (repeat' apply And.intro)
        all_goals ((try clear hB hC); first | exact True.intro | with_reducible rfl | with_reducible assumption | (with_reducible refine vp_in_nI ?_ ?_ <;> first | omega | decide) | exact Nat.le_of_ble_eq_true rfl | (with_reducible refine ck_nzI ?_; simp; done) | (with_reducible refine ck_nzL ?_; simp; done) | (simp only [pk_us, pk_uLs, cx_si, zc8, ze8, zc38, ze38, zc46, ze46, ↓reduceIte, not_true_eq_false, not_false_eq_true]; done) | (simp only [cx_si, zc8, ze8, zc38, ze38, zc46, ze46, ↓reduceIte, not_true_eq_false, not_false_eq_true]; with_reducible rfl) | omega | skip)
      · intro zc46
        with_reducible first | have ze46 := Int32.not_le.mp zc46 | have ze46 := zc46
        refine hB bX9_isSilent_49 _ _ _ _ _ _ _ kX9_isSilent_49 ?_
        dsimp only [bX9_isSilent_49, kx_wp, kx_step, kx_lI, kx_lL, kx_lA, kx_gl, kx_pI, kx_pL, kx_pR, kx_pA, kx_pV, kx_s1, kx_s2, kx_sl, kx_pre, kx_c2, kx_pl, kx_cmp, kx_oF, kx_eqN, kx_nil, kx_c1, kx_ft, kx_aI, kx_aL, kx_aR, kx_ln, Nat.reduceAdd, Option.toList, List.cons_append, List.nil_append, cf9_9, cf9_10]
        repeat (simp only [hO, ks_eq, ks_ss]; try dsimp only [kx_wp, kx_step, kx_lI, kx_lL, kx_lA, kx_gl, kx_pI, kx_pL, kx_pR, kx_pA, kx_pV, kx_s1, kx_s2, kx_sl, kx_pre, kx_c2, kx_pl, kx_cmp, kx_oF, kx_eqN, kx_nil, kx_c1, kx_ft, kx_aI, kx_aL, kx_aR, kx_ln, Nat.reduceAdd, Option.toList, List.cons_append, List.nil_append, cf9_9, cf9_10])
        repeat' apply And.intro
        all_goals try (first | with_reducible assumption | (with_reducible refine ck_nzI ?_; simp; done) | (with_reducible refine ck_nzL ?_; simp; done) | (with_reducible refine vp_in_nI ?_ ?_ <;> first | omega | decide) | (with_reducible refine Nat.le_of_ble_eq_true ?_; rfl) | omega)
        refine hB bX9_isSilent_54 _ _ _ _ _ _ _ kX9_isSilent_54 ?_
        dsimp only [bX9_isSilent_54, kx_wp, kx_step, kx_lI, kx_lL, kx_lA, kx_gl, kx_pI, kx_pL, kx_pR, kx_pA, kx_pV, kx_s1, kx_s2, kx_sl, kx_pre, kx_c2, kx_pl, kx_cmp, kx_oF, kx_eqN, kx_nil, kx_c1, kx_ft, kx_aI, kx_aL, kx_aR, kx_ln, Nat.reduceAdd, Option.toList, List.cons_append, List.nil_append, cf9_9, cf9_10]
        repeat (simp only [hO, ks_eq, ks_ss]; try dsimp only [kx_wp, kx_step, kx_lI, kx_lL, kx_lA, kx_gl, kx_pI, kx_pL, kx_pR, kx_pA, kx_pV, kx_s1, kx_s2, kx_sl, kx_pre, kx_c2, kx_pl, kx_cmp, kx_oF, kx_eqN, kx_nil, kx_c1, kx_ft, kx_aI, kx_aL, kx_aR, kx_ln, Nat.reduceAdd, Option.toList, List.cons_append, List.nil_append, cf9_9, cf9_10])
        all_goals (repeat' apply And.intro)
        all_goals ((try clear hB hC); first | exact True.intro | with_reducible rfl | with_reducible assumption | (with_reducible refine vp_in_nI ?_ ?_ <;> first | omega | decide) | exact Nat.le_of_ble_eq_true rfl | (with_reducible refine ck_nzI ?_; simp; done) | (with_reducible refine ck_nzL ?_; simp; done) | (simp only [pk_us, pk_uLs, cx_si, zc8, ze8, zc38, ze38, zc46, ze46, ↓reduceIte, not_true_eq_false, not_false_eq_true]; done) | (simp only [cx_si, zc8, ze8, zc38, ze38, zc46, ze46, ↓reduceIte, not_true_eq_false, not_false_eq_true]; with_reducible rfl) | omega | skip)
  · intro zc8
    with_reducible first | have ze8 := Int32.not_lt.mp zc8 | have ze8 := zc8
    refine hB bX9_isSilent_11 _ _ _ _ _ _ _ kX9_isSilent_11 ?_
    dsimp only [bX9_isSilent_11, kx_wp, kx_step, kx_lI, kx_lL, kx_lA, kx_gl, kx_pI, kx_pL, kx_pR, kx_pA, kx_pV, kx_s1, kx_s2, kx_sl, kx_pre, kx_c2, kx_pl, kx_cmp, kx_oF, kx_eqN, kx_nil, kx_c1, kx_ft, kx_aI, kx_aL, kx_aR, kx_ln, Nat.reduceAdd, Option.toList, List.cons_append, List.nil_append, cf9_9, cf9_10]
    repeat (simp only [hO, ks_eq, ks_ss]; try dsimp only [kx_wp, kx_step, kx_lI, kx_lL, kx_lA, kx_gl, kx_pI, kx_pL, kx_pR, kx_pA, kx_pV, kx_s1, kx_s2, kx_sl, kx_pre, kx_c2, kx_pl, kx_cmp, kx_oF, kx_eqN, kx_nil, kx_c1, kx_ft, kx_aI, kx_aL, kx_aR, kx_ln, Nat.reduceAdd, Option.toList, List.cons_append, List.nil_append, cf9_9, cf9_10])
    repeat' apply And.intro
    all_goals try (first | with_reducible assumption | (with_reducible refine ck_nzI ?_; simp; done) | (with_reducible refine ck_nzL ?_; simp; done) | (with_reducible refine vp_in_nI ?_ ?_ <;> first | omega | decide) | (with_reducible refine Nat.le_of_ble_eq_true ?_; rfl) | omega)
    · intro zc16
      with_reducible first | have ze16 := Int32.not_le.mpr zc16 | have ze16 := zc16
      refine hB bX9_isSilent_31 _ _ _ _ _ _ _ kX9_isSilent_31 ?_
      dsimp only [bX9_isSilent_31, kx_wp, kx_step, kx_lI, kx_lL, kx_lA, kx_gl, kx_pI, kx_pL, kx_pR, kx_pA, kx_pV, kx_s1, kx_s2, kx_sl, kx_pre, kx_c2, kx_pl, kx_cmp, kx_oF, kx_eqN, kx_nil, kx_c1, kx_ft, kx_aI, kx_aL, kx_aR, kx_ln, Nat.reduceAdd, Option.toList, List.cons_append, List.nil_append, cf9_9, cf9_10]
      repeat (simp only [hO, ks_eq, ks_ss]; try dsimp only [kx_wp, kx_step, kx_lI, kx_lL, kx_lA, kx_gl, kx_pI, kx_pL, kx_pR, kx_pA, kx_pV, kx_s1, kx_s2, kx_sl, kx_pre, kx_c2, kx_pl, kx_cmp, kx_oF, kx_eqN, kx_nil, kx_c1, kx_ft, kx_aI, kx_aL, kx_aR, kx_ln, Nat.reduceAdd, Option.toList, List.cons_append, List.nil_append, cf9_9, cf9_10])
      repeat' apply And.intro
      all_goals try (first | with_reducible assumption | (with_reducible refine ck_nzI ?_; simp; done) | (with_reducible refine ck_nzL ?_; simp; done) | (with_reducible refine vp_in_nI ?_ ?_ <;> first | omega | decide) | (with_reducible refine Nat.le_of_ble_eq_true ?_; rfl) | omega)
      refine hB bX9_isSilent_32 _ _ _ _ _ _ _ kX9_isSilent_32 ?_
      dsimp only [bX9_isSilent_32, kx_wp, kx_step, kx_lI, kx_lL, kx_lA, kx_gl, kx_pI, kx_pL, kx_pR, kx_pA, kx_pV, kx_s1, kx_s2, kx_sl, kx_pre, kx_c2, kx_pl, kx_cmp, kx_oF, kx_eqN, kx_nil, kx_c1, kx_ft, kx_aI, kx_aL, kx_aR, kx_ln, Nat.reduceAdd, Option.toList, List.cons_append, List.nil_append, cf9_9, cf9_10]
      repeat (simp only [hO, ks_eq, ks_ss]; try dsimp only [kx_wp, kx_step, kx_lI, kx_lL, kx_lA, kx_gl, kx_pI, kx_pL, kx_pR, kx_pA, kx_pV, kx_s1, kx_s2, kx_sl, kx_pre, kx_c2, kx_pl, kx_cmp, kx_oF, kx_eqN, kx_nil, kx_c1, kx_ft, kx_aI, kx_aL, kx_aR, kx_ln, Nat.reduceAdd, Option.toList, List.cons_append, List.nil_append, cf9_9, cf9_10])
      all_goals (repeat' apply And.intro)
      all_goals ((try clear hB hC); first | exact True.intro | with_reducible rfl | with_reducible assumption | (with_reducible refine vp_in_nI ?_ ?_ <;> first | omega | decide) | exact Nat.le_of_ble_eq_true rfl | (with_reducible refine ck_nzI ?_; simp; done) | (with_reducible refine ck_nzL ?_; simp; done) | (simp only [pk_us, pk_uLs, cx_si, zc8, ze8, zc16, ze16, ↓reduceIte, not_true_eq_false, not_false_eq_true]; done) | (simp only [cx_si, zc8, ze8, zc16, ze16, ↓reduceIte, not_true_eq_false, not_false_eq_true]; with_reducible rfl) | omega | skip)
    · intro zc16
      with_reducible first | have ze16 := Int32.not_lt.mp zc16 | have ze16 := zc16
      refine hB bX9_isSilent_19 _ _ _ _ _ _ _ kX9_isSilent_19 ?_
      dsimp only [bX9_isSilent_19, kx_wp, kx_step, kx_lI, kx_lL, kx_lA, kx_gl, kx_pI, kx_pL, kx_pR, kx_pA, kx_pV, kx_s1, kx_s2, kx_sl, kx_pre, kx_c2, kx_pl, kx_cmp, kx_oF, kx_eqN, kx_nil, kx_c1, kx_ft, kx_aI, kx_aL, kx_aR, kx_ln, Nat.reduceAdd, Option.toList, List.cons_append, List.nil_append, cf9_9, cf9_10]
      repeat (simp only [hO, ks_eq, ks_ss]; try dsimp only [kx_wp, kx_step, kx_lI, kx_lL, kx_lA, kx_gl, kx_pI, kx_pL, kx_pR, kx_pA, kx_pV, kx_s1, kx_s2, kx_sl, kx_pre, kx_c2, kx_pl, kx_cmp, kx_oF, kx_eqN, kx_nil, kx_c1, kx_ft, kx_aI, kx_aL, kx_aR, kx_ln, Nat.reduceAdd, Option.toList, List.cons_append, List.nil_append, cf9_9, cf9_10])
      repeat' apply And.intro
      all_goals try (first | with_reducible assumption | (with_reducible refine ck_nzI ?_; simp; done) | (with_reducible refine ck_nzL ?_; simp; done) | (with_reducible refine vp_in_nI ?_ ?_ <;> first | omega | decide) | (with_reducible refine Nat.le_of_ble_eq_true ?_; rfl) | omega)
      · intro zc24
        with_reducible first | have ze24 := Int32.not_lt.mpr zc24 | have ze24 := zc24
        refine hB bX9_isSilent_31 _ _ _ _ _ _ _ kX9_isSilent_31 ?_
        dsimp only [bX9_isSilent_31, kx_wp, kx_step, kx_lI, kx_lL, kx_lA, kx_gl, kx_pI, kx_pL, kx_pR, kx_pA, kx_pV, kx_s1, kx_s2, kx_sl, kx_pre, kx_c2, kx_pl, kx_cmp, kx_oF, kx_eqN, kx_nil, kx_c1, kx_ft, kx_aI, kx_aL, kx_aR, kx_ln, Nat.reduceAdd, Option.toList, List.cons_append, List.nil_append, cf9_9, cf9_10]
        repeat (simp only [hO, ks_eq, ks_ss]; try dsimp only [kx_wp, kx_step, kx_lI, kx_lL, kx_lA, kx_gl, kx_pI, kx_pL, kx_pR, kx_pA, kx_pV, kx_s1, kx_s2, kx_sl, kx_pre, kx_c2, kx_pl, kx_cmp, kx_oF, kx_eqN, kx_nil, kx_c1, kx_ft, kx_aI, kx_aL, kx_aR, kx_ln, Nat.reduceAdd, Option.toList, List.cons_append, List.nil_append, cf9_9, cf9_10])
        repeat' apply And.intro
        all_goals try (first | with_reducible assumption | (with_reducible refine ck_nzI ?_; simp; done) | (with_reducible refine ck_nzL ?_; simp; done) | (with_reducible refine vp_in_nI ?_ ?_ <;> first | omega | decide) | (with_reducible refine Nat.le_of_ble_eq_true ?_; rfl) | omega)
        refine hB bX9_isSilent_32 _ _ _ _ _ _ _ kX9_isSilent_32 ?_
        dsimp only [bX9_isSilent_32, kx_wp, kx_step, kx_lI, kx_lL, kx_lA, kx_gl, kx_pI, kx_pL, kx_pR, kx_pA, kx_pV, kx_s1, kx_s2, kx_sl, kx_pre, kx_c2, kx_pl, kx_cmp, kx_oF, kx_eqN, kx_nil, kx_c1, kx_ft, kx_aI, kx_aL, kx_aR, kx_ln, Nat.reduceAdd, Option.toList, List.cons_append, List.nil_append, cf9_9, cf9_10]
        repeat (simp only [hO, ks_eq, ks_ss]; try dsimp only [kx_wp, kx_step, kx_lI, kx_lL, kx_lA, kx_gl, kx_pI, kx_pL, kx_pR, kx_pA, kx_pV, kx_s1, kx_s2, kx_sl, kx_pre, kx_c2, kx_pl, kx_cmp, kx_oF, kx_eqN, kx_nil, kx_c1, kx_ft, kx_aI, kx_aL, kx_aR, kx_ln, Nat.reduceAdd, Option.toList, List.cons_append, List.nil_append, cf9_9, cf9_10])
        all_goals (repeat' apply And.intro)
        all_goals ((try clear hB hC); first | exact True.intro | with_reducible rfl | with_reducible assumption | (with_reducible refine vp_in_nI ?_ ?_ <;> first | omega | decide) | exact Nat.le_of_ble_eq_true rfl | (with_reducible refine ck_nzI ?_; simp; done) | (with_reducible refine ck_nzL ?_; simp; done) | (simp only [pk_us, pk_uLs, cx_si, zc8, ze8, zc16, ze16, zc24, ze24, ↓reduceIte, not_true_eq_false, not_false_eq_true]; done) | (simp only [cx_si, zc8, ze8, zc16, ze16, zc24, ze24, ↓reduceIte, not_true_eq_false, not_false_eq_true]; with_reducible rfl) | omega | skip)
      · intro zc24
        with_reducible first | have ze24 := Int32.not_le.mp zc24 | have ze24 := zc24
        refine hB bX9_isSilent_27 _ _ _ _ _ _ _ kX9_isSilent_27 ?_
        dsimp only [bX9_isSilent_27, kx_wp, kx_step, kx_lI, kx_lL, kx_lA, kx_gl, kx_pI, kx_pL, kx_pR, kx_pA, kx_pV, kx_s1, kx_s2, kx_sl, kx_pre, kx_c2, kx_pl, kx_cmp, kx_oF, kx_eqN, kx_nil, kx_c1, kx_ft, kx_aI, kx_aL, kx_aR, kx_ln, Nat.reduceAdd, Option.toList, List.cons_append, List.nil_append, cf9_9, cf9_10]
        repeat (simp only [hO, ks_eq, ks_ss]; try dsimp only [kx_wp, kx_step, kx_lI, kx_lL, kx_lA, kx_gl, kx_pI, kx_pL, kx_pR, kx_pA, kx_pV, kx_s1, kx_s2, kx_sl, kx_pre, kx_c2, kx_pl, kx_cmp, kx_oF, kx_eqN, kx_nil, kx_c1, kx_ft, kx_aI, kx_aL, kx_aR, kx_ln, Nat.reduceAdd, Option.toList, List.cons_append, List.nil_append, cf9_9, cf9_10])
        repeat' apply And.intro
        all_goals try (first | with_reducible assumption | (with_reducible refine ck_nzI ?_; simp; done) | (with_reducible refine ck_nzL ?_; simp; done) | (with_reducible refine vp_in_nI ?_ ?_ <;> first | omega | decide) | (with_reducible refine Nat.le_of_ble_eq_true ?_; rfl) | omega)
        refine hB bX9_isSilent_32 _ _ _ _ _ _ _ kX9_isSilent_32 ?_
        dsimp only [bX9_isSilent_32, kx_wp, kx_step, kx_lI, kx_lL, kx_lA, kx_gl, kx_pI, kx_pL, kx_pR, kx_pA, kx_pV, kx_s1, kx_s2, kx_sl, kx_pre, kx_c2, kx_pl, kx_cmp, kx_oF, kx_eqN, kx_nil, kx_c1, kx_ft, kx_aI, kx_aL, kx_aR, kx_ln, Nat.reduceAdd, Option.toList, List.cons_append, List.nil_append, cf9_9, cf9_10]
        repeat (simp only [hO, ks_eq, ks_ss]; try dsimp only [kx_wp, kx_step, kx_lI, kx_lL, kx_lA, kx_gl, kx_pI, kx_pL, kx_pR, kx_pA, kx_pV, kx_s1, kx_s2, kx_sl, kx_pre, kx_c2, kx_pl, kx_cmp, kx_oF, kx_eqN, kx_nil, kx_c1, kx_ft, kx_aI, kx_aL, kx_aR, kx_ln, Nat.reduceAdd, Option.toList, List.cons_append, List.nil_append, cf9_9, cf9_10])
        all_goals (repeat' apply And.intro)
        all_goals ((try clear hB hC); first | exact True.intro | with_reducible rfl | with_reducible assumption | (with_reducible refine vp_in_nI ?_ ?_ <;> first | omega | decide) | exact Nat.le_of_ble_eq_true rfl | (with_reducible refine ck_nzI ?_; simp; done) | (with_reducible refine ck_nzL ?_; simp; done) | (simp only [pk_us, pk_uLs, cx_si, zc8, ze8, zc16, ze16, zc24, ze24, ↓reduceIte, not_true_eq_false, not_false_eq_true]; done) | (simp only [cx_si, zc8, ze8, zc16, ze16, zc24, ze24, ↓reduceIte, not_true_eq_false, not_false_eq_true]; with_reducible rfl) | omega | skip)

def bX9_lastDate_0 : List kx_O := [(.aload_n 0, 0, 0, 0, .null), (.getfield 50, 9, 8, 0, .null), (.ifCond .ne 8, 12, 0, 0, .null)]
theorem kX9_lastDate_0 : kx_oks kxL_X9 false cX9_lastDate 0 bX9_lastDate_0 = true := by decide +kernel
def bX9_lastDate_7 : List kx_O := [(.bipush 31, 0, 0, 0, .int 31), (.goto 24, 33, 0, 0, .null)]
theorem kX9_lastDate_7 : kx_oks kxL_X9 false cX9_lastDate 7 bX9_lastDate_7 = true := by decide +kernel
def bX9_lastDate_12 : List kx_O := [(.iload_n 1, 1, 0, 0, .null), (.aload_n 0, 0, 0, 0, .null), (.getfield 50, 9, 8, 0, .null), (.iconst 2, 0, 0, 0, .int 2), (.if_icmp .ne 11, 29, 0, 0, .null)]
theorem kX9_lastDate_12 : kx_oks kxL_X9 false cX9_lastDate 12 bX9_lastDate_12 = true := by decide +kernel
def bX9_lastDate_21 : List kx_O := [(.iload_n 2, 2, 0, 0, .null), (.ifCond .eq 7, 29, 0, 0, .null)]
theorem kX9_lastDate_21 : kx_oks kxL_X9 false cX9_lastDate 21 bX9_lastDate_21 = true := by decide +kernel
def bX9_lastDate_25 : List kx_O := [(.iconst 1, 0, 0, 0, .int 1), (.goto 4, 30, 0, 0, .null)]
theorem kX9_lastDate_25 : kx_oks kxL_X9 false cX9_lastDate 25 bX9_lastDate_25 = true := by decide +kernel
def bX9_lastDate_29 : List kx_O := [(.iconst 0, 0, 0, 0, .int 0)]
theorem kX9_lastDate_29 : kx_oks kxL_X9 false cX9_lastDate 29 bX9_lastDate_29 = true := by decide +kernel
def bX9_lastDate_33 : List kx_O := [(.ireturn, 0, 0, 0, .null)]
theorem kX9_lastDate_33 : kx_oks kxL_X9 false cX9_lastDate 33 bX9_lastDate_33 = true := by decide +kernel
theorem dX9_lastDate_30 : decode cX9_lastDate 30 = .ok (.invokestatic 94, 3) := by decide +kernel
set_option maxRecDepth 100000 in
set_option maxHeartbeats 4000000 in
theorem ct_X9_lastDate (l : Launch) (G : kx_G) {P : kx_P} {sz : Nat} {w : Nat} {V : Nat → Int32} (hO : P w = kO 9 (kf (cr9 w) V)) (hM : P 1 = kI 5 12 cj_md) {m lp : Int32}  : kx_M l G sX9_lastDate 2 0 0 [.ref w, .int (m), .int (lp)] P sz (some (.int (ck_cal (V 8) m lp))) P sz := by
  refine kx_mk kx_tab kxLok_X9 (ini := false) [some (.ref w), some (.int (m)), some (.int (lp))] ⟨by decide, rfl, by decide, by decide⟩ (⟨_, rfl⟩) rfl rfl (fun g hB hC => ?_)
  refine hB bX9_lastDate_0 _ _ _ _ _ _ _ kX9_lastDate_0 ?_
  dsimp only [bX9_lastDate_0, kx_wp, kx_step, kx_lI, kx_lL, kx_lA, kx_gl, kx_pI, kx_pL, kx_pR, kx_pA, kx_pV, kx_s1, kx_s2, kx_sl, kx_pre, kx_c2, kx_pl, kx_cmp, kx_oF, kx_eqN, kx_nil, kx_c1, kx_ft, kx_aI, kx_aL, kx_aR, kx_ln, Nat.reduceAdd, Option.toList, List.cons_append, List.nil_append, cf9_8]
  repeat (simp only [hO, ks_eq, ks_ss]; try dsimp only [kx_wp, kx_step, kx_lI, kx_lL, kx_lA, kx_gl, kx_pI, kx_pL, kx_pR, kx_pA, kx_pV, kx_s1, kx_s2, kx_sl, kx_pre, kx_c2, kx_pl, kx_cmp, kx_oF, kx_eqN, kx_nil, kx_c1, kx_ft, kx_aI, kx_aL, kx_aR, kx_ln, Nat.reduceAdd, Option.toList, List.cons_append, List.nil_append, cf9_8])
  repeat' apply And.intro
  all_goals try (first | with_reducible assumption | (with_reducible refine ck_nzI ?_; simp; done) | (with_reducible refine ck_nzL ?_; simp; done) | (with_reducible refine vp_in_nI ?_ ?_ <;> first | omega | decide) | (with_reducible refine Nat.le_of_ble_eq_true ?_; rfl) | omega)
  · intro zc4
    have ze4 := zc4
    refine hB bX9_lastDate_12 _ _ _ _ _ _ _ kX9_lastDate_12 ?_
    dsimp only [bX9_lastDate_12, kx_wp, kx_step, kx_lI, kx_lL, kx_lA, kx_gl, kx_pI, kx_pL, kx_pR, kx_pA, kx_pV, kx_s1, kx_s2, kx_sl, kx_pre, kx_c2, kx_pl, kx_cmp, kx_oF, kx_eqN, kx_nil, kx_c1, kx_ft, kx_aI, kx_aL, kx_aR, kx_ln, Nat.reduceAdd, Option.toList, List.cons_append, List.nil_append, cf9_8]
    repeat (simp only [hO, ks_eq, ks_ss]; try dsimp only [kx_wp, kx_step, kx_lI, kx_lL, kx_lA, kx_gl, kx_pI, kx_pL, kx_pR, kx_pA, kx_pV, kx_s1, kx_s2, kx_sl, kx_pre, kx_c2, kx_pl, kx_cmp, kx_oF, kx_eqN, kx_nil, kx_c1, kx_ft, kx_aI, kx_aL, kx_aR, kx_ln, Nat.reduceAdd, Option.toList, List.cons_append, List.nil_append, cf9_8])
    repeat' apply And.intro
    all_goals try (first | with_reducible assumption | (with_reducible refine ck_nzI ?_; simp; done) | (with_reducible refine ck_nzL ?_; simp; done) | (with_reducible refine vp_in_nI ?_ ?_ <;> first | omega | decide) | (with_reducible refine Nat.le_of_ble_eq_true ?_; rfl) | omega)
    · intro zc18
      have ze18 := zc18
      refine hB bX9_lastDate_29 _ _ _ _ _ _ _ kX9_lastDate_29 ?_
      dsimp only [bX9_lastDate_29, kx_wp, kx_step, kx_lI, kx_lL, kx_lA, kx_gl, kx_pI, kx_pL, kx_pR, kx_pA, kx_pV, kx_s1, kx_s2, kx_sl, kx_pre, kx_c2, kx_pl, kx_cmp, kx_oF, kx_eqN, kx_nil, kx_c1, kx_ft, kx_aI, kx_aL, kx_aR, kx_ln, Nat.reduceAdd, Option.toList, List.cons_append, List.nil_append, cf9_8]
      repeat (simp only [hO, ks_eq, ks_ss]; try dsimp only [kx_wp, kx_step, kx_lI, kx_lL, kx_lA, kx_gl, kx_pI, kx_pL, kx_pR, kx_pA, kx_pV, kx_s1, kx_s2, kx_sl, kx_pre, kx_c2, kx_pl, kx_cmp, kx_oF, kx_eqN, kx_nil, kx_c1, kx_ft, kx_aI, kx_aL, kx_aR, kx_ln, Nat.reduceAdd, Option.toList, List.cons_append, List.nil_append, cf9_8])
      repeat' apply And.intro
      all_goals try (first | with_reducible assumption | (with_reducible refine ck_nzI ?_; simp; done) | (with_reducible refine ck_nzL ?_; simp; done) | (with_reducible refine vp_in_nI ?_ ?_ <;> first | omega | decide) | (with_reducible refine Nat.le_of_ble_eq_true ?_; rfl) | omega)
      refine hC.2.1 94 _ _ _ _ _ _ _ _ _ _ _ _ _ _ _ _ _ lX9_94 (ct_X0_daysOf l G hM) rfl rfl (Nat.le_of_ble_eq_true rfl) (by decide) (by decide) (by omega) (by omega) dX9_lastDate_30 ?_
      refine hB bX9_lastDate_33 _ _ _ _ _ _ _ kX9_lastDate_33 ?_
      dsimp only [bX9_lastDate_33, kx_wp, kx_step, kx_lI, kx_lL, kx_lA, kx_gl, kx_pI, kx_pL, kx_pR, kx_pA, kx_pV, kx_s1, kx_s2, kx_sl, kx_pre, kx_c2, kx_pl, kx_cmp, kx_oF, kx_eqN, kx_nil, kx_c1, kx_ft, kx_aI, kx_aL, kx_aR, kx_ln, Nat.reduceAdd, Option.toList, List.cons_append, List.nil_append, cf9_8]
      repeat (simp only [hO, ks_eq, ks_ss]; try dsimp only [kx_wp, kx_step, kx_lI, kx_lL, kx_lA, kx_gl, kx_pI, kx_pL, kx_pR, kx_pA, kx_pV, kx_s1, kx_s2, kx_sl, kx_pre, kx_c2, kx_pl, kx_cmp, kx_oF, kx_eqN, kx_nil, kx_c1, kx_ft, kx_aI, kx_aL, kx_aR, kx_ln, Nat.reduceAdd, Option.toList, List.cons_append, List.nil_append, cf9_8])
      all_goals (repeat' apply And.intro)
      all_goals ((try clear hB hC); first | exact True.intro | (simp only [ck_cal, ze4, ze18, ↓reduceIte]; done) | (simp only [ck_cal, ze4, ze18, ↓reduceIte, ck_last, show ¬ (1 : Int32) = 0 by decide]; done) | (simp [ck_cal, *]; done))
    · intro zc18
      with_reducible first | have ze18 := Decidable.not_not.mp zc18 | have ze18 := zc18
      refine hB bX9_lastDate_21 _ _ _ _ _ _ _ kX9_lastDate_21 ?_
      dsimp only [bX9_lastDate_21, kx_wp, kx_step, kx_lI, kx_lL, kx_lA, kx_gl, kx_pI, kx_pL, kx_pR, kx_pA, kx_pV, kx_s1, kx_s2, kx_sl, kx_pre, kx_c2, kx_pl, kx_cmp, kx_oF, kx_eqN, kx_nil, kx_c1, kx_ft, kx_aI, kx_aL, kx_aR, kx_ln, Nat.reduceAdd, Option.toList, List.cons_append, List.nil_append, cf9_8]
      repeat (simp only [hO, ks_eq, ks_ss]; try dsimp only [kx_wp, kx_step, kx_lI, kx_lL, kx_lA, kx_gl, kx_pI, kx_pL, kx_pR, kx_pA, kx_pV, kx_s1, kx_s2, kx_sl, kx_pre, kx_c2, kx_pl, kx_cmp, kx_oF, kx_eqN, kx_nil, kx_c1, kx_ft, kx_aI, kx_aL, kx_aR, kx_ln, Nat.reduceAdd, Option.toList, List.cons_append, List.nil_append, cf9_8])
      repeat' apply And.intro
      all_goals try (first | with_reducible assumption | (with_reducible refine ck_nzI ?_; simp; done) | (with_reducible refine ck_nzL ?_; simp; done) | (with_reducible refine vp_in_nI ?_ ?_ <;> first | omega | decide) | (with_reducible refine Nat.le_of_ble_eq_true ?_; rfl) | omega)
      · intro zc22
        have ze22 := zc22
        refine hB bX9_lastDate_29 _ _ _ _ _ _ _ kX9_lastDate_29 ?_
        dsimp only [bX9_lastDate_29, kx_wp, kx_step, kx_lI, kx_lL, kx_lA, kx_gl, kx_pI, kx_pL, kx_pR, kx_pA, kx_pV, kx_s1, kx_s2, kx_sl, kx_pre, kx_c2, kx_pl, kx_cmp, kx_oF, kx_eqN, kx_nil, kx_c1, kx_ft, kx_aI, kx_aL, kx_aR, kx_ln, Nat.reduceAdd, Option.toList, List.cons_append, List.nil_append, cf9_8]
        repeat (simp only [hO, ks_eq, ks_ss]; try dsimp only [kx_wp, kx_step, kx_lI, kx_lL, kx_lA, kx_gl, kx_pI, kx_pL, kx_pR, kx_pA, kx_pV, kx_s1, kx_s2, kx_sl, kx_pre, kx_c2, kx_pl, kx_cmp, kx_oF, kx_eqN, kx_nil, kx_c1, kx_ft, kx_aI, kx_aL, kx_aR, kx_ln, Nat.reduceAdd, Option.toList, List.cons_append, List.nil_append, cf9_8])
        repeat' apply And.intro
        all_goals try (first | with_reducible assumption | (with_reducible refine ck_nzI ?_; simp; done) | (with_reducible refine ck_nzL ?_; simp; done) | (with_reducible refine vp_in_nI ?_ ?_ <;> first | omega | decide) | (with_reducible refine Nat.le_of_ble_eq_true ?_; rfl) | omega)
        refine hC.2.1 94 _ _ _ _ _ _ _ _ _ _ _ _ _ _ _ _ _ lX9_94 (ct_X0_daysOf l G hM) rfl rfl (Nat.le_of_ble_eq_true rfl) (by decide) (by decide) (by omega) (by omega) dX9_lastDate_30 ?_
        refine hB bX9_lastDate_33 _ _ _ _ _ _ _ kX9_lastDate_33 ?_
        dsimp only [bX9_lastDate_33, kx_wp, kx_step, kx_lI, kx_lL, kx_lA, kx_gl, kx_pI, kx_pL, kx_pR, kx_pA, kx_pV, kx_s1, kx_s2, kx_sl, kx_pre, kx_c2, kx_pl, kx_cmp, kx_oF, kx_eqN, kx_nil, kx_c1, kx_ft, kx_aI, kx_aL, kx_aR, kx_ln, Nat.reduceAdd, Option.toList, List.cons_append, List.nil_append, cf9_8]
        repeat (simp only [hO, ks_eq, ks_ss]; try dsimp only [kx_wp, kx_step, kx_lI, kx_lL, kx_lA, kx_gl, kx_pI, kx_pL, kx_pR, kx_pA, kx_pV, kx_s1, kx_s2, kx_sl, kx_pre, kx_c2, kx_pl, kx_cmp, kx_oF, kx_eqN, kx_nil, kx_c1, kx_ft, kx_aI, kx_aL, kx_aR, kx_ln, Nat.reduceAdd, Option.toList, List.cons_append, List.nil_append, cf9_8])
        all_goals (repeat' apply And.intro)
        all_goals ((try clear hB hC); first | exact True.intro | (simp only [ck_cal, ze4, eq_true ze18, eq_true ze22, ↓reduceIte]; done) | (simp only [ck_cal, ze4, eq_true ze18, eq_true ze22, ↓reduceIte, ck_last, show ¬ (1 : Int32) = 0 by decide]; done) | (simp [ck_cal, *]; done))
      · intro zc22
        have ze22 := zc22
        refine hB bX9_lastDate_25 _ _ _ _ _ _ _ kX9_lastDate_25 ?_
        dsimp only [bX9_lastDate_25, kx_wp, kx_step, kx_lI, kx_lL, kx_lA, kx_gl, kx_pI, kx_pL, kx_pR, kx_pA, kx_pV, kx_s1, kx_s2, kx_sl, kx_pre, kx_c2, kx_pl, kx_cmp, kx_oF, kx_eqN, kx_nil, kx_c1, kx_ft, kx_aI, kx_aL, kx_aR, kx_ln, Nat.reduceAdd, Option.toList, List.cons_append, List.nil_append, cf9_8]
        repeat (simp only [hO, ks_eq, ks_ss]; try dsimp only [kx_wp, kx_step, kx_lI, kx_lL, kx_lA, kx_gl, kx_pI, kx_pL, kx_pR, kx_pA, kx_pV, kx_s1, kx_s2, kx_sl, kx_pre, kx_c2, kx_pl, kx_cmp, kx_oF, kx_eqN, kx_nil, kx_c1, kx_ft, kx_aI, kx_aL, kx_aR, kx_ln, Nat.reduceAdd, Option.toList, List.cons_append, List.nil_append, cf9_8])
        repeat' apply And.intro
        all_goals try (first | with_reducible assumption | (with_reducible refine ck_nzI ?_; simp; done) | (with_reducible refine ck_nzL ?_; simp; done) | (with_reducible refine vp_in_nI ?_ ?_ <;> first | omega | decide) | (with_reducible refine Nat.le_of_ble_eq_true ?_; rfl) | omega)
        refine hC.2.1 94 _ _ _ _ _ _ _ _ _ _ _ _ _ _ _ _ _ lX9_94 (ct_X0_daysOf l G hM) rfl rfl (Nat.le_of_ble_eq_true rfl) (by decide) (by decide) (by omega) (by omega) dX9_lastDate_30 ?_
        refine hB bX9_lastDate_33 _ _ _ _ _ _ _ kX9_lastDate_33 ?_
        dsimp only [bX9_lastDate_33, kx_wp, kx_step, kx_lI, kx_lL, kx_lA, kx_gl, kx_pI, kx_pL, kx_pR, kx_pA, kx_pV, kx_s1, kx_s2, kx_sl, kx_pre, kx_c2, kx_pl, kx_cmp, kx_oF, kx_eqN, kx_nil, kx_c1, kx_ft, kx_aI, kx_aL, kx_aR, kx_ln, Nat.reduceAdd, Option.toList, List.cons_append, List.nil_append, cf9_8]
        repeat (simp only [hO, ks_eq, ks_ss]; try dsimp only [kx_wp, kx_step, kx_lI, kx_lL, kx_lA, kx_gl, kx_pI, kx_pL, kx_pR, kx_pA, kx_pV, kx_s1, kx_s2, kx_sl, kx_pre, kx_c2, kx_pl, kx_cmp, kx_oF, kx_eqN, kx_nil, kx_c1, kx_ft, kx_aI, kx_aL, kx_aR, kx_ln, Nat.reduceAdd, Option.toList, List.cons_append, List.nil_append, cf9_8])
        all_goals (repeat' apply And.intro)
        all_goals ((try clear hB hC); first | exact True.intro | (simp only [ck_cal, ze4, eq_true ze18, ze22, ↓reduceIte]; done) | (simp only [ck_cal, ze4, eq_true ze18, ze22, ↓reduceIte, ck_last, show ¬ (1 : Int32) = 0 by decide]; done) | (simp [ck_cal, *]; done))
  · intro zc4
    with_reducible first | have ze4 := Decidable.not_not.mp zc4 | have ze4 := zc4
    refine hB bX9_lastDate_7 _ _ _ _ _ _ _ kX9_lastDate_7 ?_
    dsimp only [bX9_lastDate_7, kx_wp, kx_step, kx_lI, kx_lL, kx_lA, kx_gl, kx_pI, kx_pL, kx_pR, kx_pA, kx_pV, kx_s1, kx_s2, kx_sl, kx_pre, kx_c2, kx_pl, kx_cmp, kx_oF, kx_eqN, kx_nil, kx_c1, kx_ft, kx_aI, kx_aL, kx_aR, kx_ln, Nat.reduceAdd, Option.toList, List.cons_append, List.nil_append, cf9_8]
    repeat (simp only [hO, ks_eq, ks_ss]; try dsimp only [kx_wp, kx_step, kx_lI, kx_lL, kx_lA, kx_gl, kx_pI, kx_pL, kx_pR, kx_pA, kx_pV, kx_s1, kx_s2, kx_sl, kx_pre, kx_c2, kx_pl, kx_cmp, kx_oF, kx_eqN, kx_nil, kx_c1, kx_ft, kx_aI, kx_aL, kx_aR, kx_ln, Nat.reduceAdd, Option.toList, List.cons_append, List.nil_append, cf9_8])
    repeat' apply And.intro
    all_goals try (first | with_reducible assumption | (with_reducible refine ck_nzI ?_; simp; done) | (with_reducible refine ck_nzL ?_; simp; done) | (with_reducible refine vp_in_nI ?_ ?_ <;> first | omega | decide) | (with_reducible refine Nat.le_of_ble_eq_true ?_; rfl) | omega)
    refine hB bX9_lastDate_33 _ _ _ _ _ _ _ kX9_lastDate_33 ?_
    dsimp only [bX9_lastDate_33, kx_wp, kx_step, kx_lI, kx_lL, kx_lA, kx_gl, kx_pI, kx_pL, kx_pR, kx_pA, kx_pV, kx_s1, kx_s2, kx_sl, kx_pre, kx_c2, kx_pl, kx_cmp, kx_oF, kx_eqN, kx_nil, kx_c1, kx_ft, kx_aI, kx_aL, kx_aR, kx_ln, Nat.reduceAdd, Option.toList, List.cons_append, List.nil_append, cf9_8]
    repeat (simp only [hO, ks_eq, ks_ss]; try dsimp only [kx_wp, kx_step, kx_lI, kx_lL, kx_lA, kx_gl, kx_pI, kx_pL, kx_pR, kx_pA, kx_pV, kx_s1, kx_s2, kx_sl, kx_pre, kx_c2, kx_pl, kx_cmp, kx_oF, kx_eqN, kx_nil, kx_c1, kx_ft, kx_aI, kx_aL, kx_aR, kx_ln, Nat.reduceAdd, Option.toList, List.cons_append, List.nil_append, cf9_8])
    all_goals (repeat' apply And.intro)
    all_goals ((try clear hB hC); first | exact True.intro | (simp only [ck_cal, eq_true ze4, ↓reduceIte]; done) | (simp only [ck_cal, eq_true ze4, ↓reduceIte, ck_last, show ¬ (1 : Int32) = 0 by decide]; done) | (simp [ck_cal, *]; done))

def bX9_rackStrokes_0 : List kx_O := [(.iconst 0, 0, 0, 0, .int 0), (.bipush 24, 0, 0, 0, .int 24), (.aload_n 0, 0, 0, 0, .null), (.getfield 21, 9, 16, 0, .null), (.iload_n 1, 1, 0, 0, .null), (.iload_n 2, 2, 0, 0, .null), (.iload_n 3, 3, 0, 0, .null)]
theorem kX9_rackStrokes_0 : kx_oks kxL_X9 false cX9_rackStrokes 0 bX9_rackStrokes_0 = true := by decide +kernel
def bX9_rackStrokes_19 : List kx_O := [(.ireturn, 0, 0, 0, .null)]
theorem kX9_rackStrokes_19 : kx_oks kxL_X9 false cX9_rackStrokes 19 bX9_rackStrokes_19 = true := by decide +kernel
theorem dX9_rackStrokes_10 : decode cX9_rackStrokes 10 = .ok (.invokevirtual 100, 3) := by decide +kernel
theorem dX9_rackStrokes_13 : decode cX9_rackStrokes 13 = .ok (.invokestatic 104, 3) := by decide +kernel
theorem dX9_rackStrokes_16 : decode cX9_rackStrokes 16 = .ok (.invokestatic 107, 3) := by decide +kernel
set_option maxRecDepth 100000 in
set_option maxHeartbeats 4000000 in
theorem ct_X9_rackStrokes (l : Launch) (G : kx_G) {P : kx_P} {sz : Nat} {w : Nat} {V : Nat → Int32} (hO : P w = kO 9 (kf (cr9 w) V)) (hw6 : 64 ≤ w) {F S St C N : Nat → Int32} (hF : P (w + 3) = kO 2 (kf (cr2 w) F)) (hS : P (w + 5) = kI 0 64 S) (hT : P (w + 4) = kI 0 400 St) {nn : Nat} (h1 : F 1 = nI nn) (hn : nn ≤ 400) (hcd : ∀ k, k < nn → cx_cd (C k) (N k) (St k)) (hok : ∀ k, k < nn → ck_rko (C k) (ck_ht C k)) {h d m : Int32}  : kx_M l G sX9_rackStrokes 3 0 0 [.ref w, .int (h), .int (d), .int (m)] P sz (some (.int (cj_max 0 (cj_min 24 ((ck_rkS C N h d m S nn).1 0))))) (kx_set P (w + 5) (kI 0 64 ((ck_rkS C N h d m S nn).1))) sz := by
  refine kx_mk kx_tab kxLok_X9 (ini := false) [some (.ref w), some (.int (h)), some (.int (d)), some (.int (m))] ⟨by decide, rfl, by decide, by decide⟩ (⟨_, rfl⟩) rfl rfl (fun g hB hC => ?_)
  refine hB bX9_rackStrokes_0 _ _ _ _ _ _ _ kX9_rackStrokes_0 ?_
  dsimp only [bX9_rackStrokes_0, kx_wp, kx_step, kx_lI, kx_lL, kx_lA, kx_gl, kx_pI, kx_pL, kx_pR, kx_pA, kx_pV, kx_s1, kx_s2, kx_sl, kx_pre, kx_c2, kx_pl, kx_cmp, kx_oF, kx_eqN, kx_nil, kx_c1, kx_ft, kx_aI, kx_aL, kx_aR, kx_ln, Nat.reduceAdd, Option.toList, List.cons_append, List.nil_append, cf9_16]
  repeat (simp only [hO, ks_eq, ks_ss]; try dsimp only [kx_wp, kx_step, kx_lI, kx_lL, kx_lA, kx_gl, kx_pI, kx_pL, kx_pR, kx_pA, kx_pV, kx_s1, kx_s2, kx_sl, kx_pre, kx_c2, kx_pl, kx_cmp, kx_oF, kx_eqN, kx_nil, kx_c1, kx_ft, kx_aI, kx_aL, kx_aR, kx_ln, Nat.reduceAdd, Option.toList, List.cons_append, List.nil_append, cf9_16])
  repeat' apply And.intro
  all_goals try (first | with_reducible assumption | (with_reducible refine ck_nzI ?_; simp; done) | (with_reducible refine ck_nzL ?_; simp; done) | (with_reducible refine vp_in_nI ?_ ?_ <;> first | omega | decide) | (with_reducible refine Nat.le_of_ble_eq_true ?_; rfl) | omega)
  refine hC.1 100 _ _ _ _ _ _ _ 2 _ _ _ _ _ _ _ _ _ _ _ _ lX9_100 (ct_X2_value l G hw6 hF hS hT h1 hn hcd hok) ⟨by decide, rfl⟩ (hF) rfl rfl (Nat.le_of_ble_eq_true rfl) (by decide) (by decide) (by omega) (by omega) dX9_rackStrokes_10 ?_
  refine hC.2.1 104 _ _ _ _ _ _ _ _ _ _ _ _ _ _ _ _ _ lX9_104 (ct_J9_min_7cf53 l G) rfl rfl (Nat.le_of_ble_eq_true rfl) (by decide) (by decide) (by omega) (by omega) dX9_rackStrokes_13 ?_
  refine hC.2.1 107 _ _ _ _ _ _ _ _ _ _ _ _ _ _ _ _ _ lX9_107 (ct_J9_max_7cf53 l G) rfl rfl (Nat.le_of_ble_eq_true rfl) (by decide) (by decide) (by omega) (by omega) dX9_rackStrokes_16 ?_
  refine hB bX9_rackStrokes_19 _ _ _ _ _ _ _ kX9_rackStrokes_19 ?_
  dsimp only [bX9_rackStrokes_19, kx_wp, kx_step, kx_lI, kx_lL, kx_lA, kx_gl, kx_pI, kx_pL, kx_pR, kx_pA, kx_pV, kx_s1, kx_s2, kx_sl, kx_pre, kx_c2, kx_pl, kx_cmp, kx_oF, kx_eqN, kx_nil, kx_c1, kx_ft, kx_aI, kx_aL, kx_aR, kx_ln, Nat.reduceAdd, Option.toList, List.cons_append, List.nil_append, cf9_16]
  repeat (simp only [hO, ks_eq, ks_ss]; try dsimp only [kx_wp, kx_step, kx_lI, kx_lL, kx_lA, kx_gl, kx_pI, kx_pL, kx_pR, kx_pA, kx_pV, kx_s1, kx_s2, kx_sl, kx_pre, kx_c2, kx_pl, kx_cmp, kx_oF, kx_eqN, kx_nil, kx_c1, kx_ft, kx_aI, kx_aL, kx_aR, kx_ln, Nat.reduceAdd, Option.toList, List.cons_append, List.nil_append, cf9_16])
  all_goals (repeat' apply And.intro)
  all_goals ((try clear hB hC); first | exact True.intro | with_reducible rfl | with_reducible assumption | (with_reducible refine vp_in_nI ?_ ?_ <;> first | omega | decide) | exact Nat.le_of_ble_eq_true rfl | (with_reducible refine ck_nzI ?_; simp; done) | (with_reducible refine ck_nzL ?_; simp; done) | (simp only [pk_us, pk_uLs, ↓reduceIte, not_true_eq_false, not_false_eq_true]; done) | (simp only [↓reduceIte, not_true_eq_false, not_false_eq_true]; with_reducible rfl) | omega | skip)


def cj_min (a b : Int32) : Int32 := if a ≤ b then a else b
def cj_max (a b : Int32) : Int32 := if b ≤ a then a else b
def cj_minL (a b : Int64) : Int64 := if a ≤ b then a else b
def cj_maxL (a b : Int64) : Int64 := if b ≤ a then a else b
def cj_fm (x y : Int32) : Int32 := if x ^^^ y < 0 then (if x - x / y * y = 0 then x - x / y * y else x - x / y * y + y) else x - x / y * y
def cj_fmL (x y : Int64) : Int64 := if x ^^^ y < 0 then (if x - x / y * y = 0 then x - x / y * y else x - x / y * y + y) else x - x / y * y
def cj_fdL (x y : Int64) : Int64 := if x ^^^ y < 0 then (if x / y * y = x then x / y else x / y - 1) else x / y
def cj_bc (x0 : Int32) : Int32 :=
  let u := fun (x s : Int32) => (x.toUInt32 >>> (s.toUInt32 &&& Int32.toUInt32 31)).toInt32
  let x1 := x0 - (u x0 1 &&& 1431655765)
  let x2 := (x1 &&& 858993459) + (u x1 2 &&& 858993459)
  let x3 := (x2 + u x2 4) &&& 252645135
  let x4 := x3 + u x3 8
  let x5 := x4 + u x4 16
  x5 &&& 63
def bJ9_min_7cf53_0 : List kx_O := [(.iload_n 0, 0, 0, 0, .null), (.iload_n 1, 1, 0, 0, .null), (.if_icmp .gt 7, 9, 0, 0, .null)]
theorem kJ9_min_7cf53_0 : kx_oks kxL_J9 false cJ9_min_7cf53 0 bJ9_min_7cf53_0 = true := by decide +kernel
def bJ9_min_7cf53_5 : List kx_O := [(.iload_n 0, 0, 0, 0, .null), (.goto 4, 10, 0, 0, .null)]
theorem kJ9_min_7cf53_5 : kx_oks kxL_J9 false cJ9_min_7cf53 5 bJ9_min_7cf53_5 = true := by decide +kernel
def bJ9_min_7cf53_9 : List kx_O := [(.iload_n 1, 1, 0, 0, .null)]
theorem kJ9_min_7cf53_9 : kx_oks kxL_J9 false cJ9_min_7cf53 9 bJ9_min_7cf53_9 = true := by decide +kernel
def bJ9_min_7cf53_10 : List kx_O := [(.ireturn, 0, 0, 0, .null)]
theorem kJ9_min_7cf53_10 : kx_oks kxL_J9 false cJ9_min_7cf53 10 bJ9_min_7cf53_10 = true := by decide +kernel
set_option maxRecDepth 100000 in
set_option maxHeartbeats 4000000 in
theorem ct_J9_min_7cf53 (l : Launch) (G : kx_G) {P : kx_P} {sz : Nat} {a b : Int32}  : kx_M l G sJ9_min_7cf53 1 0 0 [.int (a), .int (b)] P sz (some (.int (cj_min a b))) P sz := by
  refine kz_mkj kx_tab kxLok_J9 (ini := false) [some (.int (a)), some (.int (b))] ⟨by decide +kernel, rfl, by decide, by decide⟩ (⟨_, rfl⟩) rfl rfl (fun g hB hC hK => ?_)
  refine hB bJ9_min_7cf53_0 _ _ _ _ _ _ _ kJ9_min_7cf53_0 ?_
  dsimp only [bJ9_min_7cf53_0, kx_wp, kx_step, kx_lI, kx_lL, kx_lA, kx_gl, kx_pI, kx_pL, kx_pR, kx_pA, kx_pV, kx_s1, kx_s2, kx_sl, kx_pre, kx_c2, kx_pl, kx_cmp, kx_oF, kx_eqN, kx_nil, kx_c1, kx_ft, kx_aI, kx_aL, kx_aR, kx_ln, Nat.reduceAdd, Option.toList, List.cons_append, List.nil_append]
  repeat (simp only [ks_eq, ks_ss]; try dsimp only [kx_wp, kx_step, kx_lI, kx_lL, kx_lA, kx_gl, kx_pI, kx_pL, kx_pR, kx_pA, kx_pV, kx_s1, kx_s2, kx_sl, kx_pre, kx_c2, kx_pl, kx_cmp, kx_oF, kx_eqN, kx_nil, kx_c1, kx_ft, kx_aI, kx_aL, kx_aR, kx_ln, Nat.reduceAdd, Option.toList, List.cons_append, List.nil_append])
  repeat' apply And.intro
  all_goals try (first | with_reducible assumption | (with_reducible refine ck_nzI ?_; simp; done) | (with_reducible refine ck_nzL ?_; simp; done) | (with_reducible refine vp_in_nI ?_ ?_ <;> first | omega | decide) | (with_reducible refine Nat.le_of_ble_eq_true ?_; rfl) | omega)
  · intro zc2
    with_reducible first | have ze2 := Int32.not_le.mpr zc2 | have ze2 := zc2
    refine hB bJ9_min_7cf53_9 _ _ _ _ _ _ _ kJ9_min_7cf53_9 ?_
    dsimp only [bJ9_min_7cf53_9, kx_wp, kx_step, kx_lI, kx_lL, kx_lA, kx_gl, kx_pI, kx_pL, kx_pR, kx_pA, kx_pV, kx_s1, kx_s2, kx_sl, kx_pre, kx_c2, kx_pl, kx_cmp, kx_oF, kx_eqN, kx_nil, kx_c1, kx_ft, kx_aI, kx_aL, kx_aR, kx_ln, Nat.reduceAdd, Option.toList, List.cons_append, List.nil_append]
    repeat (simp only [ks_eq, ks_ss]; try dsimp only [kx_wp, kx_step, kx_lI, kx_lL, kx_lA, kx_gl, kx_pI, kx_pL, kx_pR, kx_pA, kx_pV, kx_s1, kx_s2, kx_sl, kx_pre, kx_c2, kx_pl, kx_cmp, kx_oF, kx_eqN, kx_nil, kx_c1, kx_ft, kx_aI, kx_aL, kx_aR, kx_ln, Nat.reduceAdd, Option.toList, List.cons_append, List.nil_append])
    repeat' apply And.intro
    all_goals try (first | with_reducible assumption | (with_reducible refine ck_nzI ?_; simp; done) | (with_reducible refine ck_nzL ?_; simp; done) | (with_reducible refine vp_in_nI ?_ ?_ <;> first | omega | decide) | (with_reducible refine Nat.le_of_ble_eq_true ?_; rfl) | omega)
    refine hB bJ9_min_7cf53_10 _ _ _ _ _ _ _ kJ9_min_7cf53_10 ?_
    dsimp only [bJ9_min_7cf53_10, kx_wp, kx_step, kx_lI, kx_lL, kx_lA, kx_gl, kx_pI, kx_pL, kx_pR, kx_pA, kx_pV, kx_s1, kx_s2, kx_sl, kx_pre, kx_c2, kx_pl, kx_cmp, kx_oF, kx_eqN, kx_nil, kx_c1, kx_ft, kx_aI, kx_aL, kx_aR, kx_ln, Nat.reduceAdd, Option.toList, List.cons_append, List.nil_append]
    repeat (simp only [ks_eq, ks_ss]; try dsimp only [kx_wp, kx_step, kx_lI, kx_lL, kx_lA, kx_gl, kx_pI, kx_pL, kx_pR, kx_pA, kx_pV, kx_s1, kx_s2, kx_sl, kx_pre, kx_c2, kx_pl, kx_cmp, kx_oF, kx_eqN, kx_nil, kx_c1, kx_ft, kx_aI, kx_aL, kx_aR, kx_ln, Nat.reduceAdd, Option.toList, List.cons_append, List.nil_append])
    all_goals (repeat' apply And.intro)
    all_goals ((try clear hB hC); first | exact True.intro | with_reducible rfl | with_reducible assumption | (with_reducible refine vp_in_nI ?_ ?_ <;> first | omega | decide) | exact Nat.le_of_ble_eq_true rfl | (with_reducible refine ck_nzI ?_; simp; done) | (with_reducible refine ck_nzL ?_; simp; done) | (simp only [pk_us, pk_uLs, cj_min, zc2, ze2, ↓reduceIte, not_true_eq_false, not_false_eq_true]; done) | (simp only [cj_min, zc2, ze2, ↓reduceIte, not_true_eq_false, not_false_eq_true]; with_reducible rfl) | skip)
  · intro zc2
    with_reducible first | have ze2 := Int32.not_lt.mp zc2 | have ze2 := zc2
    refine hB bJ9_min_7cf53_5 _ _ _ _ _ _ _ kJ9_min_7cf53_5 ?_
    dsimp only [bJ9_min_7cf53_5, kx_wp, kx_step, kx_lI, kx_lL, kx_lA, kx_gl, kx_pI, kx_pL, kx_pR, kx_pA, kx_pV, kx_s1, kx_s2, kx_sl, kx_pre, kx_c2, kx_pl, kx_cmp, kx_oF, kx_eqN, kx_nil, kx_c1, kx_ft, kx_aI, kx_aL, kx_aR, kx_ln, Nat.reduceAdd, Option.toList, List.cons_append, List.nil_append]
    repeat (simp only [ks_eq, ks_ss]; try dsimp only [kx_wp, kx_step, kx_lI, kx_lL, kx_lA, kx_gl, kx_pI, kx_pL, kx_pR, kx_pA, kx_pV, kx_s1, kx_s2, kx_sl, kx_pre, kx_c2, kx_pl, kx_cmp, kx_oF, kx_eqN, kx_nil, kx_c1, kx_ft, kx_aI, kx_aL, kx_aR, kx_ln, Nat.reduceAdd, Option.toList, List.cons_append, List.nil_append])
    repeat' apply And.intro
    all_goals try (first | with_reducible assumption | (with_reducible refine ck_nzI ?_; simp; done) | (with_reducible refine ck_nzL ?_; simp; done) | (with_reducible refine vp_in_nI ?_ ?_ <;> first | omega | decide) | (with_reducible refine Nat.le_of_ble_eq_true ?_; rfl) | omega)
    refine hB bJ9_min_7cf53_10 _ _ _ _ _ _ _ kJ9_min_7cf53_10 ?_
    dsimp only [bJ9_min_7cf53_10, kx_wp, kx_step, kx_lI, kx_lL, kx_lA, kx_gl, kx_pI, kx_pL, kx_pR, kx_pA, kx_pV, kx_s1, kx_s2, kx_sl, kx_pre, kx_c2, kx_pl, kx_cmp, kx_oF, kx_eqN, kx_nil, kx_c1, kx_ft, kx_aI, kx_aL, kx_aR, kx_ln, Nat.reduceAdd, Option.toList, List.cons_append, List.nil_append]
    repeat (simp only [ks_eq, ks_ss]; try dsimp only [kx_wp, kx_step, kx_lI, kx_lL, kx_lA, kx_gl, kx_pI, kx_pL, kx_pR, kx_pA, kx_pV, kx_s1, kx_s2, kx_sl, kx_pre, kx_c2, kx_pl, kx_cmp, kx_oF, kx_eqN, kx_nil, kx_c1, kx_ft, kx_aI, kx_aL, kx_aR, kx_ln, Nat.reduceAdd, Option.toList, List.cons_append, List.nil_append])
    all_goals (repeat' apply And.intro)
    all_goals ((try clear hB hC); first | exact True.intro | with_reducible rfl | with_reducible assumption | (with_reducible refine vp_in_nI ?_ ?_ <;> first | omega | decide) | exact Nat.le_of_ble_eq_true rfl | (with_reducible refine ck_nzI ?_; simp; done) | (with_reducible refine ck_nzL ?_; simp; done) | (simp only [pk_us, pk_uLs, cj_min, zc2, ze2, ↓reduceIte, not_true_eq_false, not_false_eq_true]; done) | (simp only [cj_min, zc2, ze2, ↓reduceIte, not_true_eq_false, not_false_eq_true]; with_reducible rfl) | skip)

def bJ9_max_7cf53_0 : List kx_O := [(.iload_n 0, 0, 0, 0, .null), (.iload_n 1, 1, 0, 0, .null), (.if_icmp .lt 7, 9, 0, 0, .null)]
theorem kJ9_max_7cf53_0 : kx_oks kxL_J9 false cJ9_max_7cf53 0 bJ9_max_7cf53_0 = true := by decide +kernel
def bJ9_max_7cf53_5 : List kx_O := [(.iload_n 0, 0, 0, 0, .null), (.goto 4, 10, 0, 0, .null)]
theorem kJ9_max_7cf53_5 : kx_oks kxL_J9 false cJ9_max_7cf53 5 bJ9_max_7cf53_5 = true := by decide +kernel
def bJ9_max_7cf53_9 : List kx_O := [(.iload_n 1, 1, 0, 0, .null)]
theorem kJ9_max_7cf53_9 : kx_oks kxL_J9 false cJ9_max_7cf53 9 bJ9_max_7cf53_9 = true := by decide +kernel
def bJ9_max_7cf53_10 : List kx_O := [(.ireturn, 0, 0, 0, .null)]
theorem kJ9_max_7cf53_10 : kx_oks kxL_J9 false cJ9_max_7cf53 10 bJ9_max_7cf53_10 = true := by decide +kernel
set_option maxRecDepth 100000 in
set_option maxHeartbeats 4000000 in
theorem ct_J9_max_7cf53 (l : Launch) (G : kx_G) {P : kx_P} {sz : Nat} {a b : Int32}  : kx_M l G sJ9_max_7cf53 1 0 0 [.int (a), .int (b)] P sz (some (.int (cj_max a b))) P sz := by
  refine kz_mkj kx_tab kxLok_J9 (ini := false) [some (.int (a)), some (.int (b))] ⟨by decide +kernel, rfl, by decide, by decide⟩ (⟨_, rfl⟩) rfl rfl (fun g hB hC hK => ?_)
  refine hB bJ9_max_7cf53_0 _ _ _ _ _ _ _ kJ9_max_7cf53_0 ?_
  dsimp only [bJ9_max_7cf53_0, kx_wp, kx_step, kx_lI, kx_lL, kx_lA, kx_gl, kx_pI, kx_pL, kx_pR, kx_pA, kx_pV, kx_s1, kx_s2, kx_sl, kx_pre, kx_c2, kx_pl, kx_cmp, kx_oF, kx_eqN, kx_nil, kx_c1, kx_ft, kx_aI, kx_aL, kx_aR, kx_ln, Nat.reduceAdd, Option.toList, List.cons_append, List.nil_append]
  repeat (simp only [ks_eq, ks_ss]; try dsimp only [kx_wp, kx_step, kx_lI, kx_lL, kx_lA, kx_gl, kx_pI, kx_pL, kx_pR, kx_pA, kx_pV, kx_s1, kx_s2, kx_sl, kx_pre, kx_c2, kx_pl, kx_cmp, kx_oF, kx_eqN, kx_nil, kx_c1, kx_ft, kx_aI, kx_aL, kx_aR, kx_ln, Nat.reduceAdd, Option.toList, List.cons_append, List.nil_append])
  repeat' apply And.intro
  all_goals try (first | with_reducible assumption | (with_reducible refine ck_nzI ?_; simp; done) | (with_reducible refine ck_nzL ?_; simp; done) | (with_reducible refine vp_in_nI ?_ ?_ <;> first | omega | decide) | (with_reducible refine Nat.le_of_ble_eq_true ?_; rfl) | omega)
  · intro zc2
    with_reducible first | have ze2 := Int32.not_le.mpr zc2 | have ze2 := zc2
    refine hB bJ9_max_7cf53_9 _ _ _ _ _ _ _ kJ9_max_7cf53_9 ?_
    dsimp only [bJ9_max_7cf53_9, kx_wp, kx_step, kx_lI, kx_lL, kx_lA, kx_gl, kx_pI, kx_pL, kx_pR, kx_pA, kx_pV, kx_s1, kx_s2, kx_sl, kx_pre, kx_c2, kx_pl, kx_cmp, kx_oF, kx_eqN, kx_nil, kx_c1, kx_ft, kx_aI, kx_aL, kx_aR, kx_ln, Nat.reduceAdd, Option.toList, List.cons_append, List.nil_append]
    repeat (simp only [ks_eq, ks_ss]; try dsimp only [kx_wp, kx_step, kx_lI, kx_lL, kx_lA, kx_gl, kx_pI, kx_pL, kx_pR, kx_pA, kx_pV, kx_s1, kx_s2, kx_sl, kx_pre, kx_c2, kx_pl, kx_cmp, kx_oF, kx_eqN, kx_nil, kx_c1, kx_ft, kx_aI, kx_aL, kx_aR, kx_ln, Nat.reduceAdd, Option.toList, List.cons_append, List.nil_append])
    repeat' apply And.intro
    all_goals try (first | with_reducible assumption | (with_reducible refine ck_nzI ?_; simp; done) | (with_reducible refine ck_nzL ?_; simp; done) | (with_reducible refine vp_in_nI ?_ ?_ <;> first | omega | decide) | (with_reducible refine Nat.le_of_ble_eq_true ?_; rfl) | omega)
    refine hB bJ9_max_7cf53_10 _ _ _ _ _ _ _ kJ9_max_7cf53_10 ?_
    dsimp only [bJ9_max_7cf53_10, kx_wp, kx_step, kx_lI, kx_lL, kx_lA, kx_gl, kx_pI, kx_pL, kx_pR, kx_pA, kx_pV, kx_s1, kx_s2, kx_sl, kx_pre, kx_c2, kx_pl, kx_cmp, kx_oF, kx_eqN, kx_nil, kx_c1, kx_ft, kx_aI, kx_aL, kx_aR, kx_ln, Nat.reduceAdd, Option.toList, List.cons_append, List.nil_append]
    repeat (simp only [ks_eq, ks_ss]; try dsimp only [kx_wp, kx_step, kx_lI, kx_lL, kx_lA, kx_gl, kx_pI, kx_pL, kx_pR, kx_pA, kx_pV, kx_s1, kx_s2, kx_sl, kx_pre, kx_c2, kx_pl, kx_cmp, kx_oF, kx_eqN, kx_nil, kx_c1, kx_ft, kx_aI, kx_aL, kx_aR, kx_ln, Nat.reduceAdd, Option.toList, List.cons_append, List.nil_append])
    all_goals (repeat' apply And.intro)
    all_goals ((try clear hB hC); first | exact True.intro | with_reducible rfl | with_reducible assumption | (with_reducible refine vp_in_nI ?_ ?_ <;> first | omega | decide) | exact Nat.le_of_ble_eq_true rfl | (with_reducible refine ck_nzI ?_; simp; done) | (with_reducible refine ck_nzL ?_; simp; done) | (simp only [pk_us, pk_uLs, cj_max, zc2, ze2, ↓reduceIte, not_true_eq_false, not_false_eq_true]; done) | (simp only [cj_max, zc2, ze2, ↓reduceIte, not_true_eq_false, not_false_eq_true]; with_reducible rfl) | skip)
  · intro zc2
    with_reducible first | have ze2 := Int32.not_lt.mp zc2 | have ze2 := zc2
    refine hB bJ9_max_7cf53_5 _ _ _ _ _ _ _ kJ9_max_7cf53_5 ?_
    dsimp only [bJ9_max_7cf53_5, kx_wp, kx_step, kx_lI, kx_lL, kx_lA, kx_gl, kx_pI, kx_pL, kx_pR, kx_pA, kx_pV, kx_s1, kx_s2, kx_sl, kx_pre, kx_c2, kx_pl, kx_cmp, kx_oF, kx_eqN, kx_nil, kx_c1, kx_ft, kx_aI, kx_aL, kx_aR, kx_ln, Nat.reduceAdd, Option.toList, List.cons_append, List.nil_append]
    repeat (simp only [ks_eq, ks_ss]; try dsimp only [kx_wp, kx_step, kx_lI, kx_lL, kx_lA, kx_gl, kx_pI, kx_pL, kx_pR, kx_pA, kx_pV, kx_s1, kx_s2, kx_sl, kx_pre, kx_c2, kx_pl, kx_cmp, kx_oF, kx_eqN, kx_nil, kx_c1, kx_ft, kx_aI, kx_aL, kx_aR, kx_ln, Nat.reduceAdd, Option.toList, List.cons_append, List.nil_append])
    repeat' apply And.intro
    all_goals try (first | with_reducible assumption | (with_reducible refine ck_nzI ?_; simp; done) | (with_reducible refine ck_nzL ?_; simp; done) | (with_reducible refine vp_in_nI ?_ ?_ <;> first | omega | decide) | (with_reducible refine Nat.le_of_ble_eq_true ?_; rfl) | omega)
    refine hB bJ9_max_7cf53_10 _ _ _ _ _ _ _ kJ9_max_7cf53_10 ?_
    dsimp only [bJ9_max_7cf53_10, kx_wp, kx_step, kx_lI, kx_lL, kx_lA, kx_gl, kx_pI, kx_pL, kx_pR, kx_pA, kx_pV, kx_s1, kx_s2, kx_sl, kx_pre, kx_c2, kx_pl, kx_cmp, kx_oF, kx_eqN, kx_nil, kx_c1, kx_ft, kx_aI, kx_aL, kx_aR, kx_ln, Nat.reduceAdd, Option.toList, List.cons_append, List.nil_append]
    repeat (simp only [ks_eq, ks_ss]; try dsimp only [kx_wp, kx_step, kx_lI, kx_lL, kx_lA, kx_gl, kx_pI, kx_pL, kx_pR, kx_pA, kx_pV, kx_s1, kx_s2, kx_sl, kx_pre, kx_c2, kx_pl, kx_cmp, kx_oF, kx_eqN, kx_nil, kx_c1, kx_ft, kx_aI, kx_aL, kx_aR, kx_ln, Nat.reduceAdd, Option.toList, List.cons_append, List.nil_append])
    all_goals (repeat' apply And.intro)
    all_goals ((try clear hB hC); first | exact True.intro | with_reducible rfl | with_reducible assumption | (with_reducible refine vp_in_nI ?_ ?_ <;> first | omega | decide) | exact Nat.le_of_ble_eq_true rfl | (with_reducible refine ck_nzI ?_; simp; done) | (with_reducible refine ck_nzL ?_; simp; done) | (simp only [pk_us, pk_uLs, cj_max, zc2, ze2, ↓reduceIte, not_true_eq_false, not_false_eq_true]; done) | (simp only [cj_max, zc2, ze2, ↓reduceIte, not_true_eq_false, not_false_eq_true]; with_reducible rfl) | skip)

def bJ9_abs_0f7a4_0 : List kx_O := [(.iload_n 0, 0, 0, 0, .null), (.ifCond .ge 8, 9, 0, 0, .null)]
theorem kJ9_abs_0f7a4_0 : kx_oks kxL_J9 false cJ9_abs_0f7a4 0 bJ9_abs_0f7a4_0 = true := by decide +kernel
def bJ9_abs_0f7a4_4 : List kx_O := [(.iload_n 0, 0, 0, 0, .null), (.ineg, 0, 0, 0, .null), (.goto 4, 10, 0, 0, .null)]
theorem kJ9_abs_0f7a4_4 : kx_oks kxL_J9 false cJ9_abs_0f7a4 4 bJ9_abs_0f7a4_4 = true := by decide +kernel
def bJ9_abs_0f7a4_9 : List kx_O := [(.iload_n 0, 0, 0, 0, .null)]
theorem kJ9_abs_0f7a4_9 : kx_oks kxL_J9 false cJ9_abs_0f7a4 9 bJ9_abs_0f7a4_9 = true := by decide +kernel
def bJ9_abs_0f7a4_10 : List kx_O := [(.ireturn, 0, 0, 0, .null)]
theorem kJ9_abs_0f7a4_10 : kx_oks kxL_J9 false cJ9_abs_0f7a4 10 bJ9_abs_0f7a4_10 = true := by decide +kernel
set_option maxRecDepth 100000 in
set_option maxHeartbeats 4000000 in
theorem ct_J9_abs_0f7a4 (l : Launch) (G : kx_G) {P : kx_P} {sz : Nat} {a : Int32}  : kx_M l G sJ9_abs_0f7a4 1 0 0 [.int (a)] P sz (some (.int (ck_abs a))) P sz := by
  refine kz_mkj kx_tab kxLok_J9 (ini := false) [some (.int (a))] ⟨by decide +kernel, rfl, by decide, by decide⟩ (⟨_, rfl⟩) rfl rfl (fun g hB hC hK => ?_)
  refine hB bJ9_abs_0f7a4_0 _ _ _ _ _ _ _ kJ9_abs_0f7a4_0 ?_
  dsimp only [bJ9_abs_0f7a4_0, kx_wp, kx_step, kx_lI, kx_lL, kx_lA, kx_gl, kx_pI, kx_pL, kx_pR, kx_pA, kx_pV, kx_s1, kx_s2, kx_sl, kx_pre, kx_c2, kx_pl, kx_cmp, kx_oF, kx_eqN, kx_nil, kx_c1, kx_ft, kx_aI, kx_aL, kx_aR, kx_ln, Nat.reduceAdd, Option.toList, List.cons_append, List.nil_append]
  repeat (simp only [ks_eq, ks_ss]; try dsimp only [kx_wp, kx_step, kx_lI, kx_lL, kx_lA, kx_gl, kx_pI, kx_pL, kx_pR, kx_pA, kx_pV, kx_s1, kx_s2, kx_sl, kx_pre, kx_c2, kx_pl, kx_cmp, kx_oF, kx_eqN, kx_nil, kx_c1, kx_ft, kx_aI, kx_aL, kx_aR, kx_ln, Nat.reduceAdd, Option.toList, List.cons_append, List.nil_append])
  repeat' apply And.intro
  all_goals try (first | with_reducible assumption | (with_reducible refine ck_nzI ?_; simp; done) | (with_reducible refine ck_nzL ?_; simp; done) | (with_reducible refine vp_in_nI ?_ ?_ <;> first | omega | decide) | (with_reducible refine Nat.le_of_ble_eq_true ?_; rfl) | omega)
  · intro zc1
    with_reducible first | have ze1 := Int32.not_lt.mpr zc1 | have ze1 := zc1
    refine hB bJ9_abs_0f7a4_9 _ _ _ _ _ _ _ kJ9_abs_0f7a4_9 ?_
    dsimp only [bJ9_abs_0f7a4_9, kx_wp, kx_step, kx_lI, kx_lL, kx_lA, kx_gl, kx_pI, kx_pL, kx_pR, kx_pA, kx_pV, kx_s1, kx_s2, kx_sl, kx_pre, kx_c2, kx_pl, kx_cmp, kx_oF, kx_eqN, kx_nil, kx_c1, kx_ft, kx_aI, kx_aL, kx_aR, kx_ln, Nat.reduceAdd, Option.toList, List.cons_append, List.nil_append]
    repeat (simp only [ks_eq, ks_ss]; try dsimp only [kx_wp, kx_step, kx_lI, kx_lL, kx_lA, kx_gl, kx_pI, kx_pL, kx_pR, kx_pA, kx_pV, kx_s1, kx_s2, kx_sl, kx_pre, kx_c2, kx_pl, kx_cmp, kx_oF, kx_eqN, kx_nil, kx_c1, kx_ft, kx_aI, kx_aL, kx_aR, kx_ln, Nat.reduceAdd, Option.toList, List.cons_append, List.nil_append])
    repeat' apply And.intro
    all_goals try (first | with_reducible assumption | (with_reducible refine ck_nzI ?_; simp; done) | (with_reducible refine ck_nzL ?_; simp; done) | (with_reducible refine vp_in_nI ?_ ?_ <;> first | omega | decide) | (with_reducible refine Nat.le_of_ble_eq_true ?_; rfl) | omega)
    refine hB bJ9_abs_0f7a4_10 _ _ _ _ _ _ _ kJ9_abs_0f7a4_10 ?_
    dsimp only [bJ9_abs_0f7a4_10, kx_wp, kx_step, kx_lI, kx_lL, kx_lA, kx_gl, kx_pI, kx_pL, kx_pR, kx_pA, kx_pV, kx_s1, kx_s2, kx_sl, kx_pre, kx_c2, kx_pl, kx_cmp, kx_oF, kx_eqN, kx_nil, kx_c1, kx_ft, kx_aI, kx_aL, kx_aR, kx_ln, Nat.reduceAdd, Option.toList, List.cons_append, List.nil_append]
    repeat (simp only [ks_eq, ks_ss]; try dsimp only [kx_wp, kx_step, kx_lI, kx_lL, kx_lA, kx_gl, kx_pI, kx_pL, kx_pR, kx_pA, kx_pV, kx_s1, kx_s2, kx_sl, kx_pre, kx_c2, kx_pl, kx_cmp, kx_oF, kx_eqN, kx_nil, kx_c1, kx_ft, kx_aI, kx_aL, kx_aR, kx_ln, Nat.reduceAdd, Option.toList, List.cons_append, List.nil_append])
    all_goals (repeat' apply And.intro)
    all_goals ((try clear hB hC); first | exact True.intro | with_reducible rfl | with_reducible assumption | (with_reducible refine vp_in_nI ?_ ?_ <;> first | omega | decide) | exact Nat.le_of_ble_eq_true rfl | (with_reducible refine ck_nzI ?_; simp; done) | (with_reducible refine ck_nzL ?_; simp; done) | (simp only [pk_us, pk_uLs, ck_abs, zc1, ze1, ↓reduceIte, not_true_eq_false, not_false_eq_true]; done) | (simp only [ck_abs, zc1, ze1, ↓reduceIte, not_true_eq_false, not_false_eq_true]; with_reducible rfl) | skip)
  · intro zc1
    with_reducible first | have ze1 := Int32.not_le.mp zc1 | have ze1 := zc1
    refine hB bJ9_abs_0f7a4_4 _ _ _ _ _ _ _ kJ9_abs_0f7a4_4 ?_
    dsimp only [bJ9_abs_0f7a4_4, kx_wp, kx_step, kx_lI, kx_lL, kx_lA, kx_gl, kx_pI, kx_pL, kx_pR, kx_pA, kx_pV, kx_s1, kx_s2, kx_sl, kx_pre, kx_c2, kx_pl, kx_cmp, kx_oF, kx_eqN, kx_nil, kx_c1, kx_ft, kx_aI, kx_aL, kx_aR, kx_ln, Nat.reduceAdd, Option.toList, List.cons_append, List.nil_append]
    repeat (simp only [ks_eq, ks_ss]; try dsimp only [kx_wp, kx_step, kx_lI, kx_lL, kx_lA, kx_gl, kx_pI, kx_pL, kx_pR, kx_pA, kx_pV, kx_s1, kx_s2, kx_sl, kx_pre, kx_c2, kx_pl, kx_cmp, kx_oF, kx_eqN, kx_nil, kx_c1, kx_ft, kx_aI, kx_aL, kx_aR, kx_ln, Nat.reduceAdd, Option.toList, List.cons_append, List.nil_append])
    repeat' apply And.intro
    all_goals try (first | with_reducible assumption | (with_reducible refine ck_nzI ?_; simp; done) | (with_reducible refine ck_nzL ?_; simp; done) | (with_reducible refine vp_in_nI ?_ ?_ <;> first | omega | decide) | (with_reducible refine Nat.le_of_ble_eq_true ?_; rfl) | omega)
    refine hB bJ9_abs_0f7a4_10 _ _ _ _ _ _ _ kJ9_abs_0f7a4_10 ?_
    dsimp only [bJ9_abs_0f7a4_10, kx_wp, kx_step, kx_lI, kx_lL, kx_lA, kx_gl, kx_pI, kx_pL, kx_pR, kx_pA, kx_pV, kx_s1, kx_s2, kx_sl, kx_pre, kx_c2, kx_pl, kx_cmp, kx_oF, kx_eqN, kx_nil, kx_c1, kx_ft, kx_aI, kx_aL, kx_aR, kx_ln, Nat.reduceAdd, Option.toList, List.cons_append, List.nil_append]
    repeat (simp only [ks_eq, ks_ss]; try dsimp only [kx_wp, kx_step, kx_lI, kx_lL, kx_lA, kx_gl, kx_pI, kx_pL, kx_pR, kx_pA, kx_pV, kx_s1, kx_s2, kx_sl, kx_pre, kx_c2, kx_pl, kx_cmp, kx_oF, kx_eqN, kx_nil, kx_c1, kx_ft, kx_aI, kx_aL, kx_aR, kx_ln, Nat.reduceAdd, Option.toList, List.cons_append, List.nil_append])
    all_goals (repeat' apply And.intro)
    all_goals ((try clear hB hC); first | exact True.intro | with_reducible rfl | with_reducible assumption | (with_reducible refine vp_in_nI ?_ ?_ <;> first | omega | decide) | exact Nat.le_of_ble_eq_true rfl | (with_reducible refine ck_nzI ?_; simp; done) | (with_reducible refine ck_nzL ?_; simp; done) | (simp only [pk_us, pk_uLs, ck_abs, zc1, ze1, ↓reduceIte, not_true_eq_false, not_false_eq_true]; done) | (simp only [ck_abs, zc1, ze1, ↓reduceIte, not_true_eq_false, not_false_eq_true]; with_reducible rfl) | skip)

def bJ9_min_f86c9_0 : List kx_O := [(.lload_n 0, 0, 0, 0, .null), (.lload_n 2, 2, 0, 0, .null), (.lcmp, 0, 0, 0, .null), (.ifCond .gt 7, 10, 0, 0, .null)]
theorem kJ9_min_f86c9_0 : kx_oks kxL_J9 false cJ9_min_f86c9 0 bJ9_min_f86c9_0 = true := by decide +kernel
def bJ9_min_f86c9_6 : List kx_O := [(.lload_n 0, 0, 0, 0, .null), (.goto 4, 11, 0, 0, .null)]
theorem kJ9_min_f86c9_6 : kx_oks kxL_J9 false cJ9_min_f86c9 6 bJ9_min_f86c9_6 = true := by decide +kernel
def bJ9_min_f86c9_10 : List kx_O := [(.lload_n 2, 2, 0, 0, .null)]
theorem kJ9_min_f86c9_10 : kx_oks kxL_J9 false cJ9_min_f86c9 10 bJ9_min_f86c9_10 = true := by decide +kernel
def bJ9_min_f86c9_11 : List kx_O := [(.lreturn, 0, 0, 0, .null)]
theorem kJ9_min_f86c9_11 : kx_oks kxL_J9 false cJ9_min_f86c9 11 bJ9_min_f86c9_11 = true := by decide +kernel
set_option maxRecDepth 100000 in
set_option maxHeartbeats 4000000 in
theorem ct_J9_min_f86c9 (l : Launch) (G : kx_G) {P : kx_P} {sz : Nat} {a b : Int64}  : kx_M l G sJ9_min_f86c9 1 0 0 [.long a, .long b] P sz (some (.long (cj_minL a b))) P sz := by
  refine kz_mkj kx_tab kxLok_J9 (ini := false) [some (.long a), none, some (.long b), none] ⟨by decide +kernel, rfl, by decide, by decide⟩ (⟨_, rfl⟩) (by simp [kx_in, Value.category]) rfl (fun g hB hC hK => ?_)
  refine hB bJ9_min_f86c9_0 _ _ _ _ _ _ _ kJ9_min_f86c9_0 ?_
  dsimp only [bJ9_min_f86c9_0, kx_wp, kx_step, kx_lI, kx_lL, kx_lA, kx_gl, kx_pI, kx_pL, kx_pR, kx_pA, kx_pV, kx_s1, kx_s2, kx_sl, kx_pre, kx_c2, kx_pl, kx_cmp, kx_oF, kx_eqN, kx_nil, kx_c1, kx_ft, kx_aI, kx_aL, kx_aR, kx_ln, Nat.reduceAdd, Option.toList, List.cons_append, List.nil_append]
  repeat (simp only [lg_cmp_ge, lg_cmp_le, lg_cmp_gt, lg_cmp_lt, lg_cmp_eq, ks_eq, ks_ss]; try dsimp only [kx_wp, kx_step, kx_lI, kx_lL, kx_lA, kx_gl, kx_pI, kx_pL, kx_pR, kx_pA, kx_pV, kx_s1, kx_s2, kx_sl, kx_pre, kx_c2, kx_pl, kx_cmp, kx_oF, kx_eqN, kx_nil, kx_c1, kx_ft, kx_aI, kx_aL, kx_aR, kx_ln, Nat.reduceAdd, Option.toList, List.cons_append, List.nil_append])
  repeat' apply And.intro
  all_goals try (first | with_reducible assumption | (with_reducible refine ck_nzI ?_; simp; done) | (with_reducible refine ck_nzL ?_; simp; done) | (with_reducible refine vp_in_nI ?_ ?_ <;> first | omega | decide) | (with_reducible refine Nat.le_of_ble_eq_true ?_; rfl) | omega)
  · intro zc3
    with_reducible first | have ze3 := Int64.not_le.mpr zc3 | have ze3 := zc3
    refine hB bJ9_min_f86c9_10 _ _ _ _ _ _ _ kJ9_min_f86c9_10 ?_
    dsimp only [bJ9_min_f86c9_10, kx_wp, kx_step, kx_lI, kx_lL, kx_lA, kx_gl, kx_pI, kx_pL, kx_pR, kx_pA, kx_pV, kx_s1, kx_s2, kx_sl, kx_pre, kx_c2, kx_pl, kx_cmp, kx_oF, kx_eqN, kx_nil, kx_c1, kx_ft, kx_aI, kx_aL, kx_aR, kx_ln, Nat.reduceAdd, Option.toList, List.cons_append, List.nil_append]
    repeat (simp only [lg_cmp_ge, lg_cmp_le, lg_cmp_gt, lg_cmp_lt, lg_cmp_eq, ks_eq, ks_ss]; try dsimp only [kx_wp, kx_step, kx_lI, kx_lL, kx_lA, kx_gl, kx_pI, kx_pL, kx_pR, kx_pA, kx_pV, kx_s1, kx_s2, kx_sl, kx_pre, kx_c2, kx_pl, kx_cmp, kx_oF, kx_eqN, kx_nil, kx_c1, kx_ft, kx_aI, kx_aL, kx_aR, kx_ln, Nat.reduceAdd, Option.toList, List.cons_append, List.nil_append])
    repeat' apply And.intro
    all_goals try (first | with_reducible assumption | (with_reducible refine ck_nzI ?_; simp; done) | (with_reducible refine ck_nzL ?_; simp; done) | (with_reducible refine vp_in_nI ?_ ?_ <;> first | omega | decide) | (with_reducible refine Nat.le_of_ble_eq_true ?_; rfl) | omega)
    refine hB bJ9_min_f86c9_11 _ _ _ _ _ _ _ kJ9_min_f86c9_11 ?_
    dsimp only [bJ9_min_f86c9_11, kx_wp, kx_step, kx_lI, kx_lL, kx_lA, kx_gl, kx_pI, kx_pL, kx_pR, kx_pA, kx_pV, kx_s1, kx_s2, kx_sl, kx_pre, kx_c2, kx_pl, kx_cmp, kx_oF, kx_eqN, kx_nil, kx_c1, kx_ft, kx_aI, kx_aL, kx_aR, kx_ln, Nat.reduceAdd, Option.toList, List.cons_append, List.nil_append]
    repeat (simp only [lg_cmp_ge, lg_cmp_le, lg_cmp_gt, lg_cmp_lt, lg_cmp_eq, ks_eq, ks_ss]; try dsimp only [kx_wp, kx_step, kx_lI, kx_lL, kx_lA, kx_gl, kx_pI, kx_pL, kx_pR, kx_pA, kx_pV, kx_s1, kx_s2, kx_sl, kx_pre, kx_c2, kx_pl, kx_cmp, kx_oF, kx_eqN, kx_nil, kx_c1, kx_ft, kx_aI, kx_aL, kx_aR, kx_ln, Nat.reduceAdd, Option.toList, List.cons_append, List.nil_append])
    all_goals (repeat' apply And.intro)
    all_goals ((try clear hB hC); first | exact True.intro | with_reducible rfl | with_reducible assumption | (with_reducible refine vp_in_nI ?_ ?_ <;> first | omega | decide) | exact Nat.le_of_ble_eq_true rfl | (with_reducible refine ck_nzI ?_; simp; done) | (with_reducible refine ck_nzL ?_; simp; done) | (simp only [pk_us, pk_uLs, cj_minL, zc3, ze3, ↓reduceIte, not_true_eq_false, not_false_eq_true]; done) | (simp only [cj_minL, zc3, ze3, ↓reduceIte, not_true_eq_false, not_false_eq_true]; with_reducible rfl) | skip)
  · intro zc3
    with_reducible first | have ze3 := Int64.not_lt.mp zc3 | have ze3 := zc3
    refine hB bJ9_min_f86c9_6 _ _ _ _ _ _ _ kJ9_min_f86c9_6 ?_
    dsimp only [bJ9_min_f86c9_6, kx_wp, kx_step, kx_lI, kx_lL, kx_lA, kx_gl, kx_pI, kx_pL, kx_pR, kx_pA, kx_pV, kx_s1, kx_s2, kx_sl, kx_pre, kx_c2, kx_pl, kx_cmp, kx_oF, kx_eqN, kx_nil, kx_c1, kx_ft, kx_aI, kx_aL, kx_aR, kx_ln, Nat.reduceAdd, Option.toList, List.cons_append, List.nil_append]
    repeat (simp only [lg_cmp_ge, lg_cmp_le, lg_cmp_gt, lg_cmp_lt, lg_cmp_eq, ks_eq, ks_ss]; try dsimp only [kx_wp, kx_step, kx_lI, kx_lL, kx_lA, kx_gl, kx_pI, kx_pL, kx_pR, kx_pA, kx_pV, kx_s1, kx_s2, kx_sl, kx_pre, kx_c2, kx_pl, kx_cmp, kx_oF, kx_eqN, kx_nil, kx_c1, kx_ft, kx_aI, kx_aL, kx_aR, kx_ln, Nat.reduceAdd, Option.toList, List.cons_append, List.nil_append])
    repeat' apply And.intro
    all_goals try (first | with_reducible assumption | (with_reducible refine ck_nzI ?_; simp; done) | (with_reducible refine ck_nzL ?_; simp; done) | (with_reducible refine vp_in_nI ?_ ?_ <;> first | omega | decide) | (with_reducible refine Nat.le_of_ble_eq_true ?_; rfl) | omega)
    refine hB bJ9_min_f86c9_11 _ _ _ _ _ _ _ kJ9_min_f86c9_11 ?_
    dsimp only [bJ9_min_f86c9_11, kx_wp, kx_step, kx_lI, kx_lL, kx_lA, kx_gl, kx_pI, kx_pL, kx_pR, kx_pA, kx_pV, kx_s1, kx_s2, kx_sl, kx_pre, kx_c2, kx_pl, kx_cmp, kx_oF, kx_eqN, kx_nil, kx_c1, kx_ft, kx_aI, kx_aL, kx_aR, kx_ln, Nat.reduceAdd, Option.toList, List.cons_append, List.nil_append]
    repeat (simp only [lg_cmp_ge, lg_cmp_le, lg_cmp_gt, lg_cmp_lt, lg_cmp_eq, ks_eq, ks_ss]; try dsimp only [kx_wp, kx_step, kx_lI, kx_lL, kx_lA, kx_gl, kx_pI, kx_pL, kx_pR, kx_pA, kx_pV, kx_s1, kx_s2, kx_sl, kx_pre, kx_c2, kx_pl, kx_cmp, kx_oF, kx_eqN, kx_nil, kx_c1, kx_ft, kx_aI, kx_aL, kx_aR, kx_ln, Nat.reduceAdd, Option.toList, List.cons_append, List.nil_append])
    all_goals (repeat' apply And.intro)
    all_goals ((try clear hB hC); first | exact True.intro | with_reducible rfl | with_reducible assumption | (with_reducible refine vp_in_nI ?_ ?_ <;> first | omega | decide) | exact Nat.le_of_ble_eq_true rfl | (with_reducible refine ck_nzI ?_; simp; done) | (with_reducible refine ck_nzL ?_; simp; done) | (simp only [pk_us, pk_uLs, cj_minL, zc3, ze3, ↓reduceIte, not_true_eq_false, not_false_eq_true]; done) | (simp only [cj_minL, zc3, ze3, ↓reduceIte, not_true_eq_false, not_false_eq_true]; with_reducible rfl) | skip)

def bJ9_max_f86c9_0 : List kx_O := [(.lload_n 0, 0, 0, 0, .null), (.lload_n 2, 2, 0, 0, .null), (.lcmp, 0, 0, 0, .null), (.ifCond .lt 7, 10, 0, 0, .null)]
theorem kJ9_max_f86c9_0 : kx_oks kxL_J9 false cJ9_max_f86c9 0 bJ9_max_f86c9_0 = true := by decide +kernel
def bJ9_max_f86c9_6 : List kx_O := [(.lload_n 0, 0, 0, 0, .null), (.goto 4, 11, 0, 0, .null)]
theorem kJ9_max_f86c9_6 : kx_oks kxL_J9 false cJ9_max_f86c9 6 bJ9_max_f86c9_6 = true := by decide +kernel
def bJ9_max_f86c9_10 : List kx_O := [(.lload_n 2, 2, 0, 0, .null)]
theorem kJ9_max_f86c9_10 : kx_oks kxL_J9 false cJ9_max_f86c9 10 bJ9_max_f86c9_10 = true := by decide +kernel
def bJ9_max_f86c9_11 : List kx_O := [(.lreturn, 0, 0, 0, .null)]
theorem kJ9_max_f86c9_11 : kx_oks kxL_J9 false cJ9_max_f86c9 11 bJ9_max_f86c9_11 = true := by decide +kernel
set_option maxRecDepth 100000 in
set_option maxHeartbeats 4000000 in
theorem ct_J9_max_f86c9 (l : Launch) (G : kx_G) {P : kx_P} {sz : Nat} {a b : Int64}  : kx_M l G sJ9_max_f86c9 1 0 0 [.long a, .long b] P sz (some (.long (cj_maxL a b))) P sz := by
  refine kz_mkj kx_tab kxLok_J9 (ini := false) [some (.long a), none, some (.long b), none] ⟨by decide +kernel, rfl, by decide, by decide⟩ (⟨_, rfl⟩) (by simp [kx_in, Value.category]) rfl (fun g hB hC hK => ?_)
  refine hB bJ9_max_f86c9_0 _ _ _ _ _ _ _ kJ9_max_f86c9_0 ?_
  dsimp only [bJ9_max_f86c9_0, kx_wp, kx_step, kx_lI, kx_lL, kx_lA, kx_gl, kx_pI, kx_pL, kx_pR, kx_pA, kx_pV, kx_s1, kx_s2, kx_sl, kx_pre, kx_c2, kx_pl, kx_cmp, kx_oF, kx_eqN, kx_nil, kx_c1, kx_ft, kx_aI, kx_aL, kx_aR, kx_ln, Nat.reduceAdd, Option.toList, List.cons_append, List.nil_append]
  repeat (simp only [lg_cmp_ge, lg_cmp_le, lg_cmp_gt, lg_cmp_lt, lg_cmp_eq, ks_eq, ks_ss]; try dsimp only [kx_wp, kx_step, kx_lI, kx_lL, kx_lA, kx_gl, kx_pI, kx_pL, kx_pR, kx_pA, kx_pV, kx_s1, kx_s2, kx_sl, kx_pre, kx_c2, kx_pl, kx_cmp, kx_oF, kx_eqN, kx_nil, kx_c1, kx_ft, kx_aI, kx_aL, kx_aR, kx_ln, Nat.reduceAdd, Option.toList, List.cons_append, List.nil_append])
  repeat' apply And.intro
  all_goals try (first | with_reducible assumption | (with_reducible refine ck_nzI ?_; simp; done) | (with_reducible refine ck_nzL ?_; simp; done) | (with_reducible refine vp_in_nI ?_ ?_ <;> first | omega | decide) | (with_reducible refine Nat.le_of_ble_eq_true ?_; rfl) | omega)
  · intro zc3
    with_reducible first | have ze3 := Int64.not_le.mpr zc3 | have ze3 := zc3
    refine hB bJ9_max_f86c9_10 _ _ _ _ _ _ _ kJ9_max_f86c9_10 ?_
    dsimp only [bJ9_max_f86c9_10, kx_wp, kx_step, kx_lI, kx_lL, kx_lA, kx_gl, kx_pI, kx_pL, kx_pR, kx_pA, kx_pV, kx_s1, kx_s2, kx_sl, kx_pre, kx_c2, kx_pl, kx_cmp, kx_oF, kx_eqN, kx_nil, kx_c1, kx_ft, kx_aI, kx_aL, kx_aR, kx_ln, Nat.reduceAdd, Option.toList, List.cons_append, List.nil_append]
    repeat (simp only [lg_cmp_ge, lg_cmp_le, lg_cmp_gt, lg_cmp_lt, lg_cmp_eq, ks_eq, ks_ss]; try dsimp only [kx_wp, kx_step, kx_lI, kx_lL, kx_lA, kx_gl, kx_pI, kx_pL, kx_pR, kx_pA, kx_pV, kx_s1, kx_s2, kx_sl, kx_pre, kx_c2, kx_pl, kx_cmp, kx_oF, kx_eqN, kx_nil, kx_c1, kx_ft, kx_aI, kx_aL, kx_aR, kx_ln, Nat.reduceAdd, Option.toList, List.cons_append, List.nil_append])
    repeat' apply And.intro
    all_goals try (first | with_reducible assumption | (with_reducible refine ck_nzI ?_; simp; done) | (with_reducible refine ck_nzL ?_; simp; done) | (with_reducible refine vp_in_nI ?_ ?_ <;> first | omega | decide) | (with_reducible refine Nat.le_of_ble_eq_true ?_; rfl) | omega)
    refine hB bJ9_max_f86c9_11 _ _ _ _ _ _ _ kJ9_max_f86c9_11 ?_
    dsimp only [bJ9_max_f86c9_11, kx_wp, kx_step, kx_lI, kx_lL, kx_lA, kx_gl, kx_pI, kx_pL, kx_pR, kx_pA, kx_pV, kx_s1, kx_s2, kx_sl, kx_pre, kx_c2, kx_pl, kx_cmp, kx_oF, kx_eqN, kx_nil, kx_c1, kx_ft, kx_aI, kx_aL, kx_aR, kx_ln, Nat.reduceAdd, Option.toList, List.cons_append, List.nil_append]
    repeat (simp only [lg_cmp_ge, lg_cmp_le, lg_cmp_gt, lg_cmp_lt, lg_cmp_eq, ks_eq, ks_ss]; try dsimp only [kx_wp, kx_step, kx_lI, kx_lL, kx_lA, kx_gl, kx_pI, kx_pL, kx_pR, kx_pA, kx_pV, kx_s1, kx_s2, kx_sl, kx_pre, kx_c2, kx_pl, kx_cmp, kx_oF, kx_eqN, kx_nil, kx_c1, kx_ft, kx_aI, kx_aL, kx_aR, kx_ln, Nat.reduceAdd, Option.toList, List.cons_append, List.nil_append])
    all_goals (repeat' apply And.intro)
    all_goals ((try clear hB hC); first | exact True.intro | with_reducible rfl | with_reducible assumption | (with_reducible refine vp_in_nI ?_ ?_ <;> first | omega | decide) | exact Nat.le_of_ble_eq_true rfl | (with_reducible refine ck_nzI ?_; simp; done) | (with_reducible refine ck_nzL ?_; simp; done) | (simp only [pk_us, pk_uLs, cj_maxL, zc3, ze3, ↓reduceIte, not_true_eq_false, not_false_eq_true]; done) | (simp only [cj_maxL, zc3, ze3, ↓reduceIte, not_true_eq_false, not_false_eq_true]; with_reducible rfl) | skip)
  · intro zc3
    with_reducible first | have ze3 := Int64.not_lt.mp zc3 | have ze3 := zc3
    refine hB bJ9_max_f86c9_6 _ _ _ _ _ _ _ kJ9_max_f86c9_6 ?_
    dsimp only [bJ9_max_f86c9_6, kx_wp, kx_step, kx_lI, kx_lL, kx_lA, kx_gl, kx_pI, kx_pL, kx_pR, kx_pA, kx_pV, kx_s1, kx_s2, kx_sl, kx_pre, kx_c2, kx_pl, kx_cmp, kx_oF, kx_eqN, kx_nil, kx_c1, kx_ft, kx_aI, kx_aL, kx_aR, kx_ln, Nat.reduceAdd, Option.toList, List.cons_append, List.nil_append]
    repeat (simp only [lg_cmp_ge, lg_cmp_le, lg_cmp_gt, lg_cmp_lt, lg_cmp_eq, ks_eq, ks_ss]; try dsimp only [kx_wp, kx_step, kx_lI, kx_lL, kx_lA, kx_gl, kx_pI, kx_pL, kx_pR, kx_pA, kx_pV, kx_s1, kx_s2, kx_sl, kx_pre, kx_c2, kx_pl, kx_cmp, kx_oF, kx_eqN, kx_nil, kx_c1, kx_ft, kx_aI, kx_aL, kx_aR, kx_ln, Nat.reduceAdd, Option.toList, List.cons_append, List.nil_append])
    repeat' apply And.intro
    all_goals try (first | with_reducible assumption | (with_reducible refine ck_nzI ?_; simp; done) | (with_reducible refine ck_nzL ?_; simp; done) | (with_reducible refine vp_in_nI ?_ ?_ <;> first | omega | decide) | (with_reducible refine Nat.le_of_ble_eq_true ?_; rfl) | omega)
    refine hB bJ9_max_f86c9_11 _ _ _ _ _ _ _ kJ9_max_f86c9_11 ?_
    dsimp only [bJ9_max_f86c9_11, kx_wp, kx_step, kx_lI, kx_lL, kx_lA, kx_gl, kx_pI, kx_pL, kx_pR, kx_pA, kx_pV, kx_s1, kx_s2, kx_sl, kx_pre, kx_c2, kx_pl, kx_cmp, kx_oF, kx_eqN, kx_nil, kx_c1, kx_ft, kx_aI, kx_aL, kx_aR, kx_ln, Nat.reduceAdd, Option.toList, List.cons_append, List.nil_append]
    repeat (simp only [lg_cmp_ge, lg_cmp_le, lg_cmp_gt, lg_cmp_lt, lg_cmp_eq, ks_eq, ks_ss]; try dsimp only [kx_wp, kx_step, kx_lI, kx_lL, kx_lA, kx_gl, kx_pI, kx_pL, kx_pR, kx_pA, kx_pV, kx_s1, kx_s2, kx_sl, kx_pre, kx_c2, kx_pl, kx_cmp, kx_oF, kx_eqN, kx_nil, kx_c1, kx_ft, kx_aI, kx_aL, kx_aR, kx_ln, Nat.reduceAdd, Option.toList, List.cons_append, List.nil_append])
    all_goals (repeat' apply And.intro)
    all_goals ((try clear hB hC); first | exact True.intro | with_reducible rfl | with_reducible assumption | (with_reducible refine vp_in_nI ?_ ?_ <;> first | omega | decide) | exact Nat.le_of_ble_eq_true rfl | (with_reducible refine ck_nzI ?_; simp; done) | (with_reducible refine ck_nzL ?_; simp; done) | (simp only [pk_us, pk_uLs, cj_maxL, zc3, ze3, ↓reduceIte, not_true_eq_false, not_false_eq_true]; done) | (simp only [cj_maxL, zc3, ze3, ↓reduceIte, not_true_eq_false, not_false_eq_true]; with_reducible rfl) | skip)

def bJ9_abs_067f4_0 : List kx_O := [(.lload_n 0, 0, 0, 0, .null), (.lconst 0, 0, 0, 0, .long 0), (.lcmp, 0, 0, 0, .null), (.ifCond .ge 8, 11, 0, 0, .null)]
theorem kJ9_abs_067f4_0 : kx_oks kxL_J9 false cJ9_abs_067f4 0 bJ9_abs_067f4_0 = true := by decide +kernel
def bJ9_abs_067f4_6 : List kx_O := [(.lload_n 0, 0, 0, 0, .null), (.lneg, 0, 0, 0, .null), (.goto 4, 12, 0, 0, .null)]
theorem kJ9_abs_067f4_6 : kx_oks kxL_J9 false cJ9_abs_067f4 6 bJ9_abs_067f4_6 = true := by decide +kernel
def bJ9_abs_067f4_11 : List kx_O := [(.lload_n 0, 0, 0, 0, .null)]
theorem kJ9_abs_067f4_11 : kx_oks kxL_J9 false cJ9_abs_067f4 11 bJ9_abs_067f4_11 = true := by decide +kernel
def bJ9_abs_067f4_12 : List kx_O := [(.lreturn, 0, 0, 0, .null)]
theorem kJ9_abs_067f4_12 : kx_oks kxL_J9 false cJ9_abs_067f4 12 bJ9_abs_067f4_12 = true := by decide +kernel
set_option maxRecDepth 100000 in
set_option maxHeartbeats 4000000 in
theorem ct_J9_abs_067f4 (l : Launch) (G : kx_G) {P : kx_P} {sz : Nat} {a : Int64}  : kx_M l G sJ9_abs_067f4 1 0 0 [.long a] P sz (some (.long (ck_abL a))) P sz := by
  refine kz_mkj kx_tab kxLok_J9 (ini := false) [some (.long a), none] ⟨by decide +kernel, rfl, by decide, by decide⟩ (⟨_, rfl⟩) (by simp [kx_in, Value.category]) rfl (fun g hB hC hK => ?_)
  refine hB bJ9_abs_067f4_0 _ _ _ _ _ _ _ kJ9_abs_067f4_0 ?_
  dsimp only [bJ9_abs_067f4_0, kx_wp, kx_step, kx_lI, kx_lL, kx_lA, kx_gl, kx_pI, kx_pL, kx_pR, kx_pA, kx_pV, kx_s1, kx_s2, kx_sl, kx_pre, kx_c2, kx_pl, kx_cmp, kx_oF, kx_eqN, kx_nil, kx_c1, kx_ft, kx_aI, kx_aL, kx_aR, kx_ln, Nat.reduceAdd, Option.toList, List.cons_append, List.nil_append]
  repeat (simp only [lg_cmp_ge, lg_cmp_le, lg_cmp_gt, lg_cmp_lt, lg_cmp_eq, ks_eq, ks_ss]; try dsimp only [kx_wp, kx_step, kx_lI, kx_lL, kx_lA, kx_gl, kx_pI, kx_pL, kx_pR, kx_pA, kx_pV, kx_s1, kx_s2, kx_sl, kx_pre, kx_c2, kx_pl, kx_cmp, kx_oF, kx_eqN, kx_nil, kx_c1, kx_ft, kx_aI, kx_aL, kx_aR, kx_ln, Nat.reduceAdd, Option.toList, List.cons_append, List.nil_append])
  repeat' apply And.intro
  all_goals try (first | with_reducible assumption | (with_reducible refine ck_nzI ?_; simp; done) | (with_reducible refine ck_nzL ?_; simp; done) | (with_reducible refine vp_in_nI ?_ ?_ <;> first | omega | decide) | (with_reducible refine Nat.le_of_ble_eq_true ?_; rfl) | omega)
  · intro zc3
    with_reducible first | have ze3 := Int64.not_lt.mpr zc3 | have ze3 := zc3
    refine hB bJ9_abs_067f4_11 _ _ _ _ _ _ _ kJ9_abs_067f4_11 ?_
    dsimp only [bJ9_abs_067f4_11, kx_wp, kx_step, kx_lI, kx_lL, kx_lA, kx_gl, kx_pI, kx_pL, kx_pR, kx_pA, kx_pV, kx_s1, kx_s2, kx_sl, kx_pre, kx_c2, kx_pl, kx_cmp, kx_oF, kx_eqN, kx_nil, kx_c1, kx_ft, kx_aI, kx_aL, kx_aR, kx_ln, Nat.reduceAdd, Option.toList, List.cons_append, List.nil_append]
    repeat (simp only [lg_cmp_ge, lg_cmp_le, lg_cmp_gt, lg_cmp_lt, lg_cmp_eq, ks_eq, ks_ss]; try dsimp only [kx_wp, kx_step, kx_lI, kx_lL, kx_lA, kx_gl, kx_pI, kx_pL, kx_pR, kx_pA, kx_pV, kx_s1, kx_s2, kx_sl, kx_pre, kx_c2, kx_pl, kx_cmp, kx_oF, kx_eqN, kx_nil, kx_c1, kx_ft, kx_aI, kx_aL, kx_aR, kx_ln, Nat.reduceAdd, Option.toList, List.cons_append, List.nil_append])
    repeat' apply And.intro
    all_goals try (first | with_reducible assumption | (with_reducible refine ck_nzI ?_; simp; done) | (with_reducible refine ck_nzL ?_; simp; done) | (with_reducible refine vp_in_nI ?_ ?_ <;> first | omega | decide) | (with_reducible refine Nat.le_of_ble_eq_true ?_; rfl) | omega)
    refine hB bJ9_abs_067f4_12 _ _ _ _ _ _ _ kJ9_abs_067f4_12 ?_
    dsimp only [bJ9_abs_067f4_12, kx_wp, kx_step, kx_lI, kx_lL, kx_lA, kx_gl, kx_pI, kx_pL, kx_pR, kx_pA, kx_pV, kx_s1, kx_s2, kx_sl, kx_pre, kx_c2, kx_pl, kx_cmp, kx_oF, kx_eqN, kx_nil, kx_c1, kx_ft, kx_aI, kx_aL, kx_aR, kx_ln, Nat.reduceAdd, Option.toList, List.cons_append, List.nil_append]
    repeat (simp only [lg_cmp_ge, lg_cmp_le, lg_cmp_gt, lg_cmp_lt, lg_cmp_eq, ks_eq, ks_ss]; try dsimp only [kx_wp, kx_step, kx_lI, kx_lL, kx_lA, kx_gl, kx_pI, kx_pL, kx_pR, kx_pA, kx_pV, kx_s1, kx_s2, kx_sl, kx_pre, kx_c2, kx_pl, kx_cmp, kx_oF, kx_eqN, kx_nil, kx_c1, kx_ft, kx_aI, kx_aL, kx_aR, kx_ln, Nat.reduceAdd, Option.toList, List.cons_append, List.nil_append])
    all_goals (repeat' apply And.intro)
    all_goals ((try clear hB hC); first | exact True.intro | with_reducible rfl | with_reducible assumption | (with_reducible refine vp_in_nI ?_ ?_ <;> first | omega | decide) | exact Nat.le_of_ble_eq_true rfl | (with_reducible refine ck_nzI ?_; simp; done) | (with_reducible refine ck_nzL ?_; simp; done) | (simp only [pk_us, pk_uLs, ck_abL, zc3, ze3, ↓reduceIte, not_true_eq_false, not_false_eq_true]; done) | (simp only [ck_abL, zc3, ze3, ↓reduceIte, not_true_eq_false, not_false_eq_true]; with_reducible rfl) | skip)
  · intro zc3
    with_reducible first | have ze3 := Int64.not_le.mp zc3 | have ze3 := zc3
    refine hB bJ9_abs_067f4_6 _ _ _ _ _ _ _ kJ9_abs_067f4_6 ?_
    dsimp only [bJ9_abs_067f4_6, kx_wp, kx_step, kx_lI, kx_lL, kx_lA, kx_gl, kx_pI, kx_pL, kx_pR, kx_pA, kx_pV, kx_s1, kx_s2, kx_sl, kx_pre, kx_c2, kx_pl, kx_cmp, kx_oF, kx_eqN, kx_nil, kx_c1, kx_ft, kx_aI, kx_aL, kx_aR, kx_ln, Nat.reduceAdd, Option.toList, List.cons_append, List.nil_append]
    repeat (simp only [lg_cmp_ge, lg_cmp_le, lg_cmp_gt, lg_cmp_lt, lg_cmp_eq, ks_eq, ks_ss]; try dsimp only [kx_wp, kx_step, kx_lI, kx_lL, kx_lA, kx_gl, kx_pI, kx_pL, kx_pR, kx_pA, kx_pV, kx_s1, kx_s2, kx_sl, kx_pre, kx_c2, kx_pl, kx_cmp, kx_oF, kx_eqN, kx_nil, kx_c1, kx_ft, kx_aI, kx_aL, kx_aR, kx_ln, Nat.reduceAdd, Option.toList, List.cons_append, List.nil_append])
    repeat' apply And.intro
    all_goals try (first | with_reducible assumption | (with_reducible refine ck_nzI ?_; simp; done) | (with_reducible refine ck_nzL ?_; simp; done) | (with_reducible refine vp_in_nI ?_ ?_ <;> first | omega | decide) | (with_reducible refine Nat.le_of_ble_eq_true ?_; rfl) | omega)
    refine hB bJ9_abs_067f4_12 _ _ _ _ _ _ _ kJ9_abs_067f4_12 ?_
    dsimp only [bJ9_abs_067f4_12, kx_wp, kx_step, kx_lI, kx_lL, kx_lA, kx_gl, kx_pI, kx_pL, kx_pR, kx_pA, kx_pV, kx_s1, kx_s2, kx_sl, kx_pre, kx_c2, kx_pl, kx_cmp, kx_oF, kx_eqN, kx_nil, kx_c1, kx_ft, kx_aI, kx_aL, kx_aR, kx_ln, Nat.reduceAdd, Option.toList, List.cons_append, List.nil_append]
    repeat (simp only [lg_cmp_ge, lg_cmp_le, lg_cmp_gt, lg_cmp_lt, lg_cmp_eq, ks_eq, ks_ss]; try dsimp only [kx_wp, kx_step, kx_lI, kx_lL, kx_lA, kx_gl, kx_pI, kx_pL, kx_pR, kx_pA, kx_pV, kx_s1, kx_s2, kx_sl, kx_pre, kx_c2, kx_pl, kx_cmp, kx_oF, kx_eqN, kx_nil, kx_c1, kx_ft, kx_aI, kx_aL, kx_aR, kx_ln, Nat.reduceAdd, Option.toList, List.cons_append, List.nil_append])
    all_goals (repeat' apply And.intro)
    all_goals ((try clear hB hC); first | exact True.intro | with_reducible rfl | with_reducible assumption | (with_reducible refine vp_in_nI ?_ ?_ <;> first | omega | decide) | exact Nat.le_of_ble_eq_true rfl | (with_reducible refine ck_nzI ?_; simp; done) | (with_reducible refine ck_nzL ?_; simp; done) | (simp only [pk_us, pk_uLs, ck_abL, zc3, ze3, ↓reduceIte, not_true_eq_false, not_false_eq_true]; done) | (simp only [ck_abL, zc3, ze3, ↓reduceIte, not_true_eq_false, not_false_eq_true]; with_reducible rfl) | skip)

def bJ9_floorMod_7cf53_0 : List kx_O := [(.iload_n 0, 0, 0, 0, .null), (.iload_n 1, 1, 0, 0, .null), (.irem, 0, 0, 0, .null), (.istore_n 2, 2, 0, 0, .null), (.iload_n 0, 0, 0, 0, .null), (.iload_n 1, 1, 0, 0, .null), (.ixor, 0, 0, 0, .null), (.ifCond .ge 11, 18, 0, 0, .null)]
theorem kJ9_floorMod_7cf53_0 : kx_oks kxL_J9 false cJ9_floorMod_7cf53 0 bJ9_floorMod_7cf53_0 = true := by decide +kernel
def bJ9_floorMod_7cf53_10 : List kx_O := [(.iload_n 2, 2, 0, 0, .null), (.ifCond .eq 7, 18, 0, 0, .null)]
theorem kJ9_floorMod_7cf53_10 : kx_oks kxL_J9 false cJ9_floorMod_7cf53 10 bJ9_floorMod_7cf53_10 = true := by decide +kernel
def bJ9_floorMod_7cf53_14 : List kx_O := [(.iload_n 2, 2, 0, 0, .null), (.iload_n 1, 1, 0, 0, .null), (.iadd, 0, 0, 0, .null), (.ireturn, 0, 0, 0, .null)]
theorem kJ9_floorMod_7cf53_14 : kx_oks kxL_J9 false cJ9_floorMod_7cf53 14 bJ9_floorMod_7cf53_14 = true := by decide +kernel
def bJ9_floorMod_7cf53_18 : List kx_O := [(.iload_n 2, 2, 0, 0, .null), (.ireturn, 0, 0, 0, .null)]
theorem kJ9_floorMod_7cf53_18 : kx_oks kxL_J9 false cJ9_floorMod_7cf53 18 bJ9_floorMod_7cf53_18 = true := by decide +kernel
set_option maxRecDepth 100000 in
set_option maxHeartbeats 4000000 in
theorem ct_J9_floorMod_7cf53 (l : Launch) (G : kx_G) {P : kx_P} {sz : Nat} {a b : Int32} (hb : ¬ b = 0)  : kx_M l G sJ9_floorMod_7cf53 1 0 0 [.int (a), .int (b)] P sz (some (.int (cj_fm a b))) P sz := by
  refine kz_mkj kx_tab kxLok_J9 (ini := false) [some (.int (a)), some (.int (b)), none] ⟨by decide +kernel, rfl, by decide, by decide⟩ (⟨_, rfl⟩) rfl rfl (fun g hB hC hK => ?_)
  refine hB bJ9_floorMod_7cf53_0 _ _ _ _ _ _ _ kJ9_floorMod_7cf53_0 ?_
  dsimp only [bJ9_floorMod_7cf53_0, kx_wp, kx_step, kx_lI, kx_lL, kx_lA, kx_gl, kx_pI, kx_pL, kx_pR, kx_pA, kx_pV, kx_s1, kx_s2, kx_sl, kx_pre, kx_c2, kx_pl, kx_cmp, kx_oF, kx_eqN, kx_nil, kx_c1, kx_ft, kx_aI, kx_aL, kx_aR, kx_ln, Nat.reduceAdd, Option.toList, List.cons_append, List.nil_append]
  repeat (simp only [ks_eq, ks_ss]; try dsimp only [kx_wp, kx_step, kx_lI, kx_lL, kx_lA, kx_gl, kx_pI, kx_pL, kx_pR, kx_pA, kx_pV, kx_s1, kx_s2, kx_sl, kx_pre, kx_c2, kx_pl, kx_cmp, kx_oF, kx_eqN, kx_nil, kx_c1, kx_ft, kx_aI, kx_aL, kx_aR, kx_ln, Nat.reduceAdd, Option.toList, List.cons_append, List.nil_append])
  repeat' apply And.intro
  all_goals try (first | with_reducible assumption | (with_reducible refine ck_nzI ?_; simp; done) | (with_reducible refine ck_nzL ?_; simp; done) | (with_reducible refine vp_in_nI ?_ ?_ <;> first | omega | decide) | (with_reducible refine Nat.le_of_ble_eq_true ?_; rfl) | omega)
  · intro zc7
    with_reducible first | have ze7 := Int32.not_lt.mpr zc7 | have ze7 := zc7
    refine hB bJ9_floorMod_7cf53_18 _ _ _ _ _ _ _ kJ9_floorMod_7cf53_18 ?_
    dsimp only [bJ9_floorMod_7cf53_18, kx_wp, kx_step, kx_lI, kx_lL, kx_lA, kx_gl, kx_pI, kx_pL, kx_pR, kx_pA, kx_pV, kx_s1, kx_s2, kx_sl, kx_pre, kx_c2, kx_pl, kx_cmp, kx_oF, kx_eqN, kx_nil, kx_c1, kx_ft, kx_aI, kx_aL, kx_aR, kx_ln, Nat.reduceAdd, Option.toList, List.cons_append, List.nil_append]
    repeat (simp only [ks_eq, ks_ss]; try dsimp only [kx_wp, kx_step, kx_lI, kx_lL, kx_lA, kx_gl, kx_pI, kx_pL, kx_pR, kx_pA, kx_pV, kx_s1, kx_s2, kx_sl, kx_pre, kx_c2, kx_pl, kx_cmp, kx_oF, kx_eqN, kx_nil, kx_c1, kx_ft, kx_aI, kx_aL, kx_aR, kx_ln, Nat.reduceAdd, Option.toList, List.cons_append, List.nil_append])
    all_goals (repeat' apply And.intro)
    all_goals ((try clear hB hC); first | exact True.intro | with_reducible rfl | with_reducible assumption | (with_reducible refine vp_in_nI ?_ ?_ <;> first | omega | decide) | exact Nat.le_of_ble_eq_true rfl | (with_reducible refine ck_nzI ?_; simp; done) | (with_reducible refine ck_nzL ?_; simp; done) | (simp only [pk_us, pk_uLs, cj_fm, zc7, ze7, ↓reduceIte, not_true_eq_false, not_false_eq_true]; done) | (simp only [cj_fm, zc7, ze7, ↓reduceIte, not_true_eq_false, not_false_eq_true]; with_reducible rfl) | skip)
  · intro zc7
    with_reducible first | have ze7 := Int32.not_le.mp zc7 | have ze7 := zc7
    refine hB bJ9_floorMod_7cf53_10 _ _ _ _ _ _ _ kJ9_floorMod_7cf53_10 ?_
    dsimp only [bJ9_floorMod_7cf53_10, kx_wp, kx_step, kx_lI, kx_lL, kx_lA, kx_gl, kx_pI, kx_pL, kx_pR, kx_pA, kx_pV, kx_s1, kx_s2, kx_sl, kx_pre, kx_c2, kx_pl, kx_cmp, kx_oF, kx_eqN, kx_nil, kx_c1, kx_ft, kx_aI, kx_aL, kx_aR, kx_ln, Nat.reduceAdd, Option.toList, List.cons_append, List.nil_append]
    repeat (simp only [ks_eq, ks_ss]; try dsimp only [kx_wp, kx_step, kx_lI, kx_lL, kx_lA, kx_gl, kx_pI, kx_pL, kx_pR, kx_pA, kx_pV, kx_s1, kx_s2, kx_sl, kx_pre, kx_c2, kx_pl, kx_cmp, kx_oF, kx_eqN, kx_nil, kx_c1, kx_ft, kx_aI, kx_aL, kx_aR, kx_ln, Nat.reduceAdd, Option.toList, List.cons_append, List.nil_append])
    repeat' apply And.intro
    all_goals try (first | with_reducible assumption | (with_reducible refine ck_nzI ?_; simp; done) | (with_reducible refine ck_nzL ?_; simp; done) | (with_reducible refine vp_in_nI ?_ ?_ <;> first | omega | decide) | (with_reducible refine Nat.le_of_ble_eq_true ?_; rfl) | omega)
    · intro zc11
      have ze11 := zc11
      refine hB bJ9_floorMod_7cf53_18 _ _ _ _ _ _ _ kJ9_floorMod_7cf53_18 ?_
      dsimp only [bJ9_floorMod_7cf53_18, kx_wp, kx_step, kx_lI, kx_lL, kx_lA, kx_gl, kx_pI, kx_pL, kx_pR, kx_pA, kx_pV, kx_s1, kx_s2, kx_sl, kx_pre, kx_c2, kx_pl, kx_cmp, kx_oF, kx_eqN, kx_nil, kx_c1, kx_ft, kx_aI, kx_aL, kx_aR, kx_ln, Nat.reduceAdd, Option.toList, List.cons_append, List.nil_append]
      repeat (simp only [ks_eq, ks_ss]; try dsimp only [kx_wp, kx_step, kx_lI, kx_lL, kx_lA, kx_gl, kx_pI, kx_pL, kx_pR, kx_pA, kx_pV, kx_s1, kx_s2, kx_sl, kx_pre, kx_c2, kx_pl, kx_cmp, kx_oF, kx_eqN, kx_nil, kx_c1, kx_ft, kx_aI, kx_aL, kx_aR, kx_ln, Nat.reduceAdd, Option.toList, List.cons_append, List.nil_append])
      all_goals (repeat' apply And.intro)
      all_goals ((try clear hB hC); first | exact True.intro | with_reducible rfl | with_reducible assumption | (with_reducible refine vp_in_nI ?_ ?_ <;> first | omega | decide) | exact Nat.le_of_ble_eq_true rfl | (with_reducible refine ck_nzI ?_; simp; done) | (with_reducible refine ck_nzL ?_; simp; done) | (simp only [pk_us, pk_uLs, cj_fm, zc7, ze7, eq_true ze11, ↓reduceIte, not_true_eq_false, not_false_eq_true]; done) | (simp only [cj_fm, zc7, ze7, eq_true ze11, ↓reduceIte, not_true_eq_false, not_false_eq_true]; with_reducible rfl) | skip)
    · intro zc11
      have ze11 := zc11
      refine hB bJ9_floorMod_7cf53_14 _ _ _ _ _ _ _ kJ9_floorMod_7cf53_14 ?_
      dsimp only [bJ9_floorMod_7cf53_14, kx_wp, kx_step, kx_lI, kx_lL, kx_lA, kx_gl, kx_pI, kx_pL, kx_pR, kx_pA, kx_pV, kx_s1, kx_s2, kx_sl, kx_pre, kx_c2, kx_pl, kx_cmp, kx_oF, kx_eqN, kx_nil, kx_c1, kx_ft, kx_aI, kx_aL, kx_aR, kx_ln, Nat.reduceAdd, Option.toList, List.cons_append, List.nil_append]
      repeat (simp only [ks_eq, ks_ss]; try dsimp only [kx_wp, kx_step, kx_lI, kx_lL, kx_lA, kx_gl, kx_pI, kx_pL, kx_pR, kx_pA, kx_pV, kx_s1, kx_s2, kx_sl, kx_pre, kx_c2, kx_pl, kx_cmp, kx_oF, kx_eqN, kx_nil, kx_c1, kx_ft, kx_aI, kx_aL, kx_aR, kx_ln, Nat.reduceAdd, Option.toList, List.cons_append, List.nil_append])
      all_goals (repeat' apply And.intro)
      all_goals ((try clear hB hC); first | exact True.intro | with_reducible rfl | with_reducible assumption | (with_reducible refine vp_in_nI ?_ ?_ <;> first | omega | decide) | exact Nat.le_of_ble_eq_true rfl | (with_reducible refine ck_nzI ?_; simp; done) | (with_reducible refine ck_nzL ?_; simp; done) | (simp only [pk_us, pk_uLs, cj_fm, zc7, ze7, ze11, ↓reduceIte, not_true_eq_false, not_false_eq_true]; done) | (simp only [cj_fm, zc7, ze7, ze11, ↓reduceIte, not_true_eq_false, not_false_eq_true]; with_reducible rfl) | skip)

def bJ6_bitCount_0f7a4_0 : List kx_O := [(.iload_n 0, 0, 0, 0, .null), (.iload_n 0, 0, 0, 0, .null), (.iconst 1, 0, 0, 0, .int 1), (.iushr, 0, 0, 0, .null), (.ldc_w 265, 0, 0, 0, .int (1431655765)), (.iand, 0, 0, 0, .null), (.isub, 0, 0, 0, .null), (.istore_n 0, 0, 0, 0, .null), (.iload_n 0, 0, 0, 0, .null), (.ldc_w 266, 0, 0, 0, .int (858993459)), (.iand, 0, 0, 0, .null), (.iload_n 0, 0, 0, 0, .null), (.iconst 2, 0, 0, 0, .int 2), (.iushr, 0, 0, 0, .null), (.ldc_w 266, 0, 0, 0, .int (858993459)), (.iand, 0, 0, 0, .null), (.iadd, 0, 0, 0, .null), (.istore_n 0, 0, 0, 0, .null), (.iload_n 0, 0, 0, 0, .null), (.iload_n 0, 0, 0, 0, .null), (.iconst 4, 0, 0, 0, .int 4), (.iushr, 0, 0, 0, .null), (.iadd, 0, 0, 0, .null), (.ldc_w 267, 0, 0, 0, .int (252645135)), (.iand, 0, 0, 0, .null), (.istore_n 0, 0, 0, 0, .null), (.iload_n 0, 0, 0, 0, .null), (.iload_n 0, 0, 0, 0, .null), (.bipush 8, 0, 0, 0, .int 8), (.iushr, 0, 0, 0, .null), (.iadd, 0, 0, 0, .null), (.istore_n 0, 0, 0, 0, .null), (.iload_n 0, 0, 0, 0, .null), (.iload_n 0, 0, 0, 0, .null), (.bipush 16, 0, 0, 0, .int 16), (.iushr, 0, 0, 0, .null), (.iadd, 0, 0, 0, .null), (.istore_n 0, 0, 0, 0, .null), (.iload_n 0, 0, 0, 0, .null), (.bipush 63, 0, 0, 0, .int 63), (.iand, 0, 0, 0, .null), (.ireturn, 0, 0, 0, .null)]
theorem kJ6_bitCount_0f7a4_0 : kx_oks kxL_J6 false cJ6_bitCount_0f7a4 0 bJ6_bitCount_0f7a4_0 = true := by decide +kernel
set_option maxRecDepth 100000 in
set_option maxHeartbeats 4000000 in
theorem ct_J6_bitCount_0f7a4 (l : Launch) (G : kx_G) {P : kx_P} {sz : Nat} {a : Int32}  : kx_M l G sJ6_bitCount_0f7a4 1 0 0 [.int (a)] P sz (some (.int (cj_bc a))) P sz := by
  refine kz_mkj kx_tab kxLok_J6 (ini := false) [some (.int (a))] ⟨by decide +kernel, rfl, by decide, by decide⟩ (⟨_, rfl⟩) rfl rfl (fun g hB hC hK => ?_)
  refine hB bJ6_bitCount_0f7a4_0 _ _ _ _ _ _ _ kJ6_bitCount_0f7a4_0 ?_
  dsimp only [bJ6_bitCount_0f7a4_0, kx_wp, kx_step, kx_lI, kx_lL, kx_lA, kx_gl, kx_pI, kx_pL, kx_pR, kx_pA, kx_pV, kx_s1, kx_s2, kx_sl, kx_pre, kx_c2, kx_pl, kx_cmp, kx_oF, kx_eqN, kx_nil, kx_c1, kx_ft, kx_aI, kx_aL, kx_aR, kx_ln, Nat.reduceAdd, Option.toList, List.cons_append, List.nil_append]
  repeat (simp only [ks_eq, ks_ss]; try dsimp only [kx_wp, kx_step, kx_lI, kx_lL, kx_lA, kx_gl, kx_pI, kx_pL, kx_pR, kx_pA, kx_pV, kx_s1, kx_s2, kx_sl, kx_pre, kx_c2, kx_pl, kx_cmp, kx_oF, kx_eqN, kx_nil, kx_c1, kx_ft, kx_aI, kx_aL, kx_aR, kx_ln, Nat.reduceAdd, Option.toList, List.cons_append, List.nil_append])
  all_goals (repeat' apply And.intro)
  all_goals ((try clear hB hC); first | exact True.intro | rfl)


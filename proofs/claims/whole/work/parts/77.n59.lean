def bJ9_floorDiv_f86c9_0 : List kx_O := [(.lload_n 0, 0, 0, 0, .null), (.lload_n 2, 2, 0, 0, .null), (.ldiv, 0, 0, 0, .null), (.lstore 4, 4, 0, 0, .null), (.lload_n 0, 0, 0, 0, .null), (.lload_n 2, 2, 0, 0, .null)]
theorem kJ9_floorDiv_f86c9_0 : kx_oks kxL_J9 false cJ9_floorDiv_f86c9 0 bJ9_floorDiv_f86c9_0 = true := by decide +kernel
def bJ9_floorDiv_f86c9_8 : List kx_O := [(.lconst 0, 0, 0, 0, .long 0), (.lcmp, 0, 0, 0, .null), (.ifCond .ge 17, 27, 0, 0, .null)]
theorem kJ9_floorDiv_f86c9_8 : kx_oks kxL_J9 false cJ9_floorDiv_f86c9 8 bJ9_floorDiv_f86c9_8 = true := by decide +kernel
def bJ9_floorDiv_f86c9_13 : List kx_O := [(.lload 4, 4, 0, 0, .null), (.lload_n 2, 2, 0, 0, .null), (.lmul, 0, 0, 0, .null), (.lload_n 0, 0, 0, 0, .null), (.lcmp, 0, 0, 0, .null), (.ifCond .eq 8, 27, 0, 0, .null)]
theorem kJ9_floorDiv_f86c9_13 : kx_oks kxL_J9 false cJ9_floorDiv_f86c9 13 bJ9_floorDiv_f86c9_13 = true := by decide +kernel
def bJ9_floorDiv_f86c9_22 : List kx_O := [(.lload 4, 4, 0, 0, .null), (.lconst 1, 0, 0, 0, .long 1), (.lsub, 0, 0, 0, .null), (.lreturn, 0, 0, 0, .null)]
theorem kJ9_floorDiv_f86c9_22 : kx_oks kxL_J9 false cJ9_floorDiv_f86c9 22 bJ9_floorDiv_f86c9_22 = true := by decide +kernel
def bJ9_floorDiv_f86c9_27 : List kx_O := [(.lload 4, 4, 0, 0, .null), (.lreturn, 0, 0, 0, .null)]
theorem kJ9_floorDiv_f86c9_27 : kx_oks kxL_J9 false cJ9_floorDiv_f86c9 27 bJ9_floorDiv_f86c9_27 = true := by decide +kernel
theorem dJ9_floorDiv_f86c9_7 : decode cJ9_floorDiv_f86c9 7 = .ok (.lxor, 1) := by decide +kernel
set_option maxRecDepth 100000 in
set_option maxHeartbeats 4000000 in
theorem ct_J9_floorDiv_f86c9 (l : Launch) (G : kx_G) {P : kx_P} {sz : Nat} {a b : Int64} (hb : ¬ b = 0)  : kx_M l G sJ9_floorDiv_f86c9 1 0 0 [.long a, .long b] P sz (some (.long (cj_fdL a b))) P sz := by
  refine kz_mkj kx_tab kxLok_J9 (ini := false) [some (.long a), none, some (.long b), none, none, none] ⟨by decide +kernel, rfl, by decide, by decide⟩ (⟨_, rfl⟩) (by simp [kx_in, Value.category]) rfl (fun g hB hC hK => ?_)
  refine hB bJ9_floorDiv_f86c9_0 _ _ _ _ _ _ _ kJ9_floorDiv_f86c9_0 ?_
  dsimp only [bJ9_floorDiv_f86c9_0, kx_wp, kx_step, kx_lI, kx_lL, kx_lA, kx_gl, kx_pI, kx_pL, kx_pR, kx_pA, kx_pV, kx_s1, kx_s2, kx_sl, kx_pre, kx_c2, kx_pl, kx_cmp, kx_oF, kx_eqN, kx_nil, kx_c1, kx_ft, kx_aI, kx_aL, kx_aR, kx_ln, Nat.reduceAdd, Option.toList, List.cons_append, List.nil_append]
  repeat (simp only [lg_cmp_ge, lg_cmp_le, lg_cmp_gt, lg_cmp_lt, lg_cmp_eq, ks_eq, ks_ss]; try dsimp only [kx_wp, kx_step, kx_lI, kx_lL, kx_lA, kx_gl, kx_pI, kx_pL, kx_pR, kx_pA, kx_pV, kx_s1, kx_s2, kx_sl, kx_pre, kx_c2, kx_pl, kx_cmp, kx_oF, kx_eqN, kx_nil, kx_c1, kx_ft, kx_aI, kx_aL, kx_aR, kx_ln, Nat.reduceAdd, Option.toList, List.cons_append, List.nil_append])
  repeat' apply And.intro
  all_goals try (first | with_reducible assumption | (with_reducible refine ck_nzI ?_; simp; done) | (with_reducible refine ck_nzL ?_; simp; done) | (with_reducible refine vp_in_nI ?_ ?_ <;> first | omega | decide) | (with_reducible refine Nat.le_of_ble_eq_true ?_; rfl) | omega)
  refine kz_xor hK 7 dJ9_floorDiv_f86c9_7 ?_
  refine hB bJ9_floorDiv_f86c9_8 _ _ _ _ _ _ _ kJ9_floorDiv_f86c9_8 ?_
  dsimp only [bJ9_floorDiv_f86c9_8, kx_wp, kx_step, kx_lI, kx_lL, kx_lA, kx_gl, kx_pI, kx_pL, kx_pR, kx_pA, kx_pV, kx_s1, kx_s2, kx_sl, kx_pre, kx_c2, kx_pl, kx_cmp, kx_oF, kx_eqN, kx_nil, kx_c1, kx_ft, kx_aI, kx_aL, kx_aR, kx_ln, Nat.reduceAdd, Option.toList, List.cons_append, List.nil_append]
  repeat (simp only [lg_cmp_ge, lg_cmp_le, lg_cmp_gt, lg_cmp_lt, lg_cmp_eq, ks_eq, ks_ss]; try dsimp only [kx_wp, kx_step, kx_lI, kx_lL, kx_lA, kx_gl, kx_pI, kx_pL, kx_pR, kx_pA, kx_pV, kx_s1, kx_s2, kx_sl, kx_pre, kx_c2, kx_pl, kx_cmp, kx_oF, kx_eqN, kx_nil, kx_c1, kx_ft, kx_aI, kx_aL, kx_aR, kx_ln, Nat.reduceAdd, Option.toList, List.cons_append, List.nil_append])
  repeat' apply And.intro
  all_goals try (first | with_reducible assumption | (with_reducible refine ck_nzI ?_; simp; done) | (with_reducible refine ck_nzL ?_; simp; done) | (with_reducible refine vp_in_nI ?_ ?_ <;> first | omega | decide) | (with_reducible refine Nat.le_of_ble_eq_true ?_; rfl) | omega)
  · intro zc10
    with_reducible first | have ze10 := Int64.not_lt.mpr zc10 | have ze10 := zc10
    refine hB bJ9_floorDiv_f86c9_27 _ _ _ _ _ _ _ kJ9_floorDiv_f86c9_27 ?_
    dsimp only [bJ9_floorDiv_f86c9_27, kx_wp, kx_step, kx_lI, kx_lL, kx_lA, kx_gl, kx_pI, kx_pL, kx_pR, kx_pA, kx_pV, kx_s1, kx_s2, kx_sl, kx_pre, kx_c2, kx_pl, kx_cmp, kx_oF, kx_eqN, kx_nil, kx_c1, kx_ft, kx_aI, kx_aL, kx_aR, kx_ln, Nat.reduceAdd, Option.toList, List.cons_append, List.nil_append]
    repeat (simp only [lg_cmp_ge, lg_cmp_le, lg_cmp_gt, lg_cmp_lt, lg_cmp_eq, ks_eq, ks_ss]; try dsimp only [kx_wp, kx_step, kx_lI, kx_lL, kx_lA, kx_gl, kx_pI, kx_pL, kx_pR, kx_pA, kx_pV, kx_s1, kx_s2, kx_sl, kx_pre, kx_c2, kx_pl, kx_cmp, kx_oF, kx_eqN, kx_nil, kx_c1, kx_ft, kx_aI, kx_aL, kx_aR, kx_ln, Nat.reduceAdd, Option.toList, List.cons_append, List.nil_append])
    all_goals (repeat' apply And.intro)
    all_goals ((try clear hB hC); first | exact True.intro | with_reducible rfl | with_reducible assumption | (with_reducible refine vp_in_nI ?_ ?_ <;> first | omega | decide) | exact Nat.le_of_ble_eq_true rfl | (with_reducible refine ck_nzI ?_; simp; done) | (with_reducible refine ck_nzL ?_; simp; done) | (simp only [pk_us, pk_uLs, cj_fdL, zc10, ze10, ↓reduceIte, not_true_eq_false, not_false_eq_true]; done) | (simp only [cj_fdL, zc10, ze10, ↓reduceIte, not_true_eq_false, not_false_eq_true]; with_reducible rfl) | skip)
  · intro zc10
    with_reducible first | have ze10 := Int64.not_le.mp zc10 | have ze10 := zc10
    refine hB bJ9_floorDiv_f86c9_13 _ _ _ _ _ _ _ kJ9_floorDiv_f86c9_13 ?_
    dsimp only [bJ9_floorDiv_f86c9_13, kx_wp, kx_step, kx_lI, kx_lL, kx_lA, kx_gl, kx_pI, kx_pL, kx_pR, kx_pA, kx_pV, kx_s1, kx_s2, kx_sl, kx_pre, kx_c2, kx_pl, kx_cmp, kx_oF, kx_eqN, kx_nil, kx_c1, kx_ft, kx_aI, kx_aL, kx_aR, kx_ln, Nat.reduceAdd, Option.toList, List.cons_append, List.nil_append]
    repeat (simp only [lg_cmp_ge, lg_cmp_le, lg_cmp_gt, lg_cmp_lt, lg_cmp_eq, ks_eq, ks_ss]; try dsimp only [kx_wp, kx_step, kx_lI, kx_lL, kx_lA, kx_gl, kx_pI, kx_pL, kx_pR, kx_pA, kx_pV, kx_s1, kx_s2, kx_sl, kx_pre, kx_c2, kx_pl, kx_cmp, kx_oF, kx_eqN, kx_nil, kx_c1, kx_ft, kx_aI, kx_aL, kx_aR, kx_ln, Nat.reduceAdd, Option.toList, List.cons_append, List.nil_append])
    repeat' apply And.intro
    all_goals try (first | with_reducible assumption | (with_reducible refine ck_nzI ?_; simp; done) | (with_reducible refine ck_nzL ?_; simp; done) | (with_reducible refine vp_in_nI ?_ ?_ <;> first | omega | decide) | (with_reducible refine Nat.le_of_ble_eq_true ?_; rfl) | omega)
    · intro zc19
      have ze19 := zc19
      refine hB bJ9_floorDiv_f86c9_27 _ _ _ _ _ _ _ kJ9_floorDiv_f86c9_27 ?_
      dsimp only [bJ9_floorDiv_f86c9_27, kx_wp, kx_step, kx_lI, kx_lL, kx_lA, kx_gl, kx_pI, kx_pL, kx_pR, kx_pA, kx_pV, kx_s1, kx_s2, kx_sl, kx_pre, kx_c2, kx_pl, kx_cmp, kx_oF, kx_eqN, kx_nil, kx_c1, kx_ft, kx_aI, kx_aL, kx_aR, kx_ln, Nat.reduceAdd, Option.toList, List.cons_append, List.nil_append]
      repeat (simp only [lg_cmp_ge, lg_cmp_le, lg_cmp_gt, lg_cmp_lt, lg_cmp_eq, ks_eq, ks_ss]; try dsimp only [kx_wp, kx_step, kx_lI, kx_lL, kx_lA, kx_gl, kx_pI, kx_pL, kx_pR, kx_pA, kx_pV, kx_s1, kx_s2, kx_sl, kx_pre, kx_c2, kx_pl, kx_cmp, kx_oF, kx_eqN, kx_nil, kx_c1, kx_ft, kx_aI, kx_aL, kx_aR, kx_ln, Nat.reduceAdd, Option.toList, List.cons_append, List.nil_append])
      all_goals (repeat' apply And.intro)
      all_goals ((try clear hB hC); first | exact True.intro | with_reducible rfl | with_reducible assumption | (with_reducible refine vp_in_nI ?_ ?_ <;> first | omega | decide) | exact Nat.le_of_ble_eq_true rfl | (with_reducible refine ck_nzI ?_; simp; done) | (with_reducible refine ck_nzL ?_; simp; done) | (simp only [pk_us, pk_uLs, cj_fdL, zc10, ze10, eq_true ze19, ↓reduceIte, not_true_eq_false, not_false_eq_true]; done) | (simp only [cj_fdL, zc10, ze10, eq_true ze19, ↓reduceIte, not_true_eq_false, not_false_eq_true]; with_reducible rfl) | skip)
    · intro zc19
      have ze19 := zc19
      refine hB bJ9_floorDiv_f86c9_22 _ _ _ _ _ _ _ kJ9_floorDiv_f86c9_22 ?_
      dsimp only [bJ9_floorDiv_f86c9_22, kx_wp, kx_step, kx_lI, kx_lL, kx_lA, kx_gl, kx_pI, kx_pL, kx_pR, kx_pA, kx_pV, kx_s1, kx_s2, kx_sl, kx_pre, kx_c2, kx_pl, kx_cmp, kx_oF, kx_eqN, kx_nil, kx_c1, kx_ft, kx_aI, kx_aL, kx_aR, kx_ln, Nat.reduceAdd, Option.toList, List.cons_append, List.nil_append]
      repeat (simp only [lg_cmp_ge, lg_cmp_le, lg_cmp_gt, lg_cmp_lt, lg_cmp_eq, ks_eq, ks_ss]; try dsimp only [kx_wp, kx_step, kx_lI, kx_lL, kx_lA, kx_gl, kx_pI, kx_pL, kx_pR, kx_pA, kx_pV, kx_s1, kx_s2, kx_sl, kx_pre, kx_c2, kx_pl, kx_cmp, kx_oF, kx_eqN, kx_nil, kx_c1, kx_ft, kx_aI, kx_aL, kx_aR, kx_ln, Nat.reduceAdd, Option.toList, List.cons_append, List.nil_append])
      all_goals (repeat' apply And.intro)
      all_goals ((try clear hB hC); first | exact True.intro | with_reducible rfl | with_reducible assumption | (with_reducible refine vp_in_nI ?_ ?_ <;> first | omega | decide) | exact Nat.le_of_ble_eq_true rfl | (with_reducible refine ck_nzI ?_; simp; done) | (with_reducible refine ck_nzL ?_; simp; done) | (simp only [pk_us, pk_uLs, cj_fdL, zc10, ze10, ze19, ↓reduceIte, not_true_eq_false, not_false_eq_true]; done) | (simp only [cj_fdL, zc10, ze10, ze19, ↓reduceIte, not_true_eq_false, not_false_eq_true]; with_reducible rfl) | skip)

def bJ9_floorMod_f86c9_0 : List kx_O := [(.lload_n 0, 0, 0, 0, .null), (.lload_n 2, 2, 0, 0, .null), (.lrem, 0, 0, 0, .null), (.lstore 4, 4, 0, 0, .null), (.lload_n 0, 0, 0, 0, .null), (.lload_n 2, 2, 0, 0, .null)]
theorem kJ9_floorMod_f86c9_0 : kx_oks kxL_J9 false cJ9_floorMod_f86c9 0 bJ9_floorMod_f86c9_0 = true := by decide +kernel
def bJ9_floorMod_f86c9_8 : List kx_O := [(.lconst 0, 0, 0, 0, .long 0), (.lcmp, 0, 0, 0, .null), (.ifCond .ge 15, 25, 0, 0, .null)]
theorem kJ9_floorMod_f86c9_8 : kx_oks kxL_J9 false cJ9_floorMod_f86c9 8 bJ9_floorMod_f86c9_8 = true := by decide +kernel
def bJ9_floorMod_f86c9_13 : List kx_O := [(.lload 4, 4, 0, 0, .null), (.lconst 0, 0, 0, 0, .long 0), (.lcmp, 0, 0, 0, .null), (.ifCond .eq 8, 25, 0, 0, .null)]
theorem kJ9_floorMod_f86c9_13 : kx_oks kxL_J9 false cJ9_floorMod_f86c9 13 bJ9_floorMod_f86c9_13 = true := by decide +kernel
def bJ9_floorMod_f86c9_20 : List kx_O := [(.lload 4, 4, 0, 0, .null), (.lload_n 2, 2, 0, 0, .null), (.ladd, 0, 0, 0, .null), (.lreturn, 0, 0, 0, .null)]
theorem kJ9_floorMod_f86c9_20 : kx_oks kxL_J9 false cJ9_floorMod_f86c9 20 bJ9_floorMod_f86c9_20 = true := by decide +kernel
def bJ9_floorMod_f86c9_25 : List kx_O := [(.lload 4, 4, 0, 0, .null), (.lreturn, 0, 0, 0, .null)]
theorem kJ9_floorMod_f86c9_25 : kx_oks kxL_J9 false cJ9_floorMod_f86c9 25 bJ9_floorMod_f86c9_25 = true := by decide +kernel
theorem dJ9_floorMod_f86c9_7 : decode cJ9_floorMod_f86c9 7 = .ok (.lxor, 1) := by decide +kernel
set_option maxRecDepth 100000 in
set_option maxHeartbeats 4000000 in
theorem ct_J9_floorMod_f86c9 (l : Launch) (G : kx_G) {P : kx_P} {sz : Nat} {a b : Int64} (hb : ¬ b = 0)  : kx_M l G sJ9_floorMod_f86c9 1 0 0 [.long a, .long b] P sz (some (.long (cj_fmL a b))) P sz := by
  refine kz_mkj kx_tab kxLok_J9 (ini := false) [some (.long a), none, some (.long b), none, none, none] ⟨by decide +kernel, rfl, by decide, by decide⟩ (⟨_, rfl⟩) (by simp [kx_in, Value.category]) rfl (fun g hB hC hK => ?_)
  refine hB bJ9_floorMod_f86c9_0 _ _ _ _ _ _ _ kJ9_floorMod_f86c9_0 ?_
  dsimp only [bJ9_floorMod_f86c9_0, kx_wp, kx_step, kx_lI, kx_lL, kx_lA, kx_gl, kx_pI, kx_pL, kx_pR, kx_pA, kx_pV, kx_s1, kx_s2, kx_sl, kx_pre, kx_c2, kx_pl, kx_cmp, kx_oF, kx_eqN, kx_nil, kx_c1, kx_ft, kx_aI, kx_aL, kx_aR, kx_ln, Nat.reduceAdd, Option.toList, List.cons_append, List.nil_append]
  repeat (simp only [lg_cmp_ge, lg_cmp_le, lg_cmp_gt, lg_cmp_lt, lg_cmp_eq, ks_eq, ks_ss]; try dsimp only [kx_wp, kx_step, kx_lI, kx_lL, kx_lA, kx_gl, kx_pI, kx_pL, kx_pR, kx_pA, kx_pV, kx_s1, kx_s2, kx_sl, kx_pre, kx_c2, kx_pl, kx_cmp, kx_oF, kx_eqN, kx_nil, kx_c1, kx_ft, kx_aI, kx_aL, kx_aR, kx_ln, Nat.reduceAdd, Option.toList, List.cons_append, List.nil_append])
  repeat' apply And.intro
  all_goals try (first | with_reducible assumption | (with_reducible refine ck_nzI ?_; simp; done) | (with_reducible refine ck_nzL ?_; simp; done) | (with_reducible refine vp_in_nI ?_ ?_ <;> first | omega | decide) | (with_reducible refine Nat.le_of_ble_eq_true ?_; rfl) | omega)
  refine kz_xor hK 7 dJ9_floorMod_f86c9_7 ?_
  refine hB bJ9_floorMod_f86c9_8 _ _ _ _ _ _ _ kJ9_floorMod_f86c9_8 ?_
  dsimp only [bJ9_floorMod_f86c9_8, kx_wp, kx_step, kx_lI, kx_lL, kx_lA, kx_gl, kx_pI, kx_pL, kx_pR, kx_pA, kx_pV, kx_s1, kx_s2, kx_sl, kx_pre, kx_c2, kx_pl, kx_cmp, kx_oF, kx_eqN, kx_nil, kx_c1, kx_ft, kx_aI, kx_aL, kx_aR, kx_ln, Nat.reduceAdd, Option.toList, List.cons_append, List.nil_append]
  repeat (simp only [lg_cmp_ge, lg_cmp_le, lg_cmp_gt, lg_cmp_lt, lg_cmp_eq, ks_eq, ks_ss]; try dsimp only [kx_wp, kx_step, kx_lI, kx_lL, kx_lA, kx_gl, kx_pI, kx_pL, kx_pR, kx_pA, kx_pV, kx_s1, kx_s2, kx_sl, kx_pre, kx_c2, kx_pl, kx_cmp, kx_oF, kx_eqN, kx_nil, kx_c1, kx_ft, kx_aI, kx_aL, kx_aR, kx_ln, Nat.reduceAdd, Option.toList, List.cons_append, List.nil_append])
  repeat' apply And.intro
  all_goals try (first | with_reducible assumption | (with_reducible refine ck_nzI ?_; simp; done) | (with_reducible refine ck_nzL ?_; simp; done) | (with_reducible refine vp_in_nI ?_ ?_ <;> first | omega | decide) | (with_reducible refine Nat.le_of_ble_eq_true ?_; rfl) | omega)
  · intro zc10
    with_reducible first | have ze10 := Int64.not_lt.mpr zc10 | have ze10 := zc10
    refine hB bJ9_floorMod_f86c9_25 _ _ _ _ _ _ _ kJ9_floorMod_f86c9_25 ?_
    dsimp only [bJ9_floorMod_f86c9_25, kx_wp, kx_step, kx_lI, kx_lL, kx_lA, kx_gl, kx_pI, kx_pL, kx_pR, kx_pA, kx_pV, kx_s1, kx_s2, kx_sl, kx_pre, kx_c2, kx_pl, kx_cmp, kx_oF, kx_eqN, kx_nil, kx_c1, kx_ft, kx_aI, kx_aL, kx_aR, kx_ln, Nat.reduceAdd, Option.toList, List.cons_append, List.nil_append]
    repeat (simp only [lg_cmp_ge, lg_cmp_le, lg_cmp_gt, lg_cmp_lt, lg_cmp_eq, ks_eq, ks_ss]; try dsimp only [kx_wp, kx_step, kx_lI, kx_lL, kx_lA, kx_gl, kx_pI, kx_pL, kx_pR, kx_pA, kx_pV, kx_s1, kx_s2, kx_sl, kx_pre, kx_c2, kx_pl, kx_cmp, kx_oF, kx_eqN, kx_nil, kx_c1, kx_ft, kx_aI, kx_aL, kx_aR, kx_ln, Nat.reduceAdd, Option.toList, List.cons_append, List.nil_append])
    all_goals (repeat' apply And.intro)
    all_goals ((try clear hB hC); first | exact True.intro | with_reducible rfl | with_reducible assumption | (with_reducible refine vp_in_nI ?_ ?_ <;> first | omega | decide) | exact Nat.le_of_ble_eq_true rfl | (with_reducible refine ck_nzI ?_; simp; done) | (with_reducible refine ck_nzL ?_; simp; done) | (simp only [pk_us, pk_uLs, cj_fmL, zc10, ze10, ↓reduceIte, not_true_eq_false, not_false_eq_true]; done) | (simp only [cj_fmL, zc10, ze10, ↓reduceIte, not_true_eq_false, not_false_eq_true]; with_reducible rfl) | skip)
  · intro zc10
    with_reducible first | have ze10 := Int64.not_le.mp zc10 | have ze10 := zc10
    refine hB bJ9_floorMod_f86c9_13 _ _ _ _ _ _ _ kJ9_floorMod_f86c9_13 ?_
    dsimp only [bJ9_floorMod_f86c9_13, kx_wp, kx_step, kx_lI, kx_lL, kx_lA, kx_gl, kx_pI, kx_pL, kx_pR, kx_pA, kx_pV, kx_s1, kx_s2, kx_sl, kx_pre, kx_c2, kx_pl, kx_cmp, kx_oF, kx_eqN, kx_nil, kx_c1, kx_ft, kx_aI, kx_aL, kx_aR, kx_ln, Nat.reduceAdd, Option.toList, List.cons_append, List.nil_append]
    repeat (simp only [lg_cmp_ge, lg_cmp_le, lg_cmp_gt, lg_cmp_lt, lg_cmp_eq, ks_eq, ks_ss]; try dsimp only [kx_wp, kx_step, kx_lI, kx_lL, kx_lA, kx_gl, kx_pI, kx_pL, kx_pR, kx_pA, kx_pV, kx_s1, kx_s2, kx_sl, kx_pre, kx_c2, kx_pl, kx_cmp, kx_oF, kx_eqN, kx_nil, kx_c1, kx_ft, kx_aI, kx_aL, kx_aR, kx_ln, Nat.reduceAdd, Option.toList, List.cons_append, List.nil_append])
    repeat' apply And.intro
    all_goals try (first | with_reducible assumption | (with_reducible refine ck_nzI ?_; simp; done) | (with_reducible refine ck_nzL ?_; simp; done) | (with_reducible refine vp_in_nI ?_ ?_ <;> first | omega | decide) | (with_reducible refine Nat.le_of_ble_eq_true ?_; rfl) | omega)
    · intro zc17
      have ze17 := zc17
      refine hB bJ9_floorMod_f86c9_25 _ _ _ _ _ _ _ kJ9_floorMod_f86c9_25 ?_
      dsimp only [bJ9_floorMod_f86c9_25, kx_wp, kx_step, kx_lI, kx_lL, kx_lA, kx_gl, kx_pI, kx_pL, kx_pR, kx_pA, kx_pV, kx_s1, kx_s2, kx_sl, kx_pre, kx_c2, kx_pl, kx_cmp, kx_oF, kx_eqN, kx_nil, kx_c1, kx_ft, kx_aI, kx_aL, kx_aR, kx_ln, Nat.reduceAdd, Option.toList, List.cons_append, List.nil_append]
      repeat (simp only [lg_cmp_ge, lg_cmp_le, lg_cmp_gt, lg_cmp_lt, lg_cmp_eq, ks_eq, ks_ss]; try dsimp only [kx_wp, kx_step, kx_lI, kx_lL, kx_lA, kx_gl, kx_pI, kx_pL, kx_pR, kx_pA, kx_pV, kx_s1, kx_s2, kx_sl, kx_pre, kx_c2, kx_pl, kx_cmp, kx_oF, kx_eqN, kx_nil, kx_c1, kx_ft, kx_aI, kx_aL, kx_aR, kx_ln, Nat.reduceAdd, Option.toList, List.cons_append, List.nil_append])
      all_goals (repeat' apply And.intro)
      all_goals ((try clear hB hC); first | exact True.intro | with_reducible rfl | with_reducible assumption | (with_reducible refine vp_in_nI ?_ ?_ <;> first | omega | decide) | exact Nat.le_of_ble_eq_true rfl | (with_reducible refine ck_nzI ?_; simp; done) | (with_reducible refine ck_nzL ?_; simp; done) | (simp only [pk_us, pk_uLs, cj_fmL, zc10, ze10, eq_true ze17, ↓reduceIte, not_true_eq_false, not_false_eq_true]; done) | (simp only [cj_fmL, zc10, ze10, eq_true ze17, ↓reduceIte, not_true_eq_false, not_false_eq_true]; with_reducible rfl) | skip)
    · intro zc17
      have ze17 := zc17
      refine hB bJ9_floorMod_f86c9_20 _ _ _ _ _ _ _ kJ9_floorMod_f86c9_20 ?_
      dsimp only [bJ9_floorMod_f86c9_20, kx_wp, kx_step, kx_lI, kx_lL, kx_lA, kx_gl, kx_pI, kx_pL, kx_pR, kx_pA, kx_pV, kx_s1, kx_s2, kx_sl, kx_pre, kx_c2, kx_pl, kx_cmp, kx_oF, kx_eqN, kx_nil, kx_c1, kx_ft, kx_aI, kx_aL, kx_aR, kx_ln, Nat.reduceAdd, Option.toList, List.cons_append, List.nil_append]
      repeat (simp only [lg_cmp_ge, lg_cmp_le, lg_cmp_gt, lg_cmp_lt, lg_cmp_eq, ks_eq, ks_ss]; try dsimp only [kx_wp, kx_step, kx_lI, kx_lL, kx_lA, kx_gl, kx_pI, kx_pL, kx_pR, kx_pA, kx_pV, kx_s1, kx_s2, kx_sl, kx_pre, kx_c2, kx_pl, kx_cmp, kx_oF, kx_eqN, kx_nil, kx_c1, kx_ft, kx_aI, kx_aL, kx_aR, kx_ln, Nat.reduceAdd, Option.toList, List.cons_append, List.nil_append])
      all_goals (repeat' apply And.intro)
      all_goals ((try clear hB hC); first | exact True.intro | with_reducible rfl | with_reducible assumption | (with_reducible refine vp_in_nI ?_ ?_ <;> first | omega | decide) | exact Nat.le_of_ble_eq_true rfl | (with_reducible refine ck_nzI ?_; simp; done) | (with_reducible refine ck_nzL ?_; simp; done) | (simp only [pk_us, pk_uLs, cj_fmL, zc10, ze10, ze17, ↓reduceIte, not_true_eq_false, not_false_eq_true]; done) | (simp only [cj_fmL, zc10, ze10, ze17, ↓reduceIte, not_true_eq_false, not_false_eq_true]; with_reducible rfl) | skip)

def bX0_today_0 : List kx_O := [(.aload_n 0, 0, 0, 0, .null), (.getfield 9, 0, 0, 0, .null), (.sipush 1440, 0, 0, 0, .int 1440), (.idiv, 0, 0, 0, .null), (.ireturn, 0, 0, 0, .null)]
theorem kX0_today_0 : kx_oks kxL_X0 false cX0_today 0 bX0_today_0 = true := by decide +kernel
set_option maxRecDepth 100000 in
set_option maxHeartbeats 4000000 in
theorem ct_X0_today (l : Launch) (G : kx_G) {P : kx_P} {sz : Nat} {F : Nat → Int32} (hA : P 65 = kO 0 (kf cr0 F))  : kx_M l G sX0_today 1 0 0 [.ref 65] P sz (some (.int (F 0 / 1440))) P sz := by
  refine kx_mk kx_tab kxLok_X0 (ini := false) [some (.ref 65)] ⟨by decide, rfl, by decide, by decide⟩ (⟨_, rfl⟩) rfl rfl (fun g hB hC => ?_)
  refine hB bX0_today_0 _ _ _ _ _ _ _ kX0_today_0 ?_
  dsimp only [bX0_today_0, kx_wp, kx_step, kx_lI, kx_lL, kx_lA, kx_gl, kx_pI, kx_pL, kx_pR, kx_pA, kx_pV, kx_s1, kx_s2, kx_sl, kx_pre, kx_c2, kx_pl, kx_cmp, kx_oF, kx_eqN, kx_nil, kx_c1, kx_ft, kx_aI, kx_aL, kx_aR, kx_ln, Nat.reduceAdd, Option.toList, List.cons_append, List.nil_append, cf0_0]
  repeat (simp only [hA, ks_eq, ks_ss]; try dsimp only [kx_wp, kx_step, kx_lI, kx_lL, kx_lA, kx_gl, kx_pI, kx_pL, kx_pR, kx_pA, kx_pV, kx_s1, kx_s2, kx_sl, kx_pre, kx_c2, kx_pl, kx_cmp, kx_oF, kx_eqN, kx_nil, kx_c1, kx_ft, kx_aI, kx_aL, kx_aR, kx_ln, Nat.reduceAdd, Option.toList, List.cons_append, List.nil_append, cf0_0])
  all_goals (repeat' apply And.intro)
  all_goals ((try clear hB hC); first | exact True.intro | with_reducible rfl | with_reducible assumption | (with_reducible refine vp_in_nI ?_ ?_ <;> first | omega | decide) | exact Nat.le_of_ble_eq_true rfl | (with_reducible refine ck_nzI ?_; simp; done) | (with_reducible refine ck_nzL ?_; simp; done) | (simp only [pk_us, pk_uLs, ↓reduceIte, not_true_eq_false, not_false_eq_true]; done) | (simp only [↓reduceIte, not_true_eq_false, not_false_eq_true]; with_reducible rfl) | skip)

def cj_md (j : Nat) : Int32 := match j with
  | 1 => 28
  | 3 => 30
  | 5 => 30
  | 8 => 30
  | 10 => 30
  | _ => 31
theorem cj_md_ok {k : Nat} {lp : Int32} (h1 : 1 ≤ k) (h2 : k ≤ 12) (h : ¬ k = 2) : cj_md (k - 1) = ck_last (nI k) lp := by
  rcases (show k = 1 ∨ k = 3 ∨ k = 4 ∨ k = 5 ∨ k = 6 ∨ k = 7 ∨ k = 8 ∨ k = 9 ∨ k = 10 ∨ k = 11 ∨ k = 12 by omega) with rfl | rfl | rfl | rfl | rfl | rfl | rfl | rfl | rfl | rfl | rfl <;> (unfold ck_last; rw [if_neg (by decide)]; first | rw [if_pos (by decide)] <;> rfl | (rw [if_neg (by decide)] <;> rfl))
theorem cj_md_2 {k : Nat} {lp : Int32} (h2 : k ≤ 12) (h : nI k = 2) (hl : lp = 0) : cj_md (k - 1) = ck_last (nI k) lp := by
  obtain rfl : k = 2 := (nI_eq (b := 2) (by omega) (by omega)).mp h
  subst hl; rfl
theorem cj_ml_o {m lp : Int32} (h : m < 1 ∨ 12 < m) : ck_last m lp = 31 := by
  unfold ck_last
  rw [if_neg (fun e => by subst e; revert h; decide), if_neg (fun e => by rcases e with e | e | e | e <;> (subst e; revert h; decide))]
def bX0_daysOf_0 : List kx_O := [(.iload_n 0, 0, 0, 0, .null), (.iconst 1, 0, 0, 0, .int 1), (.if_icmp .lt 11, 13, 0, 0, .null)]
theorem kX0_daysOf_0 : kx_oks kxL_X0 false cX0_daysOf 0 bX0_daysOf_0 = true := by decide +kernel
def bX0_daysOf_5 : List kx_O := [(.iload_n 0, 0, 0, 0, .null), (.getstatic 26, 0, 0, 0, .ref 1), (.arraylength, 0, 0, 0, .null), (.if_icmp .le 6, 16, 0, 0, .null)]
theorem kX0_daysOf_5 : kx_oks kxL_X0 false cX0_daysOf 5 bX0_daysOf_5 = true := by decide +kernel
def bX0_daysOf_13 : List kx_O := [(.bipush 31, 0, 0, 0, .int 31), (.ireturn, 0, 0, 0, .null)]
theorem kX0_daysOf_13 : kx_oks kxL_X0 false cX0_daysOf 13 bX0_daysOf_13 = true := by decide +kernel
def bX0_daysOf_16 : List kx_O := [(.iload_n 0, 0, 0, 0, .null), (.iconst 2, 0, 0, 0, .int 2), (.if_icmp .ne 12, 30, 0, 0, .null)]
theorem kX0_daysOf_16 : kx_oks kxL_X0 false cX0_daysOf 16 bX0_daysOf_16 = true := by decide +kernel
def bX0_daysOf_21 : List kx_O := [(.iload_n 1, 1, 0, 0, .null), (.ifCond .eq 8, 30, 0, 0, .null)]
theorem kX0_daysOf_21 : kx_oks kxL_X0 false cX0_daysOf 21 bX0_daysOf_21 = true := by decide +kernel
def bX0_daysOf_25 : List kx_O := [(.bipush 29, 0, 0, 0, .int 29), (.goto 10, 37, 0, 0, .null)]
theorem kX0_daysOf_25 : kx_oks kxL_X0 false cX0_daysOf 25 bX0_daysOf_25 = true := by decide +kernel
def bX0_daysOf_30 : List kx_O := [(.getstatic 26, 0, 0, 0, .ref 1), (.iload_n 0, 0, 0, 0, .null), (.iconst 1, 0, 0, 0, .int 1), (.isub, 0, 0, 0, .null), (.iaload, 0, 0, 0, .null)]
theorem kX0_daysOf_30 : kx_oks kxL_X0 false cX0_daysOf 30 bX0_daysOf_30 = true := by decide +kernel
def bX0_daysOf_37 : List kx_O := [(.ireturn, 0, 0, 0, .null)]
theorem kX0_daysOf_37 : kx_oks kxL_X0 false cX0_daysOf 37 bX0_daysOf_37 = true := by decide +kernel
set_option maxRecDepth 100000 in
set_option maxHeartbeats 4000000 in
theorem ct_X0_daysOf_t (l : Launch) (G : kx_G) {P : kx_P} {sz : Nat} (hM : P 1 = kI 5 12 cj_md) {k : Nat} (hk : 1 ≤ k ∧ k ≤ 12) {lp : Int32}  : kx_M l G sX0_daysOf 1 0 0 [.int (nI k), .int (lp)] P sz (some (.int (ck_last (nI k) lp))) P sz := by
  refine kx_mk kx_tab kxLok_X0 (ini := false) [some (.int (nI k)), some (.int (lp))] ⟨by decide, rfl, by decide, by decide⟩ (⟨_, rfl⟩) rfl rfl (fun g hB hC => ?_)
  refine hB bX0_daysOf_0 _ _ _ _ _ _ _ kX0_daysOf_0 ?_
  dsimp only [bX0_daysOf_0, kx_wp, kx_step, kx_lI, kx_lL, kx_lA, kx_gl, kx_pI, kx_pL, kx_pR, kx_pA, kx_pV, kx_s1, kx_s2, kx_sl, kx_pre, kx_c2, kx_pl, kx_cmp, kx_oF, kx_eqN, kx_nil, kx_c1, kx_ft, kx_aI, kx_aL, kx_aR, kx_ln, Nat.reduceAdd, Option.toList, List.cons_append, List.nil_append]
  repeat (simp only [hM, pk_sub hk.1, show nI k - 1 = nI (k - 1) from pk_sub hk.1, nI_clamp (show k - 1 < 2 ^ 31 by omega), ks_eq, ks_ss]; try dsimp only [kx_wp, kx_step, kx_lI, kx_lL, kx_lA, kx_gl, kx_pI, kx_pL, kx_pR, kx_pA, kx_pV, kx_s1, kx_s2, kx_sl, kx_pre, kx_c2, kx_pl, kx_cmp, kx_oF, kx_eqN, kx_nil, kx_c1, kx_ft, kx_aI, kx_aL, kx_aR, kx_ln, Nat.reduceAdd, Option.toList, List.cons_append, List.nil_append])
  repeat' apply And.intro
  all_goals try (first | with_reducible assumption | (with_reducible refine ck_nzI ?_; simp; done) | (with_reducible refine ck_nzL ?_; simp; done) | (with_reducible refine vp_in_nI ?_ ?_ <;> first | omega | decide) | (with_reducible refine Nat.le_of_ble_eq_true ?_; rfl) | omega)
  · intro zc2
    first | exact absurd rfl zc2 | exact absurd zc2 (by decide) | exact absurd (by decide) zc2 | (exfalso; first | exact absurd ((nI_ltI (b := 1) (by omega) (by decide)).mp zc2) (by omega) | exact zc10 ((nI_leI (b := 12) (by omega) (by decide)).mpr hk.2)) | (exfalso; simp_all; done)
  · intro zc2
    with_reducible first | have ze2 := Int32.not_lt.mp zc2 | have ze2 := zc2
    refine hB bX0_daysOf_5 _ _ _ _ _ _ _ kX0_daysOf_5 ?_
    dsimp only [bX0_daysOf_5, kx_wp, kx_step, kx_lI, kx_lL, kx_lA, kx_gl, kx_pI, kx_pL, kx_pR, kx_pA, kx_pV, kx_s1, kx_s2, kx_sl, kx_pre, kx_c2, kx_pl, kx_cmp, kx_oF, kx_eqN, kx_nil, kx_c1, kx_ft, kx_aI, kx_aL, kx_aR, kx_ln, Nat.reduceAdd, Option.toList, List.cons_append, List.nil_append]
    repeat (simp only [hM, pk_sub hk.1, show nI k - 1 = nI (k - 1) from pk_sub hk.1, nI_clamp (show k - 1 < 2 ^ 31 by omega), ks_eq, ks_ss]; try dsimp only [kx_wp, kx_step, kx_lI, kx_lL, kx_lA, kx_gl, kx_pI, kx_pL, kx_pR, kx_pA, kx_pV, kx_s1, kx_s2, kx_sl, kx_pre, kx_c2, kx_pl, kx_cmp, kx_oF, kx_eqN, kx_nil, kx_c1, kx_ft, kx_aI, kx_aL, kx_aR, kx_ln, Nat.reduceAdd, Option.toList, List.cons_append, List.nil_append])
    repeat' apply And.intro
    all_goals try (first | with_reducible assumption | (with_reducible refine ck_nzI ?_; simp; done) | (with_reducible refine ck_nzL ?_; simp; done) | (with_reducible refine vp_in_nI ?_ ?_ <;> first | omega | decide) | (with_reducible refine Nat.le_of_ble_eq_true ?_; rfl) | omega)
    · intro zc10
      with_reducible first | have ze10 := Int32.not_lt.mpr zc10 | have ze10 := zc10
      refine hB bX0_daysOf_16 _ _ _ _ _ _ _ kX0_daysOf_16 ?_
      dsimp only [bX0_daysOf_16, kx_wp, kx_step, kx_lI, kx_lL, kx_lA, kx_gl, kx_pI, kx_pL, kx_pR, kx_pA, kx_pV, kx_s1, kx_s2, kx_sl, kx_pre, kx_c2, kx_pl, kx_cmp, kx_oF, kx_eqN, kx_nil, kx_c1, kx_ft, kx_aI, kx_aL, kx_aR, kx_ln, Nat.reduceAdd, Option.toList, List.cons_append, List.nil_append]
      repeat (simp only [hM, pk_sub hk.1, show nI k - 1 = nI (k - 1) from pk_sub hk.1, nI_clamp (show k - 1 < 2 ^ 31 by omega), ks_eq, ks_ss]; try dsimp only [kx_wp, kx_step, kx_lI, kx_lL, kx_lA, kx_gl, kx_pI, kx_pL, kx_pR, kx_pA, kx_pV, kx_s1, kx_s2, kx_sl, kx_pre, kx_c2, kx_pl, kx_cmp, kx_oF, kx_eqN, kx_nil, kx_c1, kx_ft, kx_aI, kx_aL, kx_aR, kx_ln, Nat.reduceAdd, Option.toList, List.cons_append, List.nil_append])
      repeat' apply And.intro
      all_goals try (first | with_reducible assumption | (with_reducible refine ck_nzI ?_; simp; done) | (with_reducible refine ck_nzL ?_; simp; done) | (with_reducible refine vp_in_nI ?_ ?_ <;> first | omega | decide) | (with_reducible refine Nat.le_of_ble_eq_true ?_; rfl) | omega)
      · intro zc18
        have ze18 := zc18
        refine hB bX0_daysOf_30 _ _ _ _ _ _ _ kX0_daysOf_30 ?_
        dsimp only [bX0_daysOf_30, kx_wp, kx_step, kx_lI, kx_lL, kx_lA, kx_gl, kx_pI, kx_pL, kx_pR, kx_pA, kx_pV, kx_s1, kx_s2, kx_sl, kx_pre, kx_c2, kx_pl, kx_cmp, kx_oF, kx_eqN, kx_nil, kx_c1, kx_ft, kx_aI, kx_aL, kx_aR, kx_ln, Nat.reduceAdd, Option.toList, List.cons_append, List.nil_append]
        repeat (simp only [hM, pk_sub hk.1, show nI k - 1 = nI (k - 1) from pk_sub hk.1, nI_clamp (show k - 1 < 2 ^ 31 by omega), ks_eq, ks_ss]; try dsimp only [kx_wp, kx_step, kx_lI, kx_lL, kx_lA, kx_gl, kx_pI, kx_pL, kx_pR, kx_pA, kx_pV, kx_s1, kx_s2, kx_sl, kx_pre, kx_c2, kx_pl, kx_cmp, kx_oF, kx_eqN, kx_nil, kx_c1, kx_ft, kx_aI, kx_aL, kx_aR, kx_ln, Nat.reduceAdd, Option.toList, List.cons_append, List.nil_append])
        repeat' apply And.intro
        all_goals try (first | with_reducible assumption | (with_reducible refine ck_nzI ?_; simp; done) | (with_reducible refine ck_nzL ?_; simp; done) | (with_reducible refine vp_in_nI ?_ ?_ <;> first | omega | decide) | (with_reducible refine Nat.le_of_ble_eq_true ?_; rfl) | omega)
        refine hB bX0_daysOf_37 _ _ _ _ _ _ _ kX0_daysOf_37 ?_
        dsimp only [bX0_daysOf_37, kx_wp, kx_step, kx_lI, kx_lL, kx_lA, kx_gl, kx_pI, kx_pL, kx_pR, kx_pA, kx_pV, kx_s1, kx_s2, kx_sl, kx_pre, kx_c2, kx_pl, kx_cmp, kx_oF, kx_eqN, kx_nil, kx_c1, kx_ft, kx_aI, kx_aL, kx_aR, kx_ln, Nat.reduceAdd, Option.toList, List.cons_append, List.nil_append]
        repeat (simp only [hM, pk_sub hk.1, show nI k - 1 = nI (k - 1) from pk_sub hk.1, nI_clamp (show k - 1 < 2 ^ 31 by omega), ks_eq, ks_ss]; try dsimp only [kx_wp, kx_step, kx_lI, kx_lL, kx_lA, kx_gl, kx_pI, kx_pL, kx_pR, kx_pA, kx_pV, kx_s1, kx_s2, kx_sl, kx_pre, kx_c2, kx_pl, kx_cmp, kx_oF, kx_eqN, kx_nil, kx_c1, kx_ft, kx_aI, kx_aL, kx_aR, kx_ln, Nat.reduceAdd, Option.toList, List.cons_append, List.nil_append])
        all_goals (repeat' apply And.intro)
        all_goals ((try clear hB hC); first | exact True.intro | exact congrArg (fun z => some (Value.int z)) (cj_md_ok hk.1 hk.2 (fun e => zc18 (by subst e; rfl))) | exact congrArg (fun z => some (Value.int z)) (cj_md_2 hk.2 ze18 zc22) | (simp only [ck_last, ze18, zc22, ↓reduceIte]; done) | (rw [ze18]; simp [ck_last, zc22]; done))
      · intro zc18
        with_reducible first | have ze18 := Decidable.not_not.mp zc18 | have ze18 := zc18
        refine hB bX0_daysOf_21 _ _ _ _ _ _ _ kX0_daysOf_21 ?_
        dsimp only [bX0_daysOf_21, kx_wp, kx_step, kx_lI, kx_lL, kx_lA, kx_gl, kx_pI, kx_pL, kx_pR, kx_pA, kx_pV, kx_s1, kx_s2, kx_sl, kx_pre, kx_c2, kx_pl, kx_cmp, kx_oF, kx_eqN, kx_nil, kx_c1, kx_ft, kx_aI, kx_aL, kx_aR, kx_ln, Nat.reduceAdd, Option.toList, List.cons_append, List.nil_append]
        repeat (simp only [hM, pk_sub hk.1, show nI k - 1 = nI (k - 1) from pk_sub hk.1, nI_clamp (show k - 1 < 2 ^ 31 by omega), ks_eq, ks_ss]; try dsimp only [kx_wp, kx_step, kx_lI, kx_lL, kx_lA, kx_gl, kx_pI, kx_pL, kx_pR, kx_pA, kx_pV, kx_s1, kx_s2, kx_sl, kx_pre, kx_c2, kx_pl, kx_cmp, kx_oF, kx_eqN, kx_nil, kx_c1, kx_ft, kx_aI, kx_aL, kx_aR, kx_ln, Nat.reduceAdd, Option.toList, List.cons_append, List.nil_append])
        repeat' apply And.intro
        all_goals try (first | with_reducible assumption | (with_reducible refine ck_nzI ?_; simp; done) | (with_reducible refine ck_nzL ?_; simp; done) | (with_reducible refine vp_in_nI ?_ ?_ <;> first | omega | decide) | (with_reducible refine Nat.le_of_ble_eq_true ?_; rfl) | omega)
        · intro zc22
          have ze22 := zc22
          refine hB bX0_daysOf_30 _ _ _ _ _ _ _ kX0_daysOf_30 ?_
          dsimp only [bX0_daysOf_30, kx_wp, kx_step, kx_lI, kx_lL, kx_lA, kx_gl, kx_pI, kx_pL, kx_pR, kx_pA, kx_pV, kx_s1, kx_s2, kx_sl, kx_pre, kx_c2, kx_pl, kx_cmp, kx_oF, kx_eqN, kx_nil, kx_c1, kx_ft, kx_aI, kx_aL, kx_aR, kx_ln, Nat.reduceAdd, Option.toList, List.cons_append, List.nil_append]
          repeat (simp only [hM, pk_sub hk.1, show nI k - 1 = nI (k - 1) from pk_sub hk.1, nI_clamp (show k - 1 < 2 ^ 31 by omega), ks_eq, ks_ss]; try dsimp only [kx_wp, kx_step, kx_lI, kx_lL, kx_lA, kx_gl, kx_pI, kx_pL, kx_pR, kx_pA, kx_pV, kx_s1, kx_s2, kx_sl, kx_pre, kx_c2, kx_pl, kx_cmp, kx_oF, kx_eqN, kx_nil, kx_c1, kx_ft, kx_aI, kx_aL, kx_aR, kx_ln, Nat.reduceAdd, Option.toList, List.cons_append, List.nil_append])
          repeat' apply And.intro
          all_goals try (first | with_reducible assumption | (with_reducible refine ck_nzI ?_; simp; done) | (with_reducible refine ck_nzL ?_; simp; done) | (with_reducible refine vp_in_nI ?_ ?_ <;> first | omega | decide) | (with_reducible refine Nat.le_of_ble_eq_true ?_; rfl) | omega)
          refine hB bX0_daysOf_37 _ _ _ _ _ _ _ kX0_daysOf_37 ?_
          dsimp only [bX0_daysOf_37, kx_wp, kx_step, kx_lI, kx_lL, kx_lA, kx_gl, kx_pI, kx_pL, kx_pR, kx_pA, kx_pV, kx_s1, kx_s2, kx_sl, kx_pre, kx_c2, kx_pl, kx_cmp, kx_oF, kx_eqN, kx_nil, kx_c1, kx_ft, kx_aI, kx_aL, kx_aR, kx_ln, Nat.reduceAdd, Option.toList, List.cons_append, List.nil_append]
          repeat (simp only [hM, pk_sub hk.1, show nI k - 1 = nI (k - 1) from pk_sub hk.1, nI_clamp (show k - 1 < 2 ^ 31 by omega), ks_eq, ks_ss]; try dsimp only [kx_wp, kx_step, kx_lI, kx_lL, kx_lA, kx_gl, kx_pI, kx_pL, kx_pR, kx_pA, kx_pV, kx_s1, kx_s2, kx_sl, kx_pre, kx_c2, kx_pl, kx_cmp, kx_oF, kx_eqN, kx_nil, kx_c1, kx_ft, kx_aI, kx_aL, kx_aR, kx_ln, Nat.reduceAdd, Option.toList, List.cons_append, List.nil_append])
          all_goals (repeat' apply And.intro)
          all_goals ((try clear hB hC); first | exact True.intro | exact congrArg (fun z => some (Value.int z)) (cj_md_ok hk.1 hk.2 (fun e => zc18 (by subst e; rfl))) | exact congrArg (fun z => some (Value.int z)) (cj_md_2 hk.2 ze18 zc22) | (simp only [ck_last, ze18, zc22, ↓reduceIte]; done) | (rw [ze18]; simp [ck_last, zc22]; done))
        · intro zc22
          have ze22 := zc22
          refine hB bX0_daysOf_25 _ _ _ _ _ _ _ kX0_daysOf_25 ?_
          dsimp only [bX0_daysOf_25, kx_wp, kx_step, kx_lI, kx_lL, kx_lA, kx_gl, kx_pI, kx_pL, kx_pR, kx_pA, kx_pV, kx_s1, kx_s2, kx_sl, kx_pre, kx_c2, kx_pl, kx_cmp, kx_oF, kx_eqN, kx_nil, kx_c1, kx_ft, kx_aI, kx_aL, kx_aR, kx_ln, Nat.reduceAdd, Option.toList, List.cons_append, List.nil_append]
          repeat (simp only [hM, pk_sub hk.1, show nI k - 1 = nI (k - 1) from pk_sub hk.1, nI_clamp (show k - 1 < 2 ^ 31 by omega), ks_eq, ks_ss]; try dsimp only [kx_wp, kx_step, kx_lI, kx_lL, kx_lA, kx_gl, kx_pI, kx_pL, kx_pR, kx_pA, kx_pV, kx_s1, kx_s2, kx_sl, kx_pre, kx_c2, kx_pl, kx_cmp, kx_oF, kx_eqN, kx_nil, kx_c1, kx_ft, kx_aI, kx_aL, kx_aR, kx_ln, Nat.reduceAdd, Option.toList, List.cons_append, List.nil_append])
          repeat' apply And.intro
          all_goals try (first | with_reducible assumption | (with_reducible refine ck_nzI ?_; simp; done) | (with_reducible refine ck_nzL ?_; simp; done) | (with_reducible refine vp_in_nI ?_ ?_ <;> first | omega | decide) | (with_reducible refine Nat.le_of_ble_eq_true ?_; rfl) | omega)
          refine hB bX0_daysOf_37 _ _ _ _ _ _ _ kX0_daysOf_37 ?_
          dsimp only [bX0_daysOf_37, kx_wp, kx_step, kx_lI, kx_lL, kx_lA, kx_gl, kx_pI, kx_pL, kx_pR, kx_pA, kx_pV, kx_s1, kx_s2, kx_sl, kx_pre, kx_c2, kx_pl, kx_cmp, kx_oF, kx_eqN, kx_nil, kx_c1, kx_ft, kx_aI, kx_aL, kx_aR, kx_ln, Nat.reduceAdd, Option.toList, List.cons_append, List.nil_append]
          repeat (simp only [hM, pk_sub hk.1, show nI k - 1 = nI (k - 1) from pk_sub hk.1, nI_clamp (show k - 1 < 2 ^ 31 by omega), ks_eq, ks_ss]; try dsimp only [kx_wp, kx_step, kx_lI, kx_lL, kx_lA, kx_gl, kx_pI, kx_pL, kx_pR, kx_pA, kx_pV, kx_s1, kx_s2, kx_sl, kx_pre, kx_c2, kx_pl, kx_cmp, kx_oF, kx_eqN, kx_nil, kx_c1, kx_ft, kx_aI, kx_aL, kx_aR, kx_ln, Nat.reduceAdd, Option.toList, List.cons_append, List.nil_append])
          all_goals (repeat' apply And.intro)
          all_goals ((try clear hB hC); first | exact True.intro | exact congrArg (fun z => some (Value.int z)) (cj_md_ok hk.1 hk.2 (fun e => zc18 (by subst e; rfl))) | exact congrArg (fun z => some (Value.int z)) (cj_md_2 hk.2 ze18 zc22) | (simp only [ck_last, ze18, zc22, ↓reduceIte]; done) | (rw [ze18]; simp [ck_last, zc22]; done))
    · intro zc10
      first | exact absurd rfl zc10 | exact absurd zc10 (by decide) | exact absurd (by decide) zc10 | (exfalso; first | exact absurd ((nI_ltI (b := 1) (by omega) (by decide)).mp zc2) (by omega) | exact zc10 ((nI_leI (b := 12) (by omega) (by decide)).mpr hk.2)) | (exfalso; simp_all; done)

set_option maxRecDepth 100000 in
set_option maxHeartbeats 4000000 in
theorem ct_X0_daysOf_a (l : Launch) (G : kx_G) {P : kx_P} {sz : Nat} (hM : P 1 = kI 5 12 cj_md) {m lp : Int32} (hm : m < 1)  : kx_M l G sX0_daysOf 1 0 0 [.int (m), .int (lp)] P sz (some (.int (31))) P sz := by
  refine kx_mk kx_tab kxLok_X0 (ini := false) [some (.int (m)), some (.int (lp))] ⟨by decide, rfl, by decide, by decide⟩ (⟨_, rfl⟩) rfl rfl (fun g hB hC => ?_)
  refine hB bX0_daysOf_0 _ _ _ _ _ _ _ kX0_daysOf_0 ?_
  dsimp only [bX0_daysOf_0, kx_wp, kx_step, kx_lI, kx_lL, kx_lA, kx_gl, kx_pI, kx_pL, kx_pR, kx_pA, kx_pV, kx_s1, kx_s2, kx_sl, kx_pre, kx_c2, kx_pl, kx_cmp, kx_oF, kx_eqN, kx_nil, kx_c1, kx_ft, kx_aI, kx_aL, kx_aR, kx_ln, Nat.reduceAdd, Option.toList, List.cons_append, List.nil_append]
  repeat (simp only [hM, ks_eq, ks_ss]; try dsimp only [kx_wp, kx_step, kx_lI, kx_lL, kx_lA, kx_gl, kx_pI, kx_pL, kx_pR, kx_pA, kx_pV, kx_s1, kx_s2, kx_sl, kx_pre, kx_c2, kx_pl, kx_cmp, kx_oF, kx_eqN, kx_nil, kx_c1, kx_ft, kx_aI, kx_aL, kx_aR, kx_ln, Nat.reduceAdd, Option.toList, List.cons_append, List.nil_append])
  repeat' apply And.intro
  all_goals try (first | with_reducible assumption | (with_reducible refine ck_nzI ?_; simp; done) | (with_reducible refine ck_nzL ?_; simp; done) | (with_reducible refine vp_in_nI ?_ ?_ <;> first | omega | decide) | (with_reducible refine Nat.le_of_ble_eq_true ?_; rfl) | omega)
  · intro zc2
    with_reducible first | have ze2 := Int32.not_le.mpr zc2 | have ze2 := zc2
    refine hB bX0_daysOf_13 _ _ _ _ _ _ _ kX0_daysOf_13 ?_
    dsimp only [bX0_daysOf_13, kx_wp, kx_step, kx_lI, kx_lL, kx_lA, kx_gl, kx_pI, kx_pL, kx_pR, kx_pA, kx_pV, kx_s1, kx_s2, kx_sl, kx_pre, kx_c2, kx_pl, kx_cmp, kx_oF, kx_eqN, kx_nil, kx_c1, kx_ft, kx_aI, kx_aL, kx_aR, kx_ln, Nat.reduceAdd, Option.toList, List.cons_append, List.nil_append]
    repeat (simp only [hM, ks_eq, ks_ss]; try dsimp only [kx_wp, kx_step, kx_lI, kx_lL, kx_lA, kx_gl, kx_pI, kx_pL, kx_pR, kx_pA, kx_pV, kx_s1, kx_s2, kx_sl, kx_pre, kx_c2, kx_pl, kx_cmp, kx_oF, kx_eqN, kx_nil, kx_c1, kx_ft, kx_aI, kx_aL, kx_aR, kx_ln, Nat.reduceAdd, Option.toList, List.cons_append, List.nil_append])
    all_goals (repeat' apply And.intro)
    all_goals ((try clear hB hC); first | exact True.intro | with_reducible rfl | with_reducible assumption | (with_reducible refine vp_in_nI ?_ ?_ <;> first | omega | decide) | exact Nat.le_of_ble_eq_true rfl | (with_reducible refine ck_nzI ?_; simp; done) | (with_reducible refine ck_nzL ?_; simp; done) | (simp only [pk_us, pk_uLs, zc2, ze2, ↓reduceIte, not_true_eq_false, not_false_eq_true]; done) | (simp only [zc2, ze2, ↓reduceIte, not_true_eq_false, not_false_eq_true]; with_reducible rfl) | skip)
  · intro zc2
    first | exact absurd rfl zc2 | exact absurd zc2 (by decide) | exact absurd (by decide) zc2 | (exfalso; exact zc2 hm) | (exfalso; simp_all; done)

set_option maxRecDepth 100000 in
set_option maxHeartbeats 4000000 in
theorem ct_X0_daysOf_b (l : Launch) (G : kx_G) {P : kx_P} {sz : Nat} (hM : P 1 = kI 5 12 cj_md) {m lp : Int32} (hm : 12 < m)  : kx_M l G sX0_daysOf 1 0 0 [.int (m), .int (lp)] P sz (some (.int (31))) P sz := by
  refine kx_mk kx_tab kxLok_X0 (ini := false) [some (.int (m)), some (.int (lp))] ⟨by decide, rfl, by decide, by decide⟩ (⟨_, rfl⟩) rfl rfl (fun g hB hC => ?_)
  refine hB bX0_daysOf_0 _ _ _ _ _ _ _ kX0_daysOf_0 ?_
  dsimp only [bX0_daysOf_0, kx_wp, kx_step, kx_lI, kx_lL, kx_lA, kx_gl, kx_pI, kx_pL, kx_pR, kx_pA, kx_pV, kx_s1, kx_s2, kx_sl, kx_pre, kx_c2, kx_pl, kx_cmp, kx_oF, kx_eqN, kx_nil, kx_c1, kx_ft, kx_aI, kx_aL, kx_aR, kx_ln, Nat.reduceAdd, Option.toList, List.cons_append, List.nil_append]
  repeat (simp only [hM, ks_eq, ks_ss]; try dsimp only [kx_wp, kx_step, kx_lI, kx_lL, kx_lA, kx_gl, kx_pI, kx_pL, kx_pR, kx_pA, kx_pV, kx_s1, kx_s2, kx_sl, kx_pre, kx_c2, kx_pl, kx_cmp, kx_oF, kx_eqN, kx_nil, kx_c1, kx_ft, kx_aI, kx_aL, kx_aR, kx_ln, Nat.reduceAdd, Option.toList, List.cons_append, List.nil_append])
  repeat' apply And.intro
  all_goals try (first | with_reducible assumption | (with_reducible refine ck_nzI ?_; simp; done) | (with_reducible refine ck_nzL ?_; simp; done) | (with_reducible refine vp_in_nI ?_ ?_ <;> first | omega | decide) | (with_reducible refine Nat.le_of_ble_eq_true ?_; rfl) | omega)
  · intro zc2
    with_reducible first | have ze2 := Int32.not_le.mpr zc2 | have ze2 := zc2
    refine hB bX0_daysOf_13 _ _ _ _ _ _ _ kX0_daysOf_13 ?_
    dsimp only [bX0_daysOf_13, kx_wp, kx_step, kx_lI, kx_lL, kx_lA, kx_gl, kx_pI, kx_pL, kx_pR, kx_pA, kx_pV, kx_s1, kx_s2, kx_sl, kx_pre, kx_c2, kx_pl, kx_cmp, kx_oF, kx_eqN, kx_nil, kx_c1, kx_ft, kx_aI, kx_aL, kx_aR, kx_ln, Nat.reduceAdd, Option.toList, List.cons_append, List.nil_append]
    repeat (simp only [hM, ks_eq, ks_ss]; try dsimp only [kx_wp, kx_step, kx_lI, kx_lL, kx_lA, kx_gl, kx_pI, kx_pL, kx_pR, kx_pA, kx_pV, kx_s1, kx_s2, kx_sl, kx_pre, kx_c2, kx_pl, kx_cmp, kx_oF, kx_eqN, kx_nil, kx_c1, kx_ft, kx_aI, kx_aL, kx_aR, kx_ln, Nat.reduceAdd, Option.toList, List.cons_append, List.nil_append])
    all_goals (repeat' apply And.intro)
    all_goals ((try clear hB hC); first | exact True.intro | with_reducible rfl | with_reducible assumption | (with_reducible refine vp_in_nI ?_ ?_ <;> first | omega | decide) | exact Nat.le_of_ble_eq_true rfl | (with_reducible refine ck_nzI ?_; simp; done) | (with_reducible refine ck_nzL ?_; simp; done) | (simp only [pk_us, pk_uLs, zc2, ze2, ↓reduceIte, not_true_eq_false, not_false_eq_true]; done) | (simp only [zc2, ze2, ↓reduceIte, not_true_eq_false, not_false_eq_true]; with_reducible rfl) | skip)
  · intro zc2
    with_reducible first | have ze2 := Int32.not_lt.mp zc2 | have ze2 := zc2
    refine hB bX0_daysOf_5 _ _ _ _ _ _ _ kX0_daysOf_5 ?_
    dsimp only [bX0_daysOf_5, kx_wp, kx_step, kx_lI, kx_lL, kx_lA, kx_gl, kx_pI, kx_pL, kx_pR, kx_pA, kx_pV, kx_s1, kx_s2, kx_sl, kx_pre, kx_c2, kx_pl, kx_cmp, kx_oF, kx_eqN, kx_nil, kx_c1, kx_ft, kx_aI, kx_aL, kx_aR, kx_ln, Nat.reduceAdd, Option.toList, List.cons_append, List.nil_append]
    repeat (simp only [hM, ks_eq, ks_ss]; try dsimp only [kx_wp, kx_step, kx_lI, kx_lL, kx_lA, kx_gl, kx_pI, kx_pL, kx_pR, kx_pA, kx_pV, kx_s1, kx_s2, kx_sl, kx_pre, kx_c2, kx_pl, kx_cmp, kx_oF, kx_eqN, kx_nil, kx_c1, kx_ft, kx_aI, kx_aL, kx_aR, kx_ln, Nat.reduceAdd, Option.toList, List.cons_append, List.nil_append])
    repeat' apply And.intro
    all_goals try (first | with_reducible assumption | (with_reducible refine ck_nzI ?_; simp; done) | (with_reducible refine ck_nzL ?_; simp; done) | (with_reducible refine vp_in_nI ?_ ?_ <;> first | omega | decide) | (with_reducible refine Nat.le_of_ble_eq_true ?_; rfl) | omega)
    · intro zc10
      first | exact absurd rfl zc10 | exact absurd zc10 (by decide) | exact absurd (by decide) zc10 | (exfalso; exact absurd hm (Int32.not_lt.mpr zc10)) | (exfalso; simp_all; done)
    · intro zc10
      with_reducible first | have ze10 := Int32.not_le.mp zc10 | have ze10 := zc10
      refine hB bX0_daysOf_13 _ _ _ _ _ _ _ kX0_daysOf_13 ?_
      dsimp only [bX0_daysOf_13, kx_wp, kx_step, kx_lI, kx_lL, kx_lA, kx_gl, kx_pI, kx_pL, kx_pR, kx_pA, kx_pV, kx_s1, kx_s2, kx_sl, kx_pre, kx_c2, kx_pl, kx_cmp, kx_oF, kx_eqN, kx_nil, kx_c1, kx_ft, kx_aI, kx_aL, kx_aR, kx_ln, Nat.reduceAdd, Option.toList, List.cons_append, List.nil_append]
      repeat (simp only [hM, ks_eq, ks_ss]; try dsimp only [kx_wp, kx_step, kx_lI, kx_lL, kx_lA, kx_gl, kx_pI, kx_pL, kx_pR, kx_pA, kx_pV, kx_s1, kx_s2, kx_sl, kx_pre, kx_c2, kx_pl, kx_cmp, kx_oF, kx_eqN, kx_nil, kx_c1, kx_ft, kx_aI, kx_aL, kx_aR, kx_ln, Nat.reduceAdd, Option.toList, List.cons_append, List.nil_append])
      all_goals (repeat' apply And.intro)
      all_goals ((try clear hB hC); first | exact True.intro | with_reducible rfl | with_reducible assumption | (with_reducible refine vp_in_nI ?_ ?_ <;> first | omega | decide) | exact Nat.le_of_ble_eq_true rfl | (with_reducible refine ck_nzI ?_; simp; done) | (with_reducible refine ck_nzL ?_; simp; done) | (simp only [pk_us, pk_uLs, zc2, ze2, zc10, ze10, ↓reduceIte, not_true_eq_false, not_false_eq_true]; done) | (simp only [zc2, ze2, zc10, ze10, ↓reduceIte, not_true_eq_false, not_false_eq_true]; with_reducible rfl) | skip)

theorem ct_X0_daysOf (l : Launch) (G : kx_G) {P : kx_P} {sz : Nat} (hM : P 1 = kI 5 12 cj_md) {m lp : Int32} : kx_M l G sX0_daysOf 1 0 0 [.int m, .int lp] P sz (some (.int (ck_last m lp))) P sz := by
  by_cases h1 : m < 1
  · rw [cj_ml_o (Or.inl h1)]; exact ct_X0_daysOf_a l G hM h1
  · by_cases h2 : 12 < m
    · rw [cj_ml_o (Or.inr h2)]; exact ct_X0_daysOf_b l G hM h2
    · obtain ⟨k, h3, rfl⟩ := nI_of2 (M := 12) (n := 12) (x := m) rfl (fun h => h1 (Int32.lt_of_lt_of_le h (by decide))) (Int32.not_lt.mp h2)
      exact ct_X0_daysOf_t l G hM ⟨Nat.not_lt.mp fun h => h1 ((nI_ltI (b := 1) (by omega) (by omega)).mpr h), h3⟩

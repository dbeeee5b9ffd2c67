/-- a clock goes on at time t, last wound at la (0: never) -/
def ck_ok (lf run la t : Nat) : Bool := if la = 0 then decide (1440 * t < lf) else decide (1440 * (t - la + 1) < 1440 * run)
def ck_ag (lf run : Nat → Nat) (s t : Nat) : Nat → Nat → Bool
  | 0, _ => true
  | n + 1, i => ck_ok (lf i) (run i) (s / 11 ^ i % 11) t && ck_ag lf run s t n (i + 1)
def ck_wd (s w t : Nat) : Nat → Nat
  | 0 => s
  | i + 1 => if w / 2 ^ i % 2 = 1 then ck_wd s w t i + (t + 1 - s / 11 ^ i % 11) * 11 ^ i else ck_wd s w t i
def ck_co (A : Nat → Nat → Int32) (w : Nat) : Nat → Int32
  | 0 => 0
  | i + 1 => ck_co A w i ||| (if w / 2 ^ i % 2 = 1 then 1 <<< (A 128 i &&& 31) else 0)
theorem ck_co_s (A : Nat → Nat → Int32) (w i : Nat) : ck_co A w i ||| (if w / 2 ^ i % 2 = 1 then 1 <<< (A 128 i &&& 31) else 0) = ck_co A w (i + 1) := rfl
/-- what is planned stands in the model -/
def ck_pl (A : Nat → Nat → Int32) (pk : Nat) (lf run : Nat → Nat) : Prop := ∀ i, i < pk → ∃ p : Nat, p < 8 ∧ A 128 i = nI p ∧ A 108 p = nI (lf i) ∧ lf i ≤ 44640 ∧ A 102 (16 * p + 0) = nI (run i) ∧ run i ≤ 31

def bX11_lastOf_0 : List kx_O := [(.iload_n 0, 0, 0, 0, .null), (.iload_n 1, 1, 0, 0, .null), (.ifCond .ne 7, 9, 0, 0, .null)]
theorem kX11_lastOf_0 : kx_oks kxL_X11 false cX11_lastOf 0 bX11_lastOf_0 = true := by decide +kernel
def bX11_lastOf_5 : List kx_O := [(.iconst 1, 0, 0, 0, .int 1), (.goto 26, 32, 0, 0, .null)]
theorem kX11_lastOf_5 : kx_oks kxL_X11 false cX11_lastOf 5 bX11_lastOf_5 = true := by decide +kernel
def bX11_lastOf_9 : List kx_O := [(.iload_n 1, 1, 0, 0, .null), (.iconst 1, 0, 0, 0, .int 1), (.if_icmp .ne 8, 19, 0, 0, .null)]
theorem kX11_lastOf_9 : kx_oks kxL_X11 false cX11_lastOf 9 bX11_lastOf_9 = true := by decide +kernel
def bX11_lastOf_14 : List kx_O := [(.bipush 11, 0, 0, 0, .int 11), (.goto 16, 32, 0, 0, .null)]
theorem kX11_lastOf_14 : kx_oks kxL_X11 false cX11_lastOf 14 bX11_lastOf_14 = true := by decide +kernel
def bX11_lastOf_19 : List kx_O := [(.iload_n 1, 1, 0, 0, .null), (.iconst 2, 0, 0, 0, .int 2), (.if_icmp .ne 8, 29, 0, 0, .null)]
theorem kX11_lastOf_19 : kx_oks kxL_X11 false cX11_lastOf 19 bX11_lastOf_19 = true := by decide +kernel
def bX11_lastOf_24 : List kx_O := [(.bipush 121, 0, 0, 0, .int 121), (.goto 6, 32, 0, 0, .null)]
theorem kX11_lastOf_24 : kx_oks kxL_X11 false cX11_lastOf 24 bX11_lastOf_24 = true := by decide +kernel
def bX11_lastOf_29 : List kx_O := [(.sipush 1331, 0, 0, 0, .int 1331)]
theorem kX11_lastOf_29 : kx_oks kxL_X11 false cX11_lastOf 29 bX11_lastOf_29 = true := by decide +kernel
def bX11_lastOf_32 : List kx_O := [(.idiv, 0, 0, 0, .null), (.bipush 11, 0, 0, 0, .int 11), (.irem, 0, 0, 0, .null), (.ireturn, 0, 0, 0, .null)]
theorem kX11_lastOf_32 : kx_oks kxL_X11 false cX11_lastOf 32 bX11_lastOf_32 = true := by decide +kernel
set_option maxRecDepth 100000 in
set_option maxHeartbeats 4000000 in
theorem ct_X11_lastOf_0 (l : Launch) (G : kx_G) {M : Nat → Int32} {A : Nat → Nat → Int32} {L : Nat → Nat → Int64} {R : kx_P} {sz : Nat} {s : Nat} (hs : s < 2 ^ 30)  : kx_M l G sX11_lastOf 1 0 0 [.int (nI s), .int (0)] (mW M A L R) sz (some (.int (nI (s / 1 % 11)))) (mW M A L R) sz := by
  have z1 : nI s / 1 = nI (s / 1) := pk_div (d := 1) (by omega) (by decide) (by decide)
  have z2 : nI (s / 1) - nI (s / 1) / 11 * 11 = nI (s / 1 % 11) := pk_rem (d := 11) (by omega) (by decide) (by decide)
  refine kx_mk kx_tab kxLok_X11 (ini := false) [some (.int (nI s)), some (.int (0))] ⟨by decide, rfl, by decide, by decide⟩ (⟨_, rfl⟩) rfl rfl (fun g hB hC => ?_)
  refine hB bX11_lastOf_0 _ _ _ _ _ _ _ kX11_lastOf_0 ?_
  dsimp only [bX11_lastOf_0, kx_wp, kx_step, kx_lI, kx_lL, kx_lA, kx_gl, kx_pI, kx_pL, kx_pR, kx_pA, kx_pV, kx_s1, kx_s2, kx_sl, kx_pre, kx_c2, kx_pl, kx_cmp, kx_oF, kx_eqN, kx_nil, kx_c1, kx_ft, kx_aI, kx_aL, kx_aR, kx_ln, Nat.reduceAdd, Option.toList, List.cons_append, List.nil_append, mW_o]
  repeat (simp only [z1, z2]; try dsimp only [kx_wp, kx_step, kx_lI, kx_lL, kx_lA, kx_gl, kx_pI, kx_pL, kx_pR, kx_pA, kx_pV, kx_s1, kx_s2, kx_sl, kx_pre, kx_c2, kx_pl, kx_cmp, kx_oF, kx_eqN, kx_nil, kx_c1, kx_ft, kx_aI, kx_aL, kx_aR, kx_ln, Nat.reduceAdd, Option.toList, List.cons_append, List.nil_append, mW_o])
  repeat' apply And.intro
  all_goals try (first | with_reducible assumption | (with_reducible refine ck_nzI ?_; simp; done) | (with_reducible refine ck_nzL ?_; simp; done) | (with_reducible refine vp_in_nI ?_ ?_ <;> first | omega | decide) | (with_reducible refine Nat.le_of_ble_eq_true ?_; rfl) | omega)
  · intro zc2
    first | exact absurd rfl zc2 | exact absurd zc2 (by decide) | exact absurd (by decide) zc2 | (exfalso; first | exact absurd rfl zc2 | exact zc2 (by decide) | exact zc11 (by decide) | exact zc21 (by decide) | exact absurd zc2 (by decide) | exact absurd zc11 (by decide) | exact absurd zc21 (by decide)) | (exfalso; simp_all; done)
  · intro zc2
    with_reducible first | have ze2 := Decidable.not_not.mp zc2 | have ze2 := zc2
    refine hB bX11_lastOf_5 _ _ _ _ _ _ _ kX11_lastOf_5 ?_
    dsimp only [bX11_lastOf_5, kx_wp, kx_step, kx_lI, kx_lL, kx_lA, kx_gl, kx_pI, kx_pL, kx_pR, kx_pA, kx_pV, kx_s1, kx_s2, kx_sl, kx_pre, kx_c2, kx_pl, kx_cmp, kx_oF, kx_eqN, kx_nil, kx_c1, kx_ft, kx_aI, kx_aL, kx_aR, kx_ln, Nat.reduceAdd, Option.toList, List.cons_append, List.nil_append, mW_o]
    repeat (simp only [z1, z2]; try dsimp only [kx_wp, kx_step, kx_lI, kx_lL, kx_lA, kx_gl, kx_pI, kx_pL, kx_pR, kx_pA, kx_pV, kx_s1, kx_s2, kx_sl, kx_pre, kx_c2, kx_pl, kx_cmp, kx_oF, kx_eqN, kx_nil, kx_c1, kx_ft, kx_aI, kx_aL, kx_aR, kx_ln, Nat.reduceAdd, Option.toList, List.cons_append, List.nil_append, mW_o])
    repeat' apply And.intro
    all_goals try (first | with_reducible assumption | (with_reducible refine ck_nzI ?_; simp; done) | (with_reducible refine ck_nzL ?_; simp; done) | (with_reducible refine vp_in_nI ?_ ?_ <;> first | omega | decide) | (with_reducible refine Nat.le_of_ble_eq_true ?_; rfl) | omega)
    refine hB bX11_lastOf_32 _ _ _ _ _ _ _ kX11_lastOf_32 ?_
    dsimp only [bX11_lastOf_32, kx_wp, kx_step, kx_lI, kx_lL, kx_lA, kx_gl, kx_pI, kx_pL, kx_pR, kx_pA, kx_pV, kx_s1, kx_s2, kx_sl, kx_pre, kx_c2, kx_pl, kx_cmp, kx_oF, kx_eqN, kx_nil, kx_c1, kx_ft, kx_aI, kx_aL, kx_aR, kx_ln, Nat.reduceAdd, Option.toList, List.cons_append, List.nil_append, mW_o]
    repeat (simp only [z1, z2]; try dsimp only [kx_wp, kx_step, kx_lI, kx_lL, kx_lA, kx_gl, kx_pI, kx_pL, kx_pR, kx_pA, kx_pV, kx_s1, kx_s2, kx_sl, kx_pre, kx_c2, kx_pl, kx_cmp, kx_oF, kx_eqN, kx_nil, kx_c1, kx_ft, kx_aI, kx_aL, kx_aR, kx_ln, Nat.reduceAdd, Option.toList, List.cons_append, List.nil_append, mW_o])
    all_goals (repeat' apply And.intro)
    all_goals ((try clear hB hC); first | exact True.intro | with_reducible rfl | with_reducible assumption | (with_reducible refine vp_in_nI ?_ ?_ <;> first | omega | decide) | exact Nat.le_of_ble_eq_true rfl | (with_reducible refine ck_nzI ?_; simp; done) | (with_reducible refine ck_nzL ?_; simp; done) | (simp only [pk_us, pk_uLs, eq_true ze2, ↓reduceIte, not_true_eq_false, not_false_eq_true]; done) | (simp only [eq_true ze2, ↓reduceIte, not_true_eq_false, not_false_eq_true]; with_reducible rfl) | skip)

set_option maxRecDepth 100000 in
set_option maxHeartbeats 4000000 in
theorem ct_X11_lastOf_1 (l : Launch) (G : kx_G) {M : Nat → Int32} {A : Nat → Nat → Int32} {L : Nat → Nat → Int64} {R : kx_P} {sz : Nat} {s : Nat} (hs : s < 2 ^ 30)  : kx_M l G sX11_lastOf 1 0 0 [.int (nI s), .int (1)] (mW M A L R) sz (some (.int (nI (s / 11 % 11)))) (mW M A L R) sz := by
  have z1 : nI s / 11 = nI (s / 11) := pk_div (d := 11) (by omega) (by decide) (by decide)
  have z2 : nI (s / 11) - nI (s / 11) / 11 * 11 = nI (s / 11 % 11) := pk_rem (d := 11) (by omega) (by decide) (by decide)
  refine kx_mk kx_tab kxLok_X11 (ini := false) [some (.int (nI s)), some (.int (1))] ⟨by decide, rfl, by decide, by decide⟩ (⟨_, rfl⟩) rfl rfl (fun g hB hC => ?_)
  refine hB bX11_lastOf_0 _ _ _ _ _ _ _ kX11_lastOf_0 ?_
  dsimp only [bX11_lastOf_0, kx_wp, kx_step, kx_lI, kx_lL, kx_lA, kx_gl, kx_pI, kx_pL, kx_pR, kx_pA, kx_pV, kx_s1, kx_s2, kx_sl, kx_pre, kx_c2, kx_pl, kx_cmp, kx_oF, kx_eqN, kx_nil, kx_c1, kx_ft, kx_aI, kx_aL, kx_aR, kx_ln, Nat.reduceAdd, Option.toList, List.cons_append, List.nil_append, mW_o]
  repeat (simp only [z1, z2]; try dsimp only [kx_wp, kx_step, kx_lI, kx_lL, kx_lA, kx_gl, kx_pI, kx_pL, kx_pR, kx_pA, kx_pV, kx_s1, kx_s2, kx_sl, kx_pre, kx_c2, kx_pl, kx_cmp, kx_oF, kx_eqN, kx_nil, kx_c1, kx_ft, kx_aI, kx_aL, kx_aR, kx_ln, Nat.reduceAdd, Option.toList, List.cons_append, List.nil_append, mW_o])
  repeat' apply And.intro
  all_goals try (first | with_reducible assumption | (with_reducible refine ck_nzI ?_; simp; done) | (with_reducible refine ck_nzL ?_; simp; done) | (with_reducible refine vp_in_nI ?_ ?_ <;> first | omega | decide) | (with_reducible refine Nat.le_of_ble_eq_true ?_; rfl) | omega)
  · intro zc2
    have ze2 := zc2
    refine hB bX11_lastOf_9 _ _ _ _ _ _ _ kX11_lastOf_9 ?_
    dsimp only [bX11_lastOf_9, kx_wp, kx_step, kx_lI, kx_lL, kx_lA, kx_gl, kx_pI, kx_pL, kx_pR, kx_pA, kx_pV, kx_s1, kx_s2, kx_sl, kx_pre, kx_c2, kx_pl, kx_cmp, kx_oF, kx_eqN, kx_nil, kx_c1, kx_ft, kx_aI, kx_aL, kx_aR, kx_ln, Nat.reduceAdd, Option.toList, List.cons_append, List.nil_append, mW_o]
    repeat (simp only [z1, z2]; try dsimp only [kx_wp, kx_step, kx_lI, kx_lL, kx_lA, kx_gl, kx_pI, kx_pL, kx_pR, kx_pA, kx_pV, kx_s1, kx_s2, kx_sl, kx_pre, kx_c2, kx_pl, kx_cmp, kx_oF, kx_eqN, kx_nil, kx_c1, kx_ft, kx_aI, kx_aL, kx_aR, kx_ln, Nat.reduceAdd, Option.toList, List.cons_append, List.nil_append, mW_o])
    repeat' apply And.intro
    all_goals try (first | with_reducible assumption | (with_reducible refine ck_nzI ?_; simp; done) | (with_reducible refine ck_nzL ?_; simp; done) | (with_reducible refine vp_in_nI ?_ ?_ <;> first | omega | decide) | (with_reducible refine Nat.le_of_ble_eq_true ?_; rfl) | omega)
    · intro zc11
      first | exact absurd rfl zc11 | exact absurd zc11 (by decide) | exact absurd (by decide) zc11 | (exfalso; first | exact absurd rfl zc2 | exact zc2 (by decide) | exact zc11 (by decide) | exact zc21 (by decide) | exact absurd zc2 (by decide) | exact absurd zc11 (by decide) | exact absurd zc21 (by decide)) | (exfalso; simp_all; done)
    · intro zc11
      with_reducible first | have ze11 := Decidable.not_not.mp zc11 | have ze11 := zc11
      refine hB bX11_lastOf_14 _ _ _ _ _ _ _ kX11_lastOf_14 ?_
      dsimp only [bX11_lastOf_14, kx_wp, kx_step, kx_lI, kx_lL, kx_lA, kx_gl, kx_pI, kx_pL, kx_pR, kx_pA, kx_pV, kx_s1, kx_s2, kx_sl, kx_pre, kx_c2, kx_pl, kx_cmp, kx_oF, kx_eqN, kx_nil, kx_c1, kx_ft, kx_aI, kx_aL, kx_aR, kx_ln, Nat.reduceAdd, Option.toList, List.cons_append, List.nil_append, mW_o]
      repeat (simp only [z1, z2]; try dsimp only [kx_wp, kx_step, kx_lI, kx_lL, kx_lA, kx_gl, kx_pI, kx_pL, kx_pR, kx_pA, kx_pV, kx_s1, kx_s2, kx_sl, kx_pre, kx_c2, kx_pl, kx_cmp, kx_oF, kx_eqN, kx_nil, kx_c1, kx_ft, kx_aI, kx_aL, kx_aR, kx_ln, Nat.reduceAdd, Option.toList, List.cons_append, List.nil_append, mW_o])
      repeat' apply And.intro
      all_goals try (first | with_reducible assumption | (with_reducible refine ck_nzI ?_; simp; done) | (with_reducible refine ck_nzL ?_; simp; done) | (with_reducible refine vp_in_nI ?_ ?_ <;> first | omega | decide) | (with_reducible refine Nat.le_of_ble_eq_true ?_; rfl) | omega)
      refine hB bX11_lastOf_32 _ _ _ _ _ _ _ kX11_lastOf_32 ?_
      dsimp only [bX11_lastOf_32, kx_wp, kx_step, kx_lI, kx_lL, kx_lA, kx_gl, kx_pI, kx_pL, kx_pR, kx_pA, kx_pV, kx_s1, kx_s2, kx_sl, kx_pre, kx_c2, kx_pl, kx_cmp, kx_oF, kx_eqN, kx_nil, kx_c1, kx_ft, kx_aI, kx_aL, kx_aR, kx_ln, Nat.reduceAdd, Option.toList, List.cons_append, List.nil_append, mW_o]
      repeat (simp only [z1, z2]; try dsimp only [kx_wp, kx_step, kx_lI, kx_lL, kx_lA, kx_gl, kx_pI, kx_pL, kx_pR, kx_pA, kx_pV, kx_s1, kx_s2, kx_sl, kx_pre, kx_c2, kx_pl, kx_cmp, kx_oF, kx_eqN, kx_nil, kx_c1, kx_ft, kx_aI, kx_aL, kx_aR, kx_ln, Nat.reduceAdd, Option.toList, List.cons_append, List.nil_append, mW_o])
      all_goals (repeat' apply And.intro)
      all_goals ((try clear hB hC); first | exact True.intro | with_reducible rfl | with_reducible assumption | (with_reducible refine vp_in_nI ?_ ?_ <;> first | omega | decide) | exact Nat.le_of_ble_eq_true rfl | (with_reducible refine ck_nzI ?_; simp; done) | (with_reducible refine ck_nzL ?_; simp; done) | (simp only [pk_us, pk_uLs, ze2, eq_true ze11, ↓reduceIte, not_true_eq_false, not_false_eq_true]; done) | (simp only [ze2, eq_true ze11, ↓reduceIte, not_true_eq_false, not_false_eq_true]; with_reducible rfl) | skip)
  · intro zc2
    first | exact absurd rfl zc2 | exact absurd zc2 (by decide) | exact absurd (by decide) zc2 | (exfalso; first | exact absurd rfl zc2 | exact zc2 (by decide) | exact zc11 (by decide) | exact zc21 (by decide) | exact absurd zc2 (by decide) | exact absurd zc11 (by decide) | exact absurd zc21 (by decide)) | (exfalso; simp_all; done)

set_option maxRecDepth 100000 in
set_option maxHeartbeats 4000000 in
theorem ct_X11_lastOf_2 (l : Launch) (G : kx_G) {M : Nat → Int32} {A : Nat → Nat → Int32} {L : Nat → Nat → Int64} {R : kx_P} {sz : Nat} {s : Nat} (hs : s < 2 ^ 30)  : kx_M l G sX11_lastOf 1 0 0 [.int (nI s), .int (2)] (mW M A L R) sz (some (.int (nI (s / 121 % 11)))) (mW M A L R) sz := by
  have z1 : nI s / 121 = nI (s / 121) := pk_div (d := 121) (by omega) (by decide) (by decide)
  have z2 : nI (s / 121) - nI (s / 121) / 11 * 11 = nI (s / 121 % 11) := pk_rem (d := 11) (by omega) (by decide) (by decide)
  refine kx_mk kx_tab kxLok_X11 (ini := false) [some (.int (nI s)), some (.int (2))] ⟨by decide, rfl, by decide, by decide⟩ (⟨_, rfl⟩) rfl rfl (fun g hB hC => ?_)
  refine hB bX11_lastOf_0 _ _ _ _ _ _ _ kX11_lastOf_0 ?_
  dsimp only [bX11_lastOf_0, kx_wp, kx_step, kx_lI, kx_lL, kx_lA, kx_gl, kx_pI, kx_pL, kx_pR, kx_pA, kx_pV, kx_s1, kx_s2, kx_sl, kx_pre, kx_c2, kx_pl, kx_cmp, kx_oF, kx_eqN, kx_nil, kx_c1, kx_ft, kx_aI, kx_aL, kx_aR, kx_ln, Nat.reduceAdd, Option.toList, List.cons_append, List.nil_append, mW_o]
  repeat (simp only [z1, z2]; try dsimp only [kx_wp, kx_step, kx_lI, kx_lL, kx_lA, kx_gl, kx_pI, kx_pL, kx_pR, kx_pA, kx_pV, kx_s1, kx_s2, kx_sl, kx_pre, kx_c2, kx_pl, kx_cmp, kx_oF, kx_eqN, kx_nil, kx_c1, kx_ft, kx_aI, kx_aL, kx_aR, kx_ln, Nat.reduceAdd, Option.toList, List.cons_append, List.nil_append, mW_o])
  repeat' apply And.intro
  all_goals try (first | with_reducible assumption | (with_reducible refine ck_nzI ?_; simp; done) | (with_reducible refine ck_nzL ?_; simp; done) | (with_reducible refine vp_in_nI ?_ ?_ <;> first | omega | decide) | (with_reducible refine Nat.le_of_ble_eq_true ?_; rfl) | omega)
  · intro zc2
    have ze2 := zc2
    refine hB bX11_lastOf_9 _ _ _ _ _ _ _ kX11_lastOf_9 ?_
    dsimp only [bX11_lastOf_9, kx_wp, kx_step, kx_lI, kx_lL, kx_lA, kx_gl, kx_pI, kx_pL, kx_pR, kx_pA, kx_pV, kx_s1, kx_s2, kx_sl, kx_pre, kx_c2, kx_pl, kx_cmp, kx_oF, kx_eqN, kx_nil, kx_c1, kx_ft, kx_aI, kx_aL, kx_aR, kx_ln, Nat.reduceAdd, Option.toList, List.cons_append, List.nil_append, mW_o]
    repeat (simp only [z1, z2]; try dsimp only [kx_wp, kx_step, kx_lI, kx_lL, kx_lA, kx_gl, kx_pI, kx_pL, kx_pR, kx_pA, kx_pV, kx_s1, kx_s2, kx_sl, kx_pre, kx_c2, kx_pl, kx_cmp, kx_oF, kx_eqN, kx_nil, kx_c1, kx_ft, kx_aI, kx_aL, kx_aR, kx_ln, Nat.reduceAdd, Option.toList, List.cons_append, List.nil_append, mW_o])
    repeat' apply And.intro
    all_goals try (first | with_reducible assumption | (with_reducible refine ck_nzI ?_; simp; done) | (with_reducible refine ck_nzL ?_; simp; done) | (with_reducible refine vp_in_nI ?_ ?_ <;> first | omega | decide) | (with_reducible refine Nat.le_of_ble_eq_true ?_; rfl) | omega)
    · intro zc11
      have ze11 := zc11
      refine hB bX11_lastOf_19 _ _ _ _ _ _ _ kX11_lastOf_19 ?_
      dsimp only [bX11_lastOf_19, kx_wp, kx_step, kx_lI, kx_lL, kx_lA, kx_gl, kx_pI, kx_pL, kx_pR, kx_pA, kx_pV, kx_s1, kx_s2, kx_sl, kx_pre, kx_c2, kx_pl, kx_cmp, kx_oF, kx_eqN, kx_nil, kx_c1, kx_ft, kx_aI, kx_aL, kx_aR, kx_ln, Nat.reduceAdd, Option.toList, List.cons_append, List.nil_append, mW_o]
      repeat (simp only [z1, z2]; try dsimp only [kx_wp, kx_step, kx_lI, kx_lL, kx_lA, kx_gl, kx_pI, kx_pL, kx_pR, kx_pA, kx_pV, kx_s1, kx_s2, kx_sl, kx_pre, kx_c2, kx_pl, kx_cmp, kx_oF, kx_eqN, kx_nil, kx_c1, kx_ft, kx_aI, kx_aL, kx_aR, kx_ln, Nat.reduceAdd, Option.toList, List.cons_append, List.nil_append, mW_o])
      repeat' apply And.intro
      all_goals try (first | with_reducible assumption | (with_reducible refine ck_nzI ?_; simp; done) | (with_reducible refine ck_nzL ?_; simp; done) | (with_reducible refine vp_in_nI ?_ ?_ <;> first | omega | decide) | (with_reducible refine Nat.le_of_ble_eq_true ?_; rfl) | omega)
      · intro zc21
        first | exact absurd rfl zc21 | exact absurd zc21 (by decide) | exact absurd (by decide) zc21 | (exfalso; first | exact absurd rfl zc2 | exact zc2 (by decide) | exact zc11 (by decide) | exact zc21 (by decide) | exact absurd zc2 (by decide) | exact absurd zc11 (by decide) | exact absurd zc21 (by decide)) | (exfalso; simp_all; done)
      · intro zc21
        with_reducible first | have ze21 := Decidable.not_not.mp zc21 | have ze21 := zc21
        refine hB bX11_lastOf_24 _ _ _ _ _ _ _ kX11_lastOf_24 ?_
        dsimp only [bX11_lastOf_24, kx_wp, kx_step, kx_lI, kx_lL, kx_lA, kx_gl, kx_pI, kx_pL, kx_pR, kx_pA, kx_pV, kx_s1, kx_s2, kx_sl, kx_pre, kx_c2, kx_pl, kx_cmp, kx_oF, kx_eqN, kx_nil, kx_c1, kx_ft, kx_aI, kx_aL, kx_aR, kx_ln, Nat.reduceAdd, Option.toList, List.cons_append, List.nil_append, mW_o]
        repeat (simp only [z1, z2]; try dsimp only [kx_wp, kx_step, kx_lI, kx_lL, kx_lA, kx_gl, kx_pI, kx_pL, kx_pR, kx_pA, kx_pV, kx_s1, kx_s2, kx_sl, kx_pre, kx_c2, kx_pl, kx_cmp, kx_oF, kx_eqN, kx_nil, kx_c1, kx_ft, kx_aI, kx_aL, kx_aR, kx_ln, Nat.reduceAdd, Option.toList, List.cons_append, List.nil_append, mW_o])
        repeat' apply And.intro
        all_goals try (first | with_reducible assumption | (with_reducible refine ck_nzI ?_; simp; done) | (with_reducible refine ck_nzL ?_; simp; done) | (with_reducible refine vp_in_nI ?_ ?_ <;> first | omega | decide) | (with_reducible refine Nat.le_of_ble_eq_true ?_; rfl) | omega)
        refine hB bX11_lastOf_32 _ _ _ _ _ _ _ kX11_lastOf_32 ?_
        dsimp only [bX11_lastOf_32, kx_wp, kx_step, kx_lI, kx_lL, kx_lA, kx_gl, kx_pI, kx_pL, kx_pR, kx_pA, kx_pV, kx_s1, kx_s2, kx_sl, kx_pre, kx_c2, kx_pl, kx_cmp, kx_oF, kx_eqN, kx_nil, kx_c1, kx_ft, kx_aI, kx_aL, kx_aR, kx_ln, Nat.reduceAdd, Option.toList, List.cons_append, List.nil_append, mW_o]
        repeat (simp only [z1, z2]; try dsimp only [kx_wp, kx_step, kx_lI, kx_lL, kx_lA, kx_gl, kx_pI, kx_pL, kx_pR, kx_pA, kx_pV, kx_s1, kx_s2, kx_sl, kx_pre, kx_c2, kx_pl, kx_cmp, kx_oF, kx_eqN, kx_nil, kx_c1, kx_ft, kx_aI, kx_aL, kx_aR, kx_ln, Nat.reduceAdd, Option.toList, List.cons_append, List.nil_append, mW_o])
        all_goals (repeat' apply And.intro)
        all_goals ((try clear hB hC); first | exact True.intro | with_reducible rfl | with_reducible assumption | (with_reducible refine vp_in_nI ?_ ?_ <;> first | omega | decide) | exact Nat.le_of_ble_eq_true rfl | (with_reducible refine ck_nzI ?_; simp; done) | (with_reducible refine ck_nzL ?_; simp; done) | (simp only [pk_us, pk_uLs, ze2, ze11, eq_true ze21, ↓reduceIte, not_true_eq_false, not_false_eq_true]; done) | (simp only [ze2, ze11, eq_true ze21, ↓reduceIte, not_true_eq_false, not_false_eq_true]; with_reducible rfl) | skip)
    · intro zc11
      first | exact absurd rfl zc11 | exact absurd zc11 (by decide) | exact absurd (by decide) zc11 | (exfalso; first | exact absurd rfl zc2 | exact zc2 (by decide) | exact zc11 (by decide) | exact zc21 (by decide) | exact absurd zc2 (by decide) | exact absurd zc11 (by decide) | exact absurd zc21 (by decide)) | (exfalso; simp_all; done)
  · intro zc2
    first | exact absurd rfl zc2 | exact absurd zc2 (by decide) | exact absurd (by decide) zc2 | (exfalso; first | exact absurd rfl zc2 | exact zc2 (by decide) | exact zc11 (by decide) | exact zc21 (by decide) | exact absurd zc2 (by decide) | exact absurd zc11 (by decide) | exact absurd zc21 (by decide)) | (exfalso; simp_all; done)

set_option maxRecDepth 100000 in
set_option maxHeartbeats 4000000 in
theorem ct_X11_lastOf_3 (l : Launch) (G : kx_G) {M : Nat → Int32} {A : Nat → Nat → Int32} {L : Nat → Nat → Int64} {R : kx_P} {sz : Nat} {s : Nat} (hs : s < 2 ^ 30)  : kx_M l G sX11_lastOf 1 0 0 [.int (nI s), .int (3)] (mW M A L R) sz (some (.int (nI (s / 1331 % 11)))) (mW M A L R) sz := by
  have z1 : nI s / 1331 = nI (s / 1331) := pk_div (d := 1331) (by omega) (by decide) (by decide)
  have z2 : nI (s / 1331) - nI (s / 1331) / 11 * 11 = nI (s / 1331 % 11) := pk_rem (d := 11) (by omega) (by decide) (by decide)
  refine kx_mk kx_tab kxLok_X11 (ini := false) [some (.int (nI s)), some (.int (3))] ⟨by decide, rfl, by decide, by decide⟩ (⟨_, rfl⟩) rfl rfl (fun g hB hC => ?_)
  refine hB bX11_lastOf_0 _ _ _ _ _ _ _ kX11_lastOf_0 ?_
  dsimp only [bX11_lastOf_0, kx_wp, kx_step, kx_lI, kx_lL, kx_lA, kx_gl, kx_pI, kx_pL, kx_pR, kx_pA, kx_pV, kx_s1, kx_s2, kx_sl, kx_pre, kx_c2, kx_pl, kx_cmp, kx_oF, kx_eqN, kx_nil, kx_c1, kx_ft, kx_aI, kx_aL, kx_aR, kx_ln, Nat.reduceAdd, Option.toList, List.cons_append, List.nil_append, mW_o]
  repeat (simp only [z1, z2]; try dsimp only [kx_wp, kx_step, kx_lI, kx_lL, kx_lA, kx_gl, kx_pI, kx_pL, kx_pR, kx_pA, kx_pV, kx_s1, kx_s2, kx_sl, kx_pre, kx_c2, kx_pl, kx_cmp, kx_oF, kx_eqN, kx_nil, kx_c1, kx_ft, kx_aI, kx_aL, kx_aR, kx_ln, Nat.reduceAdd, Option.toList, List.cons_append, List.nil_append, mW_o])
  repeat' apply And.intro
  all_goals try (first | with_reducible assumption | (with_reducible refine ck_nzI ?_; simp; done) | (with_reducible refine ck_nzL ?_; simp; done) | (with_reducible refine vp_in_nI ?_ ?_ <;> first | omega | decide) | (with_reducible refine Nat.le_of_ble_eq_true ?_; rfl) | omega)
  · intro zc2
    have ze2 := zc2
    refine hB bX11_lastOf_9 _ _ _ _ _ _ _ kX11_lastOf_9 ?_
    dsimp only [bX11_lastOf_9, kx_wp, kx_step, kx_lI, kx_lL, kx_lA, kx_gl, kx_pI, kx_pL, kx_pR, kx_pA, kx_pV, kx_s1, kx_s2, kx_sl, kx_pre, kx_c2, kx_pl, kx_cmp, kx_oF, kx_eqN, kx_nil, kx_c1, kx_ft, kx_aI, kx_aL, kx_aR, kx_ln, Nat.reduceAdd, Option.toList, List.cons_append, List.nil_append, mW_o]
    repeat (simp only [z1, z2]; try dsimp only [kx_wp, kx_step, kx_lI, kx_lL, kx_lA, kx_gl, kx_pI, kx_pL, kx_pR, kx_pA, kx_pV, kx_s1, kx_s2, kx_sl, kx_pre, kx_c2, kx_pl, kx_cmp, kx_oF, kx_eqN, kx_nil, kx_c1, kx_ft, kx_aI, kx_aL, kx_aR, kx_ln, Nat.reduceAdd, Option.toList, List.cons_append, List.nil_append, mW_o])
    repeat' apply And.intro
    all_goals try (first | with_reducible assumption | (with_reducible refine ck_nzI ?_; simp; done) | (with_reducible refine ck_nzL ?_; simp; done) | (with_reducible refine vp_in_nI ?_ ?_ <;> first | omega | decide) | (with_reducible refine Nat.le_of_ble_eq_true ?_; rfl) | omega)
    · intro zc11
      have ze11 := zc11
      refine hB bX11_lastOf_19 _ _ _ _ _ _ _ kX11_lastOf_19 ?_
      dsimp only [bX11_lastOf_19, kx_wp, kx_step, kx_lI, kx_lL, kx_lA, kx_gl, kx_pI, kx_pL, kx_pR, kx_pA, kx_pV, kx_s1, kx_s2, kx_sl, kx_pre, kx_c2, kx_pl, kx_cmp, kx_oF, kx_eqN, kx_nil, kx_c1, kx_ft, kx_aI, kx_aL, kx_aR, kx_ln, Nat.reduceAdd, Option.toList, List.cons_append, List.nil_append, mW_o]
      repeat (simp only [z1, z2]; try dsimp only [kx_wp, kx_step, kx_lI, kx_lL, kx_lA, kx_gl, kx_pI, kx_pL, kx_pR, kx_pA, kx_pV, kx_s1, kx_s2, kx_sl, kx_pre, kx_c2, kx_pl, kx_cmp, kx_oF, kx_eqN, kx_nil, kx_c1, kx_ft, kx_aI, kx_aL, kx_aR, kx_ln, Nat.reduceAdd, Option.toList, List.cons_append, List.nil_append, mW_o])
      repeat' apply And.intro
      all_goals try (first | with_reducible assumption | (with_reducible refine ck_nzI ?_; simp; done) | (with_reducible refine ck_nzL ?_; simp; done) | (with_reducible refine vp_in_nI ?_ ?_ <;> first | omega | decide) | (with_reducible refine Nat.le_of_ble_eq_true ?_; rfl) | omega)
      · intro zc21
        have ze21 := zc21
        refine hB bX11_lastOf_29 _ _ _ _ _ _ _ kX11_lastOf_29 ?_
        dsimp only [bX11_lastOf_29, kx_wp, kx_step, kx_lI, kx_lL, kx_lA, kx_gl, kx_pI, kx_pL, kx_pR, kx_pA, kx_pV, kx_s1, kx_s2, kx_sl, kx_pre, kx_c2, kx_pl, kx_cmp, kx_oF, kx_eqN, kx_nil, kx_c1, kx_ft, kx_aI, kx_aL, kx_aR, kx_ln, Nat.reduceAdd, Option.toList, List.cons_append, List.nil_append, mW_o]
        repeat (simp only [z1, z2]; try dsimp only [kx_wp, kx_step, kx_lI, kx_lL, kx_lA, kx_gl, kx_pI, kx_pL, kx_pR, kx_pA, kx_pV, kx_s1, kx_s2, kx_sl, kx_pre, kx_c2, kx_pl, kx_cmp, kx_oF, kx_eqN, kx_nil, kx_c1, kx_ft, kx_aI, kx_aL, kx_aR, kx_ln, Nat.reduceAdd, Option.toList, List.cons_append, List.nil_append, mW_o])
        repeat' apply And.intro
        all_goals try (first | with_reducible assumption | (with_reducible refine ck_nzI ?_; simp; done) | (with_reducible refine ck_nzL ?_; simp; done) | (with_reducible refine vp_in_nI ?_ ?_ <;> first | omega | decide) | (with_reducible refine Nat.le_of_ble_eq_true ?_; rfl) | omega)
        refine hB bX11_lastOf_32 _ _ _ _ _ _ _ kX11_lastOf_32 ?_
        dsimp only [bX11_lastOf_32, kx_wp, kx_step, kx_lI, kx_lL, kx_lA, kx_gl, kx_pI, kx_pL, kx_pR, kx_pA, kx_pV, kx_s1, kx_s2, kx_sl, kx_pre, kx_c2, kx_pl, kx_cmp, kx_oF, kx_eqN, kx_nil, kx_c1, kx_ft, kx_aI, kx_aL, kx_aR, kx_ln, Nat.reduceAdd, Option.toList, List.cons_append, List.nil_append, mW_o]
        repeat (simp only [z1, z2]; try dsimp only [kx_wp, kx_step, kx_lI, kx_lL, kx_lA, kx_gl, kx_pI, kx_pL, kx_pR, kx_pA, kx_pV, kx_s1, kx_s2, kx_sl, kx_pre, kx_c2, kx_pl, kx_cmp, kx_oF, kx_eqN, kx_nil, kx_c1, kx_ft, kx_aI, kx_aL, kx_aR, kx_ln, Nat.reduceAdd, Option.toList, List.cons_append, List.nil_append, mW_o])
        all_goals (repeat' apply And.intro)
        all_goals ((try clear hB hC); first | exact True.intro | with_reducible rfl | with_reducible assumption | (with_reducible refine vp_in_nI ?_ ?_ <;> first | omega | decide) | exact Nat.le_of_ble_eq_true rfl | (with_reducible refine ck_nzI ?_; simp; done) | (with_reducible refine ck_nzL ?_; simp; done) | (simp only [pk_us, pk_uLs, ze2, ze11, ze21, ↓reduceIte, not_true_eq_false, not_false_eq_true]; done) | (simp only [ze2, ze11, ze21, ↓reduceIte, not_true_eq_false, not_false_eq_true]; with_reducible rfl) | skip)
      · intro zc21
        first | exact absurd rfl zc21 | exact absurd zc21 (by decide) | exact absurd (by decide) zc21 | (exfalso; first | exact absurd rfl zc2 | exact zc2 (by decide) | exact zc11 (by decide) | exact zc21 (by decide) | exact absurd zc2 (by decide) | exact absurd zc11 (by decide) | exact absurd zc21 (by decide)) | (exfalso; simp_all; done)
    · intro zc11
      first | exact absurd rfl zc11 | exact absurd zc11 (by decide) | exact absurd (by decide) zc11 | (exfalso; first | exact absurd rfl zc2 | exact zc2 (by decide) | exact zc11 (by decide) | exact zc21 (by decide) | exact absurd zc2 (by decide) | exact absurd zc11 (by decide) | exact absurd zc21 (by decide)) | (exfalso; simp_all; done)
  · intro zc2
    first | exact absurd rfl zc2 | exact absurd zc2 (by decide) | exact absurd (by decide) zc2 | (exfalso; first | exact absurd rfl zc2 | exact zc2 (by decide) | exact zc11 (by decide) | exact zc21 (by decide) | exact absurd zc2 (by decide) | exact absurd zc11 (by decide) | exact absurd zc21 (by decide)) | (exfalso; simp_all; done)

theorem ct_X11_lastOf (l : Launch) (G : kx_G) {M : Nat → Int32} {A : Nat → Nat → Int32} {L : Nat → Nat → Int64} {R : kx_P} {sz s i : Nat} (hs : s < 2 ^ 30) (hi : i < 4) : kx_M l G sX11_lastOf 1 0 0 [.int (nI s), .int (nI i)] (mW M A L R) sz (some (.int (nI (s / 11 ^ i % 11)))) (mW M A L R) sz := by
  match i, hi with
  | 0, _ => exact ct_X11_lastOf_0 l G hs
  | 1, _ => exact ct_X11_lastOf_1 l G hs
  | 2, _ => exact ct_X11_lastOf_2 l G hs
  | 3, _ => exact ct_X11_lastOf_3 l G hs

def bX11_leftAt_0 : List kx_O := [(.iload_n 2, 2, 0, 0, .null), (.ifCond .ne 23, 24, 0, 0, .null)]
theorem kX11_leftAt_0 : kx_oks kxL_X11 false cX11_leftAt 0 bX11_leftAt_0 = true := by decide +kernel
def bX11_leftAt_4 : List kx_O := [(.aload_n 0, 0, 0, 0, .null), (.getfield 59, 11, 31, 0, .null), (.aload_n 0, 0, 0, 0, .null), (.getfield 121, 11, 69, 0, .null), (.iload_n 1, 1, 0, 0, .null), (.iaload, 0, 0, 0, .null), (.iaload, 0, 0, 0, .null), (.sipush 1440, 0, 0, 0, .int 1440), (.iload_n 3, 3, 0, 0, .null), (.imul, 0, 0, 0, .null), (.isub, 0, 0, 0, .null), (.goto 28, 49, 0, 0, .null)]
theorem kX11_leftAt_4 : kx_oks kxL_X11 false cX11_leftAt 4 bX11_leftAt_4 = true := by decide +kernel
def bX11_leftAt_24 : List kx_O := [(.sipush 1440, 0, 0, 0, .int 1440), (.aload_n 0, 0, 0, 0, .null), (.aload_n 0, 0, 0, 0, .null), (.getfield 121, 11, 69, 0, .null), (.iload_n 1, 1, 0, 0, .null), (.iaload, 0, 0, 0, .null), (.iconst 0, 0, 0, 0, .int 0)]
theorem kX11_leftAt_24 : kx_oks kxL_X11 false cX11_leftAt 24 bX11_leftAt_24 = true := by decide +kernel
def bX11_leftAt_38 : List kx_O := [(.imul, 0, 0, 0, .null), (.sipush 1440, 0, 0, 0, .int 1440), (.iload_n 3, 3, 0, 0, .null), (.iload_n 2, 2, 0, 0, .null), (.isub, 0, 0, 0, .null), (.iconst 1, 0, 0, 0, .int 1), (.iadd, 0, 0, 0, .null), (.imul, 0, 0, 0, .null), (.isub, 0, 0, 0, .null)]
theorem kX11_leftAt_38 : kx_oks kxL_X11 false cX11_leftAt 38 bX11_leftAt_38 = true := by decide +kernel
def bX11_leftAt_49 : List kx_O := [(.ireturn, 0, 0, 0, .null)]
theorem kX11_leftAt_49 : kx_oks kxL_X11 false cX11_leftAt 49 bX11_leftAt_49 = true := by decide +kernel
theorem dX11_leftAt_35 : decode cX11_leftAt 35 = .ok (.invokevirtual 365, 3) := by decide +kernel
set_option maxRecDepth 100000 in
set_option maxHeartbeats 4000000 in
theorem ct_X11_leftAt (l : Launch) (G : kx_G) {M : Nat → Int32} {A : Nat → Nat → Int32} {L : Nat → Nat → Int64} {R : kx_P} {sz : Nat} {i p la t lf run : Nat} (hi : i < 4) (hp : p < 8) (h128 : A 128 i = nI p) (h108 : A 108 p = nI lf) (h102 : A 102 (16 * p + 0) = nI run)  : kx_M l G sX11_leftAt 2 0 0 [.ref 93, .int (nI i), .int (nI la), .int (nI t)] (mW M A L R) sz (some (.int (if nI la = 0 then nI lf - 1440 * nI t else 1440 * nI run - 1440 * (nI t - nI la + 1)))) (mW M A L R) sz := by
  refine kx_mk kx_tab kxLok_X11 (ini := false) [some (.ref 93), some (.int (nI i)), some (.int (nI la)), some (.int (nI t))] ⟨by decide, rfl, by decide, by decide⟩ (⟨_, rfl⟩) rfl rfl (fun g hB hC => ?_)
  refine hB bX11_leftAt_0 _ _ _ _ _ _ _ kX11_leftAt_0 ?_
  dsimp only [bX11_leftAt_0, kx_wp, kx_step, kx_lI, kx_lL, kx_lA, kx_gl, kx_pI, kx_pL, kx_pR, kx_pA, kx_pV, kx_s1, kx_s2, kx_sl, kx_pre, kx_c2, kx_pl, kx_cmp, kx_oF, kx_eqN, kx_nil, kx_c1, kx_ft, kx_aI, kx_aL, kx_aR, kx_ln, Nat.reduceAdd, Option.toList, List.cons_append, List.nil_append, mW_o, mf_31, m_108, mf_69, m_128]
  repeat (simp only [ms_108, ms_128, h128, h108, h102, nI_clamp (show i < 2 ^ 31 by omega), nI_clamp (show p < 2 ^ 31 by omega)]; try dsimp only [kx_wp, kx_step, kx_lI, kx_lL, kx_lA, kx_gl, kx_pI, kx_pL, kx_pR, kx_pA, kx_pV, kx_s1, kx_s2, kx_sl, kx_pre, kx_c2, kx_pl, kx_cmp, kx_oF, kx_eqN, kx_nil, kx_c1, kx_ft, kx_aI, kx_aL, kx_aR, kx_ln, Nat.reduceAdd, Option.toList, List.cons_append, List.nil_append, mW_o, mf_31, m_108, mf_69, m_128])
  repeat' apply And.intro
  all_goals try (first | with_reducible assumption | (with_reducible refine ck_nzI ?_; simp; done) | (with_reducible refine ck_nzL ?_; simp; done) | (with_reducible refine vp_in_nI ?_ ?_ <;> first | omega | decide) | (with_reducible refine Nat.le_of_ble_eq_true ?_; rfl) | omega)
  · intro zc1
    have ze1 := zc1
    refine hB bX11_leftAt_24 _ _ _ _ _ _ _ kX11_leftAt_24 ?_
    dsimp only [bX11_leftAt_24, kx_wp, kx_step, kx_lI, kx_lL, kx_lA, kx_gl, kx_pI, kx_pL, kx_pR, kx_pA, kx_pV, kx_s1, kx_s2, kx_sl, kx_pre, kx_c2, kx_pl, kx_cmp, kx_oF, kx_eqN, kx_nil, kx_c1, kx_ft, kx_aI, kx_aL, kx_aR, kx_ln, Nat.reduceAdd, Option.toList, List.cons_append, List.nil_append, mW_o, mf_31, m_108, mf_69, m_128]
    repeat (simp only [ms_108, ms_128, h128, h108, h102, nI_clamp (show i < 2 ^ 31 by omega), nI_clamp (show p < 2 ^ 31 by omega)]; try dsimp only [kx_wp, kx_step, kx_lI, kx_lL, kx_lA, kx_gl, kx_pI, kx_pL, kx_pR, kx_pA, kx_pV, kx_s1, kx_s2, kx_sl, kx_pre, kx_c2, kx_pl, kx_cmp, kx_oF, kx_eqN, kx_nil, kx_c1, kx_ft, kx_aI, kx_aL, kx_aR, kx_ln, Nat.reduceAdd, Option.toList, List.cons_append, List.nil_append, mW_o, mf_31, m_108, mf_69, m_128])
    repeat' apply And.intro
    all_goals try (first | with_reducible assumption | (with_reducible refine ck_nzI ?_; simp; done) | (with_reducible refine ck_nzL ?_; simp; done) | (with_reducible refine vp_in_nI ?_ ?_ <;> first | omega | decide) | (with_reducible refine Nat.le_of_ble_eq_true ?_; rfl) | omega)
    refine hC.1 365 _ _ _ _ _ _ _ 11 _ _ _ _ _ _ _ _ _ _ _ _ lX11_365 (ct_X11_its l G (c := p) (w := 0) hp (by decide)) ⟨by decide, rfl⟩ (mW_o) rfl rfl (Nat.le_of_ble_eq_true rfl) (by decide) (by decide) (by omega) (by omega) dX11_leftAt_35 ?_
    refine hB bX11_leftAt_38 _ _ _ _ _ _ _ kX11_leftAt_38 ?_
    dsimp only [bX11_leftAt_38, kx_wp, kx_step, kx_lI, kx_lL, kx_lA, kx_gl, kx_pI, kx_pL, kx_pR, kx_pA, kx_pV, kx_s1, kx_s2, kx_sl, kx_pre, kx_c2, kx_pl, kx_cmp, kx_oF, kx_eqN, kx_nil, kx_c1, kx_ft, kx_aI, kx_aL, kx_aR, kx_ln, Nat.reduceAdd, Option.toList, List.cons_append, List.nil_append, mW_o, mf_31, m_108, mf_69, m_128]
    repeat (simp only [ms_108, ms_128, h128, h108, h102, nI_clamp (show i < 2 ^ 31 by omega), nI_clamp (show p < 2 ^ 31 by omega)]; try dsimp only [kx_wp, kx_step, kx_lI, kx_lL, kx_lA, kx_gl, kx_pI, kx_pL, kx_pR, kx_pA, kx_pV, kx_s1, kx_s2, kx_sl, kx_pre, kx_c2, kx_pl, kx_cmp, kx_oF, kx_eqN, kx_nil, kx_c1, kx_ft, kx_aI, kx_aL, kx_aR, kx_ln, Nat.reduceAdd, Option.toList, List.cons_append, List.nil_append, mW_o, mf_31, m_108, mf_69, m_128])
    repeat' apply And.intro
    all_goals try (first | with_reducible assumption | (with_reducible refine ck_nzI ?_; simp; done) | (with_reducible refine ck_nzL ?_; simp; done) | (with_reducible refine vp_in_nI ?_ ?_ <;> first | omega | decide) | (with_reducible refine Nat.le_of_ble_eq_true ?_; rfl) | omega)
    refine hB bX11_leftAt_49 _ _ _ _ _ _ _ kX11_leftAt_49 ?_
    dsimp only [bX11_leftAt_49, kx_wp, kx_step, kx_lI, kx_lL, kx_lA, kx_gl, kx_pI, kx_pL, kx_pR, kx_pA, kx_pV, kx_s1, kx_s2, kx_sl, kx_pre, kx_c2, kx_pl, kx_cmp, kx_oF, kx_eqN, kx_nil, kx_c1, kx_ft, kx_aI, kx_aL, kx_aR, kx_ln, Nat.reduceAdd, Option.toList, List.cons_append, List.nil_append, mW_o, mf_31, m_108, mf_69, m_128]
    repeat (simp only [ms_108, ms_128, h128, h108, h102, nI_clamp (show i < 2 ^ 31 by omega), nI_clamp (show p < 2 ^ 31 by omega)]; try dsimp only [kx_wp, kx_step, kx_lI, kx_lL, kx_lA, kx_gl, kx_pI, kx_pL, kx_pR, kx_pA, kx_pV, kx_s1, kx_s2, kx_sl, kx_pre, kx_c2, kx_pl, kx_cmp, kx_oF, kx_eqN, kx_nil, kx_c1, kx_ft, kx_aI, kx_aL, kx_aR, kx_ln, Nat.reduceAdd, Option.toList, List.cons_append, List.nil_append, mW_o, mf_31, m_108, mf_69, m_128])
    all_goals (repeat' apply And.intro)
    all_goals ((try clear hB hC); first | exact True.intro | with_reducible rfl | with_reducible assumption | (with_reducible refine vp_in_nI ?_ ?_ <;> first | omega | decide) | exact Nat.le_of_ble_eq_true rfl | (with_reducible refine ck_nzI ?_; simp; done) | (with_reducible refine ck_nzL ?_; simp; done) | (simp only [pk_us, pk_uLs, ze1, ↓reduceIte, not_true_eq_false, not_false_eq_true]; done) | (simp only [ze1, ↓reduceIte, not_true_eq_false, not_false_eq_true]; with_reducible rfl) | skip)
  · intro zc1
    with_reducible first | have ze1 := Decidable.not_not.mp zc1 | have ze1 := zc1
    refine hB bX11_leftAt_4 _ _ _ _ _ _ _ kX11_leftAt_4 ?_
    dsimp only [bX11_leftAt_4, kx_wp, kx_step, kx_lI, kx_lL, kx_lA, kx_gl, kx_pI, kx_pL, kx_pR, kx_pA, kx_pV, kx_s1, kx_s2, kx_sl, kx_pre, kx_c2, kx_pl, kx_cmp, kx_oF, kx_eqN, kx_nil, kx_c1, kx_ft, kx_aI, kx_aL, kx_aR, kx_ln, Nat.reduceAdd, Option.toList, List.cons_append, List.nil_append, mW_o, mf_31, m_108, mf_69, m_128]
    repeat (simp only [ms_108, ms_128, h128, h108, h102, nI_clamp (show i < 2 ^ 31 by omega), nI_clamp (show p < 2 ^ 31 by omega)]; try dsimp only [kx_wp, kx_step, kx_lI, kx_lL, kx_lA, kx_gl, kx_pI, kx_pL, kx_pR, kx_pA, kx_pV, kx_s1, kx_s2, kx_sl, kx_pre, kx_c2, kx_pl, kx_cmp, kx_oF, kx_eqN, kx_nil, kx_c1, kx_ft, kx_aI, kx_aL, kx_aR, kx_ln, Nat.reduceAdd, Option.toList, List.cons_append, List.nil_append, mW_o, mf_31, m_108, mf_69, m_128])
    repeat' apply And.intro
    all_goals try (first | with_reducible assumption | (with_reducible refine ck_nzI ?_; simp; done) | (with_reducible refine ck_nzL ?_; simp; done) | (with_reducible refine vp_in_nI ?_ ?_ <;> first | omega | decide) | (with_reducible refine Nat.le_of_ble_eq_true ?_; rfl) | omega)
    refine hB bX11_leftAt_49 _ _ _ _ _ _ _ kX11_leftAt_49 ?_
    dsimp only [bX11_leftAt_49, kx_wp, kx_step, kx_lI, kx_lL, kx_lA, kx_gl, kx_pI, kx_pL, kx_pR, kx_pA, kx_pV, kx_s1, kx_s2, kx_sl, kx_pre, kx_c2, kx_pl, kx_cmp, kx_oF, kx_eqN, kx_nil, kx_c1, kx_ft, kx_aI, kx_aL, kx_aR, kx_ln, Nat.reduceAdd, Option.toList, List.cons_append, List.nil_append, mW_o, mf_31, m_108, mf_69, m_128]
    repeat (simp only [ms_108, ms_128, h128, h108, h102, nI_clamp (show i < 2 ^ 31 by omega), nI_clamp (show p < 2 ^ 31 by omega)]; try dsimp only [kx_wp, kx_step, kx_lI, kx_lL, kx_lA, kx_gl, kx_pI, kx_pL, kx_pR, kx_pA, kx_pV, kx_s1, kx_s2, kx_sl, kx_pre, kx_c2, kx_pl, kx_cmp, kx_oF, kx_eqN, kx_nil, kx_c1, kx_ft, kx_aI, kx_aL, kx_aR, kx_ln, Nat.reduceAdd, Option.toList, List.cons_append, List.nil_append, mW_o, mf_31, m_108, mf_69, m_128])
    all_goals (repeat' apply And.intro)
    all_goals ((try clear hB hC); first | exact True.intro | with_reducible rfl | with_reducible assumption | (with_reducible refine vp_in_nI ?_ ?_ <;> first | omega | decide) | exact Nat.le_of_ble_eq_true rfl | (with_reducible refine ck_nzI ?_; simp; done) | (with_reducible refine ck_nzL ?_; simp; done) | (simp only [pk_us, pk_uLs, eq_true ze1, ↓reduceIte, not_true_eq_false, not_false_eq_true]; done) | (simp only [eq_true ze1, ↓reduceIte, not_true_eq_false, not_false_eq_true]; with_reducible rfl) | skip)

def bX11_areGoing_0 : List kx_O := [(.iconst 0, 0, 0, 0, .int 0), (.istore_n 3, 3, 0, 0, .null)]
theorem kX11_areGoing_0 : kx_oks kxL_X11 false cX11_areGoing 0 bX11_areGoing_0 = true := by decide +kernel
def bX11_areGoing_2 : List kx_O := [(.iload_n 3, 3, 0, 0, .null), (.aload_n 0, 0, 0, 0, .null), (.getfield 501, 11, 68, 0, .null), (.if_icmp .ge 25, 32, 0, 0, .null)]
theorem kX11_areGoing_2 : kx_oks kxL_X11 false cX11_areGoing 2 bX11_areGoing_2 = true := by decide +kernel
def bX11_areGoing_10 : List kx_O := [(.aload_n 0, 0, 0, 0, .null), (.iload_n 3, 3, 0, 0, .null), (.iload_n 1, 1, 0, 0, .null), (.iload_n 3, 3, 0, 0, .null)]
theorem kX11_areGoing_10 : kx_oks kxL_X11 false cX11_areGoing 10 bX11_areGoing_10 = true := by decide +kernel
def bX11_areGoing_17 : List kx_O := [(.iload_n 2, 2, 0, 0, .null)]
theorem kX11_areGoing_17 : kx_oks kxL_X11 false cX11_areGoing 17 bX11_areGoing_17 = true := by decide +kernel
def bX11_areGoing_21 : List kx_O := [(.ifCond .gt 5, 26, 0, 0, .null)]
theorem kX11_areGoing_21 : kx_oks kxL_X11 false cX11_areGoing 21 bX11_areGoing_21 = true := by decide +kernel
def bX11_areGoing_24 : List kx_O := [(.iconst 0, 0, 0, 0, .int 0), (.ireturn, 0, 0, 0, .null)]
theorem kX11_areGoing_24 : kx_oks kxL_X11 false cX11_areGoing 24 bX11_areGoing_24 = true := by decide +kernel
def bX11_areGoing_26 : List kx_O := [(.iinc 3 1, 3, 0, 0, .int 1), (.goto (-27), 2, 0, 0, .null)]
theorem kX11_areGoing_26 : kx_oks kxL_X11 false cX11_areGoing 26 bX11_areGoing_26 = true := by decide +kernel
def bX11_areGoing_32 : List kx_O := [(.iconst 1, 0, 0, 0, .int 1), (.ireturn, 0, 0, 0, .null)]
theorem kX11_areGoing_32 : kx_oks kxL_X11 false cX11_areGoing 32 bX11_areGoing_32 = true := by decide +kernel
theorem dX11_areGoing_14 : decode cX11_areGoing 14 = .ok (.invokestatic 504, 3) := by decide +kernel
theorem dX11_areGoing_18 : decode cX11_areGoing 18 = .ok (.invokevirtual 507, 3) := by decide +kernel
set_option maxRecDepth 100000 in
set_option maxHeartbeats 4000000 in
theorem ct_X11_areGoing (l : Launch) (G : kx_G) {M : Nat → Int32} {A : Nat → Nat → Int32} {L : Nat → Nat → Int64} {R : kx_P} {sz : Nat} {s t pk : Nat} {lf run : Nat → Nat} (h68 : M 68 = nI pk) (hpk : pk ≤ 4) (hs : s < 2 ^ 30) (ht : t ≤ 10) (hpl : ck_pl A pk lf run) (hla : ∀ i, i < pk → s / 11 ^ i % 11 ≤ t)  : kx_M l G sX11_areGoing 3 0 0 [.ref 93, .int (nI s), .int (nI t)] (mW M A L R) sz (some (.int (if ck_ag lf run s t pk 0 = true then 1 else 0))) (mW M A L R) sz := by
  generalize hBB : ck_ag lf run s t pk 0 = BB
  replace hBB := hBB.symm
  refine kx_mk kx_tab kxLok_X11 (ini := false) [some (.ref 93), some (.int (nI s)), some (.int (nI t)), none] ⟨by decide, rfl, by decide, by decide⟩ (by cases BB <;> first | exact Or.inl rfl | exact Or.inr rfl) rfl rfl (fun g hB hC => ?_)
  have loop2 : ∀ (n9 i : Nat), i + n9 = pk → BB = ck_ag lf run s t n9 i → g 2 [some (.ref 93), some (.int (nI s)), some (.int (nI t)), some (.int (nI i))] [] (mW M A L R) sz 0 0 := by
    intro n9
    induction n9 with
    | zero =>
      intro i hi hE
      rw [ck_ag] at hE
      obtain rfl : pk = i := by omega
      refine hB bX11_areGoing_2 _ _ _ _ _ _ _ kX11_areGoing_2 ?_
      dsimp only [bX11_areGoing_2, kx_wp, kx_step, kx_lI, kx_lL, kx_lA, kx_gl, kx_pI, kx_pL, kx_pR, kx_pA, kx_pV, kx_s1, kx_s2, kx_sl, kx_pre, kx_c2, kx_pl, kx_cmp, kx_oF, kx_eqN, kx_nil, kx_c1, kx_ft, kx_aI, kx_aL, kx_aR, kx_ln, Nat.reduceAdd, Option.toList, List.cons_append, List.nil_append, mW_o, mf_68]
      repeat (simp only [h68, nI_1]; try dsimp only [kx_wp, kx_step, kx_lI, kx_lL, kx_lA, kx_gl, kx_pI, kx_pL, kx_pR, kx_pA, kx_pV, kx_s1, kx_s2, kx_sl, kx_pre, kx_c2, kx_pl, kx_cmp, kx_oF, kx_eqN, kx_nil, kx_c1, kx_ft, kx_aI, kx_aL, kx_aR, kx_ln, Nat.reduceAdd, Option.toList, List.cons_append, List.nil_append, mW_o, mf_68])
      repeat' apply And.intro
      all_goals try (first | with_reducible assumption | (with_reducible refine ck_nzI ?_; simp; done) | (with_reducible refine ck_nzL ?_; simp; done) | (with_reducible refine vp_in_nI ?_ ?_ <;> first | omega | decide) | (with_reducible refine Nat.le_of_ble_eq_true ?_; rfl) | omega)
      · intro zc7
        with_reducible first | have ze7 := Int32.not_lt.mpr zc7 | have ze7 := zc7
        refine hB bX11_areGoing_32 _ _ _ _ _ _ _ kX11_areGoing_32 ?_
        dsimp only [bX11_areGoing_32, kx_wp, kx_step, kx_lI, kx_lL, kx_lA, kx_gl, kx_pI, kx_pL, kx_pR, kx_pA, kx_pV, kx_s1, kx_s2, kx_sl, kx_pre, kx_c2, kx_pl, kx_cmp, kx_oF, kx_eqN, kx_nil, kx_c1, kx_ft, kx_aI, kx_aL, kx_aR, kx_ln, Nat.reduceAdd, Option.toList, List.cons_append, List.nil_append, mW_o, mf_68]
        repeat (simp only [h68, nI_1]; try dsimp only [kx_wp, kx_step, kx_lI, kx_lL, kx_lA, kx_gl, kx_pI, kx_pL, kx_pR, kx_pA, kx_pV, kx_s1, kx_s2, kx_sl, kx_pre, kx_c2, kx_pl, kx_cmp, kx_oF, kx_eqN, kx_nil, kx_c1, kx_ft, kx_aI, kx_aL, kx_aR, kx_ln, Nat.reduceAdd, Option.toList, List.cons_append, List.nil_append, mW_o, mf_68])
        all_goals (repeat' apply And.intro)
        all_goals ((try clear hB hC); (try subst hE); first | exact True.intro | with_reducible rfl | rfl | skip)
      · intro zc7
        first | exact absurd rfl zc7 | exact absurd zc7 (by decide) | exact absurd (by decide) zc7 | (exfalso; first | exact absurd zc7 (by first | (simp only [nI_leI (show pk < 2 ^ 31 by omega) (show pk < 2 ^ 31 by omega)]; omega) | (simp only [nI_leI (show pk < 2 ^ 31 by omega) (show pk < 2 ^ 31 by omega), Decidable.not_not]; omega)) | exact absurd hg zc21 | exact zc21 hg | exact hg zc21 | exact absurd hg (Int32.not_lt.mpr (Int32.not_lt.mp zc21)) | exact hg (Int32.not_le.mp zc21) | exact absurd hg (Int32.not_lt.mpr zc21)) | (exfalso; simp_all; done)
    | succ n9 ih =>
      intro i hi hE
      rw [ck_ag] at hE
      obtain ⟨q, hq, h128, h108, hlf, h102, hrun⟩ := hpl i (by omega)
      have hl := hla i (by omega)
      have hl2 : s / 11 ^ i % 11 ≤ 10 := by omega
      obtain ⟨la, ela⟩ : ∃ la, la = s / 11 ^ i % 11 := ⟨_, rfl⟩
      rw [← ela] at hl hl2 hE
      have hv : (0 < (if nI la = 0 then nI (lf i) - 1440 * nI t else 1440 * nI (run i) - 1440 * (nI t - nI la + 1))) ↔ ck_ok (lf i) (run i) la t = true := by
        unfold ck_ok
        by_cases h0 : la = 0
        · subst h0
          rw [if_pos (show nI 0 = 0 from rfl), if_pos rfl, decide_eq_true_iff, ck_lt, show (1440 : Int32) = nI 1440 from rfl, pk_mul, pk_sub_toInt (by omega) (by omega), show (0 : Int32).toInt = 0 from rfl]
          omega
        · rw [if_neg (nI_ne0 (by omega) (by omega)), if_neg h0, decide_eq_true_iff, ck_lt, pk_sub hl, nI_1, show (1440 : Int32) = nI 1440 from rfl, pk_mul, pk_mul, pk_sub_toInt (by omega) (by omega), show (0 : Int32).toInt = 0 from rfl]
          omega
      by_cases hg : 0 < (if nI la = 0 then nI (lf i) - 1440 * nI t else 1440 * nI (run i) - 1440 * (nI t - nI la + 1))
      · rw [hv.mp hg, Bool.true_and] at hE
        refine hB bX11_areGoing_2 _ _ _ _ _ _ _ kX11_areGoing_2 ?_
        dsimp only [bX11_areGoing_2, kx_wp, kx_step, kx_lI, kx_lL, kx_lA, kx_gl, kx_pI, kx_pL, kx_pR, kx_pA, kx_pV, kx_s1, kx_s2, kx_sl, kx_pre, kx_c2, kx_pl, kx_cmp, kx_oF, kx_eqN, kx_nil, kx_c1, kx_ft, kx_aI, kx_aL, kx_aR, kx_ln, Nat.reduceAdd, Option.toList, List.cons_append, List.nil_append, mW_o, mf_68]
        repeat (simp only [h68, nI_1]; try dsimp only [kx_wp, kx_step, kx_lI, kx_lL, kx_lA, kx_gl, kx_pI, kx_pL, kx_pR, kx_pA, kx_pV, kx_s1, kx_s2, kx_sl, kx_pre, kx_c2, kx_pl, kx_cmp, kx_oF, kx_eqN, kx_nil, kx_c1, kx_ft, kx_aI, kx_aL, kx_aR, kx_ln, Nat.reduceAdd, Option.toList, List.cons_append, List.nil_append, mW_o, mf_68])
        repeat' apply And.intro
        all_goals try (first | with_reducible assumption | (with_reducible refine ck_nzI ?_; simp; done) | (with_reducible refine ck_nzL ?_; simp; done) | (with_reducible refine vp_in_nI ?_ ?_ <;> first | omega | decide) | (with_reducible refine Nat.le_of_ble_eq_true ?_; rfl) | omega)
        · intro zc7
          first | exact absurd rfl zc7 | exact absurd zc7 (by decide) | exact absurd (by decide) zc7 | (exfalso; first | exact absurd zc7 (by first | (simp only [nI_leI (show pk < 2 ^ 31 by omega) (show i < 2 ^ 31 by omega)]; omega) | (simp only [nI_leI (show pk < 2 ^ 31 by omega) (show i < 2 ^ 31 by omega), Decidable.not_not]; omega)) | exact absurd hg zc21 | exact zc21 hg | exact hg zc21 | exact absurd hg (Int32.not_lt.mpr (Int32.not_lt.mp zc21)) | exact hg (Int32.not_le.mp zc21) | exact absurd hg (Int32.not_lt.mpr zc21)) | (exfalso; simp_all; done)
        · intro zc7
          with_reducible first | have ze7 := Int32.not_le.mp zc7 | have ze7 := zc7
          refine hB bX11_areGoing_10 _ _ _ _ _ _ _ kX11_areGoing_10 ?_
          dsimp only [bX11_areGoing_10, kx_wp, kx_step, kx_lI, kx_lL, kx_lA, kx_gl, kx_pI, kx_pL, kx_pR, kx_pA, kx_pV, kx_s1, kx_s2, kx_sl, kx_pre, kx_c2, kx_pl, kx_cmp, kx_oF, kx_eqN, kx_nil, kx_c1, kx_ft, kx_aI, kx_aL, kx_aR, kx_ln, Nat.reduceAdd, Option.toList, List.cons_append, List.nil_append, mW_o, mf_68]
          repeat (simp only [h68, nI_1]; try dsimp only [kx_wp, kx_step, kx_lI, kx_lL, kx_lA, kx_gl, kx_pI, kx_pL, kx_pR, kx_pA, kx_pV, kx_s1, kx_s2, kx_sl, kx_pre, kx_c2, kx_pl, kx_cmp, kx_oF, kx_eqN, kx_nil, kx_c1, kx_ft, kx_aI, kx_aL, kx_aR, kx_ln, Nat.reduceAdd, Option.toList, List.cons_append, List.nil_append, mW_o, mf_68])
          repeat' apply And.intro
          all_goals try (first | with_reducible assumption | (with_reducible refine ck_nzI ?_; simp; done) | (with_reducible refine ck_nzL ?_; simp; done) | (with_reducible refine vp_in_nI ?_ ?_ <;> first | omega | decide) | (with_reducible refine Nat.le_of_ble_eq_true ?_; rfl) | omega)
          refine hC.2.1 504 _ _ _ _ _ _ _ _ _ _ _ _ _ _ _ _ _ lX11_504 (ct_X11_lastOf l G hs (by omega)) rfl rfl (Nat.le_of_ble_eq_true rfl) (by decide) (by decide) (by omega) (by omega) dX11_areGoing_14 ?_
          rw [← ela]
          refine hB bX11_areGoing_17 _ _ _ _ _ _ _ kX11_areGoing_17 ?_
          dsimp only [bX11_areGoing_17, kx_wp, kx_step, kx_lI, kx_lL, kx_lA, kx_gl, kx_pI, kx_pL, kx_pR, kx_pA, kx_pV, kx_s1, kx_s2, kx_sl, kx_pre, kx_c2, kx_pl, kx_cmp, kx_oF, kx_eqN, kx_nil, kx_c1, kx_ft, kx_aI, kx_aL, kx_aR, kx_ln, Nat.reduceAdd, Option.toList, List.cons_append, List.nil_append, mW_o, mf_68]
          repeat (simp only [h68, nI_1]; try dsimp only [kx_wp, kx_step, kx_lI, kx_lL, kx_lA, kx_gl, kx_pI, kx_pL, kx_pR, kx_pA, kx_pV, kx_s1, kx_s2, kx_sl, kx_pre, kx_c2, kx_pl, kx_cmp, kx_oF, kx_eqN, kx_nil, kx_c1, kx_ft, kx_aI, kx_aL, kx_aR, kx_ln, Nat.reduceAdd, Option.toList, List.cons_append, List.nil_append, mW_o, mf_68])
          repeat' apply And.intro
          all_goals try (first | with_reducible assumption | (with_reducible refine ck_nzI ?_; simp; done) | (with_reducible refine ck_nzL ?_; simp; done) | (with_reducible refine vp_in_nI ?_ ?_ <;> first | omega | decide) | (with_reducible refine Nat.le_of_ble_eq_true ?_; rfl) | omega)
          refine hC.1 507 _ _ _ _ _ _ _ 11 _ _ _ _ _ _ _ _ _ _ _ _ lX11_507 (ct_X11_leftAt l G (lf := lf i) (run := run i) (la := la) (by omega) hq h128 h108 h102) ⟨by decide, rfl⟩ (mW_o) rfl rfl (Nat.le_of_ble_eq_true rfl) (by decide) (by decide) (by omega) (by omega) dX11_areGoing_18 ?_
          refine hB bX11_areGoing_21 _ _ _ _ _ _ _ kX11_areGoing_21 ?_
          dsimp only [bX11_areGoing_21, kx_wp, kx_step, kx_lI, kx_lL, kx_lA, kx_gl, kx_pI, kx_pL, kx_pR, kx_pA, kx_pV, kx_s1, kx_s2, kx_sl, kx_pre, kx_c2, kx_pl, kx_cmp, kx_oF, kx_eqN, kx_nil, kx_c1, kx_ft, kx_aI, kx_aL, kx_aR, kx_ln, Nat.reduceAdd, Option.toList, List.cons_append, List.nil_append, mW_o, mf_68]
          repeat (simp only [h68, nI_1]; try dsimp only [kx_wp, kx_step, kx_lI, kx_lL, kx_lA, kx_gl, kx_pI, kx_pL, kx_pR, kx_pA, kx_pV, kx_s1, kx_s2, kx_sl, kx_pre, kx_c2, kx_pl, kx_cmp, kx_oF, kx_eqN, kx_nil, kx_c1, kx_ft, kx_aI, kx_aL, kx_aR, kx_ln, Nat.reduceAdd, Option.toList, List.cons_append, List.nil_append, mW_o, mf_68])
          repeat' apply And.intro
          all_goals try (first | with_reducible assumption | (with_reducible refine ck_nzI ?_; simp; done) | (with_reducible refine ck_nzL ?_; simp; done) | (with_reducible refine vp_in_nI ?_ ?_ <;> first | omega | decide) | (with_reducible refine Nat.le_of_ble_eq_true ?_; rfl) | omega)
          · intro zc21
            with_reducible first | have ze21 := Int32.not_le.mpr zc21 | have ze21 := zc21
            refine hB bX11_areGoing_26 _ _ _ _ _ _ _ kX11_areGoing_26 ?_
            dsimp only [bX11_areGoing_26, kx_wp, kx_step, kx_lI, kx_lL, kx_lA, kx_gl, kx_pI, kx_pL, kx_pR, kx_pA, kx_pV, kx_s1, kx_s2, kx_sl, kx_pre, kx_c2, kx_pl, kx_cmp, kx_oF, kx_eqN, kx_nil, kx_c1, kx_ft, kx_aI, kx_aL, kx_aR, kx_ln, Nat.reduceAdd, Option.toList, List.cons_append, List.nil_append, mW_o, mf_68]
            repeat (simp only [h68, nI_1]; try dsimp only [kx_wp, kx_step, kx_lI, kx_lL, kx_lA, kx_gl, kx_pI, kx_pL, kx_pR, kx_pA, kx_pV, kx_s1, kx_s2, kx_sl, kx_pre, kx_c2, kx_pl, kx_cmp, kx_oF, kx_eqN, kx_nil, kx_c1, kx_ft, kx_aI, kx_aL, kx_aR, kx_ln, Nat.reduceAdd, Option.toList, List.cons_append, List.nil_append, mW_o, mf_68])
            repeat' apply And.intro
            all_goals try (first | with_reducible assumption | (with_reducible refine ck_nzI ?_; simp; done) | (with_reducible refine ck_nzL ?_; simp; done) | (with_reducible refine vp_in_nI ?_ ?_ <;> first | omega | decide) | (with_reducible refine Nat.le_of_ble_eq_true ?_; rfl) | omega)
            all_goals exact ih (i + 1) (by omega) hE
          · intro zc21
            first | exact absurd rfl zc21 | exact absurd zc21 (by decide) | exact absurd (by decide) zc21 | (exfalso; first | exact absurd zc7 (by first | (simp only [nI_leI (show pk < 2 ^ 31 by omega) (show i < 2 ^ 31 by omega)]; omega) | (simp only [nI_leI (show pk < 2 ^ 31 by omega) (show i < 2 ^ 31 by omega), Decidable.not_not]; omega)) | exact absurd hg zc21 | exact zc21 hg | exact hg zc21 | exact absurd hg (Int32.not_lt.mpr (Int32.not_lt.mp zc21)) | exact hg (Int32.not_le.mp zc21) | exact absurd hg (Int32.not_lt.mpr zc21)) | (exfalso; simp_all; done)
      · have hg2 := Bool.eq_false_iff.mpr (fun h => hg (hv.mpr h))
        rw [hg2, Bool.false_and] at hE
        refine hB bX11_areGoing_2 _ _ _ _ _ _ _ kX11_areGoing_2 ?_
        dsimp only [bX11_areGoing_2, kx_wp, kx_step, kx_lI, kx_lL, kx_lA, kx_gl, kx_pI, kx_pL, kx_pR, kx_pA, kx_pV, kx_s1, kx_s2, kx_sl, kx_pre, kx_c2, kx_pl, kx_cmp, kx_oF, kx_eqN, kx_nil, kx_c1, kx_ft, kx_aI, kx_aL, kx_aR, kx_ln, Nat.reduceAdd, Option.toList, List.cons_append, List.nil_append, mW_o, mf_68]
        repeat (simp only [h68, nI_1]; try dsimp only [kx_wp, kx_step, kx_lI, kx_lL, kx_lA, kx_gl, kx_pI, kx_pL, kx_pR, kx_pA, kx_pV, kx_s1, kx_s2, kx_sl, kx_pre, kx_c2, kx_pl, kx_cmp, kx_oF, kx_eqN, kx_nil, kx_c1, kx_ft, kx_aI, kx_aL, kx_aR, kx_ln, Nat.reduceAdd, Option.toList, List.cons_append, List.nil_append, mW_o, mf_68])
        repeat' apply And.intro
        all_goals try (first | with_reducible assumption | (with_reducible refine ck_nzI ?_; simp; done) | (with_reducible refine ck_nzL ?_; simp; done) | (with_reducible refine vp_in_nI ?_ ?_ <;> first | omega | decide) | (with_reducible refine Nat.le_of_ble_eq_true ?_; rfl) | omega)
        · intro zc7
          first | exact absurd rfl zc7 | exact absurd zc7 (by decide) | exact absurd (by decide) zc7 | (exfalso; first | exact absurd zc7 (by first | (simp only [nI_leI (show pk < 2 ^ 31 by omega) (show i < 2 ^ 31 by omega)]; omega) | (simp only [nI_leI (show pk < 2 ^ 31 by omega) (show i < 2 ^ 31 by omega), Decidable.not_not]; omega)) | exact absurd hg zc21 | exact zc21 hg | exact hg zc21 | exact absurd hg (Int32.not_lt.mpr (Int32.not_lt.mp zc21)) | exact hg (Int32.not_le.mp zc21) | exact absurd hg (Int32.not_lt.mpr zc21)) | (exfalso; simp_all; done)
        · intro zc7
          with_reducible first | have ze7 := Int32.not_le.mp zc7 | have ze7 := zc7
          refine hB bX11_areGoing_10 _ _ _ _ _ _ _ kX11_areGoing_10 ?_
          dsimp only [bX11_areGoing_10, kx_wp, kx_step, kx_lI, kx_lL, kx_lA, kx_gl, kx_pI, kx_pL, kx_pR, kx_pA, kx_pV, kx_s1, kx_s2, kx_sl, kx_pre, kx_c2, kx_pl, kx_cmp, kx_oF, kx_eqN, kx_nil, kx_c1, kx_ft, kx_aI, kx_aL, kx_aR, kx_ln, Nat.reduceAdd, Option.toList, List.cons_append, List.nil_append, mW_o, mf_68]
          repeat (simp only [h68, nI_1]; try dsimp only [kx_wp, kx_step, kx_lI, kx_lL, kx_lA, kx_gl, kx_pI, kx_pL, kx_pR, kx_pA, kx_pV, kx_s1, kx_s2, kx_sl, kx_pre, kx_c2, kx_pl, kx_cmp, kx_oF, kx_eqN, kx_nil, kx_c1, kx_ft, kx_aI, kx_aL, kx_aR, kx_ln, Nat.reduceAdd, Option.toList, List.cons_append, List.nil_append, mW_o, mf_68])
          repeat' apply And.intro
          all_goals try (first | with_reducible assumption | (with_reducible refine ck_nzI ?_; simp; done) | (with_reducible refine ck_nzL ?_; simp; done) | (with_reducible refine vp_in_nI ?_ ?_ <;> first | omega | decide) | (with_reducible refine Nat.le_of_ble_eq_true ?_; rfl) | omega)
          refine hC.2.1 504 _ _ _ _ _ _ _ _ _ _ _ _ _ _ _ _ _ lX11_504 (ct_X11_lastOf l G hs (by omega)) rfl rfl (Nat.le_of_ble_eq_true rfl) (by decide) (by decide) (by omega) (by omega) dX11_areGoing_14 ?_
          rw [← ela]
          refine hB bX11_areGoing_17 _ _ _ _ _ _ _ kX11_areGoing_17 ?_
          dsimp only [bX11_areGoing_17, kx_wp, kx_step, kx_lI, kx_lL, kx_lA, kx_gl, kx_pI, kx_pL, kx_pR, kx_pA, kx_pV, kx_s1, kx_s2, kx_sl, kx_pre, kx_c2, kx_pl, kx_cmp, kx_oF, kx_eqN, kx_nil, kx_c1, kx_ft, kx_aI, kx_aL, kx_aR, kx_ln, Nat.reduceAdd, Option.toList, List.cons_append, List.nil_append, mW_o, mf_68]
          repeat (simp only [h68, nI_1]; try dsimp only [kx_wp, kx_step, kx_lI, kx_lL, kx_lA, kx_gl, kx_pI, kx_pL, kx_pR, kx_pA, kx_pV, kx_s1, kx_s2, kx_sl, kx_pre, kx_c2, kx_pl, kx_cmp, kx_oF, kx_eqN, kx_nil, kx_c1, kx_ft, kx_aI, kx_aL, kx_aR, kx_ln, Nat.reduceAdd, Option.toList, List.cons_append, List.nil_append, mW_o, mf_68])
          repeat' apply And.intro
          all_goals try (first | with_reducible assumption | (with_reducible refine ck_nzI ?_; simp; done) | (with_reducible refine ck_nzL ?_; simp; done) | (with_reducible refine vp_in_nI ?_ ?_ <;> first | omega | decide) | (with_reducible refine Nat.le_of_ble_eq_true ?_; rfl) | omega)
          refine hC.1 507 _ _ _ _ _ _ _ 11 _ _ _ _ _ _ _ _ _ _ _ _ lX11_507 (ct_X11_leftAt l G (lf := lf i) (run := run i) (la := la) (by omega) hq h128 h108 h102) ⟨by decide, rfl⟩ (mW_o) rfl rfl (Nat.le_of_ble_eq_true rfl) (by decide) (by decide) (by omega) (by omega) dX11_areGoing_18 ?_
          refine hB bX11_areGoing_21 _ _ _ _ _ _ _ kX11_areGoing_21 ?_
          dsimp only [bX11_areGoing_21, kx_wp, kx_step, kx_lI, kx_lL, kx_lA, kx_gl, kx_pI, kx_pL, kx_pR, kx_pA, kx_pV, kx_s1, kx_s2, kx_sl, kx_pre, kx_c2, kx_pl, kx_cmp, kx_oF, kx_eqN, kx_nil, kx_c1, kx_ft, kx_aI, kx_aL, kx_aR, kx_ln, Nat.reduceAdd, Option.toList, List.cons_append, List.nil_append, mW_o, mf_68]
          repeat (simp only [h68, nI_1]; try dsimp only [kx_wp, kx_step, kx_lI, kx_lL, kx_lA, kx_gl, kx_pI, kx_pL, kx_pR, kx_pA, kx_pV, kx_s1, kx_s2, kx_sl, kx_pre, kx_c2, kx_pl, kx_cmp, kx_oF, kx_eqN, kx_nil, kx_c1, kx_ft, kx_aI, kx_aL, kx_aR, kx_ln, Nat.reduceAdd, Option.toList, List.cons_append, List.nil_append, mW_o, mf_68])
          repeat' apply And.intro
          all_goals try (first | with_reducible assumption | (with_reducible refine ck_nzI ?_; simp; done) | (with_reducible refine ck_nzL ?_; simp; done) | (with_reducible refine vp_in_nI ?_ ?_ <;> first | omega | decide) | (with_reducible refine Nat.le_of_ble_eq_true ?_; rfl) | omega)
          · intro zc21
            first | exact absurd rfl zc21 | exact absurd zc21 (by decide) | exact absurd (by decide) zc21 | (exfalso; first | exact absurd zc7 (by first | (simp only [nI_leI (show pk < 2 ^ 31 by omega) (show i < 2 ^ 31 by omega)]; omega) | (simp only [nI_leI (show pk < 2 ^ 31 by omega) (show i < 2 ^ 31 by omega), Decidable.not_not]; omega)) | exact absurd hg zc21 | exact zc21 hg | exact hg zc21 | exact absurd hg (Int32.not_lt.mpr (Int32.not_lt.mp zc21)) | exact hg (Int32.not_le.mp zc21) | exact absurd hg (Int32.not_lt.mpr zc21)) | (exfalso; simp_all; done)
          · intro zc21
            with_reducible first | have ze21 := Int32.not_lt.mp zc21 | have ze21 := zc21
            refine hB bX11_areGoing_24 _ _ _ _ _ _ _ kX11_areGoing_24 ?_
            dsimp only [bX11_areGoing_24, kx_wp, kx_step, kx_lI, kx_lL, kx_lA, kx_gl, kx_pI, kx_pL, kx_pR, kx_pA, kx_pV, kx_s1, kx_s2, kx_sl, kx_pre, kx_c2, kx_pl, kx_cmp, kx_oF, kx_eqN, kx_nil, kx_c1, kx_ft, kx_aI, kx_aL, kx_aR, kx_ln, Nat.reduceAdd, Option.toList, List.cons_append, List.nil_append, mW_o, mf_68]
            repeat (simp only [h68, nI_1]; try dsimp only [kx_wp, kx_step, kx_lI, kx_lL, kx_lA, kx_gl, kx_pI, kx_pL, kx_pR, kx_pA, kx_pV, kx_s1, kx_s2, kx_sl, kx_pre, kx_c2, kx_pl, kx_cmp, kx_oF, kx_eqN, kx_nil, kx_c1, kx_ft, kx_aI, kx_aL, kx_aR, kx_ln, Nat.reduceAdd, Option.toList, List.cons_append, List.nil_append, mW_o, mf_68])
            all_goals (repeat' apply And.intro)
            all_goals ((try clear hB hC); (try subst hE); first | exact True.intro | with_reducible rfl | rfl | skip)
  refine hB bX11_areGoing_0 _ _ _ _ _ _ _ kX11_areGoing_0 ?_
  dsimp only [bX11_areGoing_0, kx_wp, kx_step, kx_lI, kx_lL, kx_lA, kx_gl, kx_pI, kx_pL, kx_pR, kx_pA, kx_pV, kx_s1, kx_s2, kx_sl, kx_pre, kx_c2, kx_pl, kx_cmp, kx_oF, kx_eqN, kx_nil, kx_c1, kx_ft, kx_aI, kx_aL, kx_aR, kx_ln, Nat.reduceAdd, Option.toList, List.cons_append, List.nil_append, mW_o, mf_68]
  repeat (simp only [h68, nI_1]; try dsimp only [kx_wp, kx_step, kx_lI, kx_lL, kx_lA, kx_gl, kx_pI, kx_pL, kx_pR, kx_pA, kx_pV, kx_s1, kx_s2, kx_sl, kx_pre, kx_c2, kx_pl, kx_cmp, kx_oF, kx_eqN, kx_nil, kx_c1, kx_ft, kx_aI, kx_aL, kx_aR, kx_ln, Nat.reduceAdd, Option.toList, List.cons_append, List.nil_append, mW_o, mf_68])
  repeat' apply And.intro
  all_goals try (first | with_reducible assumption | (with_reducible refine ck_nzI ?_; simp; done) | (with_reducible refine ck_nzL ?_; simp; done) | (with_reducible refine vp_in_nI ?_ ?_ <;> first | omega | decide) | (with_reducible refine Nat.le_of_ble_eq_true ?_; rfl) | omega)
  exact loop2 pk 0 (by omega) hBB


theorem ck_upself {f : Nat → Int32} {c : Nat} : upd f c (f c) = f := by
  funext j
  unfold upd
  by_cases hj : j = c
  · subst hj; rw [if_pos rfl]
  · rw [if_neg hj]
/-- what a rack would strike next -/
def ck_cA (M : Nat → Int32) (A : Nat → Nat → Int32) (c nx : Nat) : Nat → Nat → Int32 :=
  if nx % 24 = 0 then ck_nextA A c (ck_cal (A 102 (16 * c + 13)) (A 112 c) (M 3)) else A
def ck_cR (M : Nat → Int32) (A : Nat → Nat → Int32) (c nx : Nat) : Nat → Int32 := ck_rs (ck_cA M A c nx) c (nI (nx % 24))
theorem ck_rest {A : Nat → Nat → Int32} {c : Nat} {x : Int32} {S : Nat → Int32} : va_up (va_up (va_up (ck_nextA A c x) 123 S) 111 (upd (ck_nextA A c x 111) c (A 111 c))) 112 (upd (ck_nextA A c x 112) c (A 112 c)) = va_up A 123 S := by
  funext k
  unfold va_up
  by_cases h2 : k = 112
  · subst h2
    rw [if_pos rfl, if_neg (by decide)]
    funext j
    unfold upd
    by_cases hj : j = c
    · subst hj; rw [if_pos rfl]
    · rw [if_neg hj]; exact ck_nx_j hj
  · rw [if_neg h2]
    by_cases h1 : k = 111
    · subst h1
      rw [if_pos rfl, if_neg (by decide)]
      funext j
      unfold upd
      by_cases hj : j = c
      · subst hj; rw [if_pos rfl]
      · rw [if_neg hj]; exact ck_nx_j hj
    · rw [if_neg h1]
      by_cases h3 : k = 123
      · rw [if_pos h3, if_pos h3]
      · rw [if_neg h3, if_neg h3]; exact ck_nx_A h1 h2
theorem ck_rest0 {A : Nat → Nat → Int32} {c : Nat} {S : Nat → Int32} : va_up (va_up (va_up A 123 S) 111 (upd (A 111) c (A 111 c))) 112 (upd (A 112) c (A 112 c)) = va_up A 123 S := by
  funext k
  unfold va_up
  by_cases h2 : k = 112
  · subst h2
    rw [if_pos rfl, if_neg (by decide)]
    exact ck_upself
  · rw [if_neg h2]
    by_cases h1 : k = 111
    · subst h1
      rw [if_pos rfl, if_neg (by decide)]
      exact ck_upself
    · rw [if_neg h1]
theorem ck_rack_ok {A : Nat → Nat → Int32} {c : Nat} {h d m : Int32} {S : Nat → Int32} (hw : ck_wf A c) (h7 : A 117 c = 0) : ∃ nn : Nat, A 105 c = nI nn ∧ nn ≤ 400 ∧ ∀ k, k < nn → ck_rko (A 106 (400 * c + k)) (ck_rkS (fun j => A 106 (400 * c + j)) (fun j => A 107 (400 * c + j)) h d m S k).2 := by
  obtain ⟨-, -, nn, hnn, hnn4, hok⟩ := hw
  exact ⟨nn, hnn, hnn4, fun k hk => by rw [ck_rkS_ht]; exact hok h7 k hk⟩

def bX11_comingRack_0 : List kx_O := [(.aload_n 0, 0, 0, 0, .null), (.getfield 83, 11, 39, 0, .null), (.iload_n 1, 1, 0, 0, .null), (.laload, 0, 0, 0, .null), (.ldc2_w 372, 0, 0, 0, .long (3600000000)), (.ldiv, 0, 0, 0, .null), (.l2i, 0, 0, 0, .null), (.iconst 1, 0, 0, 0, .int 1), (.iadd, 0, 0, 0, .null), (.bipush 24, 0, 0, 0, .int 24), (.irem, 0, 0, 0, .null), (.istore_n 2, 2, 0, 0, .null), (.aload_n 0, 0, 0, 0, .null), (.getfield 68, 11, 34, 0, .null), (.iload_n 1, 1, 0, 0, .null), (.iaload, 0, 0, 0, .null), (.istore_n 3, 3, 0, 0, .null), (.aload_n 0, 0, 0, 0, .null), (.getfield 71, 11, 35, 0, .null), (.iload_n 1, 1, 0, 0, .null), (.iaload, 0, 0, 0, .null), (.istore 4, 4, 0, 0, .null), (.iload_n 2, 2, 0, 0, .null), (.ifCond .ne 8, 41, 0, 0, .null)]
theorem kX11_comingRack_0 : kx_oks kxL_X11 false cX11_comingRack 0 bX11_comingRack_0 = true := by decide +kernel
def bX11_comingRack_36 : List kx_O := [(.aload_n 0, 0, 0, 0, .null), (.iload_n 1, 1, 0, 0, .null)]
theorem kX11_comingRack_36 : kx_oks kxL_X11 false cX11_comingRack 36 bX11_comingRack_36 = true := by decide +kernel
def bX11_comingRack_41 : List kx_O := [(.aload_n 0, 0, 0, 0, .null), (.iload_n 1, 1, 0, 0, .null), (.iload_n 2, 2, 0, 0, .null), (.aload_n 0, 0, 0, 0, .null), (.getfield 68, 11, 34, 0, .null), (.iload_n 1, 1, 0, 0, .null), (.iaload, 0, 0, 0, .null), (.aload_n 0, 0, 0, 0, .null), (.getfield 71, 11, 35, 0, .null), (.iload_n 1, 1, 0, 0, .null), (.iaload, 0, 0, 0, .null)]
theorem kX11_comingRack_41 : kx_oks kxL_X11 false cX11_comingRack 41 bX11_comingRack_41 = true := by decide +kernel
def bX11_comingRack_59 : List kx_O := [(.istore 5, 5, 0, 0, .null), (.aload_n 0, 0, 0, 0, .null), (.getfield 68, 11, 34, 0, .null), (.iload_n 1, 1, 0, 0, .null), (.iload_n 3, 3, 0, 0, .null), (.iastore, 0, 0, 0, .null), (.aload_n 0, 0, 0, 0, .null), (.getfield 71, 11, 35, 0, .null), (.iload_n 1, 1, 0, 0, .null), (.iload 4, 4, 0, 0, .null), (.iastore, 0, 0, 0, .null), (.iload 5, 5, 0, 0, .null), (.ireturn, 0, 0, 0, .null)]
theorem kX11_comingRack_59 : kx_oks kxL_X11 false cX11_comingRack 59 bX11_comingRack_59 = true := by decide +kernel
theorem dX11_comingRack_38 : decode cX11_comingRack 38 = .ok (.invokevirtual 400, 3) := by decide +kernel
theorem dX11_comingRack_56 : decode cX11_comingRack 56 = .ok (.invokevirtual 386, 3) := by decide +kernel
set_option maxRecDepth 100000 in
set_option maxHeartbeats 4000000 in
theorem ct_X11_comingRack_0 (l : Launch) (G : kx_G) {M : Nat → Int32} {A : Nat → Nat → Int32} {L : Nat → Nat → Int64} {R : kx_P} {sz : Nat} {c : Nat} (hc : c < 8) {a : Nat} (ha : L 116 c = lN a) (haW : a < 86400000000) (hw : ck_wf A c) (h7 : A 117 c = 0) (hh : ¬ (a / 3600000000 + 1) % 24 = 0)  : kx_M l G sX11_comingRack 3 0 0 [.ref 93, .int (nI c)] (mW M A L R) sz (some (.int (ck_cl ((ck_rs A c (nI ((a / 3600000000 + 1) % 24))) 0)))) (mW M (va_up A 123 (ck_rs A c (nI ((a / 3600000000 + 1) % 24)))) L R) sz := by
  have zq : lN a / 3600000000 = lN (a / 3600000000) := pk_lDiv (b := 3600000000) (by omega) (by decide) (by decide)
  have zr : nI (a / 3600000000 + 1) - nI (a / 3600000000 + 1) / 24 * 24 = nI ((a / 3600000000 + 1) % 24) := pk_rem (d := 24) (by omega) (by decide) (by decide)
  obtain ⟨nn, hnn, hnn4, hok⟩ := ck_rack_ok (A := A) (h := nI ((a / 3600000000 + 1) % 24)) (d := A 111 c) (m := A 112 c) (S := A 123) hw h7
  have en : (A 105 c).toNatClampNeg = nn := by rw [hnn, nI_clamp (by omega)]
  refine kx_mk kx_tab kxLok_X11 (ini := false) [some (.ref 93), some (.int (nI c)), none, none, none, none] ⟨by decide, rfl, by decide, by decide⟩ (⟨_, rfl⟩) rfl rfl (fun g hB hC => ?_)
  refine hB bX11_comingRack_0 _ _ _ _ _ _ _ kX11_comingRack_0 ?_
  dsimp only [bX11_comingRack_0, kx_wp, kx_step, kx_lI, kx_lL, kx_lA, kx_gl, kx_pI, kx_pL, kx_pR, kx_pA, kx_pV, kx_s1, kx_s2, kx_sl, kx_pre, kx_c2, kx_pl, kx_cmp, kx_oF, kx_eqN, kx_nil, kx_c1, kx_ft, kx_aI, kx_aL, kx_aR, kx_ln, Nat.reduceAdd, Option.toList, List.cons_append, List.nil_append, mW_o, mf_39, m_116, mf_34, m_111, mf_35, m_112]
  repeat (simp only [ms_116, ms_111, ms_112, nI_clamp (show c < 2 ^ 31 by omega), ha, zq, lN_i, nI_1, zr, va_us, va_upn, ne_eq, Nat.reduceEqDiff, not_false_eq_true, ck_rest0]; try dsimp only [kx_wp, kx_step, kx_lI, kx_lL, kx_lA, kx_gl, kx_pI, kx_pL, kx_pR, kx_pA, kx_pV, kx_s1, kx_s2, kx_sl, kx_pre, kx_c2, kx_pl, kx_cmp, kx_oF, kx_eqN, kx_nil, kx_c1, kx_ft, kx_aI, kx_aL, kx_aR, kx_ln, Nat.reduceAdd, Option.toList, List.cons_append, List.nil_append, mW_o, mf_39, m_116, mf_34, m_111, mf_35, m_112])
  repeat' apply And.intro
  all_goals try (first | with_reducible assumption | (with_reducible refine ck_nzI ?_; simp; done) | (with_reducible refine ck_nzL ?_; simp; done) | (with_reducible refine vp_in_nI ?_ ?_ <;> first | omega | decide) | (with_reducible refine Nat.le_of_ble_eq_true ?_; rfl) | omega)
  · intro zc33
    have ze33 := zc33
    refine hB bX11_comingRack_41 _ _ _ _ _ _ _ kX11_comingRack_41 ?_
    dsimp only [bX11_comingRack_41, kx_wp, kx_step, kx_lI, kx_lL, kx_lA, kx_gl, kx_pI, kx_pL, kx_pR, kx_pA, kx_pV, kx_s1, kx_s2, kx_sl, kx_pre, kx_c2, kx_pl, kx_cmp, kx_oF, kx_eqN, kx_nil, kx_c1, kx_ft, kx_aI, kx_aL, kx_aR, kx_ln, Nat.reduceAdd, Option.toList, List.cons_append, List.nil_append, mW_o, mf_39, m_116, mf_34, m_111, mf_35, m_112]
    repeat (simp only [ms_116, ms_111, ms_112, nI_clamp (show c < 2 ^ 31 by omega), ha, zq, lN_i, nI_1, zr, va_us, va_upn, ne_eq, Nat.reduceEqDiff, not_false_eq_true, ck_rest0]; try dsimp only [kx_wp, kx_step, kx_lI, kx_lL, kx_lA, kx_gl, kx_pI, kx_pL, kx_pR, kx_pA, kx_pV, kx_s1, kx_s2, kx_sl, kx_pre, kx_c2, kx_pl, kx_cmp, kx_oF, kx_eqN, kx_nil, kx_c1, kx_ft, kx_aI, kx_aL, kx_aR, kx_ln, Nat.reduceAdd, Option.toList, List.cons_append, List.nil_append, mW_o, mf_39, m_116, mf_34, m_111, mf_35, m_112])
    repeat' apply And.intro
    all_goals try (first | with_reducible assumption | (with_reducible refine ck_nzI ?_; simp; done) | (with_reducible refine ck_nzL ?_; simp; done) | (with_reducible refine vp_in_nI ?_ ?_ <;> first | omega | decide) | (with_reducible refine Nat.le_of_ble_eq_true ?_; rfl) | omega)
    refine hC.1 386 _ _ _ _ _ _ _ 11 _ _ _ _ _ _ _ _ _ _ _ _ lX11_386 (ct_X11_rack l G (A := A) hc hnn hnn4 hok) ⟨by decide, rfl⟩ (mW_o) rfl rfl (Nat.le_of_ble_eq_true rfl) (by decide) (by decide) (by omega) (by omega) dX11_comingRack_56 ?_
    refine hB bX11_comingRack_59 _ _ _ _ _ _ _ kX11_comingRack_59 ?_
    dsimp only [bX11_comingRack_59, kx_wp, kx_step, kx_lI, kx_lL, kx_lA, kx_gl, kx_pI, kx_pL, kx_pR, kx_pA, kx_pV, kx_s1, kx_s2, kx_sl, kx_pre, kx_c2, kx_pl, kx_cmp, kx_oF, kx_eqN, kx_nil, kx_c1, kx_ft, kx_aI, kx_aL, kx_aR, kx_ln, Nat.reduceAdd, Option.toList, List.cons_append, List.nil_append, mW_o, mf_39, m_116, mf_34, m_111, mf_35, m_112]
    repeat (simp only [ms_116, ms_111, ms_112, nI_clamp (show c < 2 ^ 31 by omega), ha, zq, lN_i, nI_1, zr, va_us, va_upn, ne_eq, Nat.reduceEqDiff, not_false_eq_true, ck_rest0]; try dsimp only [kx_wp, kx_step, kx_lI, kx_lL, kx_lA, kx_gl, kx_pI, kx_pL, kx_pR, kx_pA, kx_pV, kx_s1, kx_s2, kx_sl, kx_pre, kx_c2, kx_pl, kx_cmp, kx_oF, kx_eqN, kx_nil, kx_c1, kx_ft, kx_aI, kx_aL, kx_aR, kx_ln, Nat.reduceAdd, Option.toList, List.cons_append, List.nil_append, mW_o, mf_39, m_116, mf_34, m_111, mf_35, m_112])
    all_goals (repeat' apply And.intro)
    all_goals ((try clear hB hC); first | exact True.intro | with_reducible rfl | with_reducible assumption | (with_reducible refine vp_in_nI ?_ ?_ <;> first | omega | decide) | exact Nat.le_of_ble_eq_true rfl | (with_reducible refine ck_nzI ?_; simp; done) | (with_reducible refine ck_nzL ?_; simp; done) | (simp only [pk_us, pk_uLs, ck_rs, en, ze33, ↓reduceIte, not_true_eq_false, not_false_eq_true]; done) | (simp only [ck_rs, en, ze33, ↓reduceIte, not_true_eq_false, not_false_eq_true]; with_reducible rfl) | skip)
  · intro zc33
    first | exact absurd rfl zc33 | exact absurd zc33 (by decide) | exact absurd (by decide) zc33 | (exfalso; first | exact zc33 (by rw [hh]; rfl) | exact hh ((nI_eq (b := 0) (by omega) (by decide)).mp zc33) | exact hh ((nI_eq (b := 0) (by omega) (by decide)).mp (Decidable.not_not.mp zc33))) | (exfalso; simp_all; done)

set_option maxRecDepth 100000 in
set_option maxHeartbeats 4000000 in
theorem ct_X11_comingRack_1 (l : Launch) (G : kx_G) {M : Nat → Int32} {A : Nat → Nat → Int32} {L : Nat → Nat → Int64} {R : kx_P} {sz : Nat} {c : Nat} (hc : c < 8) {a : Nat} (ha : L 116 c = lN a) (haW : a < 86400000000) (hw : ck_wf A c) (h7 : A 117 c = 0) (hh : (a / 3600000000 + 1) % 24 = 0)  : kx_M l G sX11_comingRack 3 0 0 [.ref 93, .int (nI c)] (mW M A L R) sz (some (.int (ck_cl ((ck_rs (ck_nextA A c (ck_cal (A 102 (16 * c + 13)) (A 112 c) (M 3))) c (nI ((a / 3600000000 + 1) % 24))) 0)))) (mW M (va_up A 123 (ck_rs (ck_nextA A c (ck_cal (A 102 (16 * c + 13)) (A 112 c) (M 3))) c (nI ((a / 3600000000 + 1) % 24)))) L R) sz := by
  have zq : lN a / 3600000000 = lN (a / 3600000000) := pk_lDiv (b := 3600000000) (by omega) (by decide) (by decide)
  have zr : nI (a / 3600000000 + 1) - nI (a / 3600000000 + 1) / 24 * 24 = nI ((a / 3600000000 + 1) % 24) := pk_rem (d := 24) (by omega) (by decide) (by decide)
  obtain ⟨nn, hnn, hnn4, hok⟩ := ck_rack_ok (A := (ck_nextA A c (ck_cal (A 102 (16 * c + 13)) (A 112 c) (M 3)))) (h := nI ((a / 3600000000 + 1) % 24)) (d := (ck_nextA A c (ck_cal (A 102 (16 * c + 13)) (A 112 c) (M 3))) 111 c) (m := (ck_nextA A c (ck_cal (A 102 (16 * c + 13)) (A 112 c) (M 3))) 112 c) (S := (ck_nextA A c (ck_cal (A 102 (16 * c + 13)) (A 112 c) (M 3))) 123) (ck_wf_nx hw) (by rw [ck_nx_A (by decide) (by decide)]; exact h7)
  have en : ((ck_nextA A c (ck_cal (A 102 (16 * c + 13)) (A 112 c) (M 3))) 105 c).toNatClampNeg = nn := by rw [hnn, nI_clamp (by omega)]
  refine kx_mk kx_tab kxLok_X11 (ini := false) [some (.ref 93), some (.int (nI c)), none, none, none, none] ⟨by decide, rfl, by decide, by decide⟩ (⟨_, rfl⟩) rfl rfl (fun g hB hC => ?_)
  refine hB bX11_comingRack_0 _ _ _ _ _ _ _ kX11_comingRack_0 ?_
  dsimp only [bX11_comingRack_0, kx_wp, kx_step, kx_lI, kx_lL, kx_lA, kx_gl, kx_pI, kx_pL, kx_pR, kx_pA, kx_pV, kx_s1, kx_s2, kx_sl, kx_pre, kx_c2, kx_pl, kx_cmp, kx_oF, kx_eqN, kx_nil, kx_c1, kx_ft, kx_aI, kx_aL, kx_aR, kx_ln, Nat.reduceAdd, Option.toList, List.cons_append, List.nil_append, mW_o, mf_39, m_116, mf_34, m_111, mf_35, m_112]
  repeat (simp only [ms_116, ms_111, ms_112, nI_clamp (show c < 2 ^ 31 by omega), ha, zq, lN_i, nI_1, zr, va_us, va_upn, ne_eq, Nat.reduceEqDiff, not_false_eq_true, ck_rest]; try dsimp only [kx_wp, kx_step, kx_lI, kx_lL, kx_lA, kx_gl, kx_pI, kx_pL, kx_pR, kx_pA, kx_pV, kx_s1, kx_s2, kx_sl, kx_pre, kx_c2, kx_pl, kx_cmp, kx_oF, kx_eqN, kx_nil, kx_c1, kx_ft, kx_aI, kx_aL, kx_aR, kx_ln, Nat.reduceAdd, Option.toList, List.cons_append, List.nil_append, mW_o, mf_39, m_116, mf_34, m_111, mf_35, m_112])
  repeat' apply And.intro
  all_goals try (first | with_reducible assumption | (with_reducible refine ck_nzI ?_; simp; done) | (with_reducible refine ck_nzL ?_; simp; done) | (with_reducible refine vp_in_nI ?_ ?_ <;> first | omega | decide) | (with_reducible refine Nat.le_of_ble_eq_true ?_; rfl) | omega)
  · intro zc33
    first | exact absurd rfl zc33 | exact absurd zc33 (by decide) | exact absurd (by decide) zc33 | (exfalso; first | exact zc33 (by rw [hh]; rfl) | exact hh ((nI_eq (b := 0) (by omega) (by decide)).mp zc33) | exact hh ((nI_eq (b := 0) (by omega) (by decide)).mp (Decidable.not_not.mp zc33))) | (exfalso; simp_all; done)
  · intro zc33
    with_reducible first | have ze33 := Decidable.not_not.mp zc33 | have ze33 := zc33
    refine hB bX11_comingRack_36 _ _ _ _ _ _ _ kX11_comingRack_36 ?_
    dsimp only [bX11_comingRack_36, kx_wp, kx_step, kx_lI, kx_lL, kx_lA, kx_gl, kx_pI, kx_pL, kx_pR, kx_pA, kx_pV, kx_s1, kx_s2, kx_sl, kx_pre, kx_c2, kx_pl, kx_cmp, kx_oF, kx_eqN, kx_nil, kx_c1, kx_ft, kx_aI, kx_aL, kx_aR, kx_ln, Nat.reduceAdd, Option.toList, List.cons_append, List.nil_append, mW_o, mf_39, m_116, mf_34, m_111, mf_35, m_112]
    repeat (simp only [ms_116, ms_111, ms_112, nI_clamp (show c < 2 ^ 31 by omega), ha, zq, lN_i, nI_1, zr, va_us, va_upn, ne_eq, Nat.reduceEqDiff, not_false_eq_true, ck_rest]; try dsimp only [kx_wp, kx_step, kx_lI, kx_lL, kx_lA, kx_gl, kx_pI, kx_pL, kx_pR, kx_pA, kx_pV, kx_s1, kx_s2, kx_sl, kx_pre, kx_c2, kx_pl, kx_cmp, kx_oF, kx_eqN, kx_nil, kx_c1, kx_ft, kx_aI, kx_aL, kx_aR, kx_ln, Nat.reduceAdd, Option.toList, List.cons_append, List.nil_append, mW_o, mf_39, m_116, mf_34, m_111, mf_35, m_112])
    repeat' apply And.intro
    all_goals try (first | with_reducible assumption | (with_reducible refine ck_nzI ?_; simp; done) | (with_reducible refine ck_nzL ?_; simp; done) | (with_reducible refine vp_in_nI ?_ ?_ <;> first | omega | decide) | (with_reducible refine Nat.le_of_ble_eq_true ?_; rfl) | omega)
    refine hC.1 400 _ _ _ _ _ _ _ 11 _ _ _ _ _ _ _ _ _ _ _ _ lX11_400 (ct_X11_nextDate l G hc) ⟨by decide, rfl⟩ (mW_o) rfl rfl (Nat.le_of_ble_eq_true rfl) (by decide) (by decide) (by omega) (by omega) dX11_comingRack_38 ?_
    refine hB bX11_comingRack_41 _ _ _ _ _ _ _ kX11_comingRack_41 ?_
    dsimp only [bX11_comingRack_41, kx_wp, kx_step, kx_lI, kx_lL, kx_lA, kx_gl, kx_pI, kx_pL, kx_pR, kx_pA, kx_pV, kx_s1, kx_s2, kx_sl, kx_pre, kx_c2, kx_pl, kx_cmp, kx_oF, kx_eqN, kx_nil, kx_c1, kx_ft, kx_aI, kx_aL, kx_aR, kx_ln, Nat.reduceAdd, Option.toList, List.cons_append, List.nil_append, mW_o, mf_39, m_116, mf_34, m_111, mf_35, m_112]
    repeat (simp only [ms_116, ms_111, ms_112, nI_clamp (show c < 2 ^ 31 by omega), ha, zq, lN_i, nI_1, zr, va_us, va_upn, ne_eq, Nat.reduceEqDiff, not_false_eq_true, ck_rest]; try dsimp only [kx_wp, kx_step, kx_lI, kx_lL, kx_lA, kx_gl, kx_pI, kx_pL, kx_pR, kx_pA, kx_pV, kx_s1, kx_s2, kx_sl, kx_pre, kx_c2, kx_pl, kx_cmp, kx_oF, kx_eqN, kx_nil, kx_c1, kx_ft, kx_aI, kx_aL, kx_aR, kx_ln, Nat.reduceAdd, Option.toList, List.cons_append, List.nil_append, mW_o, mf_39, m_116, mf_34, m_111, mf_35, m_112])
    repeat' apply And.intro
    all_goals try (first | with_reducible assumption | (with_reducible refine ck_nzI ?_; simp; done) | (with_reducible refine ck_nzL ?_; simp; done) | (with_reducible refine vp_in_nI ?_ ?_ <;> first | omega | decide) | (with_reducible refine Nat.le_of_ble_eq_true ?_; rfl) | omega)
    refine hC.1 386 _ _ _ _ _ _ _ 11 _ _ _ _ _ _ _ _ _ _ _ _ lX11_386 (ct_X11_rack l G (A := (ck_nextA A c (ck_cal (A 102 (16 * c + 13)) (A 112 c) (M 3)))) hc hnn hnn4 hok) ⟨by decide, rfl⟩ (mW_o) rfl rfl (Nat.le_of_ble_eq_true rfl) (by decide) (by decide) (by omega) (by omega) dX11_comingRack_56 ?_
    refine hB bX11_comingRack_59 _ _ _ _ _ _ _ kX11_comingRack_59 ?_
    dsimp only [bX11_comingRack_59, kx_wp, kx_step, kx_lI, kx_lL, kx_lA, kx_gl, kx_pI, kx_pL, kx_pR, kx_pA, kx_pV, kx_s1, kx_s2, kx_sl, kx_pre, kx_c2, kx_pl, kx_cmp, kx_oF, kx_eqN, kx_nil, kx_c1, kx_ft, kx_aI, kx_aL, kx_aR, kx_ln, Nat.reduceAdd, Option.toList, List.cons_append, List.nil_append, mW_o, mf_39, m_116, mf_34, m_111, mf_35, m_112]
    repeat (simp only [ms_116, ms_111, ms_112, nI_clamp (show c < 2 ^ 31 by omega), ha, zq, lN_i, nI_1, zr, va_us, va_upn, ne_eq, Nat.reduceEqDiff, not_false_eq_true, ck_rest]; try dsimp only [kx_wp, kx_step, kx_lI, kx_lL, kx_lA, kx_gl, kx_pI, kx_pL, kx_pR, kx_pA, kx_pV, kx_s1, kx_s2, kx_sl, kx_pre, kx_c2, kx_pl, kx_cmp, kx_oF, kx_eqN, kx_nil, kx_c1, kx_ft, kx_aI, kx_aL, kx_aR, kx_ln, Nat.reduceAdd, Option.toList, List.cons_append, List.nil_append, mW_o, mf_39, m_116, mf_34, m_111, mf_35, m_112])
    all_goals (repeat' apply And.intro)
    all_goals ((try clear hB hC); first | exact True.intro | with_reducible rfl | with_reducible assumption | (with_reducible refine vp_in_nI ?_ ?_ <;> first | omega | decide) | exact Nat.le_of_ble_eq_true rfl | (with_reducible refine ck_nzI ?_; simp; done) | (with_reducible refine ck_nzL ?_; simp; done) | (simp only [pk_us, pk_uLs, ck_rs, en, eq_true ze33, ↓reduceIte, not_true_eq_false, not_false_eq_true]; done) | (simp only [ck_rs, en, eq_true ze33, ↓reduceIte, not_true_eq_false, not_false_eq_true]; with_reducible rfl) | skip)

theorem ct_X11_comingRack (l : Launch) (G : kx_G) {M : Nat → Int32} {A : Nat → Nat → Int32} {L : Nat → Nat → Int64} {R : kx_P} {sz : Nat} {c : Nat} (hc : c < 8) (hd : ck_dl L c) (hw : ck_wf A c) (h7 : A 117 c = 0) :
    kx_M l G sX11_comingRack 3 0 0 [.ref 93, .int (nI c)] (mW M A L R) sz (some (.int (ck_cl (ck_cR M A c (ck_nx L c) 0)))) (mW M (va_up A 123 (ck_cR M A c (ck_nx L c))) L R) sz := by
  obtain ⟨a, haW, ha⟩ := hd
  have ea : ck_tn (L 116 c) = a := by rw [ha, ck_tn_l (by omega)]
  unfold ck_cR ck_cA ck_nx
  rw [ea]
  by_cases h : (a / 3600000000 + 1) % 24 = 0
  · rw [if_pos h]
    exact ct_X11_comingRack_1 l G hc ha haW hw h7 h
  · rw [if_neg h]
    exact ct_X11_comingRack_0 l G hc ha haW hw h7 h


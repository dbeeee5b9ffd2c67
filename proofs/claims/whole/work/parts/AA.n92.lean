section KZW
variable {l : Launch} {G : kx_G} {P : kx_P} {sz : Nat} {F T : Nat → Int32} {x : Value} {n b : Nat}
theorem cx_wi_t (hT : P 67 = kI 0 400 T) (h6 : F 6 = nI b) (h7 : F 7 = nI (ck_ps T n b)) (hb : b ≤ n) (hn : n ≤ 400) (i : Nat) (hi : i < 23) (h : ck_wo_ T n b = kz_co i) : kx_M l G sX8_wordIs 5 0 0 [.ref 68, .ref (8 + i)] (cx_8 P x F) sz (some (.int 1)) (cx_8 P x F) sz := by
  have hp := ck_ps_le T hb
  have z := ct_X8_wordIs l G (sz := sz) (x := x) hT h6 h7 hp.1 (by omega) hi
  rw [if_pos ((cx_wd hi).mpr h)] at z
  exact z
theorem cx_wi_f (hT : P 67 = kI 0 400 T) (h6 : F 6 = nI b) (h7 : F 7 = nI (ck_ps T n b)) (hb : b ≤ n) (hn : n ≤ 400) (i : Nat) (hi : i < 23) (h : ¬ ck_wo_ T n b = kz_co i) : kx_M l G sX8_wordIs 5 0 0 [.ref 68, .ref (8 + i)] (cx_8 P x F) sz (some (.int 0)) (cx_8 P x F) sz := by
  have hp := ck_ps_le T hb
  have z := ct_X8_wordIs l G (sz := sz) (x := x) hT h6 h7 hp.1 (by omega) hi
  rw [if_neg (fun q => h ((cx_wd hi).mp q))] at z
  exact z
end KZW
theorem cx_PE.cg {Q : kx_P} {w : Nat} {T : Nat → Int32} {n : Nat} {S S2 : ck_R} {sz : Nat} (h1 : ¬ S.2.1 = -1) (e1 : S2.2.1 = S.2.1) (e2 : S2.2.2.1 = S.2.2.1) {r : Option Value} {P2 : kx_P} {s2 : Nat} (h : cx_PE Q w T n S sz r P2 s2) : cx_PE Q w T n S2 sz r P2 s2 := by
  obtain ⟨F, Fo, st, h3, h4, h5, h6, h7⟩ := h
  refine ⟨F, Fo, st, ?_, h4, h5, fun q => absurd (e1.symm.trans q) h1, fun _ => ?_⟩
  · rw [h3, cx_b0 h1, cx_b0 (fun q => h1 (e1.symm.trans q))]
  · obtain ⟨g1, g2, g3⟩ := h7 h1
    exact ⟨g1.trans e2.symm, g2.trans e1.symm, fun q => g3 (e2.symm.trans q)⟩
def cx_W (l : Launch) (G : kx_G) (y : kx_S) (d : Nat) (Q : kx_P) (w : Nat) (T : Nat → Int32) (n : Nat) (As : List Value) (S S2 : ck_R) (sz : Nat) : Prop := ∀ F Fo st, cx_E T n S F Fo st → kx_Mn l G y d 0 0 (.ref 68 :: As) (cx_8 (cx_fW Q w Fo st) (.ref w) F) sz (cx_PE Q w T n S2 sz)
def bX8_readUnit_0 : List kx_O := [(.aload_n 0, 0, 0, 0, .null)]
theorem kX8_readUnit_0 : kx_oks kxL_X8 false cX8_readUnit 0 bX8_readUnit_0 = true := by decide +kernel
def bX8_readUnit_4 : List kx_O := [(.ifCond .eq 38, 42, 0, 0, .null)]
theorem kX8_readUnit_4 : kx_oks kxL_X8 false cX8_readUnit 4 bX8_readUnit_4 = true := by decide +kernel
def bX8_readUnit_7 : List kx_O := [(.aload_n 0, 0, 0, 0, .null), (.iconst 0, 0, 0, 0, .int 0), (.bipush 99, 0, 0, 0, .int 99)]
theorem kX8_readUnit_7 : kx_oks kxL_X8 false cX8_readUnit 7 bX8_readUnit_7 = true := by decide +kernel
def bX8_readUnit_14 : List kx_O := [(.istore_n 1, 1, 0, 0, .null), (.aload_n 0, 0, 0, 0, .null), (.getfield 34, 8, 4, 0, .null), (.ifCond .ne 21, 40, 0, 0, .null)]
theorem kX8_readUnit_14 : kx_oks kxL_X8 false cX8_readUnit 14 bX8_readUnit_14 = true := by decide +kernel
def bX8_readUnit_22 : List kx_O := [(.aload_n 0, 0, 0, 0, .null), (.getfield 37, 8, 9, 0, .null), (.getfield 206, 9, 16, 0, .null), (.iload_n 1, 1, 0, 0, .null)]
theorem kX8_readUnit_22 : kx_oks kxL_X8 false cX8_readUnit 22 bX8_readUnit_22 = true := by decide +kernel
def bX8_readUnit_33 : List kx_O := [(.ifCond .eq 7, 40, 0, 0, .null)]
theorem kX8_readUnit_33 : kx_oks kxL_X8 false cX8_readUnit 33 bX8_readUnit_33 = true := by decide +kernel
def bX8_readUnit_36 : List kx_O := [(.iconst 1, 0, 0, 0, .int 1), (.goto 4, 41, 0, 0, .null)]
theorem kX8_readUnit_36 : kx_oks kxL_X8 false cX8_readUnit 36 bX8_readUnit_36 = true := by decide +kernel
def bX8_readUnit_40 : List kx_O := [(.iconst 0, 0, 0, 0, .int 0)]
theorem kX8_readUnit_40 : kx_oks kxL_X8 false cX8_readUnit 40 bX8_readUnit_40 = true := by decide +kernel
def bX8_readUnit_41 : List kx_O := [(.ireturn, 0, 0, 0, .null)]
theorem kX8_readUnit_41 : kx_oks kxL_X8 false cX8_readUnit 41 bX8_readUnit_41 = true := by decide +kernel
def bX8_readUnit_42 : List kx_O := [(.aload_n 0, 0, 0, 0, .null), (.bipush 40, 0, 0, 0, .int 40)]
theorem kX8_readUnit_42 : kx_oks kxL_X8 false cX8_readUnit 42 bX8_readUnit_42 = true := by decide +kernel
def bX8_readUnit_48 : List kx_O := [(.ifCond .eq 30, 78, 0, 0, .null)]
theorem kX8_readUnit_48 : kx_oks kxL_X8 false cX8_readUnit 48 bX8_readUnit_48 = true := by decide +kernel
def bX8_readUnit_51 : List kx_O := [(.aload_n 0, 0, 0, 0, .null)]
theorem kX8_readUnit_51 : kx_oks kxL_X8 false cX8_readUnit 51 bX8_readUnit_51 = true := by decide +kernel
def bX8_readUnit_55 : List kx_O := [(.ifCond .eq 21, 76, 0, 0, .null)]
theorem kX8_readUnit_55 : kx_oks kxL_X8 false cX8_readUnit 55 bX8_readUnit_55 = true := by decide +kernel
def bX8_readUnit_58 : List kx_O := [(.aload_n 0, 0, 0, 0, .null)]
theorem kX8_readUnit_58 : kx_oks kxL_X8 false cX8_readUnit 58 bX8_readUnit_58 = true := by decide +kernel
def bX8_readUnit_62 : List kx_O := [(.ifCond .eq 14, 76, 0, 0, .null)]
theorem kX8_readUnit_62 : kx_oks kxL_X8 false cX8_readUnit 62 bX8_readUnit_62 = true := by decide +kernel
def bX8_readUnit_65 : List kx_O := [(.aload_n 0, 0, 0, 0, .null)]
theorem kX8_readUnit_65 : kx_oks kxL_X8 false cX8_readUnit 65 bX8_readUnit_65 = true := by decide +kernel
def bX8_readUnit_69 : List kx_O := [(.ifCond .eq 7, 76, 0, 0, .null)]
theorem kX8_readUnit_69 : kx_oks kxL_X8 false cX8_readUnit 69 bX8_readUnit_69 = true := by decide +kernel
def bX8_readUnit_72 : List kx_O := [(.iconst 1, 0, 0, 0, .int 1), (.goto 4, 77, 0, 0, .null)]
theorem kX8_readUnit_72 : kx_oks kxL_X8 false cX8_readUnit 72 bX8_readUnit_72 = true := by decide +kernel
def bX8_readUnit_76 : List kx_O := [(.iconst 0, 0, 0, 0, .int 0)]
theorem kX8_readUnit_76 : kx_oks kxL_X8 false cX8_readUnit 76 bX8_readUnit_76 = true := by decide +kernel
def bX8_readUnit_77 : List kx_O := [(.ireturn, 0, 0, 0, .null)]
theorem kX8_readUnit_77 : kx_oks kxL_X8 false cX8_readUnit 77 bX8_readUnit_77 = true := by decide +kernel
def bX8_readUnit_78 : List kx_O := [(.aload_n 0, 0, 0, 0, .null)]
theorem kX8_readUnit_78 : kx_oks kxL_X8 false cX8_readUnit 78 bX8_readUnit_78 = true := by decide +kernel
def bX8_readUnit_82 : List kx_O := [(.aload_n 0, 0, 0, 0, .null)]
theorem kX8_readUnit_82 : kx_oks kxL_X8 false cX8_readUnit 82 bX8_readUnit_82 = true := by decide +kernel
def bX8_readUnit_88 : List kx_O := [(.ifCond .eq 15, 103, 0, 0, .null)]
theorem kX8_readUnit_88 : kx_oks kxL_X8 false cX8_readUnit 88 bX8_readUnit_88 = true := by decide +kernel
def bX8_readUnit_91 : List kx_O := [(.aload_n 0, 0, 0, 0, .null), (.getfield 37, 8, 9, 0, .null), (.getfield 206, 9, 16, 0, .null), (.iconst (-1), 0, 0, 0, .int (-1))]
theorem kX8_readUnit_91 : kx_oks kxL_X8 false cX8_readUnit 91 bX8_readUnit_91 = true := by decide +kernel
def bX8_readUnit_102 : List kx_O := [(.ireturn, 0, 0, 0, .null)]
theorem kX8_readUnit_102 : kx_oks kxL_X8 false cX8_readUnit 102 bX8_readUnit_102 = true := by decide +kernel
def bX8_readUnit_103 : List kx_O := [(.aload_n 0, 0, 0, 0, .null)]
theorem kX8_readUnit_103 : kx_oks kxL_X8 false cX8_readUnit 103 bX8_readUnit_103 = true := by decide +kernel
def bX8_readUnit_109 : List kx_O := [(.ifCond .eq 16, 125, 0, 0, .null)]
theorem kX8_readUnit_109 : kx_oks kxL_X8 false cX8_readUnit 109 bX8_readUnit_109 = true := by decide +kernel
def bX8_readUnit_112 : List kx_O := [(.aload_n 0, 0, 0, 0, .null), (.getfield 37, 8, 9, 0, .null), (.getfield 206, 9, 16, 0, .null), (.bipush (-2), 0, 0, 0, .int (-2))]
theorem kX8_readUnit_112 : kx_oks kxL_X8 false cX8_readUnit 112 bX8_readUnit_112 = true := by decide +kernel
def bX8_readUnit_124 : List kx_O := [(.ireturn, 0, 0, 0, .null)]
theorem kX8_readUnit_124 : kx_oks kxL_X8 false cX8_readUnit 124 bX8_readUnit_124 = true := by decide +kernel
def bX8_readUnit_125 : List kx_O := [(.aload_n 0, 0, 0, 0, .null)]
theorem kX8_readUnit_125 : kx_oks kxL_X8 false cX8_readUnit 125 bX8_readUnit_125 = true := by decide +kernel
def bX8_readUnit_131 : List kx_O := [(.ifCond .eq 16, 147, 0, 0, .null)]
theorem kX8_readUnit_131 : kx_oks kxL_X8 false cX8_readUnit 131 bX8_readUnit_131 = true := by decide +kernel
def bX8_readUnit_134 : List kx_O := [(.aload_n 0, 0, 0, 0, .null), (.getfield 37, 8, 9, 0, .null), (.getfield 206, 9, 16, 0, .null), (.bipush (-3), 0, 0, 0, .int (-3))]
theorem kX8_readUnit_134 : kx_oks kxL_X8 false cX8_readUnit 134 bX8_readUnit_134 = true := by decide +kernel
def bX8_readUnit_146 : List kx_O := [(.ireturn, 0, 0, 0, .null)]
theorem kX8_readUnit_146 : kx_oks kxL_X8 false cX8_readUnit 146 bX8_readUnit_146 = true := by decide +kernel
def bX8_readUnit_147 : List kx_O := [(.aload_n 0, 0, 0, 0, .null)]
theorem kX8_readUnit_147 : kx_oks kxL_X8 false cX8_readUnit 147 bX8_readUnit_147 = true := by decide +kernel
def bX8_readUnit_153 : List kx_O := [(.ifCond .eq 10, 163, 0, 0, .null)]
theorem kX8_readUnit_153 : kx_oks kxL_X8 false cX8_readUnit 153 bX8_readUnit_153 = true := by decide +kernel
def bX8_readUnit_156 : List kx_O := [(.aload_n 0, 0, 0, 0, .null)]
theorem kX8_readUnit_156 : kx_oks kxL_X8 false cX8_readUnit 156 bX8_readUnit_156 = true := by decide +kernel
def bX8_readUnit_160 : List kx_O := [(.goto 12, 172, 0, 0, .null)]
theorem kX8_readUnit_160 : kx_oks kxL_X8 false cX8_readUnit 160 bX8_readUnit_160 = true := by decide +kernel
def bX8_readUnit_163 : List kx_O := [(.aload_n 0, 0, 0, 0, .null), (.iconst 1, 0, 0, 0, .int 1), (.aload_n 0, 0, 0, 0, .null), (.getfield 62, 8, 6, 0, .null)]
theorem kX8_readUnit_163 : kx_oks kxL_X8 false cX8_readUnit 163 bX8_readUnit_163 = true := by decide +kernel
def bX8_readUnit_172 : List kx_O := [(.ireturn, 0, 0, 0, .null)]
theorem kX8_readUnit_172 : kx_oks kxL_X8 false cX8_readUnit 172 bX8_readUnit_172 = true := by decide +kernel
theorem dX8_readUnit_1 : decode cX8_readUnit 1 = .ok (.invokevirtual 80, 3) := by decide +kernel
theorem dX8_readUnit_11 : decode cX8_readUnit 11 = .ok (.invokevirtual 85, 3) := by decide +kernel
theorem dX8_readUnit_30 : decode cX8_readUnit 30 = .ok (.invokevirtual 209, 3) := by decide +kernel
theorem dX8_readUnit_45 : decode cX8_readUnit 45 = .ok (.invokevirtual 54, 3) := by decide +kernel
theorem dX8_readUnit_52 : decode cX8_readUnit 52 = .ok (.invokevirtual 215, 3) := by decide +kernel
theorem dX8_readUnit_59 : decode cX8_readUnit 59 = .ok (.invokevirtual 164, 3) := by decide +kernel
theorem dX8_readUnit_66 : decode cX8_readUnit 66 = .ok (.invokevirtual 218, 3) := by decide +kernel
theorem dX8_readUnit_79 : decode cX8_readUnit 79 = .ok (.invokevirtual 88, 3) := by decide +kernel
theorem dX8_readUnit_83 : decode cX8_readUnit 83 = .ok (.ldc 221, 2) := by decide +kernel
theorem dX8_readUnit_85 : decode cX8_readUnit 85 = .ok (.invokevirtual 96, 3) := by decide +kernel
theorem dX8_readUnit_99 : decode cX8_readUnit 99 = .ok (.invokevirtual 209, 3) := by decide +kernel
theorem dX8_readUnit_104 : decode cX8_readUnit 104 = .ok (.ldc 223, 2) := by decide +kernel
theorem dX8_readUnit_106 : decode cX8_readUnit 106 = .ok (.invokevirtual 96, 3) := by decide +kernel
theorem dX8_readUnit_121 : decode cX8_readUnit 121 = .ok (.invokevirtual 209, 3) := by decide +kernel
theorem dX8_readUnit_126 : decode cX8_readUnit 126 = .ok (.ldc 225, 2) := by decide +kernel
theorem dX8_readUnit_128 : decode cX8_readUnit 128 = .ok (.invokevirtual 96, 3) := by decide +kernel
theorem dX8_readUnit_143 : decode cX8_readUnit 143 = .ok (.invokevirtual 209, 3) := by decide +kernel
theorem dX8_readUnit_148 : decode cX8_readUnit 148 = .ok (.ldc 227, 2) := by decide +kernel
theorem dX8_readUnit_150 : decode cX8_readUnit 150 = .ok (.invokevirtual 96, 3) := by decide +kernel
theorem dX8_readUnit_157 : decode cX8_readUnit 157 = .ok (.invokevirtual 229, 3) := by decide +kernel
theorem dX8_readUnit_169 : decode cX8_readUnit 169 = .ok (.invokevirtual 58, 3) := by decide +kernel
set_option maxRecDepth 100000 in
set_option maxHeartbeats 4000000 in
theorem cu_d1 (l : Launch) (G : kx_G) {P : kx_P} {sz : Nat} {Q : kx_P} {w : Nat} (hw : 144 ≤ w) {T F Fo st V : Nat → Int32} (hT : Q 67 = kI 0 400 T) (hQ : Q w = kO 9 (kf (cr9 w) V)) {n : Nat} (hn : n ≤ 400) {S : ck_R} (hs : S.2.1 = -1) (ha : S.1 ≤ n) (he : cx_E T n S F Fo st) {d : Nat} (hdd : 4 ≤ d) (hd : 48 ≤ ck_hcx T n S.1 ∧ ck_hcx T n S.1 ≤ 57) {S2 : ck_R} {v : Int32} {F2 : Nat → Int32} (hM : kx_M l G sX8_takeNumber 2 0 0 [.ref 68, .int 0, .int 99] (cx_8 (cx_fW Q w Fo st) (.ref w) F) sz (some (.int v)) (cx_8 (cx_fW Q w Fo st) (.ref w) F2) sz) (hs2 : S2.2.1 = -1) (he2 : cx_E T n S2 F2 Fo st) (hc4 : S2.2.2.2.2.1 < 400) (hcd : cx_cd 0 v v)  : kx_Mn l G sX8_readUnit d 0 0 [.ref 68] (cx_8 (cx_fW Q w Fo st) (.ref w) F) sz (cx_PE Q w T n (ck_emR 0 v S2) sz) := by
  have hT2 : cx_fW Q w Fo st 67 = kI 0 400 T := (cx_f67 hw).trans hT
  have hle := ck_sk_le T ha
  refine kz_m2 kx_tab kxLok_X8 (ini := false) [some (.ref 68), none] ⟨by decide +kernel, rfl, by decide, by omega⟩ (fun _ _ _ h => Or.inl h.rok) rfl rfl (fun g hB hC hN hK => ?_)
  refine hB bX8_readUnit_0 _ _ _ _ _ _ _ kX8_readUnit_0 ?_
  dsimp only [bX8_readUnit_0, kx_wp, kx_step, kx_lI, kx_lL, kx_lA, kx_gl, kx_pI, kx_pL, kx_pR, kx_pA, kx_pV, kx_s1, kx_s2, kx_sl, kx_pre, kx_c2, kx_pl, kx_cmp, kx_oF, kx_eqN, kx_nil, kx_c1, kx_ft, kx_aI, kx_aL, kx_aR, kx_ln, Nat.reduceAdd, Option.toList, List.cons_append, List.nil_append, cf8_4, cf8_9, cf9_16, cf8_6]
  repeat (simp only [cx_8w0 hw, cx_8o, cx_83 hw, cx_84 hw, hQ, hs, pk_us, pk_un, ne_eq, Nat.reduceEqDiff, not_false_eq_true, he2.2.2.2.1, ks_eq, ks_ss]; try dsimp only [kx_wp, kx_step, kx_lI, kx_lL, kx_lA, kx_gl, kx_pI, kx_pL, kx_pR, kx_pA, kx_pV, kx_s1, kx_s2, kx_sl, kx_pre, kx_c2, kx_pl, kx_cmp, kx_oF, kx_eqN, kx_nil, kx_c1, kx_ft, kx_aI, kx_aL, kx_aR, kx_ln, Nat.reduceAdd, Option.toList, List.cons_append, List.nil_append, cf8_4, cf8_9, cf9_16, cf8_6])
  repeat' apply And.intro
  all_goals try (first | with_reducible assumption | (with_reducible refine ck_nzI ?_; simp; done) | (with_reducible refine ck_nzL ?_; simp; done) | (with_reducible refine vp_in_nI ?_ ?_ <;> first | omega | decide) | (with_reducible refine Nat.le_of_ble_eq_true ?_; rfl) | omega | exact Or.inl trivial | exact Or.inr trivial | exact Or.inl rfl | exact Or.inr rfl)
  refine hC.1 80 _ _ _ _ _ _ _ 8 _ _ _ _ _ _ _ _ _ _ _ _ lX8_80 (ct_X8_nextIsDigit_t (x := .ref w) hT2 he.1 hn he.2.1 hle.2 hd) ⟨by decide, rfl⟩ (cx_8o) rfl rfl (Nat.le_of_ble_eq_true rfl) (by first | decide | omega) (by decide) (by omega) (by omega) dX8_readUnit_1 ?_
  refine hB bX8_readUnit_4 _ _ _ _ _ _ _ kX8_readUnit_4 ?_
  dsimp only [bX8_readUnit_4, kx_wp, kx_step, kx_lI, kx_lL, kx_lA, kx_gl, kx_pI, kx_pL, kx_pR, kx_pA, kx_pV, kx_s1, kx_s2, kx_sl, kx_pre, kx_c2, kx_pl, kx_cmp, kx_oF, kx_eqN, kx_nil, kx_c1, kx_ft, kx_aI, kx_aL, kx_aR, kx_ln, Nat.reduceAdd, Option.toList, List.cons_append, List.nil_append, cf8_4, cf8_9, cf9_16, cf8_6]
  repeat (simp only [cx_8w0 hw, cx_8o, cx_83 hw, cx_84 hw, hQ, hs, pk_us, pk_un, ne_eq, Nat.reduceEqDiff, not_false_eq_true, he2.2.2.2.1, ks_eq, ks_ss]; try dsimp only [kx_wp, kx_step, kx_lI, kx_lL, kx_lA, kx_gl, kx_pI, kx_pL, kx_pR, kx_pA, kx_pV, kx_s1, kx_s2, kx_sl, kx_pre, kx_c2, kx_pl, kx_cmp, kx_oF, kx_eqN, kx_nil, kx_c1, kx_ft, kx_aI, kx_aL, kx_aR, kx_ln, Nat.reduceAdd, Option.toList, List.cons_append, List.nil_append, cf8_4, cf8_9, cf9_16, cf8_6])
  repeat' apply And.intro
  all_goals try (first | with_reducible assumption | (with_reducible refine ck_nzI ?_; simp; done) | (with_reducible refine ck_nzL ?_; simp; done) | (with_reducible refine vp_in_nI ?_ ?_ <;> first | omega | decide) | (with_reducible refine Nat.le_of_ble_eq_true ?_; rfl) | omega | exact Or.inl trivial | exact Or.inr trivial | exact Or.inl rfl | exact Or.inr rfl)
  · intro zc4
    first | exact absurd rfl zc4 | exact absurd zc4 (by decide) | exact absurd (by decide) zc4 | (exfalso; exact zc19 he2.2.2.2.1) | (exfalso; simp_all; done)
  · intro zc4
    have ze4 := zc4
    refine hB bX8_readUnit_7 _ _ _ _ _ _ _ kX8_readUnit_7 ?_
    dsimp only [bX8_readUnit_7, kx_wp, kx_step, kx_lI, kx_lL, kx_lA, kx_gl, kx_pI, kx_pL, kx_pR, kx_pA, kx_pV, kx_s1, kx_s2, kx_sl, kx_pre, kx_c2, kx_pl, kx_cmp, kx_oF, kx_eqN, kx_nil, kx_c1, kx_ft, kx_aI, kx_aL, kx_aR, kx_ln, Nat.reduceAdd, Option.toList, List.cons_append, List.nil_append, cf8_4, cf8_9, cf9_16, cf8_6]
    repeat (simp only [cx_8w0 hw, cx_8o, cx_83 hw, cx_84 hw, hQ, hs, pk_us, pk_un, ne_eq, Nat.reduceEqDiff, not_false_eq_true, he2.2.2.2.1, ks_eq, ks_ss]; try dsimp only [kx_wp, kx_step, kx_lI, kx_lL, kx_lA, kx_gl, kx_pI, kx_pL, kx_pR, kx_pA, kx_pV, kx_s1, kx_s2, kx_sl, kx_pre, kx_c2, kx_pl, kx_cmp, kx_oF, kx_eqN, kx_nil, kx_c1, kx_ft, kx_aI, kx_aL, kx_aR, kx_ln, Nat.reduceAdd, Option.toList, List.cons_append, List.nil_append, cf8_4, cf8_9, cf9_16, cf8_6])
    repeat' apply And.intro
    all_goals try (first | with_reducible assumption | (with_reducible refine ck_nzI ?_; simp; done) | (with_reducible refine ck_nzL ?_; simp; done) | (with_reducible refine vp_in_nI ?_ ?_ <;> first | omega | decide) | (with_reducible refine Nat.le_of_ble_eq_true ?_; rfl) | omega | exact Or.inl trivial | exact Or.inr trivial | exact Or.inl rfl | exact Or.inr rfl)
    refine hC.1 85 _ _ _ _ _ _ _ 8 _ _ _ _ _ _ _ _ _ _ _ _ lX8_85 (hM) ⟨by decide, rfl⟩ (cx_8o) rfl rfl (Nat.le_of_ble_eq_true rfl) (by first | decide | omega) (by decide) (by omega) (by omega) dX8_readUnit_11 ?_
    refine hB bX8_readUnit_14 _ _ _ _ _ _ _ kX8_readUnit_14 ?_
    dsimp only [bX8_readUnit_14, kx_wp, kx_step, kx_lI, kx_lL, kx_lA, kx_gl, kx_pI, kx_pL, kx_pR, kx_pA, kx_pV, kx_s1, kx_s2, kx_sl, kx_pre, kx_c2, kx_pl, kx_cmp, kx_oF, kx_eqN, kx_nil, kx_c1, kx_ft, kx_aI, kx_aL, kx_aR, kx_ln, Nat.reduceAdd, Option.toList, List.cons_append, List.nil_append, cf8_4, cf8_9, cf9_16, cf8_6]
    repeat (simp only [cx_8w0 hw, cx_8o, cx_83 hw, cx_84 hw, hQ, hs, pk_us, pk_un, ne_eq, Nat.reduceEqDiff, not_false_eq_true, he2.2.2.2.1, ks_eq, ks_ss]; try dsimp only [kx_wp, kx_step, kx_lI, kx_lL, kx_lA, kx_gl, kx_pI, kx_pL, kx_pR, kx_pA, kx_pV, kx_s1, kx_s2, kx_sl, kx_pre, kx_c2, kx_pl, kx_cmp, kx_oF, kx_eqN, kx_nil, kx_c1, kx_ft, kx_aI, kx_aL, kx_aR, kx_ln, Nat.reduceAdd, Option.toList, List.cons_append, List.nil_append, cf8_4, cf8_9, cf9_16, cf8_6])
    repeat' apply And.intro
    all_goals try (first | with_reducible assumption | (with_reducible refine ck_nzI ?_; simp; done) | (with_reducible refine ck_nzL ?_; simp; done) | (with_reducible refine vp_in_nI ?_ ?_ <;> first | omega | decide) | (with_reducible refine Nat.le_of_ble_eq_true ?_; rfl) | omega | exact Or.inl trivial | exact Or.inr trivial | exact Or.inl rfl | exact Or.inr rfl)
    · intro zc19
      first | exact absurd rfl zc19 | exact absurd zc19 (by decide) | exact absurd (by decide) zc19 | (exfalso; exact zc19 he2.2.2.2.1) | (exfalso; simp_all; done)
    · intro zc19
      with_reducible first | have ze19 := Decidable.not_not.mp zc19 | have ze19 := zc19
      refine hB bX8_readUnit_22 _ _ _ _ _ _ _ kX8_readUnit_22 ?_
      dsimp only [bX8_readUnit_22, kx_wp, kx_step, kx_lI, kx_lL, kx_lA, kx_gl, kx_pI, kx_pL, kx_pR, kx_pA, kx_pV, kx_s1, kx_s2, kx_sl, kx_pre, kx_c2, kx_pl, kx_cmp, kx_oF, kx_eqN, kx_nil, kx_c1, kx_ft, kx_aI, kx_aL, kx_aR, kx_ln, Nat.reduceAdd, Option.toList, List.cons_append, List.nil_append, cf8_4, cf8_9, cf9_16, cf8_6]
      repeat (simp only [cx_8w0 hw, cx_8o, cx_83 hw, cx_84 hw, hQ, hs, pk_us, pk_un, ne_eq, Nat.reduceEqDiff, not_false_eq_true, he2.2.2.2.1, ks_eq, ks_ss]; try dsimp only [kx_wp, kx_step, kx_lI, kx_lL, kx_lA, kx_gl, kx_pI, kx_pL, kx_pR, kx_pA, kx_pV, kx_s1, kx_s2, kx_sl, kx_pre, kx_c2, kx_pl, kx_cmp, kx_oF, kx_eqN, kx_nil, kx_c1, kx_ft, kx_aI, kx_aL, kx_aR, kx_ln, Nat.reduceAdd, Option.toList, List.cons_append, List.nil_append, cf8_4, cf8_9, cf9_16, cf8_6])
      repeat' apply And.intro
      all_goals try (first | with_reducible assumption | (with_reducible refine ck_nzI ?_; simp; done) | (with_reducible refine ck_nzL ?_; simp; done) | (with_reducible refine vp_in_nI ?_ ?_ <;> first | omega | decide) | (with_reducible refine Nat.le_of_ble_eq_true ?_; rfl) | omega | exact Or.inl trivial | exact Or.inr trivial | exact Or.inl rfl | exact Or.inr rfl)
      refine hC.1 209 _ _ _ _ _ _ _ 2 _ _ _ _ _ _ _ _ _ _ _ _ lX8_209 (ct_X2_add l G (P := Q) hw he2.2.2.2.2.2.1 hc4) ⟨by decide, rfl⟩ (cx_83 hw) rfl rfl (Nat.le_of_ble_eq_true rfl) (by first | decide | omega) (by decide) (by omega) (by omega) dX8_readUnit_30 ?_
      refine hB bX8_readUnit_33 _ _ _ _ _ _ _ kX8_readUnit_33 ?_
      dsimp only [bX8_readUnit_33, kx_wp, kx_step, kx_lI, kx_lL, kx_lA, kx_gl, kx_pI, kx_pL, kx_pR, kx_pA, kx_pV, kx_s1, kx_s2, kx_sl, kx_pre, kx_c2, kx_pl, kx_cmp, kx_oF, kx_eqN, kx_nil, kx_c1, kx_ft, kx_aI, kx_aL, kx_aR, kx_ln, Nat.reduceAdd, Option.toList, List.cons_append, List.nil_append, cf8_4, cf8_9, cf9_16, cf8_6]
      repeat (simp only [cx_8w0 hw, cx_8o, cx_83 hw, cx_84 hw, hQ, hs, pk_us, pk_un, ne_eq, Nat.reduceEqDiff, not_false_eq_true, he2.2.2.2.1, ks_eq, ks_ss]; try dsimp only [kx_wp, kx_step, kx_lI, kx_lL, kx_lA, kx_gl, kx_pI, kx_pL, kx_pR, kx_pA, kx_pV, kx_s1, kx_s2, kx_sl, kx_pre, kx_c2, kx_pl, kx_cmp, kx_oF, kx_eqN, kx_nil, kx_c1, kx_ft, kx_aI, kx_aL, kx_aR, kx_ln, Nat.reduceAdd, Option.toList, List.cons_append, List.nil_append, cf8_4, cf8_9, cf9_16, cf8_6])
      repeat' apply And.intro
      all_goals try (first | with_reducible assumption | (with_reducible refine ck_nzI ?_; simp; done) | (with_reducible refine ck_nzL ?_; simp; done) | (with_reducible refine vp_in_nI ?_ ?_ <;> first | omega | decide) | (with_reducible refine Nat.le_of_ble_eq_true ?_; rfl) | omega | exact Or.inl trivial | exact Or.inr trivial | exact Or.inl rfl | exact Or.inr rfl)
      · intro zc33
        first | exact absurd rfl zc33 | exact absurd zc33 (by decide) | exact absurd (by decide) zc33 | (exfalso; exact zc19 he2.2.2.2.1) | (exfalso; simp_all; done)
      · intro zc33
        have ze33 := zc33
        refine hB bX8_readUnit_36 _ _ _ _ _ _ _ kX8_readUnit_36 ?_
        dsimp only [bX8_readUnit_36, kx_wp, kx_step, kx_lI, kx_lL, kx_lA, kx_gl, kx_pI, kx_pL, kx_pR, kx_pA, kx_pV, kx_s1, kx_s2, kx_sl, kx_pre, kx_c2, kx_pl, kx_cmp, kx_oF, kx_eqN, kx_nil, kx_c1, kx_ft, kx_aI, kx_aL, kx_aR, kx_ln, Nat.reduceAdd, Option.toList, List.cons_append, List.nil_append, cf8_4, cf8_9, cf9_16, cf8_6]
        repeat (simp only [cx_8w0 hw, cx_8o, cx_83 hw, cx_84 hw, hQ, hs, pk_us, pk_un, ne_eq, Nat.reduceEqDiff, not_false_eq_true, he2.2.2.2.1, ks_eq, ks_ss]; try dsimp only [kx_wp, kx_step, kx_lI, kx_lL, kx_lA, kx_gl, kx_pI, kx_pL, kx_pR, kx_pA, kx_pV, kx_s1, kx_s2, kx_sl, kx_pre, kx_c2, kx_pl, kx_cmp, kx_oF, kx_eqN, kx_nil, kx_c1, kx_ft, kx_aI, kx_aL, kx_aR, kx_ln, Nat.reduceAdd, Option.toList, List.cons_append, List.nil_append, cf8_4, cf8_9, cf9_16, cf8_6])
        repeat' apply And.intro
        all_goals try (first | with_reducible assumption | (with_reducible refine ck_nzI ?_; simp; done) | (with_reducible refine ck_nzL ?_; simp; done) | (with_reducible refine vp_in_nI ?_ ?_ <;> first | omega | decide) | (with_reducible refine Nat.le_of_ble_eq_true ?_; rfl) | omega | exact Or.inl trivial | exact Or.inr trivial | exact Or.inl rfl | exact Or.inr rfl)
        refine hB bX8_readUnit_41 _ _ _ _ _ _ _ kX8_readUnit_41 ?_
        dsimp only [bX8_readUnit_41, kx_wp, kx_step, kx_lI, kx_lL, kx_lA, kx_gl, kx_pI, kx_pL, kx_pR, kx_pA, kx_pV, kx_s1, kx_s2, kx_sl, kx_pre, kx_c2, kx_pl, kx_cmp, kx_oF, kx_eqN, kx_nil, kx_c1, kx_ft, kx_aI, kx_aL, kx_aR, kx_ln, Nat.reduceAdd, Option.toList, List.cons_append, List.nil_append, cf8_4, cf8_9, cf9_16, cf8_6]
        repeat (simp only [cx_8w0 hw, cx_8o, cx_83 hw, cx_84 hw, hQ, hs, pk_us, pk_un, ne_eq, Nat.reduceEqDiff, not_false_eq_true, he2.2.2.2.1, ks_eq, ks_ss]; try dsimp only [kx_wp, kx_step, kx_lI, kx_lL, kx_lA, kx_gl, kx_pI, kx_pL, kx_pR, kx_pA, kx_pV, kx_s1, kx_s2, kx_sl, kx_pre, kx_c2, kx_pl, kx_cmp, kx_oF, kx_eqN, kx_nil, kx_c1, kx_ft, kx_aI, kx_aL, kx_aR, kx_ln, Nat.reduceAdd, Option.toList, List.cons_append, List.nil_append, cf8_4, cf8_9, cf9_16, cf8_6])
        all_goals (repeat' apply And.intro)
        all_goals ((try clear hB hC); first | exact True.intro | rfl | exact cx_PE.t hs2 (he2.em hcd))

set_option maxRecDepth 100000 in
set_option maxHeartbeats 4000000 in
theorem cu_d0 (l : Launch) (G : kx_G) {P : kx_P} {sz : Nat} {Q : kx_P} {w : Nat} (hw : 144 ≤ w) {T F Fo st V : Nat → Int32} (hT : Q 67 = kI 0 400 T) (hQ : Q w = kO 9 (kf (cr9 w) V)) {n : Nat} (hn : n ≤ 400) {S : ck_R} (hs : S.2.1 = -1) (ha : S.1 ≤ n) (he : cx_E T n S F Fo st) {d : Nat} (hdd : 4 ≤ d) (hd : 48 ≤ ck_hcx T n S.1 ∧ ck_hcx T n S.1 ≤ 57) {S2 : ck_R} {v : Int32} {F2 : Nat → Int32} (hM : kx_M l G sX8_takeNumber 2 0 0 [.ref 68, .int 0, .int 99] (cx_8 (cx_fW Q w Fo st) (.ref w) F) sz (some (.int v)) (cx_8 (cx_fW Q w Fo st) (.ref w) F2) sz) (hs2 : ¬ S2.2.1 = -1) (hx2 : cx_X S2 F2)  : kx_Mn l G sX8_readUnit d 0 0 [.ref 68] (cx_8 (cx_fW Q w Fo st) (.ref w) F) sz (cx_PE Q w T n (S2) sz) := by
  have hT2 : cx_fW Q w Fo st 67 = kI 0 400 T := (cx_f67 hw).trans hT
  have hle := ck_sk_le T ha
  refine kz_m2 kx_tab kxLok_X8 (ini := false) [some (.ref 68), none] ⟨by decide +kernel, rfl, by decide, by omega⟩ (fun _ _ _ h => Or.inl h.rok) rfl rfl (fun g hB hC hN hK => ?_)
  refine hB bX8_readUnit_0 _ _ _ _ _ _ _ kX8_readUnit_0 ?_
  dsimp only [bX8_readUnit_0, kx_wp, kx_step, kx_lI, kx_lL, kx_lA, kx_gl, kx_pI, kx_pL, kx_pR, kx_pA, kx_pV, kx_s1, kx_s2, kx_sl, kx_pre, kx_c2, kx_pl, kx_cmp, kx_oF, kx_eqN, kx_nil, kx_c1, kx_ft, kx_aI, kx_aL, kx_aR, kx_ln, Nat.reduceAdd, Option.toList, List.cons_append, List.nil_append, cf8_4, cf8_9, cf9_16, cf8_6]
  repeat (simp only [cx_8w0 hw, cx_8o, cx_83 hw, cx_84 hw, hQ, hs, pk_us, pk_un, ne_eq, Nat.reduceEqDiff, not_false_eq_true, ks_eq, ks_ss]; try dsimp only [kx_wp, kx_step, kx_lI, kx_lL, kx_lA, kx_gl, kx_pI, kx_pL, kx_pR, kx_pA, kx_pV, kx_s1, kx_s2, kx_sl, kx_pre, kx_c2, kx_pl, kx_cmp, kx_oF, kx_eqN, kx_nil, kx_c1, kx_ft, kx_aI, kx_aL, kx_aR, kx_ln, Nat.reduceAdd, Option.toList, List.cons_append, List.nil_append, cf8_4, cf8_9, cf9_16, cf8_6])
  repeat' apply And.intro
  all_goals try (first | with_reducible assumption | (with_reducible refine ck_nzI ?_; simp; done) | (with_reducible refine ck_nzL ?_; simp; done) | (with_reducible refine vp_in_nI ?_ ?_ <;> first | omega | decide) | (with_reducible refine Nat.le_of_ble_eq_true ?_; rfl) | omega | exact Or.inl trivial | exact Or.inr trivial | exact Or.inl rfl | exact Or.inr rfl)
  refine hC.1 80 _ _ _ _ _ _ _ 8 _ _ _ _ _ _ _ _ _ _ _ _ lX8_80 (ct_X8_nextIsDigit_t (x := .ref w) hT2 he.1 hn he.2.1 hle.2 hd) ⟨by decide, rfl⟩ (cx_8o) rfl rfl (Nat.le_of_ble_eq_true rfl) (by first | decide | omega) (by decide) (by omega) (by omega) dX8_readUnit_1 ?_
  refine hB bX8_readUnit_4 _ _ _ _ _ _ _ kX8_readUnit_4 ?_
  dsimp only [bX8_readUnit_4, kx_wp, kx_step, kx_lI, kx_lL, kx_lA, kx_gl, kx_pI, kx_pL, kx_pR, kx_pA, kx_pV, kx_s1, kx_s2, kx_sl, kx_pre, kx_c2, kx_pl, kx_cmp, kx_oF, kx_eqN, kx_nil, kx_c1, kx_ft, kx_aI, kx_aL, kx_aR, kx_ln, Nat.reduceAdd, Option.toList, List.cons_append, List.nil_append, cf8_4, cf8_9, cf9_16, cf8_6]
  repeat (simp only [cx_8w0 hw, cx_8o, cx_83 hw, cx_84 hw, hQ, hs, pk_us, pk_un, ne_eq, Nat.reduceEqDiff, not_false_eq_true, ks_eq, ks_ss]; try dsimp only [kx_wp, kx_step, kx_lI, kx_lL, kx_lA, kx_gl, kx_pI, kx_pL, kx_pR, kx_pA, kx_pV, kx_s1, kx_s2, kx_sl, kx_pre, kx_c2, kx_pl, kx_cmp, kx_oF, kx_eqN, kx_nil, kx_c1, kx_ft, kx_aI, kx_aL, kx_aR, kx_ln, Nat.reduceAdd, Option.toList, List.cons_append, List.nil_append, cf8_4, cf8_9, cf9_16, cf8_6])
  repeat' apply And.intro
  all_goals try (first | with_reducible assumption | (with_reducible refine ck_nzI ?_; simp; done) | (with_reducible refine ck_nzL ?_; simp; done) | (with_reducible refine vp_in_nI ?_ ?_ <;> first | omega | decide) | (with_reducible refine Nat.le_of_ble_eq_true ?_; rfl) | omega | exact Or.inl trivial | exact Or.inr trivial | exact Or.inl rfl | exact Or.inr rfl)
  · intro zc4
    first | exact absurd rfl zc4 | exact absurd zc4 (by decide) | exact absurd (by decide) zc4 | (exfalso; exact zc19 (fun q => hx2.2.2 (hx2.1.symm.trans q))) | (exfalso; simp_all; done)
  · intro zc4
    have ze4 := zc4
    refine hB bX8_readUnit_7 _ _ _ _ _ _ _ kX8_readUnit_7 ?_
    dsimp only [bX8_readUnit_7, kx_wp, kx_step, kx_lI, kx_lL, kx_lA, kx_gl, kx_pI, kx_pL, kx_pR, kx_pA, kx_pV, kx_s1, kx_s2, kx_sl, kx_pre, kx_c2, kx_pl, kx_cmp, kx_oF, kx_eqN, kx_nil, kx_c1, kx_ft, kx_aI, kx_aL, kx_aR, kx_ln, Nat.reduceAdd, Option.toList, List.cons_append, List.nil_append, cf8_4, cf8_9, cf9_16, cf8_6]
    repeat (simp only [cx_8w0 hw, cx_8o, cx_83 hw, cx_84 hw, hQ, hs, pk_us, pk_un, ne_eq, Nat.reduceEqDiff, not_false_eq_true, ks_eq, ks_ss]; try dsimp only [kx_wp, kx_step, kx_lI, kx_lL, kx_lA, kx_gl, kx_pI, kx_pL, kx_pR, kx_pA, kx_pV, kx_s1, kx_s2, kx_sl, kx_pre, kx_c2, kx_pl, kx_cmp, kx_oF, kx_eqN, kx_nil, kx_c1, kx_ft, kx_aI, kx_aL, kx_aR, kx_ln, Nat.reduceAdd, Option.toList, List.cons_append, List.nil_append, cf8_4, cf8_9, cf9_16, cf8_6])
    repeat' apply And.intro
    all_goals try (first | with_reducible assumption | (with_reducible refine ck_nzI ?_; simp; done) | (with_reducible refine ck_nzL ?_; simp; done) | (with_reducible refine vp_in_nI ?_ ?_ <;> first | omega | decide) | (with_reducible refine Nat.le_of_ble_eq_true ?_; rfl) | omega | exact Or.inl trivial | exact Or.inr trivial | exact Or.inl rfl | exact Or.inr rfl)
    refine hC.1 85 _ _ _ _ _ _ _ 8 _ _ _ _ _ _ _ _ _ _ _ _ lX8_85 (hM) ⟨by decide, rfl⟩ (cx_8o) rfl rfl (Nat.le_of_ble_eq_true rfl) (by first | decide | omega) (by decide) (by omega) (by omega) dX8_readUnit_11 ?_
    refine hB bX8_readUnit_14 _ _ _ _ _ _ _ kX8_readUnit_14 ?_
    dsimp only [bX8_readUnit_14, kx_wp, kx_step, kx_lI, kx_lL, kx_lA, kx_gl, kx_pI, kx_pL, kx_pR, kx_pA, kx_pV, kx_s1, kx_s2, kx_sl, kx_pre, kx_c2, kx_pl, kx_cmp, kx_oF, kx_eqN, kx_nil, kx_c1, kx_ft, kx_aI, kx_aL, kx_aR, kx_ln, Nat.reduceAdd, Option.toList, List.cons_append, List.nil_append, cf8_4, cf8_9, cf9_16, cf8_6]
    repeat (simp only [cx_8w0 hw, cx_8o, cx_83 hw, cx_84 hw, hQ, hs, pk_us, pk_un, ne_eq, Nat.reduceEqDiff, not_false_eq_true, ks_eq, ks_ss]; try dsimp only [kx_wp, kx_step, kx_lI, kx_lL, kx_lA, kx_gl, kx_pI, kx_pL, kx_pR, kx_pA, kx_pV, kx_s1, kx_s2, kx_sl, kx_pre, kx_c2, kx_pl, kx_cmp, kx_oF, kx_eqN, kx_nil, kx_c1, kx_ft, kx_aI, kx_aL, kx_aR, kx_ln, Nat.reduceAdd, Option.toList, List.cons_append, List.nil_append, cf8_4, cf8_9, cf9_16, cf8_6])
    repeat' apply And.intro
    all_goals try (first | with_reducible assumption | (with_reducible refine ck_nzI ?_; simp; done) | (with_reducible refine ck_nzL ?_; simp; done) | (with_reducible refine vp_in_nI ?_ ?_ <;> first | omega | decide) | (with_reducible refine Nat.le_of_ble_eq_true ?_; rfl) | omega | exact Or.inl trivial | exact Or.inr trivial | exact Or.inl rfl | exact Or.inr rfl)
    · intro zc19
      have ze19 := zc19
      refine hB bX8_readUnit_40 _ _ _ _ _ _ _ kX8_readUnit_40 ?_
      dsimp only [bX8_readUnit_40, kx_wp, kx_step, kx_lI, kx_lL, kx_lA, kx_gl, kx_pI, kx_pL, kx_pR, kx_pA, kx_pV, kx_s1, kx_s2, kx_sl, kx_pre, kx_c2, kx_pl, kx_cmp, kx_oF, kx_eqN, kx_nil, kx_c1, kx_ft, kx_aI, kx_aL, kx_aR, kx_ln, Nat.reduceAdd, Option.toList, List.cons_append, List.nil_append, cf8_4, cf8_9, cf9_16, cf8_6]
      repeat (simp only [cx_8w0 hw, cx_8o, cx_83 hw, cx_84 hw, hQ, hs, pk_us, pk_un, ne_eq, Nat.reduceEqDiff, not_false_eq_true, ks_eq, ks_ss]; try dsimp only [kx_wp, kx_step, kx_lI, kx_lL, kx_lA, kx_gl, kx_pI, kx_pL, kx_pR, kx_pA, kx_pV, kx_s1, kx_s2, kx_sl, kx_pre, kx_c2, kx_pl, kx_cmp, kx_oF, kx_eqN, kx_nil, kx_c1, kx_ft, kx_aI, kx_aL, kx_aR, kx_ln, Nat.reduceAdd, Option.toList, List.cons_append, List.nil_append, cf8_4, cf8_9, cf9_16, cf8_6])
      repeat' apply And.intro
      all_goals try (first | with_reducible assumption | (with_reducible refine ck_nzI ?_; simp; done) | (with_reducible refine ck_nzL ?_; simp; done) | (with_reducible refine vp_in_nI ?_ ?_ <;> first | omega | decide) | (with_reducible refine Nat.le_of_ble_eq_true ?_; rfl) | omega | exact Or.inl trivial | exact Or.inr trivial | exact Or.inl rfl | exact Or.inr rfl)
      refine hB bX8_readUnit_41 _ _ _ _ _ _ _ kX8_readUnit_41 ?_
      dsimp only [bX8_readUnit_41, kx_wp, kx_step, kx_lI, kx_lL, kx_lA, kx_gl, kx_pI, kx_pL, kx_pR, kx_pA, kx_pV, kx_s1, kx_s2, kx_sl, kx_pre, kx_c2, kx_pl, kx_cmp, kx_oF, kx_eqN, kx_nil, kx_c1, kx_ft, kx_aI, kx_aL, kx_aR, kx_ln, Nat.reduceAdd, Option.toList, List.cons_append, List.nil_append, cf8_4, cf8_9, cf9_16, cf8_6]
      repeat (simp only [cx_8w0 hw, cx_8o, cx_83 hw, cx_84 hw, hQ, hs, pk_us, pk_un, ne_eq, Nat.reduceEqDiff, not_false_eq_true, ks_eq, ks_ss]; try dsimp only [kx_wp, kx_step, kx_lI, kx_lL, kx_lA, kx_gl, kx_pI, kx_pL, kx_pR, kx_pA, kx_pV, kx_s1, kx_s2, kx_sl, kx_pre, kx_c2, kx_pl, kx_cmp, kx_oF, kx_eqN, kx_nil, kx_c1, kx_ft, kx_aI, kx_aL, kx_aR, kx_ln, Nat.reduceAdd, Option.toList, List.cons_append, List.nil_append, cf8_4, cf8_9, cf9_16, cf8_6])
      all_goals (repeat' apply And.intro)
      all_goals ((try clear hB hC); first | exact True.intro | rfl | exact cx_PE.f hs2 hx2)
    · intro zc19
      first | exact absurd rfl zc19 | exact absurd zc19 (by decide) | exact absurd (by decide) zc19 | (exfalso; exact zc19 (fun q => hx2.2.2 (hx2.1.symm.trans q))) | (exfalso; simp_all; done)

set_option maxRecDepth 100000 in
set_option maxHeartbeats 4000000 in
theorem cu_p1 (l : Launch) (G : kx_G) {P : kx_P} {sz : Nat} {Q : kx_P} {w : Nat} (hw : 144 ≤ w) {T F Fo st V : Nat → Int32} (hT : Q 67 = kI 0 400 T) (hQ : Q w = kO 9 (kf (cr9 w) V)) {n : Nat} (hn : n ≤ 400) {S : ck_R} (hs : S.2.1 = -1) (ha : S.1 ≤ n) (he : cx_E T n S F Fo st) {d : Nat} (hdd : 7 ≤ d) (hd : ¬ (48 ≤ ck_hcx T n S.1 ∧ ck_hcx T n S.1 ≤ 57)) (hp : ck_hcx T n S.1 = 40) {S1 : ck_R} (h1 : cx_W l G sX8_takeOpening 4 Q w T n [] S S1 sz) (hs1 : ¬ S1.2.1 = -1)  : kx_Mn l G sX8_readUnit d 0 0 [.ref 68] (cx_8 (cx_fW Q w Fo st) (.ref w) F) sz (cx_PE Q w T n (S1) sz) := by
  have hT2 : cx_fW Q w Fo st 67 = kI 0 400 T := (cx_f67 hw).trans hT
  have hle := ck_sk_le T ha
  refine kz_m2 kx_tab kxLok_X8 (ini := false) [some (.ref 68), none] ⟨by decide +kernel, rfl, by decide, by omega⟩ (fun _ _ _ h => Or.inl h.rok) rfl rfl (fun g hB hC hN hK => ?_)
  refine hB bX8_readUnit_0 _ _ _ _ _ _ _ kX8_readUnit_0 ?_
  dsimp only [bX8_readUnit_0, kx_wp, kx_step, kx_lI, kx_lL, kx_lA, kx_gl, kx_pI, kx_pL, kx_pR, kx_pA, kx_pV, kx_s1, kx_s2, kx_sl, kx_pre, kx_c2, kx_pl, kx_cmp, kx_oF, kx_eqN, kx_nil, kx_c1, kx_ft, kx_aI, kx_aL, kx_aR, kx_ln, Nat.reduceAdd, Option.toList, List.cons_append, List.nil_append, cf8_4, cf8_9, cf9_16, cf8_6]
  repeat (simp only [cx_8w0 hw, cx_8o, cx_83 hw, cx_84 hw, hQ, hs, pk_us, pk_un, ne_eq, Nat.reduceEqDiff, not_false_eq_true, ks_eq, ks_ss]; try dsimp only [kx_wp, kx_step, kx_lI, kx_lL, kx_lA, kx_gl, kx_pI, kx_pL, kx_pR, kx_pA, kx_pV, kx_s1, kx_s2, kx_sl, kx_pre, kx_c2, kx_pl, kx_cmp, kx_oF, kx_eqN, kx_nil, kx_c1, kx_ft, kx_aI, kx_aL, kx_aR, kx_ln, Nat.reduceAdd, Option.toList, List.cons_append, List.nil_append, cf8_4, cf8_9, cf9_16, cf8_6])
  repeat' apply And.intro
  all_goals try (first | with_reducible assumption | (with_reducible refine ck_nzI ?_; simp; done) | (with_reducible refine ck_nzL ?_; simp; done) | (with_reducible refine vp_in_nI ?_ ?_ <;> first | omega | decide) | (with_reducible refine Nat.le_of_ble_eq_true ?_; rfl) | omega | exact Or.inl trivial | exact Or.inr trivial | exact Or.inl rfl | exact Or.inr rfl)
  refine hC.1 80 _ _ _ _ _ _ _ 8 _ _ _ _ _ _ _ _ _ _ _ _ lX8_80 (ct_X8_nextIsDigit_f (x := .ref w) hT2 he.1 hn he.2.1 hle.2 hd) ⟨by decide, rfl⟩ (cx_8o) rfl rfl (Nat.le_of_ble_eq_true rfl) (by first | decide | omega) (by decide) (by omega) (by omega) dX8_readUnit_1 ?_
  refine hB bX8_readUnit_4 _ _ _ _ _ _ _ kX8_readUnit_4 ?_
  dsimp only [bX8_readUnit_4, kx_wp, kx_step, kx_lI, kx_lL, kx_lA, kx_gl, kx_pI, kx_pL, kx_pR, kx_pA, kx_pV, kx_s1, kx_s2, kx_sl, kx_pre, kx_c2, kx_pl, kx_cmp, kx_oF, kx_eqN, kx_nil, kx_c1, kx_ft, kx_aI, kx_aL, kx_aR, kx_ln, Nat.reduceAdd, Option.toList, List.cons_append, List.nil_append, cf8_4, cf8_9, cf9_16, cf8_6]
  repeat (simp only [cx_8w0 hw, cx_8o, cx_83 hw, cx_84 hw, hQ, hs, pk_us, pk_un, ne_eq, Nat.reduceEqDiff, not_false_eq_true, ks_eq, ks_ss]; try dsimp only [kx_wp, kx_step, kx_lI, kx_lL, kx_lA, kx_gl, kx_pI, kx_pL, kx_pR, kx_pA, kx_pV, kx_s1, kx_s2, kx_sl, kx_pre, kx_c2, kx_pl, kx_cmp, kx_oF, kx_eqN, kx_nil, kx_c1, kx_ft, kx_aI, kx_aL, kx_aR, kx_ln, Nat.reduceAdd, Option.toList, List.cons_append, List.nil_append, cf8_4, cf8_9, cf9_16, cf8_6])
  repeat' apply And.intro
  all_goals try (first | with_reducible assumption | (with_reducible refine ck_nzI ?_; simp; done) | (with_reducible refine ck_nzL ?_; simp; done) | (with_reducible refine vp_in_nI ?_ ?_ <;> first | omega | decide) | (with_reducible refine Nat.le_of_ble_eq_true ?_; rfl) | omega | exact Or.inl trivial | exact Or.inr trivial | exact Or.inl rfl | exact Or.inr rfl)
  · intro zc4
    have ze4 := zc4
    refine hB bX8_readUnit_42 _ _ _ _ _ _ _ kX8_readUnit_42 ?_
    dsimp only [bX8_readUnit_42, kx_wp, kx_step, kx_lI, kx_lL, kx_lA, kx_gl, kx_pI, kx_pL, kx_pR, kx_pA, kx_pV, kx_s1, kx_s2, kx_sl, kx_pre, kx_c2, kx_pl, kx_cmp, kx_oF, kx_eqN, kx_nil, kx_c1, kx_ft, kx_aI, kx_aL, kx_aR, kx_ln, Nat.reduceAdd, Option.toList, List.cons_append, List.nil_append, cf8_4, cf8_9, cf9_16, cf8_6]
    repeat (simp only [cx_8w0 hw, cx_8o, cx_83 hw, cx_84 hw, hQ, hs, pk_us, pk_un, ne_eq, Nat.reduceEqDiff, not_false_eq_true, ks_eq, ks_ss]; try dsimp only [kx_wp, kx_step, kx_lI, kx_lL, kx_lA, kx_gl, kx_pI, kx_pL, kx_pR, kx_pA, kx_pV, kx_s1, kx_s2, kx_sl, kx_pre, kx_c2, kx_pl, kx_cmp, kx_oF, kx_eqN, kx_nil, kx_c1, kx_ft, kx_aI, kx_aL, kx_aR, kx_ln, Nat.reduceAdd, Option.toList, List.cons_append, List.nil_append, cf8_4, cf8_9, cf9_16, cf8_6])
    repeat' apply And.intro
    all_goals try (first | with_reducible assumption | (with_reducible refine ck_nzI ?_; simp; done) | (with_reducible refine ck_nzL ?_; simp; done) | (with_reducible refine vp_in_nI ?_ ?_ <;> first | omega | decide) | (with_reducible refine Nat.le_of_ble_eq_true ?_; rfl) | omega | exact Or.inl trivial | exact Or.inr trivial | exact Or.inl rfl | exact Or.inr rfl)
    refine hC.1 54 _ _ _ _ _ _ _ 8 _ _ _ _ _ _ _ _ _ _ _ _ lX8_54 (ct_X8_nextIs_t (x := .ref w) hT2 he.1 hn he.2.1 hle.2 (by decide) hp) ⟨by decide, rfl⟩ (cx_8o) rfl rfl (Nat.le_of_ble_eq_true rfl) (by first | decide | omega) (by decide) (by omega) (by omega) dX8_readUnit_45 ?_
    refine hB bX8_readUnit_48 _ _ _ _ _ _ _ kX8_readUnit_48 ?_
    dsimp only [bX8_readUnit_48, kx_wp, kx_step, kx_lI, kx_lL, kx_lA, kx_gl, kx_pI, kx_pL, kx_pR, kx_pA, kx_pV, kx_s1, kx_s2, kx_sl, kx_pre, kx_c2, kx_pl, kx_cmp, kx_oF, kx_eqN, kx_nil, kx_c1, kx_ft, kx_aI, kx_aL, kx_aR, kx_ln, Nat.reduceAdd, Option.toList, List.cons_append, List.nil_append, cf8_4, cf8_9, cf9_16, cf8_6]
    repeat (simp only [cx_8w0 hw, cx_8o, cx_83 hw, cx_84 hw, hQ, hs, pk_us, pk_un, ne_eq, Nat.reduceEqDiff, not_false_eq_true, ks_eq, ks_ss]; try dsimp only [kx_wp, kx_step, kx_lI, kx_lL, kx_lA, kx_gl, kx_pI, kx_pL, kx_pR, kx_pA, kx_pV, kx_s1, kx_s2, kx_sl, kx_pre, kx_c2, kx_pl, kx_cmp, kx_oF, kx_eqN, kx_nil, kx_c1, kx_ft, kx_aI, kx_aL, kx_aR, kx_ln, Nat.reduceAdd, Option.toList, List.cons_append, List.nil_append, cf8_4, cf8_9, cf9_16, cf8_6])
    repeat' apply And.intro
    all_goals try (first | with_reducible assumption | (with_reducible refine ck_nzI ?_; simp; done) | (with_reducible refine ck_nzL ?_; simp; done) | (with_reducible refine vp_in_nI ?_ ?_ <;> first | omega | decide) | (with_reducible refine Nat.le_of_ble_eq_true ?_; rfl) | omega | exact Or.inl trivial | exact Or.inr trivial | exact Or.inl rfl | exact Or.inr rfl)
    · intro zc48
      first | exact absurd rfl zc48 | exact absurd zc48 (by decide) | exact absurd (by decide) zc48 | (exfalso; ((try clear hB hC); simp only [ck_lt, ck_le, ck_eq, not_true_eq_false, not_false_eq_true, Int32.reduceToInt, Int32.reduceAdd, Int32.reduceSub, Int32.reduceMul] at * <;> omega)) | (exfalso; simp_all; done)
    · intro zc48
      have ze48 := zc48
      refine hB bX8_readUnit_51 _ _ _ _ _ _ _ kX8_readUnit_51 ?_
      dsimp only [bX8_readUnit_51, kx_wp, kx_step, kx_lI, kx_lL, kx_lA, kx_gl, kx_pI, kx_pL, kx_pR, kx_pA, kx_pV, kx_s1, kx_s2, kx_sl, kx_pre, kx_c2, kx_pl, kx_cmp, kx_oF, kx_eqN, kx_nil, kx_c1, kx_ft, kx_aI, kx_aL, kx_aR, kx_ln, Nat.reduceAdd, Option.toList, List.cons_append, List.nil_append, cf8_4, cf8_9, cf9_16, cf8_6]
      repeat (simp only [cx_8w0 hw, cx_8o, cx_83 hw, cx_84 hw, hQ, hs, pk_us, pk_un, ne_eq, Nat.reduceEqDiff, not_false_eq_true, ks_eq, ks_ss]; try dsimp only [kx_wp, kx_step, kx_lI, kx_lL, kx_lA, kx_gl, kx_pI, kx_pL, kx_pR, kx_pA, kx_pV, kx_s1, kx_s2, kx_sl, kx_pre, kx_c2, kx_pl, kx_cmp, kx_oF, kx_eqN, kx_nil, kx_c1, kx_ft, kx_aI, kx_aL, kx_aR, kx_ln, Nat.reduceAdd, Option.toList, List.cons_append, List.nil_append, cf8_4, cf8_9, cf9_16, cf8_6])
      repeat' apply And.intro
      all_goals try (first | with_reducible assumption | (with_reducible refine ck_nzI ?_; simp; done) | (with_reducible refine ck_nzL ?_; simp; done) | (with_reducible refine vp_in_nI ?_ ?_ <;> first | omega | decide) | (with_reducible refine Nat.le_of_ble_eq_true ?_; rfl) | omega | exact Or.inl trivial | exact Or.inr trivial | exact Or.inl rfl | exact Or.inr rfl)
      refine hN.1 215 _ _ _ _ _ _ _ 8 _ _ _ _ _ _ _ _ _ _ lX8_215 (h1 _ _ _ he) ⟨by decide, rfl⟩ (cx_8o) rfl rfl (Nat.le_of_ble_eq_true rfl) (by omega) (by decide) (by omega) (by omega) dX8_readUnit_52 ?_
      rintro r1 P1 s1 ⟨F1, Fo1, st1, rfl, rfl, rfl, hE1, hX1⟩
      rw [cx_b0 hs1]
      dsimp only [Option.toList, List.cons_append, List.nil_append]
      refine hB bX8_readUnit_55 _ _ _ _ _ _ _ kX8_readUnit_55 ?_
      dsimp only [bX8_readUnit_55, kx_wp, kx_step, kx_lI, kx_lL, kx_lA, kx_gl, kx_pI, kx_pL, kx_pR, kx_pA, kx_pV, kx_s1, kx_s2, kx_sl, kx_pre, kx_c2, kx_pl, kx_cmp, kx_oF, kx_eqN, kx_nil, kx_c1, kx_ft, kx_aI, kx_aL, kx_aR, kx_ln, Nat.reduceAdd, Option.toList, List.cons_append, List.nil_append, cf8_4, cf8_9, cf9_16, cf8_6]
      repeat (simp only [cx_8w0 hw, cx_8o, cx_83 hw, cx_84 hw, hQ, hs, pk_us, pk_un, ne_eq, Nat.reduceEqDiff, not_false_eq_true, ks_eq, ks_ss]; try dsimp only [kx_wp, kx_step, kx_lI, kx_lL, kx_lA, kx_gl, kx_pI, kx_pL, kx_pR, kx_pA, kx_pV, kx_s1, kx_s2, kx_sl, kx_pre, kx_c2, kx_pl, kx_cmp, kx_oF, kx_eqN, kx_nil, kx_c1, kx_ft, kx_aI, kx_aL, kx_aR, kx_ln, Nat.reduceAdd, Option.toList, List.cons_append, List.nil_append, cf8_4, cf8_9, cf9_16, cf8_6])
      repeat' apply And.intro
      all_goals try (first | with_reducible assumption | (with_reducible refine ck_nzI ?_; simp; done) | (with_reducible refine ck_nzL ?_; simp; done) | (with_reducible refine vp_in_nI ?_ ?_ <;> first | omega | decide) | (with_reducible refine Nat.le_of_ble_eq_true ?_; rfl) | omega | exact Or.inl trivial | exact Or.inr trivial | exact Or.inl rfl | exact Or.inr rfl)
      · intro zc55
        have ze55 := zc55
        refine hB bX8_readUnit_76 _ _ _ _ _ _ _ kX8_readUnit_76 ?_
        dsimp only [bX8_readUnit_76, kx_wp, kx_step, kx_lI, kx_lL, kx_lA, kx_gl, kx_pI, kx_pL, kx_pR, kx_pA, kx_pV, kx_s1, kx_s2, kx_sl, kx_pre, kx_c2, kx_pl, kx_cmp, kx_oF, kx_eqN, kx_nil, kx_c1, kx_ft, kx_aI, kx_aL, kx_aR, kx_ln, Nat.reduceAdd, Option.toList, List.cons_append, List.nil_append, cf8_4, cf8_9, cf9_16, cf8_6]
        repeat (simp only [cx_8w0 hw, cx_8o, cx_83 hw, cx_84 hw, hQ, hs, pk_us, pk_un, ne_eq, Nat.reduceEqDiff, not_false_eq_true, ks_eq, ks_ss]; try dsimp only [kx_wp, kx_step, kx_lI, kx_lL, kx_lA, kx_gl, kx_pI, kx_pL, kx_pR, kx_pA, kx_pV, kx_s1, kx_s2, kx_sl, kx_pre, kx_c2, kx_pl, kx_cmp, kx_oF, kx_eqN, kx_nil, kx_c1, kx_ft, kx_aI, kx_aL, kx_aR, kx_ln, Nat.reduceAdd, Option.toList, List.cons_append, List.nil_append, cf8_4, cf8_9, cf9_16, cf8_6])
        repeat' apply And.intro
        all_goals try (first | with_reducible assumption | (with_reducible refine ck_nzI ?_; simp; done) | (with_reducible refine ck_nzL ?_; simp; done) | (with_reducible refine vp_in_nI ?_ ?_ <;> first | omega | decide) | (with_reducible refine Nat.le_of_ble_eq_true ?_; rfl) | omega | exact Or.inl trivial | exact Or.inr trivial | exact Or.inl rfl | exact Or.inr rfl)
        refine hB bX8_readUnit_77 _ _ _ _ _ _ _ kX8_readUnit_77 ?_
        dsimp only [bX8_readUnit_77, kx_wp, kx_step, kx_lI, kx_lL, kx_lA, kx_gl, kx_pI, kx_pL, kx_pR, kx_pA, kx_pV, kx_s1, kx_s2, kx_sl, kx_pre, kx_c2, kx_pl, kx_cmp, kx_oF, kx_eqN, kx_nil, kx_c1, kx_ft, kx_aI, kx_aL, kx_aR, kx_ln, Nat.reduceAdd, Option.toList, List.cons_append, List.nil_append, cf8_4, cf8_9, cf9_16, cf8_6]
        repeat (simp only [cx_8w0 hw, cx_8o, cx_83 hw, cx_84 hw, hQ, hs, pk_us, pk_un, ne_eq, Nat.reduceEqDiff, not_false_eq_true, ks_eq, ks_ss]; try dsimp only [kx_wp, kx_step, kx_lI, kx_lL, kx_lA, kx_gl, kx_pI, kx_pL, kx_pR, kx_pA, kx_pV, kx_s1, kx_s2, kx_sl, kx_pre, kx_c2, kx_pl, kx_cmp, kx_oF, kx_eqN, kx_nil, kx_c1, kx_ft, kx_aI, kx_aL, kx_aR, kx_ln, Nat.reduceAdd, Option.toList, List.cons_append, List.nil_append, cf8_4, cf8_9, cf9_16, cf8_6])
        all_goals (repeat' apply And.intro)
        all_goals ((try clear hB hC); first | exact True.intro | rfl | exact cx_PE.f hs1 (hX1 hs1))
      · intro zc55
        first | exact absurd rfl zc55 | exact absurd zc55 (by decide) | exact absurd (by decide) zc55 | (exfalso; ((try clear hB hC); simp only [ck_lt, ck_le, ck_eq, not_true_eq_false, not_false_eq_true, Int32.reduceToInt, Int32.reduceAdd, Int32.reduceSub, Int32.reduceMul] at * <;> omega)) | (exfalso; simp_all; done)
  · intro zc4
    first | exact absurd rfl zc4 | exact absurd zc4 (by decide) | exact absurd (by decide) zc4 | (exfalso; ((try clear hB hC); simp only [ck_lt, ck_le, ck_eq, not_true_eq_false, not_false_eq_true, Int32.reduceToInt, Int32.reduceAdd, Int32.reduceSub, Int32.reduceMul] at * <;> omega)) | (exfalso; simp_all; done)

set_option maxRecDepth 100000 in
set_option maxHeartbeats 4000000 in
theorem cu_p2 (l : Launch) (G : kx_G) {P : kx_P} {sz : Nat} {Q : kx_P} {w : Nat} (hw : 144 ≤ w) {T F Fo st V : Nat → Int32} (hT : Q 67 = kI 0 400 T) (hQ : Q w = kO 9 (kf (cr9 w) V)) {n : Nat} (hn : n ≤ 400) {S : ck_R} (hs : S.2.1 = -1) (ha : S.1 ≤ n) (he : cx_E T n S F Fo st) {d : Nat} (hdd : 7 ≤ d) (hd : ¬ (48 ≤ ck_hcx T n S.1 ∧ ck_hcx T n S.1 ≤ 57)) (hp : ck_hcx T n S.1 = 40) {S1 : ck_R} (h1 : cx_W l G sX8_takeOpening 4 Q w T n [] S S1 sz) (hs1 : S1.2.1 = -1) {S2 : ck_R} {d2 : Nat} (hd2 : d2 < d) (h2 : cx_W l G sX8_readSum d2 Q w T n [] S1 S2 sz) (hs2 : ¬ S2.2.1 = -1)  : kx_Mn l G sX8_readUnit d 0 0 [.ref 68] (cx_8 (cx_fW Q w Fo st) (.ref w) F) sz (cx_PE Q w T n (S2) sz) := by
  have hT2 : cx_fW Q w Fo st 67 = kI 0 400 T := (cx_f67 hw).trans hT
  have hle := ck_sk_le T ha
  refine kz_m2 kx_tab kxLok_X8 (ini := false) [some (.ref 68), none] ⟨by decide +kernel, rfl, by decide, by omega⟩ (fun _ _ _ h => Or.inl h.rok) rfl rfl (fun g hB hC hN hK => ?_)
  refine hB bX8_readUnit_0 _ _ _ _ _ _ _ kX8_readUnit_0 ?_
  dsimp only [bX8_readUnit_0, kx_wp, kx_step, kx_lI, kx_lL, kx_lA, kx_gl, kx_pI, kx_pL, kx_pR, kx_pA, kx_pV, kx_s1, kx_s2, kx_sl, kx_pre, kx_c2, kx_pl, kx_cmp, kx_oF, kx_eqN, kx_nil, kx_c1, kx_ft, kx_aI, kx_aL, kx_aR, kx_ln, Nat.reduceAdd, Option.toList, List.cons_append, List.nil_append, cf8_4, cf8_9, cf9_16, cf8_6]
  repeat (simp only [cx_8w0 hw, cx_8o, cx_83 hw, cx_84 hw, hQ, hs, pk_us, pk_un, ne_eq, Nat.reduceEqDiff, not_false_eq_true, ks_eq, ks_ss]; try dsimp only [kx_wp, kx_step, kx_lI, kx_lL, kx_lA, kx_gl, kx_pI, kx_pL, kx_pR, kx_pA, kx_pV, kx_s1, kx_s2, kx_sl, kx_pre, kx_c2, kx_pl, kx_cmp, kx_oF, kx_eqN, kx_nil, kx_c1, kx_ft, kx_aI, kx_aL, kx_aR, kx_ln, Nat.reduceAdd, Option.toList, List.cons_append, List.nil_append, cf8_4, cf8_9, cf9_16, cf8_6])
  repeat' apply And.intro
  all_goals try (first | with_reducible assumption | (with_reducible refine ck_nzI ?_; simp; done) | (with_reducible refine ck_nzL ?_; simp; done) | (with_reducible refine vp_in_nI ?_ ?_ <;> first | omega | decide) | (with_reducible refine Nat.le_of_ble_eq_true ?_; rfl) | omega | exact Or.inl trivial | exact Or.inr trivial | exact Or.inl rfl | exact Or.inr rfl)
  refine hC.1 80 _ _ _ _ _ _ _ 8 _ _ _ _ _ _ _ _ _ _ _ _ lX8_80 (ct_X8_nextIsDigit_f (x := .ref w) hT2 he.1 hn he.2.1 hle.2 hd) ⟨by decide, rfl⟩ (cx_8o) rfl rfl (Nat.le_of_ble_eq_true rfl) (by first | decide | omega) (by decide) (by omega) (by omega) dX8_readUnit_1 ?_
  refine hB bX8_readUnit_4 _ _ _ _ _ _ _ kX8_readUnit_4 ?_
  dsimp only [bX8_readUnit_4, kx_wp, kx_step, kx_lI, kx_lL, kx_lA, kx_gl, kx_pI, kx_pL, kx_pR, kx_pA, kx_pV, kx_s1, kx_s2, kx_sl, kx_pre, kx_c2, kx_pl, kx_cmp, kx_oF, kx_eqN, kx_nil, kx_c1, kx_ft, kx_aI, kx_aL, kx_aR, kx_ln, Nat.reduceAdd, Option.toList, List.cons_append, List.nil_append, cf8_4, cf8_9, cf9_16, cf8_6]
  repeat (simp only [cx_8w0 hw, cx_8o, cx_83 hw, cx_84 hw, hQ, hs, pk_us, pk_un, ne_eq, Nat.reduceEqDiff, not_false_eq_true, ks_eq, ks_ss]; try dsimp only [kx_wp, kx_step, kx_lI, kx_lL, kx_lA, kx_gl, kx_pI, kx_pL, kx_pR, kx_pA, kx_pV, kx_s1, kx_s2, kx_sl, kx_pre, kx_c2, kx_pl, kx_cmp, kx_oF, kx_eqN, kx_nil, kx_c1, kx_ft, kx_aI, kx_aL, kx_aR, kx_ln, Nat.reduceAdd, Option.toList, List.cons_append, List.nil_append, cf8_4, cf8_9, cf9_16, cf8_6])
  repeat' apply And.intro
  all_goals try (first | with_reducible assumption | (with_reducible refine ck_nzI ?_; simp; done) | (with_reducible refine ck_nzL ?_; simp; done) | (with_reducible refine vp_in_nI ?_ ?_ <;> first | omega | decide) | (with_reducible refine Nat.le_of_ble_eq_true ?_; rfl) | omega | exact Or.inl trivial | exact Or.inr trivial | exact Or.inl rfl | exact Or.inr rfl)
  · intro zc4
    have ze4 := zc4
    refine hB bX8_readUnit_42 _ _ _ _ _ _ _ kX8_readUnit_42 ?_
    dsimp only [bX8_readUnit_42, kx_wp, kx_step, kx_lI, kx_lL, kx_lA, kx_gl, kx_pI, kx_pL, kx_pR, kx_pA, kx_pV, kx_s1, kx_s2, kx_sl, kx_pre, kx_c2, kx_pl, kx_cmp, kx_oF, kx_eqN, kx_nil, kx_c1, kx_ft, kx_aI, kx_aL, kx_aR, kx_ln, Nat.reduceAdd, Option.toList, List.cons_append, List.nil_append, cf8_4, cf8_9, cf9_16, cf8_6]
    repeat (simp only [cx_8w0 hw, cx_8o, cx_83 hw, cx_84 hw, hQ, hs, pk_us, pk_un, ne_eq, Nat.reduceEqDiff, not_false_eq_true, ks_eq, ks_ss]; try dsimp only [kx_wp, kx_step, kx_lI, kx_lL, kx_lA, kx_gl, kx_pI, kx_pL, kx_pR, kx_pA, kx_pV, kx_s1, kx_s2, kx_sl, kx_pre, kx_c2, kx_pl, kx_cmp, kx_oF, kx_eqN, kx_nil, kx_c1, kx_ft, kx_aI, kx_aL, kx_aR, kx_ln, Nat.reduceAdd, Option.toList, List.cons_append, List.nil_append, cf8_4, cf8_9, cf9_16, cf8_6])
    repeat' apply And.intro
    all_goals try (first | with_reducible assumption | (with_reducible refine ck_nzI ?_; simp; done) | (with_reducible refine ck_nzL ?_; simp; done) | (with_reducible refine vp_in_nI ?_ ?_ <;> first | omega | decide) | (with_reducible refine Nat.le_of_ble_eq_true ?_; rfl) | omega | exact Or.inl trivial | exact Or.inr trivial | exact Or.inl rfl | exact Or.inr rfl)
    refine hC.1 54 _ _ _ _ _ _ _ 8 _ _ _ _ _ _ _ _ _ _ _ _ lX8_54 (ct_X8_nextIs_t (x := .ref w) hT2 he.1 hn he.2.1 hle.2 (by decide) hp) ⟨by decide, rfl⟩ (cx_8o) rfl rfl (Nat.le_of_ble_eq_true rfl) (by first | decide | omega) (by decide) (by omega) (by omega) dX8_readUnit_45 ?_
    refine hB bX8_readUnit_48 _ _ _ _ _ _ _ kX8_readUnit_48 ?_
    dsimp only [bX8_readUnit_48, kx_wp, kx_step, kx_lI, kx_lL, kx_lA, kx_gl, kx_pI, kx_pL, kx_pR, kx_pA, kx_pV, kx_s1, kx_s2, kx_sl, kx_pre, kx_c2, kx_pl, kx_cmp, kx_oF, kx_eqN, kx_nil, kx_c1, kx_ft, kx_aI, kx_aL, kx_aR, kx_ln, Nat.reduceAdd, Option.toList, List.cons_append, List.nil_append, cf8_4, cf8_9, cf9_16, cf8_6]
    repeat (simp only [cx_8w0 hw, cx_8o, cx_83 hw, cx_84 hw, hQ, hs, pk_us, pk_un, ne_eq, Nat.reduceEqDiff, not_false_eq_true, ks_eq, ks_ss]; try dsimp only [kx_wp, kx_step, kx_lI, kx_lL, kx_lA, kx_gl, kx_pI, kx_pL, kx_pR, kx_pA, kx_pV, kx_s1, kx_s2, kx_sl, kx_pre, kx_c2, kx_pl, kx_cmp, kx_oF, kx_eqN, kx_nil, kx_c1, kx_ft, kx_aI, kx_aL, kx_aR, kx_ln, Nat.reduceAdd, Option.toList, List.cons_append, List.nil_append, cf8_4, cf8_9, cf9_16, cf8_6])
    repeat' apply And.intro
    all_goals try (first | with_reducible assumption | (with_reducible refine ck_nzI ?_; simp; done) | (with_reducible refine ck_nzL ?_; simp; done) | (with_reducible refine vp_in_nI ?_ ?_ <;> first | omega | decide) | (with_reducible refine Nat.le_of_ble_eq_true ?_; rfl) | omega | exact Or.inl trivial | exact Or.inr trivial | exact Or.inl rfl | exact Or.inr rfl)
    · intro zc48
      first | exact absurd rfl zc48 | exact absurd zc48 (by decide) | exact absurd (by decide) zc48 | (exfalso; ((try clear hB hC); simp only [ck_lt, ck_le, ck_eq, not_true_eq_false, not_false_eq_true, Int32.reduceToInt, Int32.reduceAdd, Int32.reduceSub, Int32.reduceMul] at * <;> omega)) | (exfalso; simp_all; done)
    · intro zc48
      have ze48 := zc48
      refine hB bX8_readUnit_51 _ _ _ _ _ _ _ kX8_readUnit_51 ?_
      dsimp only [bX8_readUnit_51, kx_wp, kx_step, kx_lI, kx_lL, kx_lA, kx_gl, kx_pI, kx_pL, kx_pR, kx_pA, kx_pV, kx_s1, kx_s2, kx_sl, kx_pre, kx_c2, kx_pl, kx_cmp, kx_oF, kx_eqN, kx_nil, kx_c1, kx_ft, kx_aI, kx_aL, kx_aR, kx_ln, Nat.reduceAdd, Option.toList, List.cons_append, List.nil_append, cf8_4, cf8_9, cf9_16, cf8_6]
      repeat (simp only [cx_8w0 hw, cx_8o, cx_83 hw, cx_84 hw, hQ, hs, pk_us, pk_un, ne_eq, Nat.reduceEqDiff, not_false_eq_true, ks_eq, ks_ss]; try dsimp only [kx_wp, kx_step, kx_lI, kx_lL, kx_lA, kx_gl, kx_pI, kx_pL, kx_pR, kx_pA, kx_pV, kx_s1, kx_s2, kx_sl, kx_pre, kx_c2, kx_pl, kx_cmp, kx_oF, kx_eqN, kx_nil, kx_c1, kx_ft, kx_aI, kx_aL, kx_aR, kx_ln, Nat.reduceAdd, Option.toList, List.cons_append, List.nil_append, cf8_4, cf8_9, cf9_16, cf8_6])
      repeat' apply And.intro
      all_goals try (first | with_reducible assumption | (with_reducible refine ck_nzI ?_; simp; done) | (with_reducible refine ck_nzL ?_; simp; done) | (with_reducible refine vp_in_nI ?_ ?_ <;> first | omega | decide) | (with_reducible refine Nat.le_of_ble_eq_true ?_; rfl) | omega | exact Or.inl trivial | exact Or.inr trivial | exact Or.inl rfl | exact Or.inr rfl)
      refine hN.1 215 _ _ _ _ _ _ _ 8 _ _ _ _ _ _ _ _ _ _ lX8_215 (h1 _ _ _ he) ⟨by decide, rfl⟩ (cx_8o) rfl rfl (Nat.le_of_ble_eq_true rfl) (by omega) (by decide) (by omega) (by omega) dX8_readUnit_52 ?_
      rintro r1 P1 s1 ⟨F1, Fo1, st1, rfl, rfl, rfl, hE1, hX1⟩
      have hE1 := hE1 hs1
      rw [cx_b1 hs1]
      dsimp only [Option.toList, List.cons_append, List.nil_append]
      refine hB bX8_readUnit_55 _ _ _ _ _ _ _ kX8_readUnit_55 ?_
      dsimp only [bX8_readUnit_55, kx_wp, kx_step, kx_lI, kx_lL, kx_lA, kx_gl, kx_pI, kx_pL, kx_pR, kx_pA, kx_pV, kx_s1, kx_s2, kx_sl, kx_pre, kx_c2, kx_pl, kx_cmp, kx_oF, kx_eqN, kx_nil, kx_c1, kx_ft, kx_aI, kx_aL, kx_aR, kx_ln, Nat.reduceAdd, Option.toList, List.cons_append, List.nil_append, cf8_4, cf8_9, cf9_16, cf8_6]
      repeat (simp only [cx_8w0 hw, cx_8o, cx_83 hw, cx_84 hw, hQ, hs, pk_us, pk_un, ne_eq, Nat.reduceEqDiff, not_false_eq_true, ks_eq, ks_ss]; try dsimp only [kx_wp, kx_step, kx_lI, kx_lL, kx_lA, kx_gl, kx_pI, kx_pL, kx_pR, kx_pA, kx_pV, kx_s1, kx_s2, kx_sl, kx_pre, kx_c2, kx_pl, kx_cmp, kx_oF, kx_eqN, kx_nil, kx_c1, kx_ft, kx_aI, kx_aL, kx_aR, kx_ln, Nat.reduceAdd, Option.toList, List.cons_append, List.nil_append, cf8_4, cf8_9, cf9_16, cf8_6])
      repeat' apply And.intro
      all_goals try (first | with_reducible assumption | (with_reducible refine ck_nzI ?_; simp; done) | (with_reducible refine ck_nzL ?_; simp; done) | (with_reducible refine vp_in_nI ?_ ?_ <;> first | omega | decide) | (with_reducible refine Nat.le_of_ble_eq_true ?_; rfl) | omega | exact Or.inl trivial | exact Or.inr trivial | exact Or.inl rfl | exact Or.inr rfl)
      · intro zc55
        first | exact absurd rfl zc55 | exact absurd zc55 (by decide) | exact absurd (by decide) zc55 | (exfalso; ((try clear hB hC); simp only [ck_lt, ck_le, ck_eq, not_true_eq_false, not_false_eq_true, Int32.reduceToInt, Int32.reduceAdd, Int32.reduceSub, Int32.reduceMul] at * <;> omega)) | (exfalso; simp_all; done)
      · intro zc55
        have ze55 := zc55
        refine hB bX8_readUnit_58 _ _ _ _ _ _ _ kX8_readUnit_58 ?_
        dsimp only [bX8_readUnit_58, kx_wp, kx_step, kx_lI, kx_lL, kx_lA, kx_gl, kx_pI, kx_pL, kx_pR, kx_pA, kx_pV, kx_s1, kx_s2, kx_sl, kx_pre, kx_c2, kx_pl, kx_cmp, kx_oF, kx_eqN, kx_nil, kx_c1, kx_ft, kx_aI, kx_aL, kx_aR, kx_ln, Nat.reduceAdd, Option.toList, List.cons_append, List.nil_append, cf8_4, cf8_9, cf9_16, cf8_6]
        repeat (simp only [cx_8w0 hw, cx_8o, cx_83 hw, cx_84 hw, hQ, hs, pk_us, pk_un, ne_eq, Nat.reduceEqDiff, not_false_eq_true, ks_eq, ks_ss]; try dsimp only [kx_wp, kx_step, kx_lI, kx_lL, kx_lA, kx_gl, kx_pI, kx_pL, kx_pR, kx_pA, kx_pV, kx_s1, kx_s2, kx_sl, kx_pre, kx_c2, kx_pl, kx_cmp, kx_oF, kx_eqN, kx_nil, kx_c1, kx_ft, kx_aI, kx_aL, kx_aR, kx_ln, Nat.reduceAdd, Option.toList, List.cons_append, List.nil_append, cf8_4, cf8_9, cf9_16, cf8_6])
        repeat' apply And.intro
        all_goals try (first | with_reducible assumption | (with_reducible refine ck_nzI ?_; simp; done) | (with_reducible refine ck_nzL ?_; simp; done) | (with_reducible refine vp_in_nI ?_ ?_ <;> first | omega | decide) | (with_reducible refine Nat.le_of_ble_eq_true ?_; rfl) | omega | exact Or.inl trivial | exact Or.inr trivial | exact Or.inl rfl | exact Or.inr rfl)
        refine hN.1 164 _ _ _ _ _ _ _ 8 _ _ _ _ _ _ _ _ _ _ lX8_164 (h2 _ _ _ hE1) ⟨by decide, rfl⟩ (cx_8o) rfl rfl (Nat.le_of_ble_eq_true rfl) (by omega) (by decide) (by omega) (by omega) dX8_readUnit_59 ?_
        rintro r2 P2 s2 ⟨F2, Fo2, st2, rfl, rfl, rfl, hE2, hX2⟩
        rw [cx_b0 hs2]
        dsimp only [Option.toList, List.cons_append, List.nil_append]
        refine hB bX8_readUnit_62 _ _ _ _ _ _ _ kX8_readUnit_62 ?_
        dsimp only [bX8_readUnit_62, kx_wp, kx_step, kx_lI, kx_lL, kx_lA, kx_gl, kx_pI, kx_pL, kx_pR, kx_pA, kx_pV, kx_s1, kx_s2, kx_sl, kx_pre, kx_c2, kx_pl, kx_cmp, kx_oF, kx_eqN, kx_nil, kx_c1, kx_ft, kx_aI, kx_aL, kx_aR, kx_ln, Nat.reduceAdd, Option.toList, List.cons_append, List.nil_append, cf8_4, cf8_9, cf9_16, cf8_6]
        repeat (simp only [cx_8w0 hw, cx_8o, cx_83 hw, cx_84 hw, hQ, hs, pk_us, pk_un, ne_eq, Nat.reduceEqDiff, not_false_eq_true, ks_eq, ks_ss]; try dsimp only [kx_wp, kx_step, kx_lI, kx_lL, kx_lA, kx_gl, kx_pI, kx_pL, kx_pR, kx_pA, kx_pV, kx_s1, kx_s2, kx_sl, kx_pre, kx_c2, kx_pl, kx_cmp, kx_oF, kx_eqN, kx_nil, kx_c1, kx_ft, kx_aI, kx_aL, kx_aR, kx_ln, Nat.reduceAdd, Option.toList, List.cons_append, List.nil_append, cf8_4, cf8_9, cf9_16, cf8_6])
        repeat' apply And.intro
        all_goals try (first | with_reducible assumption | (with_reducible refine ck_nzI ?_; simp; done) | (with_reducible refine ck_nzL ?_; simp; done) | (with_reducible refine vp_in_nI ?_ ?_ <;> first | omega | decide) | (with_reducible refine Nat.le_of_ble_eq_true ?_; rfl) | omega | exact Or.inl trivial | exact Or.inr trivial | exact Or.inl rfl | exact Or.inr rfl)
        · intro zc62
          have ze62 := zc62
          refine hB bX8_readUnit_76 _ _ _ _ _ _ _ kX8_readUnit_76 ?_
          dsimp only [bX8_readUnit_76, kx_wp, kx_step, kx_lI, kx_lL, kx_lA, kx_gl, kx_pI, kx_pL, kx_pR, kx_pA, kx_pV, kx_s1, kx_s2, kx_sl, kx_pre, kx_c2, kx_pl, kx_cmp, kx_oF, kx_eqN, kx_nil, kx_c1, kx_ft, kx_aI, kx_aL, kx_aR, kx_ln, Nat.reduceAdd, Option.toList, List.cons_append, List.nil_append, cf8_4, cf8_9, cf9_16, cf8_6]
          repeat (simp only [cx_8w0 hw, cx_8o, cx_83 hw, cx_84 hw, hQ, hs, pk_us, pk_un, ne_eq, Nat.reduceEqDiff, not_false_eq_true, ks_eq, ks_ss]; try dsimp only [kx_wp, kx_step, kx_lI, kx_lL, kx_lA, kx_gl, kx_pI, kx_pL, kx_pR, kx_pA, kx_pV, kx_s1, kx_s2, kx_sl, kx_pre, kx_c2, kx_pl, kx_cmp, kx_oF, kx_eqN, kx_nil, kx_c1, kx_ft, kx_aI, kx_aL, kx_aR, kx_ln, Nat.reduceAdd, Option.toList, List.cons_append, List.nil_append, cf8_4, cf8_9, cf9_16, cf8_6])
          repeat' apply And.intro
          all_goals try (first | with_reducible assumption | (with_reducible refine ck_nzI ?_; simp; done) | (with_reducible refine ck_nzL ?_; simp; done) | (with_reducible refine vp_in_nI ?_ ?_ <;> first | omega | decide) | (with_reducible refine Nat.le_of_ble_eq_true ?_; rfl) | omega | exact Or.inl trivial | exact Or.inr trivial | exact Or.inl rfl | exact Or.inr rfl)
          refine hB bX8_readUnit_77 _ _ _ _ _ _ _ kX8_readUnit_77 ?_
          dsimp only [bX8_readUnit_77, kx_wp, kx_step, kx_lI, kx_lL, kx_lA, kx_gl, kx_pI, kx_pL, kx_pR, kx_pA, kx_pV, kx_s1, kx_s2, kx_sl, kx_pre, kx_c2, kx_pl, kx_cmp, kx_oF, kx_eqN, kx_nil, kx_c1, kx_ft, kx_aI, kx_aL, kx_aR, kx_ln, Nat.reduceAdd, Option.toList, List.cons_append, List.nil_append, cf8_4, cf8_9, cf9_16, cf8_6]
          repeat (simp only [cx_8w0 hw, cx_8o, cx_83 hw, cx_84 hw, hQ, hs, pk_us, pk_un, ne_eq, Nat.reduceEqDiff, not_false_eq_true, ks_eq, ks_ss]; try dsimp only [kx_wp, kx_step, kx_lI, kx_lL, kx_lA, kx_gl, kx_pI, kx_pL, kx_pR, kx_pA, kx_pV, kx_s1, kx_s2, kx_sl, kx_pre, kx_c2, kx_pl, kx_cmp, kx_oF, kx_eqN, kx_nil, kx_c1, kx_ft, kx_aI, kx_aL, kx_aR, kx_ln, Nat.reduceAdd, Option.toList, List.cons_append, List.nil_append, cf8_4, cf8_9, cf9_16, cf8_6])
          all_goals (repeat' apply And.intro)
          all_goals ((try clear hB hC); first | exact True.intro | rfl | exact cx_PE.f hs2 (hX2 hs2))
        · intro zc62
          first | exact absurd rfl zc62 | exact absurd zc62 (by decide) | exact absurd (by decide) zc62 | (exfalso; ((try clear hB hC); simp only [ck_lt, ck_le, ck_eq, not_true_eq_false, not_false_eq_true, Int32.reduceToInt, Int32.reduceAdd, Int32.reduceSub, Int32.reduceMul] at * <;> omega)) | (exfalso; simp_all; done)
  · intro zc4
    first | exact absurd rfl zc4 | exact absurd zc4 (by decide) | exact absurd (by decide) zc4 | (exfalso; ((try clear hB hC); simp only [ck_lt, ck_le, ck_eq, not_true_eq_false, not_false_eq_true, Int32.reduceToInt, Int32.reduceAdd, Int32.reduceSub, Int32.reduceMul] at * <;> omega)) | (exfalso; simp_all; done)

set_option maxRecDepth 100000 in
set_option maxHeartbeats 4000000 in
theorem cu_p3 (l : Launch) (G : kx_G) {P : kx_P} {sz : Nat} {Q : kx_P} {w : Nat} (hw : 144 ≤ w) {T F Fo st V : Nat → Int32} (hT : Q 67 = kI 0 400 T) (hQ : Q w = kO 9 (kf (cr9 w) V)) {n : Nat} (hn : n ≤ 400) {S : ck_R} (hs : S.2.1 = -1) (ha : S.1 ≤ n) (he : cx_E T n S F Fo st) {d : Nat} (hdd : 7 ≤ d) (hd : ¬ (48 ≤ ck_hcx T n S.1 ∧ ck_hcx T n S.1 ≤ 57)) (hp : ck_hcx T n S.1 = 40) {S1 : ck_R} (h1 : cx_W l G sX8_takeOpening 4 Q w T n [] S S1 sz) (hs1 : S1.2.1 = -1) {S2 : ck_R} {d2 : Nat} (hd2 : d2 < d) (h2 : cx_W l G sX8_readSum d2 Q w T n [] S1 S2 sz) (hs2 : S2.2.1 = -1) {S3 : ck_R} (h3 : cx_W l G sX8_takeClosing 4 Q w T n [] S2 S3 sz) (hs3 : ¬ S3.2.1 = -1)  : kx_Mn l G sX8_readUnit d 0 0 [.ref 68] (cx_8 (cx_fW Q w Fo st) (.ref w) F) sz (cx_PE Q w T n (S3) sz) := by
  have hT2 : cx_fW Q w Fo st 67 = kI 0 400 T := (cx_f67 hw).trans hT
  have hle := ck_sk_le T ha
  refine kz_m2 kx_tab kxLok_X8 (ini := false) [some (.ref 68), none] ⟨by decide +kernel, rfl, by decide, by omega⟩ (fun _ _ _ h => Or.inl h.rok) rfl rfl (fun g hB hC hN hK => ?_)
  refine hB bX8_readUnit_0 _ _ _ _ _ _ _ kX8_readUnit_0 ?_
  dsimp only [bX8_readUnit_0, kx_wp, kx_step, kx_lI, kx_lL, kx_lA, kx_gl, kx_pI, kx_pL, kx_pR, kx_pA, kx_pV, kx_s1, kx_s2, kx_sl, kx_pre, kx_c2, kx_pl, kx_cmp, kx_oF, kx_eqN, kx_nil, kx_c1, kx_ft, kx_aI, kx_aL, kx_aR, kx_ln, Nat.reduceAdd, Option.toList, List.cons_append, List.nil_append, cf8_4, cf8_9, cf9_16, cf8_6]
  repeat (simp only [cx_8w0 hw, cx_8o, cx_83 hw, cx_84 hw, hQ, hs, pk_us, pk_un, ne_eq, Nat.reduceEqDiff, not_false_eq_true, ks_eq, ks_ss]; try dsimp only [kx_wp, kx_step, kx_lI, kx_lL, kx_lA, kx_gl, kx_pI, kx_pL, kx_pR, kx_pA, kx_pV, kx_s1, kx_s2, kx_sl, kx_pre, kx_c2, kx_pl, kx_cmp, kx_oF, kx_eqN, kx_nil, kx_c1, kx_ft, kx_aI, kx_aL, kx_aR, kx_ln, Nat.reduceAdd, Option.toList, List.cons_append, List.nil_append, cf8_4, cf8_9, cf9_16, cf8_6])
  repeat' apply And.intro
  all_goals try (first | with_reducible assumption | (with_reducible refine ck_nzI ?_; simp; done) | (with_reducible refine ck_nzL ?_; simp; done) | (with_reducible refine vp_in_nI ?_ ?_ <;> first | omega | decide) | (with_reducible refine Nat.le_of_ble_eq_true ?_; rfl) | omega | exact Or.inl trivial | exact Or.inr trivial | exact Or.inl rfl | exact Or.inr rfl)
  refine hC.1 80 _ _ _ _ _ _ _ 8 _ _ _ _ _ _ _ _ _ _ _ _ lX8_80 (ct_X8_nextIsDigit_f (x := .ref w) hT2 he.1 hn he.2.1 hle.2 hd) ⟨by decide, rfl⟩ (cx_8o) rfl rfl (Nat.le_of_ble_eq_true rfl) (by first | decide | omega) (by decide) (by omega) (by omega) dX8_readUnit_1 ?_
  refine hB bX8_readUnit_4 _ _ _ _ _ _ _ kX8_readUnit_4 ?_
  dsimp only [bX8_readUnit_4, kx_wp, kx_step, kx_lI, kx_lL, kx_lA, kx_gl, kx_pI, kx_pL, kx_pR, kx_pA, kx_pV, kx_s1, kx_s2, kx_sl, kx_pre, kx_c2, kx_pl, kx_cmp, kx_oF, kx_eqN, kx_nil, kx_c1, kx_ft, kx_aI, kx_aL, kx_aR, kx_ln, Nat.reduceAdd, Option.toList, List.cons_append, List.nil_append, cf8_4, cf8_9, cf9_16, cf8_6]
  repeat (simp only [cx_8w0 hw, cx_8o, cx_83 hw, cx_84 hw, hQ, hs, pk_us, pk_un, ne_eq, Nat.reduceEqDiff, not_false_eq_true, ks_eq, ks_ss]; try dsimp only [kx_wp, kx_step, kx_lI, kx_lL, kx_lA, kx_gl, kx_pI, kx_pL, kx_pR, kx_pA, kx_pV, kx_s1, kx_s2, kx_sl, kx_pre, kx_c2, kx_pl, kx_cmp, kx_oF, kx_eqN, kx_nil, kx_c1, kx_ft, kx_aI, kx_aL, kx_aR, kx_ln, Nat.reduceAdd, Option.toList, List.cons_append, List.nil_append, cf8_4, cf8_9, cf9_16, cf8_6])
  repeat' apply And.intro
  all_goals try (first | with_reducible assumption | (with_reducible refine ck_nzI ?_; simp; done) | (with_reducible refine ck_nzL ?_; simp; done) | (with_reducible refine vp_in_nI ?_ ?_ <;> first | omega | decide) | (with_reducible refine Nat.le_of_ble_eq_true ?_; rfl) | omega | exact Or.inl trivial | exact Or.inr trivial | exact Or.inl rfl | exact Or.inr rfl)
  · intro zc4
    have ze4 := zc4
    refine hB bX8_readUnit_42 _ _ _ _ _ _ _ kX8_readUnit_42 ?_
    dsimp only [bX8_readUnit_42, kx_wp, kx_step, kx_lI, kx_lL, kx_lA, kx_gl, kx_pI, kx_pL, kx_pR, kx_pA, kx_pV, kx_s1, kx_s2, kx_sl, kx_pre, kx_c2, kx_pl, kx_cmp, kx_oF, kx_eqN, kx_nil, kx_c1, kx_ft, kx_aI, kx_aL, kx_aR, kx_ln, Nat.reduceAdd, Option.toList, List.cons_append, List.nil_append, cf8_4, cf8_9, cf9_16, cf8_6]
    repeat (simp only [cx_8w0 hw, cx_8o, cx_83 hw, cx_84 hw, hQ, hs, pk_us, pk_un, ne_eq, Nat.reduceEqDiff, not_false_eq_true, ks_eq, ks_ss]; try dsimp only [kx_wp, kx_step, kx_lI, kx_lL, kx_lA, kx_gl, kx_pI, kx_pL, kx_pR, kx_pA, kx_pV, kx_s1, kx_s2, kx_sl, kx_pre, kx_c2, kx_pl, kx_cmp, kx_oF, kx_eqN, kx_nil, kx_c1, kx_ft, kx_aI, kx_aL, kx_aR, kx_ln, Nat.reduceAdd, Option.toList, List.cons_append, List.nil_append, cf8_4, cf8_9, cf9_16, cf8_6])
    repeat' apply And.intro
    all_goals try (first | with_reducible assumption | (with_reducible refine ck_nzI ?_; simp; done) | (with_reducible refine ck_nzL ?_; simp; done) | (with_reducible refine vp_in_nI ?_ ?_ <;> first | omega | decide) | (with_reducible refine Nat.le_of_ble_eq_true ?_; rfl) | omega | exact Or.inl trivial | exact Or.inr trivial | exact Or.inl rfl | exact Or.inr rfl)
    refine hC.1 54 _ _ _ _ _ _ _ 8 _ _ _ _ _ _ _ _ _ _ _ _ lX8_54 (ct_X8_nextIs_t (x := .ref w) hT2 he.1 hn he.2.1 hle.2 (by decide) hp) ⟨by decide, rfl⟩ (cx_8o) rfl rfl (Nat.le_of_ble_eq_true rfl) (by first | decide | omega) (by decide) (by omega) (by omega) dX8_readUnit_45 ?_
    refine hB bX8_readUnit_48 _ _ _ _ _ _ _ kX8_readUnit_48 ?_
    dsimp only [bX8_readUnit_48, kx_wp, kx_step, kx_lI, kx_lL, kx_lA, kx_gl, kx_pI, kx_pL, kx_pR, kx_pA, kx_pV, kx_s1, kx_s2, kx_sl, kx_pre, kx_c2, kx_pl, kx_cmp, kx_oF, kx_eqN, kx_nil, kx_c1, kx_ft, kx_aI, kx_aL, kx_aR, kx_ln, Nat.reduceAdd, Option.toList, List.cons_append, List.nil_append, cf8_4, cf8_9, cf9_16, cf8_6]
    repeat (simp only [cx_8w0 hw, cx_8o, cx_83 hw, cx_84 hw, hQ, hs, pk_us, pk_un, ne_eq, Nat.reduceEqDiff, not_false_eq_true, ks_eq, ks_ss]; try dsimp only [kx_wp, kx_step, kx_lI, kx_lL, kx_lA, kx_gl, kx_pI, kx_pL, kx_pR, kx_pA, kx_pV, kx_s1, kx_s2, kx_sl, kx_pre, kx_c2, kx_pl, kx_cmp, kx_oF, kx_eqN, kx_nil, kx_c1, kx_ft, kx_aI, kx_aL, kx_aR, kx_ln, Nat.reduceAdd, Option.toList, List.cons_append, List.nil_append, cf8_4, cf8_9, cf9_16, cf8_6])
    repeat' apply And.intro
    all_goals try (first | with_reducible assumption | (with_reducible refine ck_nzI ?_; simp; done) | (with_reducible refine ck_nzL ?_; simp; done) | (with_reducible refine vp_in_nI ?_ ?_ <;> first | omega | decide) | (with_reducible refine Nat.le_of_ble_eq_true ?_; rfl) | omega | exact Or.inl trivial | exact Or.inr trivial | exact Or.inl rfl | exact Or.inr rfl)
    · intro zc48
      first | exact absurd rfl zc48 | exact absurd zc48 (by decide) | exact absurd (by decide) zc48 | (exfalso; ((try clear hB hC); simp only [ck_lt, ck_le, ck_eq, not_true_eq_false, not_false_eq_true, Int32.reduceToInt, Int32.reduceAdd, Int32.reduceSub, Int32.reduceMul] at * <;> omega)) | (exfalso; simp_all; done)
    · intro zc48
      have ze48 := zc48
      refine hB bX8_readUnit_51 _ _ _ _ _ _ _ kX8_readUnit_51 ?_
      dsimp only [bX8_readUnit_51, kx_wp, kx_step, kx_lI, kx_lL, kx_lA, kx_gl, kx_pI, kx_pL, kx_pR, kx_pA, kx_pV, kx_s1, kx_s2, kx_sl, kx_pre, kx_c2, kx_pl, kx_cmp, kx_oF, kx_eqN, kx_nil, kx_c1, kx_ft, kx_aI, kx_aL, kx_aR, kx_ln, Nat.reduceAdd, Option.toList, List.cons_append, List.nil_append, cf8_4, cf8_9, cf9_16, cf8_6]
      repeat (simp only [cx_8w0 hw, cx_8o, cx_83 hw, cx_84 hw, hQ, hs, pk_us, pk_un, ne_eq, Nat.reduceEqDiff, not_false_eq_true, ks_eq, ks_ss]; try dsimp only [kx_wp, kx_step, kx_lI, kx_lL, kx_lA, kx_gl, kx_pI, kx_pL, kx_pR, kx_pA, kx_pV, kx_s1, kx_s2, kx_sl, kx_pre, kx_c2, kx_pl, kx_cmp, kx_oF, kx_eqN, kx_nil, kx_c1, kx_ft, kx_aI, kx_aL, kx_aR, kx_ln, Nat.reduceAdd, Option.toList, List.cons_append, List.nil_append, cf8_4, cf8_9, cf9_16, cf8_6])
      repeat' apply And.intro
      all_goals try (first | with_reducible assumption | (with_reducible refine ck_nzI ?_; simp; done) | (with_reducible refine ck_nzL ?_; simp; done) | (with_reducible refine vp_in_nI ?_ ?_ <;> first | omega | decide) | (with_reducible refine Nat.le_of_ble_eq_true ?_; rfl) | omega | exact Or.inl trivial | exact Or.inr trivial | exact Or.inl rfl | exact Or.inr rfl)
      refine hN.1 215 _ _ _ _ _ _ _ 8 _ _ _ _ _ _ _ _ _ _ lX8_215 (h1 _ _ _ he) ⟨by decide, rfl⟩ (cx_8o) rfl rfl (Nat.le_of_ble_eq_true rfl) (by omega) (by decide) (by omega) (by omega) dX8_readUnit_52 ?_
      rintro r1 P1 s1 ⟨F1, Fo1, st1, rfl, rfl, rfl, hE1, hX1⟩
      have hE1 := hE1 hs1
      rw [cx_b1 hs1]
      dsimp only [Option.toList, List.cons_append, List.nil_append]
      refine hB bX8_readUnit_55 _ _ _ _ _ _ _ kX8_readUnit_55 ?_
      dsimp only [bX8_readUnit_55, kx_wp, kx_step, kx_lI, kx_lL, kx_lA, kx_gl, kx_pI, kx_pL, kx_pR, kx_pA, kx_pV, kx_s1, kx_s2, kx_sl, kx_pre, kx_c2, kx_pl, kx_cmp, kx_oF, kx_eqN, kx_nil, kx_c1, kx_ft, kx_aI, kx_aL, kx_aR, kx_ln, Nat.reduceAdd, Option.toList, List.cons_append, List.nil_append, cf8_4, cf8_9, cf9_16, cf8_6]
      repeat (simp only [cx_8w0 hw, cx_8o, cx_83 hw, cx_84 hw, hQ, hs, pk_us, pk_un, ne_eq, Nat.reduceEqDiff, not_false_eq_true, ks_eq, ks_ss]; try dsimp only [kx_wp, kx_step, kx_lI, kx_lL, kx_lA, kx_gl, kx_pI, kx_pL, kx_pR, kx_pA, kx_pV, kx_s1, kx_s2, kx_sl, kx_pre, kx_c2, kx_pl, kx_cmp, kx_oF, kx_eqN, kx_nil, kx_c1, kx_ft, kx_aI, kx_aL, kx_aR, kx_ln, Nat.reduceAdd, Option.toList, List.cons_append, List.nil_append, cf8_4, cf8_9, cf9_16, cf8_6])
      repeat' apply And.intro
      all_goals try (first | with_reducible assumption | (with_reducible refine ck_nzI ?_; simp; done) | (with_reducible refine ck_nzL ?_; simp; done) | (with_reducible refine vp_in_nI ?_ ?_ <;> first | omega | decide) | (with_reducible refine Nat.le_of_ble_eq_true ?_; rfl) | omega | exact Or.inl trivial | exact Or.inr trivial | exact Or.inl rfl | exact Or.inr rfl)
      · intro zc55
        first | exact absurd rfl zc55 | exact absurd zc55 (by decide) | exact absurd (by decide) zc55 | (exfalso; ((try clear hB hC); simp only [ck_lt, ck_le, ck_eq, not_true_eq_false, not_false_eq_true, Int32.reduceToInt, Int32.reduceAdd, Int32.reduceSub, Int32.reduceMul] at * <;> omega)) | (exfalso; simp_all; done)
      · intro zc55
        have ze55 := zc55
        refine hB bX8_readUnit_58 _ _ _ _ _ _ _ kX8_readUnit_58 ?_
        dsimp only [bX8_readUnit_58, kx_wp, kx_step, kx_lI, kx_lL, kx_lA, kx_gl, kx_pI, kx_pL, kx_pR, kx_pA, kx_pV, kx_s1, kx_s2, kx_sl, kx_pre, kx_c2, kx_pl, kx_cmp, kx_oF, kx_eqN, kx_nil, kx_c1, kx_ft, kx_aI, kx_aL, kx_aR, kx_ln, Nat.reduceAdd, Option.toList, List.cons_append, List.nil_append, cf8_4, cf8_9, cf9_16, cf8_6]
        repeat (simp only [cx_8w0 hw, cx_8o, cx_83 hw, cx_84 hw, hQ, hs, pk_us, pk_un, ne_eq, Nat.reduceEqDiff, not_false_eq_true, ks_eq, ks_ss]; try dsimp only [kx_wp, kx_step, kx_lI, kx_lL, kx_lA, kx_gl, kx_pI, kx_pL, kx_pR, kx_pA, kx_pV, kx_s1, kx_s2, kx_sl, kx_pre, kx_c2, kx_pl, kx_cmp, kx_oF, kx_eqN, kx_nil, kx_c1, kx_ft, kx_aI, kx_aL, kx_aR, kx_ln, Nat.reduceAdd, Option.toList, List.cons_append, List.nil_append, cf8_4, cf8_9, cf9_16, cf8_6])
        repeat' apply And.intro
        all_goals try (first | with_reducible assumption | (with_reducible refine ck_nzI ?_; simp; done) | (with_reducible refine ck_nzL ?_; simp; done) | (with_reducible refine vp_in_nI ?_ ?_ <;> first | omega | decide) | (with_reducible refine Nat.le_of_ble_eq_true ?_; rfl) | omega | exact Or.inl trivial | exact Or.inr trivial | exact Or.inl rfl | exact Or.inr rfl)
        refine hN.1 164 _ _ _ _ _ _ _ 8 _ _ _ _ _ _ _ _ _ _ lX8_164 (h2 _ _ _ hE1) ⟨by decide, rfl⟩ (cx_8o) rfl rfl (Nat.le_of_ble_eq_true rfl) (by omega) (by decide) (by omega) (by omega) dX8_readUnit_59 ?_
        rintro r2 P2 s2 ⟨F2, Fo2, st2, rfl, rfl, rfl, hE2, hX2⟩
        have hE2 := hE2 hs2
        rw [cx_b1 hs2]
        dsimp only [Option.toList, List.cons_append, List.nil_append]
        refine hB bX8_readUnit_62 _ _ _ _ _ _ _ kX8_readUnit_62 ?_
        dsimp only [bX8_readUnit_62, kx_wp, kx_step, kx_lI, kx_lL, kx_lA, kx_gl, kx_pI, kx_pL, kx_pR, kx_pA, kx_pV, kx_s1, kx_s2, kx_sl, kx_pre, kx_c2, kx_pl, kx_cmp, kx_oF, kx_eqN, kx_nil, kx_c1, kx_ft, kx_aI, kx_aL, kx_aR, kx_ln, Nat.reduceAdd, Option.toList, List.cons_append, List.nil_append, cf8_4, cf8_9, cf9_16, cf8_6]
        repeat (simp only [cx_8w0 hw, cx_8o, cx_83 hw, cx_84 hw, hQ, hs, pk_us, pk_un, ne_eq, Nat.reduceEqDiff, not_false_eq_true, ks_eq, ks_ss]; try dsimp only [kx_wp, kx_step, kx_lI, kx_lL, kx_lA, kx_gl, kx_pI, kx_pL, kx_pR, kx_pA, kx_pV, kx_s1, kx_s2, kx_sl, kx_pre, kx_c2, kx_pl, kx_cmp, kx_oF, kx_eqN, kx_nil, kx_c1, kx_ft, kx_aI, kx_aL, kx_aR, kx_ln, Nat.reduceAdd, Option.toList, List.cons_append, List.nil_append, cf8_4, cf8_9, cf9_16, cf8_6])
        repeat' apply And.intro
        all_goals try (first | with_reducible assumption | (with_reducible refine ck_nzI ?_; simp; done) | (with_reducible refine ck_nzL ?_; simp; done) | (with_reducible refine vp_in_nI ?_ ?_ <;> first | omega | decide) | (with_reducible refine Nat.le_of_ble_eq_true ?_; rfl) | omega | exact Or.inl trivial | exact Or.inr trivial | exact Or.inl rfl | exact Or.inr rfl)
        · intro zc62
          first | exact absurd rfl zc62 | exact absurd zc62 (by decide) | exact absurd (by decide) zc62 | (exfalso; ((try clear hB hC); simp only [ck_lt, ck_le, ck_eq, not_true_eq_false, not_false_eq_true, Int32.reduceToInt, Int32.reduceAdd, Int32.reduceSub, Int32.reduceMul] at * <;> omega)) | (exfalso; simp_all; done)
        · intro zc62
          have ze62 := zc62
          refine hB bX8_readUnit_65 _ _ _ _ _ _ _ kX8_readUnit_65 ?_
          dsimp only [bX8_readUnit_65, kx_wp, kx_step, kx_lI, kx_lL, kx_lA, kx_gl, kx_pI, kx_pL, kx_pR, kx_pA, kx_pV, kx_s1, kx_s2, kx_sl, kx_pre, kx_c2, kx_pl, kx_cmp, kx_oF, kx_eqN, kx_nil, kx_c1, kx_ft, kx_aI, kx_aL, kx_aR, kx_ln, Nat.reduceAdd, Option.toList, List.cons_append, List.nil_append, cf8_4, cf8_9, cf9_16, cf8_6]
          repeat (simp only [cx_8w0 hw, cx_8o, cx_83 hw, cx_84 hw, hQ, hs, pk_us, pk_un, ne_eq, Nat.reduceEqDiff, not_false_eq_true, ks_eq, ks_ss]; try dsimp only [kx_wp, kx_step, kx_lI, kx_lL, kx_lA, kx_gl, kx_pI, kx_pL, kx_pR, kx_pA, kx_pV, kx_s1, kx_s2, kx_sl, kx_pre, kx_c2, kx_pl, kx_cmp, kx_oF, kx_eqN, kx_nil, kx_c1, kx_ft, kx_aI, kx_aL, kx_aR, kx_ln, Nat.reduceAdd, Option.toList, List.cons_append, List.nil_append, cf8_4, cf8_9, cf9_16, cf8_6])
          repeat' apply And.intro
          all_goals try (first | with_reducible assumption | (with_reducible refine ck_nzI ?_; simp; done) | (with_reducible refine ck_nzL ?_; simp; done) | (with_reducible refine vp_in_nI ?_ ?_ <;> first | omega | decide) | (with_reducible refine Nat.le_of_ble_eq_true ?_; rfl) | omega | exact Or.inl trivial | exact Or.inr trivial | exact Or.inl rfl | exact Or.inr rfl)
          refine hN.1 218 _ _ _ _ _ _ _ 8 _ _ _ _ _ _ _ _ _ _ lX8_218 (h3 _ _ _ hE2) ⟨by decide, rfl⟩ (cx_8o) rfl rfl (Nat.le_of_ble_eq_true rfl) (by omega) (by decide) (by omega) (by omega) dX8_readUnit_66 ?_
          rintro r3 P3 s3 ⟨F3, Fo3, st3, rfl, rfl, rfl, hE3, hX3⟩
          rw [cx_b0 hs3]
          dsimp only [Option.toList, List.cons_append, List.nil_append]
          refine hB bX8_readUnit_69 _ _ _ _ _ _ _ kX8_readUnit_69 ?_
          dsimp only [bX8_readUnit_69, kx_wp, kx_step, kx_lI, kx_lL, kx_lA, kx_gl, kx_pI, kx_pL, kx_pR, kx_pA, kx_pV, kx_s1, kx_s2, kx_sl, kx_pre, kx_c2, kx_pl, kx_cmp, kx_oF, kx_eqN, kx_nil, kx_c1, kx_ft, kx_aI, kx_aL, kx_aR, kx_ln, Nat.reduceAdd, Option.toList, List.cons_append, List.nil_append, cf8_4, cf8_9, cf9_16, cf8_6]
          repeat (simp only [cx_8w0 hw, cx_8o, cx_83 hw, cx_84 hw, hQ, hs, pk_us, pk_un, ne_eq, Nat.reduceEqDiff, not_false_eq_true, ks_eq, ks_ss]; try dsimp only [kx_wp, kx_step, kx_lI, kx_lL, kx_lA, kx_gl, kx_pI, kx_pL, kx_pR, kx_pA, kx_pV, kx_s1, kx_s2, kx_sl, kx_pre, kx_c2, kx_pl, kx_cmp, kx_oF, kx_eqN, kx_nil, kx_c1, kx_ft, kx_aI, kx_aL, kx_aR, kx_ln, Nat.reduceAdd, Option.toList, List.cons_append, List.nil_append, cf8_4, cf8_9, cf9_16, cf8_6])
          repeat' apply And.intro
          all_goals try (first | with_reducible assumption | (with_reducible refine ck_nzI ?_; simp; done) | (with_reducible refine ck_nzL ?_; simp; done) | (with_reducible refine vp_in_nI ?_ ?_ <;> first | omega | decide) | (with_reducible refine Nat.le_of_ble_eq_true ?_; rfl) | omega | exact Or.inl trivial | exact Or.inr trivial | exact Or.inl rfl | exact Or.inr rfl)
          · intro zc69
            have ze69 := zc69
            refine hB bX8_readUnit_76 _ _ _ _ _ _ _ kX8_readUnit_76 ?_
            dsimp only [bX8_readUnit_76, kx_wp, kx_step, kx_lI, kx_lL, kx_lA, kx_gl, kx_pI, kx_pL, kx_pR, kx_pA, kx_pV, kx_s1, kx_s2, kx_sl, kx_pre, kx_c2, kx_pl, kx_cmp, kx_oF, kx_eqN, kx_nil, kx_c1, kx_ft, kx_aI, kx_aL, kx_aR, kx_ln, Nat.reduceAdd, Option.toList, List.cons_append, List.nil_append, cf8_4, cf8_9, cf9_16, cf8_6]
            repeat (simp only [cx_8w0 hw, cx_8o, cx_83 hw, cx_84 hw, hQ, hs, pk_us, pk_un, ne_eq, Nat.reduceEqDiff, not_false_eq_true, ks_eq, ks_ss]; try dsimp only [kx_wp, kx_step, kx_lI, kx_lL, kx_lA, kx_gl, kx_pI, kx_pL, kx_pR, kx_pA, kx_pV, kx_s1, kx_s2, kx_sl, kx_pre, kx_c2, kx_pl, kx_cmp, kx_oF, kx_eqN, kx_nil, kx_c1, kx_ft, kx_aI, kx_aL, kx_aR, kx_ln, Nat.reduceAdd, Option.toList, List.cons_append, List.nil_append, cf8_4, cf8_9, cf9_16, cf8_6])
            repeat' apply And.intro
            all_goals try (first | with_reducible assumption | (with_reducible refine ck_nzI ?_; simp; done) | (with_reducible refine ck_nzL ?_; simp; done) | (with_reducible refine vp_in_nI ?_ ?_ <;> first | omega | decide) | (with_reducible refine Nat.le_of_ble_eq_true ?_; rfl) | omega | exact Or.inl trivial | exact Or.inr trivial | exact Or.inl rfl | exact Or.inr rfl)
            refine hB bX8_readUnit_77 _ _ _ _ _ _ _ kX8_readUnit_77 ?_
            dsimp only [bX8_readUnit_77, kx_wp, kx_step, kx_lI, kx_lL, kx_lA, kx_gl, kx_pI, kx_pL, kx_pR, kx_pA, kx_pV, kx_s1, kx_s2, kx_sl, kx_pre, kx_c2, kx_pl, kx_cmp, kx_oF, kx_eqN, kx_nil, kx_c1, kx_ft, kx_aI, kx_aL, kx_aR, kx_ln, Nat.reduceAdd, Option.toList, List.cons_append, List.nil_append, cf8_4, cf8_9, cf9_16, cf8_6]
            repeat (simp only [cx_8w0 hw, cx_8o, cx_83 hw, cx_84 hw, hQ, hs, pk_us, pk_un, ne_eq, Nat.reduceEqDiff, not_false_eq_true, ks_eq, ks_ss]; try dsimp only [kx_wp, kx_step, kx_lI, kx_lL, kx_lA, kx_gl, kx_pI, kx_pL, kx_pR, kx_pA, kx_pV, kx_s1, kx_s2, kx_sl, kx_pre, kx_c2, kx_pl, kx_cmp, kx_oF, kx_eqN, kx_nil, kx_c1, kx_ft, kx_aI, kx_aL, kx_aR, kx_ln, Nat.reduceAdd, Option.toList, List.cons_append, List.nil_append, cf8_4, cf8_9, cf9_16, cf8_6])
            all_goals (repeat' apply And.intro)
            all_goals ((try clear hB hC); first | exact True.intro | rfl | exact cx_PE.f hs3 (hX3 hs3))
          · intro zc69
            first | exact absurd rfl zc69 | exact absurd zc69 (by decide) | exact absurd (by decide) zc69 | (exfalso; ((try clear hB hC); simp only [ck_lt, ck_le, ck_eq, not_true_eq_false, not_false_eq_true, Int32.reduceToInt, Int32.reduceAdd, Int32.reduceSub, Int32.reduceMul] at * <;> omega)) | (exfalso; simp_all; done)
  · intro zc4
    first | exact absurd rfl zc4 | exact absurd zc4 (by decide) | exact absurd (by decide) zc4 | (exfalso; ((try clear hB hC); simp only [ck_lt, ck_le, ck_eq, not_true_eq_false, not_false_eq_true, Int32.reduceToInt, Int32.reduceAdd, Int32.reduceSub, Int32.reduceMul] at * <;> omega)) | (exfalso; simp_all; done)

set_option maxRecDepth 100000 in
set_option maxHeartbeats 4000000 in
theorem cu_p4 (l : Launch) (G : kx_G) {P : kx_P} {sz : Nat} {Q : kx_P} {w : Nat} (hw : 144 ≤ w) {T F Fo st V : Nat → Int32} (hT : Q 67 = kI 0 400 T) (hQ : Q w = kO 9 (kf (cr9 w) V)) {n : Nat} (hn : n ≤ 400) {S : ck_R} (hs : S.2.1 = -1) (ha : S.1 ≤ n) (he : cx_E T n S F Fo st) {d : Nat} (hdd : 7 ≤ d) (hd : ¬ (48 ≤ ck_hcx T n S.1 ∧ ck_hcx T n S.1 ≤ 57)) (hp : ck_hcx T n S.1 = 40) {S1 : ck_R} (h1 : cx_W l G sX8_takeOpening 4 Q w T n [] S S1 sz) (hs1 : S1.2.1 = -1) {S2 : ck_R} {d2 : Nat} (hd2 : d2 < d) (h2 : cx_W l G sX8_readSum d2 Q w T n [] S1 S2 sz) (hs2 : S2.2.1 = -1) {S3 : ck_R} (h3 : cx_W l G sX8_takeClosing 4 Q w T n [] S2 S3 sz) (hs3 : S3.2.1 = -1)  : kx_Mn l G sX8_readUnit d 0 0 [.ref 68] (cx_8 (cx_fW Q w Fo st) (.ref w) F) sz (cx_PE Q w T n (S3) sz) := by
  have hT2 : cx_fW Q w Fo st 67 = kI 0 400 T := (cx_f67 hw).trans hT
  have hle := ck_sk_le T ha
  refine kz_m2 kx_tab kxLok_X8 (ini := false) [some (.ref 68), none] ⟨by decide +kernel, rfl, by decide, by omega⟩ (fun _ _ _ h => Or.inl h.rok) rfl rfl (fun g hB hC hN hK => ?_)
  refine hB bX8_readUnit_0 _ _ _ _ _ _ _ kX8_readUnit_0 ?_
  dsimp only [bX8_readUnit_0, kx_wp, kx_step, kx_lI, kx_lL, kx_lA, kx_gl, kx_pI, kx_pL, kx_pR, kx_pA, kx_pV, kx_s1, kx_s2, kx_sl, kx_pre, kx_c2, kx_pl, kx_cmp, kx_oF, kx_eqN, kx_nil, kx_c1, kx_ft, kx_aI, kx_aL, kx_aR, kx_ln, Nat.reduceAdd, Option.toList, List.cons_append, List.nil_append, cf8_4, cf8_9, cf9_16, cf8_6]
  repeat (simp only [cx_8w0 hw, cx_8o, cx_83 hw, cx_84 hw, hQ, hs, pk_us, pk_un, ne_eq, Nat.reduceEqDiff, not_false_eq_true, ks_eq, ks_ss]; try dsimp only [kx_wp, kx_step, kx_lI, kx_lL, kx_lA, kx_gl, kx_pI, kx_pL, kx_pR, kx_pA, kx_pV, kx_s1, kx_s2, kx_sl, kx_pre, kx_c2, kx_pl, kx_cmp, kx_oF, kx_eqN, kx_nil, kx_c1, kx_ft, kx_aI, kx_aL, kx_aR, kx_ln, Nat.reduceAdd, Option.toList, List.cons_append, List.nil_append, cf8_4, cf8_9, cf9_16, cf8_6])
  repeat' apply And.intro
  all_goals try (first | with_reducible assumption | (with_reducible refine ck_nzI ?_; simp; done) | (with_reducible refine ck_nzL ?_; simp; done) | (with_reducible refine vp_in_nI ?_ ?_ <;> first | omega | decide) | (with_reducible refine Nat.le_of_ble_eq_true ?_; rfl) | omega | exact Or.inl trivial | exact Or.inr trivial | exact Or.inl rfl | exact Or.inr rfl)
  refine hC.1 80 _ _ _ _ _ _ _ 8 _ _ _ _ _ _ _ _ _ _ _ _ lX8_80 (ct_X8_nextIsDigit_f (x := .ref w) hT2 he.1 hn he.2.1 hle.2 hd) ⟨by decide, rfl⟩ (cx_8o) rfl rfl (Nat.le_of_ble_eq_true rfl) (by first | decide | omega) (by decide) (by omega) (by omega) dX8_readUnit_1 ?_
  refine hB bX8_readUnit_4 _ _ _ _ _ _ _ kX8_readUnit_4 ?_
  dsimp only [bX8_readUnit_4, kx_wp, kx_step, kx_lI, kx_lL, kx_lA, kx_gl, kx_pI, kx_pL, kx_pR, kx_pA, kx_pV, kx_s1, kx_s2, kx_sl, kx_pre, kx_c2, kx_pl, kx_cmp, kx_oF, kx_eqN, kx_nil, kx_c1, kx_ft, kx_aI, kx_aL, kx_aR, kx_ln, Nat.reduceAdd, Option.toList, List.cons_append, List.nil_append, cf8_4, cf8_9, cf9_16, cf8_6]
  repeat (simp only [cx_8w0 hw, cx_8o, cx_83 hw, cx_84 hw, hQ, hs, pk_us, pk_un, ne_eq, Nat.reduceEqDiff, not_false_eq_true, ks_eq, ks_ss]; try dsimp only [kx_wp, kx_step, kx_lI, kx_lL, kx_lA, kx_gl, kx_pI, kx_pL, kx_pR, kx_pA, kx_pV, kx_s1, kx_s2, kx_sl, kx_pre, kx_c2, kx_pl, kx_cmp, kx_oF, kx_eqN, kx_nil, kx_c1, kx_ft, kx_aI, kx_aL, kx_aR, kx_ln, Nat.reduceAdd, Option.toList, List.cons_append, List.nil_append, cf8_4, cf8_9, cf9_16, cf8_6])
  repeat' apply And.intro
  all_goals try (first | with_reducible assumption | (with_reducible refine ck_nzI ?_; simp; done) | (with_reducible refine ck_nzL ?_; simp; done) | (with_reducible refine vp_in_nI ?_ ?_ <;> first | omega | decide) | (with_reducible refine Nat.le_of_ble_eq_true ?_; rfl) | omega | exact Or.inl trivial | exact Or.inr trivial | exact Or.inl rfl | exact Or.inr rfl)
  · intro zc4
    have ze4 := zc4
    refine hB bX8_readUnit_42 _ _ _ _ _ _ _ kX8_readUnit_42 ?_
    dsimp only [bX8_readUnit_42, kx_wp, kx_step, kx_lI, kx_lL, kx_lA, kx_gl, kx_pI, kx_pL, kx_pR, kx_pA, kx_pV, kx_s1, kx_s2, kx_sl, kx_pre, kx_c2, kx_pl, kx_cmp, kx_oF, kx_eqN, kx_nil, kx_c1, kx_ft, kx_aI, kx_aL, kx_aR, kx_ln, Nat.reduceAdd, Option.toList, List.cons_append, List.nil_append, cf8_4, cf8_9, cf9_16, cf8_6]
    repeat (simp only [cx_8w0 hw, cx_8o, cx_83 hw, cx_84 hw, hQ, hs, pk_us, pk_un, ne_eq, Nat.reduceEqDiff, not_false_eq_true, ks_eq, ks_ss]; try dsimp only [kx_wp, kx_step, kx_lI, kx_lL, kx_lA, kx_gl, kx_pI, kx_pL, kx_pR, kx_pA, kx_pV, kx_s1, kx_s2, kx_sl, kx_pre, kx_c2, kx_pl, kx_cmp, kx_oF, kx_eqN, kx_nil, kx_c1, kx_ft, kx_aI, kx_aL, kx_aR, kx_ln, Nat.reduceAdd, Option.toList, List.cons_append, List.nil_append, cf8_4, cf8_9, cf9_16, cf8_6])
    repeat' apply And.intro
    all_goals try (first | with_reducible assumption | (with_reducible refine ck_nzI ?_; simp; done) | (with_reducible refine ck_nzL ?_; simp; done) | (with_reducible refine vp_in_nI ?_ ?_ <;> first | omega | decide) | (with_reducible refine Nat.le_of_ble_eq_true ?_; rfl) | omega | exact Or.inl trivial | exact Or.inr trivial | exact Or.inl rfl | exact Or.inr rfl)
    refine hC.1 54 _ _ _ _ _ _ _ 8 _ _ _ _ _ _ _ _ _ _ _ _ lX8_54 (ct_X8_nextIs_t (x := .ref w) hT2 he.1 hn he.2.1 hle.2 (by decide) hp) ⟨by decide, rfl⟩ (cx_8o) rfl rfl (Nat.le_of_ble_eq_true rfl) (by first | decide | omega) (by decide) (by omega) (by omega) dX8_readUnit_45 ?_
    refine hB bX8_readUnit_48 _ _ _ _ _ _ _ kX8_readUnit_48 ?_
    dsimp only [bX8_readUnit_48, kx_wp, kx_step, kx_lI, kx_lL, kx_lA, kx_gl, kx_pI, kx_pL, kx_pR, kx_pA, kx_pV, kx_s1, kx_s2, kx_sl, kx_pre, kx_c2, kx_pl, kx_cmp, kx_oF, kx_eqN, kx_nil, kx_c1, kx_ft, kx_aI, kx_aL, kx_aR, kx_ln, Nat.reduceAdd, Option.toList, List.cons_append, List.nil_append, cf8_4, cf8_9, cf9_16, cf8_6]
    repeat (simp only [cx_8w0 hw, cx_8o, cx_83 hw, cx_84 hw, hQ, hs, pk_us, pk_un, ne_eq, Nat.reduceEqDiff, not_false_eq_true, ks_eq, ks_ss]; try dsimp only [kx_wp, kx_step, kx_lI, kx_lL, kx_lA, kx_gl, kx_pI, kx_pL, kx_pR, kx_pA, kx_pV, kx_s1, kx_s2, kx_sl, kx_pre, kx_c2, kx_pl, kx_cmp, kx_oF, kx_eqN, kx_nil, kx_c1, kx_ft, kx_aI, kx_aL, kx_aR, kx_ln, Nat.reduceAdd, Option.toList, List.cons_append, List.nil_append, cf8_4, cf8_9, cf9_16, cf8_6])
    repeat' apply And.intro
    all_goals try (first | with_reducible assumption | (with_reducible refine ck_nzI ?_; simp; done) | (with_reducible refine ck_nzL ?_; simp; done) | (with_reducible refine vp_in_nI ?_ ?_ <;> first | omega | decide) | (with_reducible refine Nat.le_of_ble_eq_true ?_; rfl) | omega | exact Or.inl trivial | exact Or.inr trivial | exact Or.inl rfl | exact Or.inr rfl)
    · intro zc48
      first | exact absurd rfl zc48 | exact absurd zc48 (by decide) | exact absurd (by decide) zc48 | (exfalso; ((try clear hB hC); simp only [ck_lt, ck_le, ck_eq, not_true_eq_false, not_false_eq_true, Int32.reduceToInt, Int32.reduceAdd, Int32.reduceSub, Int32.reduceMul] at * <;> omega)) | (exfalso; simp_all; done)
    · intro zc48
      have ze48 := zc48
      refine hB bX8_readUnit_51 _ _ _ _ _ _ _ kX8_readUnit_51 ?_
      dsimp only [bX8_readUnit_51, kx_wp, kx_step, kx_lI, kx_lL, kx_lA, kx_gl, kx_pI, kx_pL, kx_pR, kx_pA, kx_pV, kx_s1, kx_s2, kx_sl, kx_pre, kx_c2, kx_pl, kx_cmp, kx_oF, kx_eqN, kx_nil, kx_c1, kx_ft, kx_aI, kx_aL, kx_aR, kx_ln, Nat.reduceAdd, Option.toList, List.cons_append, List.nil_append, cf8_4, cf8_9, cf9_16, cf8_6]
      repeat (simp only [cx_8w0 hw, cx_8o, cx_83 hw, cx_84 hw, hQ, hs, pk_us, pk_un, ne_eq, Nat.reduceEqDiff, not_false_eq_true, ks_eq, ks_ss]; try dsimp only [kx_wp, kx_step, kx_lI, kx_lL, kx_lA, kx_gl, kx_pI, kx_pL, kx_pR, kx_pA, kx_pV, kx_s1, kx_s2, kx_sl, kx_pre, kx_c2, kx_pl, kx_cmp, kx_oF, kx_eqN, kx_nil, kx_c1, kx_ft, kx_aI, kx_aL, kx_aR, kx_ln, Nat.reduceAdd, Option.toList, List.cons_append, List.nil_append, cf8_4, cf8_9, cf9_16, cf8_6])
      repeat' apply And.intro
      all_goals try (first | with_reducible assumption | (with_reducible refine ck_nzI ?_; simp; done) | (with_reducible refine ck_nzL ?_; simp; done) | (with_reducible refine vp_in_nI ?_ ?_ <;> first | omega | decide) | (with_reducible refine Nat.le_of_ble_eq_true ?_; rfl) | omega | exact Or.inl trivial | exact Or.inr trivial | exact Or.inl rfl | exact Or.inr rfl)
      refine hN.1 215 _ _ _ _ _ _ _ 8 _ _ _ _ _ _ _ _ _ _ lX8_215 (h1 _ _ _ he) ⟨by decide, rfl⟩ (cx_8o) rfl rfl (Nat.le_of_ble_eq_true rfl) (by omega) (by decide) (by omega) (by omega) dX8_readUnit_52 ?_
      rintro r1 P1 s1 ⟨F1, Fo1, st1, rfl, rfl, rfl, hE1, hX1⟩
      have hE1 := hE1 hs1
      rw [cx_b1 hs1]
      dsimp only [Option.toList, List.cons_append, List.nil_append]
      refine hB bX8_readUnit_55 _ _ _ _ _ _ _ kX8_readUnit_55 ?_
      dsimp only [bX8_readUnit_55, kx_wp, kx_step, kx_lI, kx_lL, kx_lA, kx_gl, kx_pI, kx_pL, kx_pR, kx_pA, kx_pV, kx_s1, kx_s2, kx_sl, kx_pre, kx_c2, kx_pl, kx_cmp, kx_oF, kx_eqN, kx_nil, kx_c1, kx_ft, kx_aI, kx_aL, kx_aR, kx_ln, Nat.reduceAdd, Option.toList, List.cons_append, List.nil_append, cf8_4, cf8_9, cf9_16, cf8_6]
      repeat (simp only [cx_8w0 hw, cx_8o, cx_83 hw, cx_84 hw, hQ, hs, pk_us, pk_un, ne_eq, Nat.reduceEqDiff, not_false_eq_true, ks_eq, ks_ss]; try dsimp only [kx_wp, kx_step, kx_lI, kx_lL, kx_lA, kx_gl, kx_pI, kx_pL, kx_pR, kx_pA, kx_pV, kx_s1, kx_s2, kx_sl, kx_pre, kx_c2, kx_pl, kx_cmp, kx_oF, kx_eqN, kx_nil, kx_c1, kx_ft, kx_aI, kx_aL, kx_aR, kx_ln, Nat.reduceAdd, Option.toList, List.cons_append, List.nil_append, cf8_4, cf8_9, cf9_16, cf8_6])
      repeat' apply And.intro
      all_goals try (first | with_reducible assumption | (with_reducible refine ck_nzI ?_; simp; done) | (with_reducible refine ck_nzL ?_; simp; done) | (with_reducible refine vp_in_nI ?_ ?_ <;> first | omega | decide) | (with_reducible refine Nat.le_of_ble_eq_true ?_; rfl) | omega | exact Or.inl trivial | exact Or.inr trivial | exact Or.inl rfl | exact Or.inr rfl)
      · intro zc55
        first | exact absurd rfl zc55 | exact absurd zc55 (by decide) | exact absurd (by decide) zc55 | (exfalso; ((try clear hB hC); simp only [ck_lt, ck_le, ck_eq, not_true_eq_false, not_false_eq_true, Int32.reduceToInt, Int32.reduceAdd, Int32.reduceSub, Int32.reduceMul] at * <;> omega)) | (exfalso; simp_all; done)
      · intro zc55
        have ze55 := zc55
        refine hB bX8_readUnit_58 _ _ _ _ _ _ _ kX8_readUnit_58 ?_
        dsimp only [bX8_readUnit_58, kx_wp, kx_step, kx_lI, kx_lL, kx_lA, kx_gl, kx_pI, kx_pL, kx_pR, kx_pA, kx_pV, kx_s1, kx_s2, kx_sl, kx_pre, kx_c2, kx_pl, kx_cmp, kx_oF, kx_eqN, kx_nil, kx_c1, kx_ft, kx_aI, kx_aL, kx_aR, kx_ln, Nat.reduceAdd, Option.toList, List.cons_append, List.nil_append, cf8_4, cf8_9, cf9_16, cf8_6]
        repeat (simp only [cx_8w0 hw, cx_8o, cx_83 hw, cx_84 hw, hQ, hs, pk_us, pk_un, ne_eq, Nat.reduceEqDiff, not_false_eq_true, ks_eq, ks_ss]; try dsimp only [kx_wp, kx_step, kx_lI, kx_lL, kx_lA, kx_gl, kx_pI, kx_pL, kx_pR, kx_pA, kx_pV, kx_s1, kx_s2, kx_sl, kx_pre, kx_c2, kx_pl, kx_cmp, kx_oF, kx_eqN, kx_nil, kx_c1, kx_ft, kx_aI, kx_aL, kx_aR, kx_ln, Nat.reduceAdd, Option.toList, List.cons_append, List.nil_append, cf8_4, cf8_9, cf9_16, cf8_6])
        repeat' apply And.intro
        all_goals try (first | with_reducible assumption | (with_reducible refine ck_nzI ?_; simp; done) | (with_reducible refine ck_nzL ?_; simp; done) | (with_reducible refine vp_in_nI ?_ ?_ <;> first | omega | decide) | (with_reducible refine Nat.le_of_ble_eq_true ?_; rfl) | omega | exact Or.inl trivial | exact Or.inr trivial | exact Or.inl rfl | exact Or.inr rfl)
        refine hN.1 164 _ _ _ _ _ _ _ 8 _ _ _ _ _ _ _ _ _ _ lX8_164 (h2 _ _ _ hE1) ⟨by decide, rfl⟩ (cx_8o) rfl rfl (Nat.le_of_ble_eq_true rfl) (by omega) (by decide) (by omega) (by omega) dX8_readUnit_59 ?_
        rintro r2 P2 s2 ⟨F2, Fo2, st2, rfl, rfl, rfl, hE2, hX2⟩
        have hE2 := hE2 hs2
        rw [cx_b1 hs2]
        dsimp only [Option.toList, List.cons_append, List.nil_append]
        refine hB bX8_readUnit_62 _ _ _ _ _ _ _ kX8_readUnit_62 ?_
        dsimp only [bX8_readUnit_62, kx_wp, kx_step, kx_lI, kx_lL, kx_lA, kx_gl, kx_pI, kx_pL, kx_pR, kx_pA, kx_pV, kx_s1, kx_s2, kx_sl, kx_pre, kx_c2, kx_pl, kx_cmp, kx_oF, kx_eqN, kx_nil, kx_c1, kx_ft, kx_aI, kx_aL, kx_aR, kx_ln, Nat.reduceAdd, Option.toList, List.cons_append, List.nil_append, cf8_4, cf8_9, cf9_16, cf8_6]
        repeat (simp only [cx_8w0 hw, cx_8o, cx_83 hw, cx_84 hw, hQ, hs, pk_us, pk_un, ne_eq, Nat.reduceEqDiff, not_false_eq_true, ks_eq, ks_ss]; try dsimp only [kx_wp, kx_step, kx_lI, kx_lL, kx_lA, kx_gl, kx_pI, kx_pL, kx_pR, kx_pA, kx_pV, kx_s1, kx_s2, kx_sl, kx_pre, kx_c2, kx_pl, kx_cmp, kx_oF, kx_eqN, kx_nil, kx_c1, kx_ft, kx_aI, kx_aL, kx_aR, kx_ln, Nat.reduceAdd, Option.toList, List.cons_append, List.nil_append, cf8_4, cf8_9, cf9_16, cf8_6])
        repeat' apply And.intro
        all_goals try (first | with_reducible assumption | (with_reducible refine ck_nzI ?_; simp; done) | (with_reducible refine ck_nzL ?_; simp; done) | (with_reducible refine vp_in_nI ?_ ?_ <;> first | omega | decide) | (with_reducible refine Nat.le_of_ble_eq_true ?_; rfl) | omega | exact Or.inl trivial | exact Or.inr trivial | exact Or.inl rfl | exact Or.inr rfl)
        · intro zc62
          first | exact absurd rfl zc62 | exact absurd zc62 (by decide) | exact absurd (by decide) zc62 | (exfalso; ((try clear hB hC); simp only [ck_lt, ck_le, ck_eq, not_true_eq_false, not_false_eq_true, Int32.reduceToInt, Int32.reduceAdd, Int32.reduceSub, Int32.reduceMul] at * <;> omega)) | (exfalso; simp_all; done)
        · intro zc62
          have ze62 := zc62
          refine hB bX8_readUnit_65 _ _ _ _ _ _ _ kX8_readUnit_65 ?_
          dsimp only [bX8_readUnit_65, kx_wp, kx_step, kx_lI, kx_lL, kx_lA, kx_gl, kx_pI, kx_pL, kx_pR, kx_pA, kx_pV, kx_s1, kx_s2, kx_sl, kx_pre, kx_c2, kx_pl, kx_cmp, kx_oF, kx_eqN, kx_nil, kx_c1, kx_ft, kx_aI, kx_aL, kx_aR, kx_ln, Nat.reduceAdd, Option.toList, List.cons_append, List.nil_append, cf8_4, cf8_9, cf9_16, cf8_6]
          repeat (simp only [cx_8w0 hw, cx_8o, cx_83 hw, cx_84 hw, hQ, hs, pk_us, pk_un, ne_eq, Nat.reduceEqDiff, not_false_eq_true, ks_eq, ks_ss]; try dsimp only [kx_wp, kx_step, kx_lI, kx_lL, kx_lA, kx_gl, kx_pI, kx_pL, kx_pR, kx_pA, kx_pV, kx_s1, kx_s2, kx_sl, kx_pre, kx_c2, kx_pl, kx_cmp, kx_oF, kx_eqN, kx_nil, kx_c1, kx_ft, kx_aI, kx_aL, kx_aR, kx_ln, Nat.reduceAdd, Option.toList, List.cons_append, List.nil_append, cf8_4, cf8_9, cf9_16, cf8_6])
          repeat' apply And.intro
          all_goals try (first | with_reducible assumption | (with_reducible refine ck_nzI ?_; simp; done) | (with_reducible refine ck_nzL ?_; simp; done) | (with_reducible refine vp_in_nI ?_ ?_ <;> first | omega | decide) | (with_reducible refine Nat.le_of_ble_eq_true ?_; rfl) | omega | exact Or.inl trivial | exact Or.inr trivial | exact Or.inl rfl | exact Or.inr rfl)
          refine hN.1 218 _ _ _ _ _ _ _ 8 _ _ _ _ _ _ _ _ _ _ lX8_218 (h3 _ _ _ hE2) ⟨by decide, rfl⟩ (cx_8o) rfl rfl (Nat.le_of_ble_eq_true rfl) (by omega) (by decide) (by omega) (by omega) dX8_readUnit_66 ?_
          rintro r3 P3 s3 ⟨F3, Fo3, st3, rfl, rfl, rfl, hE3, hX3⟩
          have hE3 := hE3 hs3
          rw [cx_b1 hs3]
          dsimp only [Option.toList, List.cons_append, List.nil_append]
          refine hB bX8_readUnit_69 _ _ _ _ _ _ _ kX8_readUnit_69 ?_
          dsimp only [bX8_readUnit_69, kx_wp, kx_step, kx_lI, kx_lL, kx_lA, kx_gl, kx_pI, kx_pL, kx_pR, kx_pA, kx_pV, kx_s1, kx_s2, kx_sl, kx_pre, kx_c2, kx_pl, kx_cmp, kx_oF, kx_eqN, kx_nil, kx_c1, kx_ft, kx_aI, kx_aL, kx_aR, kx_ln, Nat.reduceAdd, Option.toList, List.cons_append, List.nil_append, cf8_4, cf8_9, cf9_16, cf8_6]
          repeat (simp only [cx_8w0 hw, cx_8o, cx_83 hw, cx_84 hw, hQ, hs, pk_us, pk_un, ne_eq, Nat.reduceEqDiff, not_false_eq_true, ks_eq, ks_ss]; try dsimp only [kx_wp, kx_step, kx_lI, kx_lL, kx_lA, kx_gl, kx_pI, kx_pL, kx_pR, kx_pA, kx_pV, kx_s1, kx_s2, kx_sl, kx_pre, kx_c2, kx_pl, kx_cmp, kx_oF, kx_eqN, kx_nil, kx_c1, kx_ft, kx_aI, kx_aL, kx_aR, kx_ln, Nat.reduceAdd, Option.toList, List.cons_append, List.nil_append, cf8_4, cf8_9, cf9_16, cf8_6])
          repeat' apply And.intro
          all_goals try (first | with_reducible assumption | (with_reducible refine ck_nzI ?_; simp; done) | (with_reducible refine ck_nzL ?_; simp; done) | (with_reducible refine vp_in_nI ?_ ?_ <;> first | omega | decide) | (with_reducible refine Nat.le_of_ble_eq_true ?_; rfl) | omega | exact Or.inl trivial | exact Or.inr trivial | exact Or.inl rfl | exact Or.inr rfl)
          · intro zc69
            first | exact absurd rfl zc69 | exact absurd zc69 (by decide) | exact absurd (by decide) zc69 | (exfalso; ((try clear hB hC); simp only [ck_lt, ck_le, ck_eq, not_true_eq_false, not_false_eq_true, Int32.reduceToInt, Int32.reduceAdd, Int32.reduceSub, Int32.reduceMul] at * <;> omega)) | (exfalso; simp_all; done)
          · intro zc69
            have ze69 := zc69
            refine hB bX8_readUnit_72 _ _ _ _ _ _ _ kX8_readUnit_72 ?_
            dsimp only [bX8_readUnit_72, kx_wp, kx_step, kx_lI, kx_lL, kx_lA, kx_gl, kx_pI, kx_pL, kx_pR, kx_pA, kx_pV, kx_s1, kx_s2, kx_sl, kx_pre, kx_c2, kx_pl, kx_cmp, kx_oF, kx_eqN, kx_nil, kx_c1, kx_ft, kx_aI, kx_aL, kx_aR, kx_ln, Nat.reduceAdd, Option.toList, List.cons_append, List.nil_append, cf8_4, cf8_9, cf9_16, cf8_6]
            repeat (simp only [cx_8w0 hw, cx_8o, cx_83 hw, cx_84 hw, hQ, hs, pk_us, pk_un, ne_eq, Nat.reduceEqDiff, not_false_eq_true, ks_eq, ks_ss]; try dsimp only [kx_wp, kx_step, kx_lI, kx_lL, kx_lA, kx_gl, kx_pI, kx_pL, kx_pR, kx_pA, kx_pV, kx_s1, kx_s2, kx_sl, kx_pre, kx_c2, kx_pl, kx_cmp, kx_oF, kx_eqN, kx_nil, kx_c1, kx_ft, kx_aI, kx_aL, kx_aR, kx_ln, Nat.reduceAdd, Option.toList, List.cons_append, List.nil_append, cf8_4, cf8_9, cf9_16, cf8_6])
            repeat' apply And.intro
            all_goals try (first | with_reducible assumption | (with_reducible refine ck_nzI ?_; simp; done) | (with_reducible refine ck_nzL ?_; simp; done) | (with_reducible refine vp_in_nI ?_ ?_ <;> first | omega | decide) | (with_reducible refine Nat.le_of_ble_eq_true ?_; rfl) | omega | exact Or.inl trivial | exact Or.inr trivial | exact Or.inl rfl | exact Or.inr rfl)
            refine hB bX8_readUnit_77 _ _ _ _ _ _ _ kX8_readUnit_77 ?_
            dsimp only [bX8_readUnit_77, kx_wp, kx_step, kx_lI, kx_lL, kx_lA, kx_gl, kx_pI, kx_pL, kx_pR, kx_pA, kx_pV, kx_s1, kx_s2, kx_sl, kx_pre, kx_c2, kx_pl, kx_cmp, kx_oF, kx_eqN, kx_nil, kx_c1, kx_ft, kx_aI, kx_aL, kx_aR, kx_ln, Nat.reduceAdd, Option.toList, List.cons_append, List.nil_append, cf8_4, cf8_9, cf9_16, cf8_6]
            repeat (simp only [cx_8w0 hw, cx_8o, cx_83 hw, cx_84 hw, hQ, hs, pk_us, pk_un, ne_eq, Nat.reduceEqDiff, not_false_eq_true, ks_eq, ks_ss]; try dsimp only [kx_wp, kx_step, kx_lI, kx_lL, kx_lA, kx_gl, kx_pI, kx_pL, kx_pR, kx_pA, kx_pV, kx_s1, kx_s2, kx_sl, kx_pre, kx_c2, kx_pl, kx_cmp, kx_oF, kx_eqN, kx_nil, kx_c1, kx_ft, kx_aI, kx_aL, kx_aR, kx_ln, Nat.reduceAdd, Option.toList, List.cons_append, List.nil_append, cf8_4, cf8_9, cf9_16, cf8_6])
            all_goals (repeat' apply And.intro)
            all_goals ((try clear hB hC); first | exact True.intro | rfl | exact cx_PE.t hs3 hE3)
  · intro zc4
    first | exact absurd rfl zc4 | exact absurd zc4 (by decide) | exact absurd (by decide) zc4 | (exfalso; ((try clear hB hC); simp only [ck_lt, ck_le, ck_eq, not_true_eq_false, not_false_eq_true, Int32.reduceToInt, Int32.reduceAdd, Int32.reduceSub, Int32.reduceMul] at * <;> omega)) | (exfalso; simp_all; done)

set_option maxRecDepth 100000 in
set_option maxHeartbeats 4000000 in
theorem cu_w0 (l : Launch) (G : kx_G) {P : kx_P} {sz : Nat} {Q : kx_P} {w : Nat} (hw : 144 ≤ w) {T F Fo st V : Nat → Int32} (hT : Q 67 = kI 0 400 T) (hQ : Q w = kO 9 (kf (cr9 w) V)) {n : Nat} (hn : n ≤ 400) {S : ck_R} (hs : S.2.1 = -1) (ha : S.1 ≤ n) (he : cx_E T n S F Fo st) {d : Nat} (hdd : 7 ≤ d) (hd : ¬ (48 ≤ ck_hcx T n S.1 ∧ ck_hcx T n S.1 ≤ 57)) (hp : ¬ ck_hcx T n S.1 = 40) (hc4 : S.2.2.2.2.1 < 400) (w0 : ck_wo_ T n (ck_sk T n S.1) = kz_co 13)  : kx_Mn l G sX8_readUnit d 0 0 [.ref 68] (cx_8 (cx_fW Q w Fo st) (.ref w) F) sz (cx_PE Q w T n (ck_emR 1 0 (ck_ps T n (ck_sk T n S.1), S.2)) sz) := by
  have hT2 : cx_fW Q w Fo st 67 = kI 0 400 T := (cx_f67 hw).trans hT
  have hle := ck_sk_le T ha
  have he2 : cx_E T n (ck_ps T n (ck_sk T n S.1), S.2) (cx_tw T n (ck_sk T n S.1) F) Fo st := ⟨he.1, rfl, he.2.2.1, he.2.2.2.1, he.2.2.2.2.1, he.2.2.2.2.2.1, he.2.2.2.2.2.2⟩
  refine kz_m2 kx_tab kxLok_X8 (ini := false) [some (.ref 68), none] ⟨by decide +kernel, rfl, by decide, by omega⟩ (fun _ _ _ h => Or.inl h.rok) rfl rfl (fun g hB hC hN hK => ?_)
  refine hB bX8_readUnit_0 _ _ _ _ _ _ _ kX8_readUnit_0 ?_
  dsimp only [bX8_readUnit_0, kx_wp, kx_step, kx_lI, kx_lL, kx_lA, kx_gl, kx_pI, kx_pL, kx_pR, kx_pA, kx_pV, kx_s1, kx_s2, kx_sl, kx_pre, kx_c2, kx_pl, kx_cmp, kx_oF, kx_eqN, kx_nil, kx_c1, kx_ft, kx_aI, kx_aL, kx_aR, kx_ln, Nat.reduceAdd, Option.toList, List.cons_append, List.nil_append, cf8_4, cf8_9, cf9_16, cf8_6]
  repeat (simp only [cx_8w0 hw, cx_8o, cx_83 hw, cx_84 hw, hQ, hs, pk_us, pk_un, ne_eq, Nat.reduceEqDiff, not_false_eq_true, ks_eq, ks_ss]; try dsimp only [kx_wp, kx_step, kx_lI, kx_lL, kx_lA, kx_gl, kx_pI, kx_pL, kx_pR, kx_pA, kx_pV, kx_s1, kx_s2, kx_sl, kx_pre, kx_c2, kx_pl, kx_cmp, kx_oF, kx_eqN, kx_nil, kx_c1, kx_ft, kx_aI, kx_aL, kx_aR, kx_ln, Nat.reduceAdd, Option.toList, List.cons_append, List.nil_append, cf8_4, cf8_9, cf9_16, cf8_6])
  repeat' apply And.intro
  all_goals try (first | with_reducible assumption | (with_reducible refine ck_nzI ?_; simp; done) | (with_reducible refine ck_nzL ?_; simp; done) | (with_reducible refine vp_in_nI ?_ ?_ <;> first | omega | decide) | (with_reducible refine Nat.le_of_ble_eq_true ?_; rfl) | omega | exact Or.inl trivial | exact Or.inr trivial | exact Or.inl rfl | exact Or.inr rfl)
  refine hC.1 80 _ _ _ _ _ _ _ 8 _ _ _ _ _ _ _ _ _ _ _ _ lX8_80 (ct_X8_nextIsDigit_f (x := .ref w) hT2 he.1 hn he.2.1 hle.2 hd) ⟨by decide, rfl⟩ (cx_8o) rfl rfl (Nat.le_of_ble_eq_true rfl) (by first | decide | omega) (by decide) (by omega) (by omega) dX8_readUnit_1 ?_
  refine hB bX8_readUnit_4 _ _ _ _ _ _ _ kX8_readUnit_4 ?_
  dsimp only [bX8_readUnit_4, kx_wp, kx_step, kx_lI, kx_lL, kx_lA, kx_gl, kx_pI, kx_pL, kx_pR, kx_pA, kx_pV, kx_s1, kx_s2, kx_sl, kx_pre, kx_c2, kx_pl, kx_cmp, kx_oF, kx_eqN, kx_nil, kx_c1, kx_ft, kx_aI, kx_aL, kx_aR, kx_ln, Nat.reduceAdd, Option.toList, List.cons_append, List.nil_append, cf8_4, cf8_9, cf9_16, cf8_6]
  repeat (simp only [cx_8w0 hw, cx_8o, cx_83 hw, cx_84 hw, hQ, hs, pk_us, pk_un, ne_eq, Nat.reduceEqDiff, not_false_eq_true, ks_eq, ks_ss]; try dsimp only [kx_wp, kx_step, kx_lI, kx_lL, kx_lA, kx_gl, kx_pI, kx_pL, kx_pR, kx_pA, kx_pV, kx_s1, kx_s2, kx_sl, kx_pre, kx_c2, kx_pl, kx_cmp, kx_oF, kx_eqN, kx_nil, kx_c1, kx_ft, kx_aI, kx_aL, kx_aR, kx_ln, Nat.reduceAdd, Option.toList, List.cons_append, List.nil_append, cf8_4, cf8_9, cf9_16, cf8_6])
  repeat' apply And.intro
  all_goals try (first | with_reducible assumption | (with_reducible refine ck_nzI ?_; simp; done) | (with_reducible refine ck_nzL ?_; simp; done) | (with_reducible refine vp_in_nI ?_ ?_ <;> first | omega | decide) | (with_reducible refine Nat.le_of_ble_eq_true ?_; rfl) | omega | exact Or.inl trivial | exact Or.inr trivial | exact Or.inl rfl | exact Or.inr rfl)
  · intro zc4
    have ze4 := zc4
    refine hB bX8_readUnit_42 _ _ _ _ _ _ _ kX8_readUnit_42 ?_
    dsimp only [bX8_readUnit_42, kx_wp, kx_step, kx_lI, kx_lL, kx_lA, kx_gl, kx_pI, kx_pL, kx_pR, kx_pA, kx_pV, kx_s1, kx_s2, kx_sl, kx_pre, kx_c2, kx_pl, kx_cmp, kx_oF, kx_eqN, kx_nil, kx_c1, kx_ft, kx_aI, kx_aL, kx_aR, kx_ln, Nat.reduceAdd, Option.toList, List.cons_append, List.nil_append, cf8_4, cf8_9, cf9_16, cf8_6]
    repeat (simp only [cx_8w0 hw, cx_8o, cx_83 hw, cx_84 hw, hQ, hs, pk_us, pk_un, ne_eq, Nat.reduceEqDiff, not_false_eq_true, ks_eq, ks_ss]; try dsimp only [kx_wp, kx_step, kx_lI, kx_lL, kx_lA, kx_gl, kx_pI, kx_pL, kx_pR, kx_pA, kx_pV, kx_s1, kx_s2, kx_sl, kx_pre, kx_c2, kx_pl, kx_cmp, kx_oF, kx_eqN, kx_nil, kx_c1, kx_ft, kx_aI, kx_aL, kx_aR, kx_ln, Nat.reduceAdd, Option.toList, List.cons_append, List.nil_append, cf8_4, cf8_9, cf9_16, cf8_6])
    repeat' apply And.intro
    all_goals try (first | with_reducible assumption | (with_reducible refine ck_nzI ?_; simp; done) | (with_reducible refine ck_nzL ?_; simp; done) | (with_reducible refine vp_in_nI ?_ ?_ <;> first | omega | decide) | (with_reducible refine Nat.le_of_ble_eq_true ?_; rfl) | omega | exact Or.inl trivial | exact Or.inr trivial | exact Or.inl rfl | exact Or.inr rfl)
    refine hC.1 54 _ _ _ _ _ _ _ 8 _ _ _ _ _ _ _ _ _ _ _ _ lX8_54 (ct_X8_nextIs_f (x := .ref w) hT2 he.1 hn he.2.1 hle.2 (by decide) hp) ⟨by decide, rfl⟩ (cx_8o) rfl rfl (Nat.le_of_ble_eq_true rfl) (by first | decide | omega) (by decide) (by omega) (by omega) dX8_readUnit_45 ?_
    refine hB bX8_readUnit_48 _ _ _ _ _ _ _ kX8_readUnit_48 ?_
    dsimp only [bX8_readUnit_48, kx_wp, kx_step, kx_lI, kx_lL, kx_lA, kx_gl, kx_pI, kx_pL, kx_pR, kx_pA, kx_pV, kx_s1, kx_s2, kx_sl, kx_pre, kx_c2, kx_pl, kx_cmp, kx_oF, kx_eqN, kx_nil, kx_c1, kx_ft, kx_aI, kx_aL, kx_aR, kx_ln, Nat.reduceAdd, Option.toList, List.cons_append, List.nil_append, cf8_4, cf8_9, cf9_16, cf8_6]
    repeat (simp only [cx_8w0 hw, cx_8o, cx_83 hw, cx_84 hw, hQ, hs, pk_us, pk_un, ne_eq, Nat.reduceEqDiff, not_false_eq_true, ks_eq, ks_ss]; try dsimp only [kx_wp, kx_step, kx_lI, kx_lL, kx_lA, kx_gl, kx_pI, kx_pL, kx_pR, kx_pA, kx_pV, kx_s1, kx_s2, kx_sl, kx_pre, kx_c2, kx_pl, kx_cmp, kx_oF, kx_eqN, kx_nil, kx_c1, kx_ft, kx_aI, kx_aL, kx_aR, kx_ln, Nat.reduceAdd, Option.toList, List.cons_append, List.nil_append, cf8_4, cf8_9, cf9_16, cf8_6])
    repeat' apply And.intro
    all_goals try (first | with_reducible assumption | (with_reducible refine ck_nzI ?_; simp; done) | (with_reducible refine ck_nzL ?_; simp; done) | (with_reducible refine vp_in_nI ?_ ?_ <;> first | omega | decide) | (with_reducible refine Nat.le_of_ble_eq_true ?_; rfl) | omega | exact Or.inl trivial | exact Or.inr trivial | exact Or.inl rfl | exact Or.inr rfl)
    · intro zc48
      have ze48 := zc48
      refine hB bX8_readUnit_78 _ _ _ _ _ _ _ kX8_readUnit_78 ?_
      dsimp only [bX8_readUnit_78, kx_wp, kx_step, kx_lI, kx_lL, kx_lA, kx_gl, kx_pI, kx_pL, kx_pR, kx_pA, kx_pV, kx_s1, kx_s2, kx_sl, kx_pre, kx_c2, kx_pl, kx_cmp, kx_oF, kx_eqN, kx_nil, kx_c1, kx_ft, kx_aI, kx_aL, kx_aR, kx_ln, Nat.reduceAdd, Option.toList, List.cons_append, List.nil_append, cf8_4, cf8_9, cf9_16, cf8_6]
      repeat (simp only [cx_8w0 hw, cx_8o, cx_83 hw, cx_84 hw, hQ, hs, pk_us, pk_un, ne_eq, Nat.reduceEqDiff, not_false_eq_true, ks_eq, ks_ss]; try dsimp only [kx_wp, kx_step, kx_lI, kx_lL, kx_lA, kx_gl, kx_pI, kx_pL, kx_pR, kx_pA, kx_pV, kx_s1, kx_s2, kx_sl, kx_pre, kx_c2, kx_pl, kx_cmp, kx_oF, kx_eqN, kx_nil, kx_c1, kx_ft, kx_aI, kx_aL, kx_aR, kx_ln, Nat.reduceAdd, Option.toList, List.cons_append, List.nil_append, cf8_4, cf8_9, cf9_16, cf8_6])
      repeat' apply And.intro
      all_goals try (first | with_reducible assumption | (with_reducible refine ck_nzI ?_; simp; done) | (with_reducible refine ck_nzL ?_; simp; done) | (with_reducible refine vp_in_nI ?_ ?_ <;> first | omega | decide) | (with_reducible refine Nat.le_of_ble_eq_true ?_; rfl) | omega | exact Or.inl trivial | exact Or.inr trivial | exact Or.inl rfl | exact Or.inr rfl)
      refine hC.1 88 _ _ _ _ _ _ _ 8 _ _ _ _ _ _ _ _ _ _ _ _ lX8_88 (ct_X8_takeWord l G (x := .ref w) hT2 he.1 hn he.2.1 hle.2) ⟨by decide, rfl⟩ (cx_8o) rfl rfl (Nat.le_of_ble_eq_true rfl) (by first | decide | omega) (by decide) (by omega) (by omega) dX8_readUnit_79 ?_
      refine hB bX8_readUnit_82 _ _ _ _ _ _ _ kX8_readUnit_82 ?_
      dsimp only [bX8_readUnit_82, kx_wp, kx_step, kx_lI, kx_lL, kx_lA, kx_gl, kx_pI, kx_pL, kx_pR, kx_pA, kx_pV, kx_s1, kx_s2, kx_sl, kx_pre, kx_c2, kx_pl, kx_cmp, kx_oF, kx_eqN, kx_nil, kx_c1, kx_ft, kx_aI, kx_aL, kx_aR, kx_ln, Nat.reduceAdd, Option.toList, List.cons_append, List.nil_append, cf8_4, cf8_9, cf9_16, cf8_6]
      repeat (simp only [cx_8w0 hw, cx_8o, cx_83 hw, cx_84 hw, hQ, hs, pk_us, pk_un, ne_eq, Nat.reduceEqDiff, not_false_eq_true, ks_eq, ks_ss]; try dsimp only [kx_wp, kx_step, kx_lI, kx_lL, kx_lA, kx_gl, kx_pI, kx_pL, kx_pR, kx_pA, kx_pV, kx_s1, kx_s2, kx_sl, kx_pre, kx_c2, kx_pl, kx_cmp, kx_oF, kx_eqN, kx_nil, kx_c1, kx_ft, kx_aI, kx_aL, kx_aR, kx_ln, Nat.reduceAdd, Option.toList, List.cons_append, List.nil_append, cf8_4, cf8_9, cf9_16, cf8_6])
      repeat' apply And.intro
      all_goals try (first | with_reducible assumption | (with_reducible refine ck_nzI ?_; simp; done) | (with_reducible refine ck_nzL ?_; simp; done) | (with_reducible refine vp_in_nI ?_ ?_ <;> first | omega | decide) | (with_reducible refine Nat.le_of_ble_eq_true ?_; rfl) | omega | exact Or.inl trivial | exact Or.inr trivial | exact Or.inl rfl | exact Or.inr rfl)
      refine kz_lds hK rfl 13 dX8_readUnit_83 (by decide) rfl ?_
      refine hC.1 96 _ _ _ _ _ _ _ 8 _ _ _ _ _ _ _ _ _ _ _ _ lX8_96 (cx_wi_t (x := .ref w) (F := cx_tw T n (ck_sk T n S.1) F) hT2 (b := ck_sk T n S.1) rfl rfl hle.2 hn 13 (by decide) w0) ⟨by decide, rfl⟩ (cx_8o) rfl rfl (Nat.le_of_ble_eq_true rfl) (by first | decide | omega) (by decide) (by omega) (by omega) dX8_readUnit_85 ?_
      refine hB bX8_readUnit_88 _ _ _ _ _ _ _ kX8_readUnit_88 ?_
      dsimp only [bX8_readUnit_88, kx_wp, kx_step, kx_lI, kx_lL, kx_lA, kx_gl, kx_pI, kx_pL, kx_pR, kx_pA, kx_pV, kx_s1, kx_s2, kx_sl, kx_pre, kx_c2, kx_pl, kx_cmp, kx_oF, kx_eqN, kx_nil, kx_c1, kx_ft, kx_aI, kx_aL, kx_aR, kx_ln, Nat.reduceAdd, Option.toList, List.cons_append, List.nil_append, cf8_4, cf8_9, cf9_16, cf8_6]
      repeat (simp only [cx_8w0 hw, cx_8o, cx_83 hw, cx_84 hw, hQ, hs, pk_us, pk_un, ne_eq, Nat.reduceEqDiff, not_false_eq_true, ks_eq, ks_ss]; try dsimp only [kx_wp, kx_step, kx_lI, kx_lL, kx_lA, kx_gl, kx_pI, kx_pL, kx_pR, kx_pA, kx_pV, kx_s1, kx_s2, kx_sl, kx_pre, kx_c2, kx_pl, kx_cmp, kx_oF, kx_eqN, kx_nil, kx_c1, kx_ft, kx_aI, kx_aL, kx_aR, kx_ln, Nat.reduceAdd, Option.toList, List.cons_append, List.nil_append, cf8_4, cf8_9, cf9_16, cf8_6])
      repeat' apply And.intro
      all_goals try (first | with_reducible assumption | (with_reducible refine ck_nzI ?_; simp; done) | (with_reducible refine ck_nzL ?_; simp; done) | (with_reducible refine vp_in_nI ?_ ?_ <;> first | omega | decide) | (with_reducible refine Nat.le_of_ble_eq_true ?_; rfl) | omega | exact Or.inl trivial | exact Or.inr trivial | exact Or.inl rfl | exact Or.inr rfl)
      · intro zc88
        first | exact absurd rfl zc88 | exact absurd zc88 (by decide) | exact absurd (by decide) zc88 | (exfalso; ((try clear hB hC); simp only [ck_lt, ck_le, ck_eq, not_true_eq_false, not_false_eq_true, Int32.reduceToInt, Int32.reduceAdd, Int32.reduceSub, Int32.reduceMul] at * <;> omega)) | (exfalso; simp_all; done)
      · intro zc88
        have ze88 := zc88
        refine hB bX8_readUnit_91 _ _ _ _ _ _ _ kX8_readUnit_91 ?_
        dsimp only [bX8_readUnit_91, kx_wp, kx_step, kx_lI, kx_lL, kx_lA, kx_gl, kx_pI, kx_pL, kx_pR, kx_pA, kx_pV, kx_s1, kx_s2, kx_sl, kx_pre, kx_c2, kx_pl, kx_cmp, kx_oF, kx_eqN, kx_nil, kx_c1, kx_ft, kx_aI, kx_aL, kx_aR, kx_ln, Nat.reduceAdd, Option.toList, List.cons_append, List.nil_append, cf8_4, cf8_9, cf9_16, cf8_6]
        repeat (simp only [cx_8w0 hw, cx_8o, cx_83 hw, cx_84 hw, hQ, hs, pk_us, pk_un, ne_eq, Nat.reduceEqDiff, not_false_eq_true, ks_eq, ks_ss]; try dsimp only [kx_wp, kx_step, kx_lI, kx_lL, kx_lA, kx_gl, kx_pI, kx_pL, kx_pR, kx_pA, kx_pV, kx_s1, kx_s2, kx_sl, kx_pre, kx_c2, kx_pl, kx_cmp, kx_oF, kx_eqN, kx_nil, kx_c1, kx_ft, kx_aI, kx_aL, kx_aR, kx_ln, Nat.reduceAdd, Option.toList, List.cons_append, List.nil_append, cf8_4, cf8_9, cf9_16, cf8_6])
        repeat' apply And.intro
        all_goals try (first | with_reducible assumption | (with_reducible refine ck_nzI ?_; simp; done) | (with_reducible refine ck_nzL ?_; simp; done) | (with_reducible refine vp_in_nI ?_ ?_ <;> first | omega | decide) | (with_reducible refine Nat.le_of_ble_eq_true ?_; rfl) | omega | exact Or.inl trivial | exact Or.inr trivial | exact Or.inl rfl | exact Or.inr rfl)
        refine hC.1 209 _ _ _ _ _ _ _ 2 _ _ _ _ _ _ _ _ _ _ _ _ lX8_209 (ct_X2_add l G (P := Q) hw he2.2.2.2.2.2.1 hc4) ⟨by decide, rfl⟩ (cx_83 hw) rfl rfl (Nat.le_of_ble_eq_true rfl) (by first | decide | omega) (by decide) (by omega) (by omega) dX8_readUnit_99 ?_
        refine hB bX8_readUnit_102 _ _ _ _ _ _ _ kX8_readUnit_102 ?_
        dsimp only [bX8_readUnit_102, kx_wp, kx_step, kx_lI, kx_lL, kx_lA, kx_gl, kx_pI, kx_pL, kx_pR, kx_pA, kx_pV, kx_s1, kx_s2, kx_sl, kx_pre, kx_c2, kx_pl, kx_cmp, kx_oF, kx_eqN, kx_nil, kx_c1, kx_ft, kx_aI, kx_aL, kx_aR, kx_ln, Nat.reduceAdd, Option.toList, List.cons_append, List.nil_append, cf8_4, cf8_9, cf9_16, cf8_6]
        repeat (simp only [cx_8w0 hw, cx_8o, cx_83 hw, cx_84 hw, hQ, hs, pk_us, pk_un, ne_eq, Nat.reduceEqDiff, not_false_eq_true, ks_eq, ks_ss]; try dsimp only [kx_wp, kx_step, kx_lI, kx_lL, kx_lA, kx_gl, kx_pI, kx_pL, kx_pR, kx_pA, kx_pV, kx_s1, kx_s2, kx_sl, kx_pre, kx_c2, kx_pl, kx_cmp, kx_oF, kx_eqN, kx_nil, kx_c1, kx_ft, kx_aI, kx_aL, kx_aR, kx_ln, Nat.reduceAdd, Option.toList, List.cons_append, List.nil_append, cf8_4, cf8_9, cf9_16, cf8_6])
        all_goals (repeat' apply And.intro)
        all_goals ((try clear hB hC); first | exact True.intro | rfl | exact cx_PE.t hs (he2.em (Or.inr ⟨1, by decide, by decide, rfl, rfl⟩)))
    · intro zc48
      first | exact absurd rfl zc48 | exact absurd zc48 (by decide) | exact absurd (by decide) zc48 | (exfalso; ((try clear hB hC); simp only [ck_lt, ck_le, ck_eq, not_true_eq_false, not_false_eq_true, Int32.reduceToInt, Int32.reduceAdd, Int32.reduceSub, Int32.reduceMul] at * <;> omega)) | (exfalso; simp_all; done)
  · intro zc4
    first | exact absurd rfl zc4 | exact absurd zc4 (by decide) | exact absurd (by decide) zc4 | (exfalso; ((try clear hB hC); simp only [ck_lt, ck_le, ck_eq, not_true_eq_false, not_false_eq_true, Int32.reduceToInt, Int32.reduceAdd, Int32.reduceSub, Int32.reduceMul] at * <;> omega)) | (exfalso; simp_all; done)

set_option maxRecDepth 100000 in
set_option maxHeartbeats 4000000 in
theorem cu_w1 (l : Launch) (G : kx_G) {P : kx_P} {sz : Nat} {Q : kx_P} {w : Nat} (hw : 144 ≤ w) {T F Fo st V : Nat → Int32} (hT : Q 67 = kI 0 400 T) (hQ : Q w = kO 9 (kf (cr9 w) V)) {n : Nat} (hn : n ≤ 400) {S : ck_R} (hs : S.2.1 = -1) (ha : S.1 ≤ n) (he : cx_E T n S F Fo st) {d : Nat} (hdd : 7 ≤ d) (hd : ¬ (48 ≤ ck_hcx T n S.1 ∧ ck_hcx T n S.1 ≤ 57)) (hp : ¬ ck_hcx T n S.1 = 40) (hc4 : S.2.2.2.2.1 < 400) (w0 : ¬ ck_wo_ T n (ck_sk T n S.1) = kz_co 13) (w1 : ck_wo_ T n (ck_sk T n S.1) = kz_co 14)  : kx_Mn l G sX8_readUnit d 0 0 [.ref 68] (cx_8 (cx_fW Q w Fo st) (.ref w) F) sz (cx_PE Q w T n (ck_emR 2 0 (ck_ps T n (ck_sk T n S.1), S.2)) sz) := by
  have hT2 : cx_fW Q w Fo st 67 = kI 0 400 T := (cx_f67 hw).trans hT
  have hle := ck_sk_le T ha
  have he2 : cx_E T n (ck_ps T n (ck_sk T n S.1), S.2) (cx_tw T n (ck_sk T n S.1) F) Fo st := ⟨he.1, rfl, he.2.2.1, he.2.2.2.1, he.2.2.2.2.1, he.2.2.2.2.2.1, he.2.2.2.2.2.2⟩
  refine kz_m2 kx_tab kxLok_X8 (ini := false) [some (.ref 68), none] ⟨by decide +kernel, rfl, by decide, by omega⟩ (fun _ _ _ h => Or.inl h.rok) rfl rfl (fun g hB hC hN hK => ?_)
  refine hB bX8_readUnit_0 _ _ _ _ _ _ _ kX8_readUnit_0 ?_
  dsimp only [bX8_readUnit_0, kx_wp, kx_step, kx_lI, kx_lL, kx_lA, kx_gl, kx_pI, kx_pL, kx_pR, kx_pA, kx_pV, kx_s1, kx_s2, kx_sl, kx_pre, kx_c2, kx_pl, kx_cmp, kx_oF, kx_eqN, kx_nil, kx_c1, kx_ft, kx_aI, kx_aL, kx_aR, kx_ln, Nat.reduceAdd, Option.toList, List.cons_append, List.nil_append, cf8_4, cf8_9, cf9_16, cf8_6]
  repeat (simp only [cx_8w0 hw, cx_8o, cx_83 hw, cx_84 hw, hQ, hs, pk_us, pk_un, ne_eq, Nat.reduceEqDiff, not_false_eq_true, ks_eq, ks_ss]; try dsimp only [kx_wp, kx_step, kx_lI, kx_lL, kx_lA, kx_gl, kx_pI, kx_pL, kx_pR, kx_pA, kx_pV, kx_s1, kx_s2, kx_sl, kx_pre, kx_c2, kx_pl, kx_cmp, kx_oF, kx_eqN, kx_nil, kx_c1, kx_ft, kx_aI, kx_aL, kx_aR, kx_ln, Nat.reduceAdd, Option.toList, List.cons_append, List.nil_append, cf8_4, cf8_9, cf9_16, cf8_6])
  repeat' apply And.intro
  all_goals try (first | with_reducible assumption | (with_reducible refine ck_nzI ?_; simp; done) | (with_reducible refine ck_nzL ?_; simp; done) | (with_reducible refine vp_in_nI ?_ ?_ <;> first | omega | decide) | (with_reducible refine Nat.le_of_ble_eq_true ?_; rfl) | omega | exact Or.inl trivial | exact Or.inr trivial | exact Or.inl rfl | exact Or.inr rfl)
  refine hC.1 80 _ _ _ _ _ _ _ 8 _ _ _ _ _ _ _ _ _ _ _ _ lX8_80 (ct_X8_nextIsDigit_f (x := .ref w) hT2 he.1 hn he.2.1 hle.2 hd) ⟨by decide, rfl⟩ (cx_8o) rfl rfl (Nat.le_of_ble_eq_true rfl) (by first | decide | omega) (by decide) (by omega) (by omega) dX8_readUnit_1 ?_
  refine hB bX8_readUnit_4 _ _ _ _ _ _ _ kX8_readUnit_4 ?_
  dsimp only [bX8_readUnit_4, kx_wp, kx_step, kx_lI, kx_lL, kx_lA, kx_gl, kx_pI, kx_pL, kx_pR, kx_pA, kx_pV, kx_s1, kx_s2, kx_sl, kx_pre, kx_c2, kx_pl, kx_cmp, kx_oF, kx_eqN, kx_nil, kx_c1, kx_ft, kx_aI, kx_aL, kx_aR, kx_ln, Nat.reduceAdd, Option.toList, List.cons_append, List.nil_append, cf8_4, cf8_9, cf9_16, cf8_6]
  repeat (simp only [cx_8w0 hw, cx_8o, cx_83 hw, cx_84 hw, hQ, hs, pk_us, pk_un, ne_eq, Nat.reduceEqDiff, not_false_eq_true, ks_eq, ks_ss]; try dsimp only [kx_wp, kx_step, kx_lI, kx_lL, kx_lA, kx_gl, kx_pI, kx_pL, kx_pR, kx_pA, kx_pV, kx_s1, kx_s2, kx_sl, kx_pre, kx_c2, kx_pl, kx_cmp, kx_oF, kx_eqN, kx_nil, kx_c1, kx_ft, kx_aI, kx_aL, kx_aR, kx_ln, Nat.reduceAdd, Option.toList, List.cons_append, List.nil_append, cf8_4, cf8_9, cf9_16, cf8_6])
  repeat' apply And.intro
  all_goals try (first | with_reducible assumption | (with_reducible refine ck_nzI ?_; simp; done) | (with_reducible refine ck_nzL ?_; simp; done) | (with_reducible refine vp_in_nI ?_ ?_ <;> first | omega | decide) | (with_reducible refine Nat.le_of_ble_eq_true ?_; rfl) | omega | exact Or.inl trivial | exact Or.inr trivial | exact Or.inl rfl | exact Or.inr rfl)
  · intro zc4
    have ze4 := zc4
    refine hB bX8_readUnit_42 _ _ _ _ _ _ _ kX8_readUnit_42 ?_
    dsimp only [bX8_readUnit_42, kx_wp, kx_step, kx_lI, kx_lL, kx_lA, kx_gl, kx_pI, kx_pL, kx_pR, kx_pA, kx_pV, kx_s1, kx_s2, kx_sl, kx_pre, kx_c2, kx_pl, kx_cmp, kx_oF, kx_eqN, kx_nil, kx_c1, kx_ft, kx_aI, kx_aL, kx_aR, kx_ln, Nat.reduceAdd, Option.toList, List.cons_append, List.nil_append, cf8_4, cf8_9, cf9_16, cf8_6]
    repeat (simp only [cx_8w0 hw, cx_8o, cx_83 hw, cx_84 hw, hQ, hs, pk_us, pk_un, ne_eq, Nat.reduceEqDiff, not_false_eq_true, ks_eq, ks_ss]; try dsimp only [kx_wp, kx_step, kx_lI, kx_lL, kx_lA, kx_gl, kx_pI, kx_pL, kx_pR, kx_pA, kx_pV, kx_s1, kx_s2, kx_sl, kx_pre, kx_c2, kx_pl, kx_cmp, kx_oF, kx_eqN, kx_nil, kx_c1, kx_ft, kx_aI, kx_aL, kx_aR, kx_ln, Nat.reduceAdd, Option.toList, List.cons_append, List.nil_append, cf8_4, cf8_9, cf9_16, cf8_6])
    repeat' apply And.intro
    all_goals try (first | with_reducible assumption | (with_reducible refine ck_nzI ?_; simp; done) | (with_reducible refine ck_nzL ?_; simp; done) | (with_reducible refine vp_in_nI ?_ ?_ <;> first | omega | decide) | (with_reducible refine Nat.le_of_ble_eq_true ?_; rfl) | omega | exact Or.inl trivial | exact Or.inr trivial | exact Or.inl rfl | exact Or.inr rfl)
    refine hC.1 54 _ _ _ _ _ _ _ 8 _ _ _ _ _ _ _ _ _ _ _ _ lX8_54 (ct_X8_nextIs_f (x := .ref w) hT2 he.1 hn he.2.1 hle.2 (by decide) hp) ⟨by decide, rfl⟩ (cx_8o) rfl rfl (Nat.le_of_ble_eq_true rfl) (by first | decide | omega) (by decide) (by omega) (by omega) dX8_readUnit_45 ?_
    refine hB bX8_readUnit_48 _ _ _ _ _ _ _ kX8_readUnit_48 ?_
    dsimp only [bX8_readUnit_48, kx_wp, kx_step, kx_lI, kx_lL, kx_lA, kx_gl, kx_pI, kx_pL, kx_pR, kx_pA, kx_pV, kx_s1, kx_s2, kx_sl, kx_pre, kx_c2, kx_pl, kx_cmp, kx_oF, kx_eqN, kx_nil, kx_c1, kx_ft, kx_aI, kx_aL, kx_aR, kx_ln, Nat.reduceAdd, Option.toList, List.cons_append, List.nil_append, cf8_4, cf8_9, cf9_16, cf8_6]
    repeat (simp only [cx_8w0 hw, cx_8o, cx_83 hw, cx_84 hw, hQ, hs, pk_us, pk_un, ne_eq, Nat.reduceEqDiff, not_false_eq_true, ks_eq, ks_ss]; try dsimp only [kx_wp, kx_step, kx_lI, kx_lL, kx_lA, kx_gl, kx_pI, kx_pL, kx_pR, kx_pA, kx_pV, kx_s1, kx_s2, kx_sl, kx_pre, kx_c2, kx_pl, kx_cmp, kx_oF, kx_eqN, kx_nil, kx_c1, kx_ft, kx_aI, kx_aL, kx_aR, kx_ln, Nat.reduceAdd, Option.toList, List.cons_append, List.nil_append, cf8_4, cf8_9, cf9_16, cf8_6])
    repeat' apply And.intro
    all_goals try (first | with_reducible assumption | (with_reducible refine ck_nzI ?_; simp; done) | (with_reducible refine ck_nzL ?_; simp; done) | (with_reducible refine vp_in_nI ?_ ?_ <;> first | omega | decide) | (with_reducible refine Nat.le_of_ble_eq_true ?_; rfl) | omega | exact Or.inl trivial | exact Or.inr trivial | exact Or.inl rfl | exact Or.inr rfl)
    · intro zc48
      have ze48 := zc48
      refine hB bX8_readUnit_78 _ _ _ _ _ _ _ kX8_readUnit_78 ?_
      dsimp only [bX8_readUnit_78, kx_wp, kx_step, kx_lI, kx_lL, kx_lA, kx_gl, kx_pI, kx_pL, kx_pR, kx_pA, kx_pV, kx_s1, kx_s2, kx_sl, kx_pre, kx_c2, kx_pl, kx_cmp, kx_oF, kx_eqN, kx_nil, kx_c1, kx_ft, kx_aI, kx_aL, kx_aR, kx_ln, Nat.reduceAdd, Option.toList, List.cons_append, List.nil_append, cf8_4, cf8_9, cf9_16, cf8_6]
      repeat (simp only [cx_8w0 hw, cx_8o, cx_83 hw, cx_84 hw, hQ, hs, pk_us, pk_un, ne_eq, Nat.reduceEqDiff, not_false_eq_true, ks_eq, ks_ss]; try dsimp only [kx_wp, kx_step, kx_lI, kx_lL, kx_lA, kx_gl, kx_pI, kx_pL, kx_pR, kx_pA, kx_pV, kx_s1, kx_s2, kx_sl, kx_pre, kx_c2, kx_pl, kx_cmp, kx_oF, kx_eqN, kx_nil, kx_c1, kx_ft, kx_aI, kx_aL, kx_aR, kx_ln, Nat.reduceAdd, Option.toList, List.cons_append, List.nil_append, cf8_4, cf8_9, cf9_16, cf8_6])
      repeat' apply And.intro
      all_goals try (first | with_reducible assumption | (with_reducible refine ck_nzI ?_; simp; done) | (with_reducible refine ck_nzL ?_; simp; done) | (with_reducible refine vp_in_nI ?_ ?_ <;> first | omega | decide) | (with_reducible refine Nat.le_of_ble_eq_true ?_; rfl) | omega | exact Or.inl trivial | exact Or.inr trivial | exact Or.inl rfl | exact Or.inr rfl)
      refine hC.1 88 _ _ _ _ _ _ _ 8 _ _ _ _ _ _ _ _ _ _ _ _ lX8_88 (ct_X8_takeWord l G (x := .ref w) hT2 he.1 hn he.2.1 hle.2) ⟨by decide, rfl⟩ (cx_8o) rfl rfl (Nat.le_of_ble_eq_true rfl) (by first | decide | omega) (by decide) (by omega) (by omega) dX8_readUnit_79 ?_
      refine hB bX8_readUnit_82 _ _ _ _ _ _ _ kX8_readUnit_82 ?_
      dsimp only [bX8_readUnit_82, kx_wp, kx_step, kx_lI, kx_lL, kx_lA, kx_gl, kx_pI, kx_pL, kx_pR, kx_pA, kx_pV, kx_s1, kx_s2, kx_sl, kx_pre, kx_c2, kx_pl, kx_cmp, kx_oF, kx_eqN, kx_nil, kx_c1, kx_ft, kx_aI, kx_aL, kx_aR, kx_ln, Nat.reduceAdd, Option.toList, List.cons_append, List.nil_append, cf8_4, cf8_9, cf9_16, cf8_6]
      repeat (simp only [cx_8w0 hw, cx_8o, cx_83 hw, cx_84 hw, hQ, hs, pk_us, pk_un, ne_eq, Nat.reduceEqDiff, not_false_eq_true, ks_eq, ks_ss]; try dsimp only [kx_wp, kx_step, kx_lI, kx_lL, kx_lA, kx_gl, kx_pI, kx_pL, kx_pR, kx_pA, kx_pV, kx_s1, kx_s2, kx_sl, kx_pre, kx_c2, kx_pl, kx_cmp, kx_oF, kx_eqN, kx_nil, kx_c1, kx_ft, kx_aI, kx_aL, kx_aR, kx_ln, Nat.reduceAdd, Option.toList, List.cons_append, List.nil_append, cf8_4, cf8_9, cf9_16, cf8_6])
      repeat' apply And.intro
      all_goals try (first | with_reducible assumption | (with_reducible refine ck_nzI ?_; simp; done) | (with_reducible refine ck_nzL ?_; simp; done) | (with_reducible refine vp_in_nI ?_ ?_ <;> first | omega | decide) | (with_reducible refine Nat.le_of_ble_eq_true ?_; rfl) | omega | exact Or.inl trivial | exact Or.inr trivial | exact Or.inl rfl | exact Or.inr rfl)
      refine kz_lds hK rfl 13 dX8_readUnit_83 (by decide) rfl ?_
      refine hC.1 96 _ _ _ _ _ _ _ 8 _ _ _ _ _ _ _ _ _ _ _ _ lX8_96 (cx_wi_f (x := .ref w) (F := cx_tw T n (ck_sk T n S.1) F) hT2 (b := ck_sk T n S.1) rfl rfl hle.2 hn 13 (by decide) w0) ⟨by decide, rfl⟩ (cx_8o) rfl rfl (Nat.le_of_ble_eq_true rfl) (by first | decide | omega) (by decide) (by omega) (by omega) dX8_readUnit_85 ?_
      refine hB bX8_readUnit_88 _ _ _ _ _ _ _ kX8_readUnit_88 ?_
      dsimp only [bX8_readUnit_88, kx_wp, kx_step, kx_lI, kx_lL, kx_lA, kx_gl, kx_pI, kx_pL, kx_pR, kx_pA, kx_pV, kx_s1, kx_s2, kx_sl, kx_pre, kx_c2, kx_pl, kx_cmp, kx_oF, kx_eqN, kx_nil, kx_c1, kx_ft, kx_aI, kx_aL, kx_aR, kx_ln, Nat.reduceAdd, Option.toList, List.cons_append, List.nil_append, cf8_4, cf8_9, cf9_16, cf8_6]
      repeat (simp only [cx_8w0 hw, cx_8o, cx_83 hw, cx_84 hw, hQ, hs, pk_us, pk_un, ne_eq, Nat.reduceEqDiff, not_false_eq_true, ks_eq, ks_ss]; try dsimp only [kx_wp, kx_step, kx_lI, kx_lL, kx_lA, kx_gl, kx_pI, kx_pL, kx_pR, kx_pA, kx_pV, kx_s1, kx_s2, kx_sl, kx_pre, kx_c2, kx_pl, kx_cmp, kx_oF, kx_eqN, kx_nil, kx_c1, kx_ft, kx_aI, kx_aL, kx_aR, kx_ln, Nat.reduceAdd, Option.toList, List.cons_append, List.nil_append, cf8_4, cf8_9, cf9_16, cf8_6])
      repeat' apply And.intro
      all_goals try (first | with_reducible assumption | (with_reducible refine ck_nzI ?_; simp; done) | (with_reducible refine ck_nzL ?_; simp; done) | (with_reducible refine vp_in_nI ?_ ?_ <;> first | omega | decide) | (with_reducible refine Nat.le_of_ble_eq_true ?_; rfl) | omega | exact Or.inl trivial | exact Or.inr trivial | exact Or.inl rfl | exact Or.inr rfl)
      · intro zc88
        have ze88 := zc88
        refine hB bX8_readUnit_103 _ _ _ _ _ _ _ kX8_readUnit_103 ?_
        dsimp only [bX8_readUnit_103, kx_wp, kx_step, kx_lI, kx_lL, kx_lA, kx_gl, kx_pI, kx_pL, kx_pR, kx_pA, kx_pV, kx_s1, kx_s2, kx_sl, kx_pre, kx_c2, kx_pl, kx_cmp, kx_oF, kx_eqN, kx_nil, kx_c1, kx_ft, kx_aI, kx_aL, kx_aR, kx_ln, Nat.reduceAdd, Option.toList, List.cons_append, List.nil_append, cf8_4, cf8_9, cf9_16, cf8_6]
        repeat (simp only [cx_8w0 hw, cx_8o, cx_83 hw, cx_84 hw, hQ, hs, pk_us, pk_un, ne_eq, Nat.reduceEqDiff, not_false_eq_true, ks_eq, ks_ss]; try dsimp only [kx_wp, kx_step, kx_lI, kx_lL, kx_lA, kx_gl, kx_pI, kx_pL, kx_pR, kx_pA, kx_pV, kx_s1, kx_s2, kx_sl, kx_pre, kx_c2, kx_pl, kx_cmp, kx_oF, kx_eqN, kx_nil, kx_c1, kx_ft, kx_aI, kx_aL, kx_aR, kx_ln, Nat.reduceAdd, Option.toList, List.cons_append, List.nil_append, cf8_4, cf8_9, cf9_16, cf8_6])
        repeat' apply And.intro
        all_goals try (first | with_reducible assumption | (with_reducible refine ck_nzI ?_; simp; done) | (with_reducible refine ck_nzL ?_; simp; done) | (with_reducible refine vp_in_nI ?_ ?_ <;> first | omega | decide) | (with_reducible refine Nat.le_of_ble_eq_true ?_; rfl) | omega | exact Or.inl trivial | exact Or.inr trivial | exact Or.inl rfl | exact Or.inr rfl)
        refine kz_lds hK rfl 14 dX8_readUnit_104 (by decide) rfl ?_
        refine hC.1 96 _ _ _ _ _ _ _ 8 _ _ _ _ _ _ _ _ _ _ _ _ lX8_96 (cx_wi_t (x := .ref w) (F := cx_tw T n (ck_sk T n S.1) F) hT2 (b := ck_sk T n S.1) rfl rfl hle.2 hn 14 (by decide) w1) ⟨by decide, rfl⟩ (cx_8o) rfl rfl (Nat.le_of_ble_eq_true rfl) (by first | decide | omega) (by decide) (by omega) (by omega) dX8_readUnit_106 ?_
        refine hB bX8_readUnit_109 _ _ _ _ _ _ _ kX8_readUnit_109 ?_
        dsimp only [bX8_readUnit_109, kx_wp, kx_step, kx_lI, kx_lL, kx_lA, kx_gl, kx_pI, kx_pL, kx_pR, kx_pA, kx_pV, kx_s1, kx_s2, kx_sl, kx_pre, kx_c2, kx_pl, kx_cmp, kx_oF, kx_eqN, kx_nil, kx_c1, kx_ft, kx_aI, kx_aL, kx_aR, kx_ln, Nat.reduceAdd, Option.toList, List.cons_append, List.nil_append, cf8_4, cf8_9, cf9_16, cf8_6]
        repeat (simp only [cx_8w0 hw, cx_8o, cx_83 hw, cx_84 hw, hQ, hs, pk_us, pk_un, ne_eq, Nat.reduceEqDiff, not_false_eq_true, ks_eq, ks_ss]; try dsimp only [kx_wp, kx_step, kx_lI, kx_lL, kx_lA, kx_gl, kx_pI, kx_pL, kx_pR, kx_pA, kx_pV, kx_s1, kx_s2, kx_sl, kx_pre, kx_c2, kx_pl, kx_cmp, kx_oF, kx_eqN, kx_nil, kx_c1, kx_ft, kx_aI, kx_aL, kx_aR, kx_ln, Nat.reduceAdd, Option.toList, List.cons_append, List.nil_append, cf8_4, cf8_9, cf9_16, cf8_6])
        repeat' apply And.intro
        all_goals try (first | with_reducible assumption | (with_reducible refine ck_nzI ?_; simp; done) | (with_reducible refine ck_nzL ?_; simp; done) | (with_reducible refine vp_in_nI ?_ ?_ <;> first | omega | decide) | (with_reducible refine Nat.le_of_ble_eq_true ?_; rfl) | omega | exact Or.inl trivial | exact Or.inr trivial | exact Or.inl rfl | exact Or.inr rfl)
        · intro zc109
          first | exact absurd rfl zc109 | exact absurd zc109 (by decide) | exact absurd (by decide) zc109 | (exfalso; ((try clear hB hC); simp only [ck_lt, ck_le, ck_eq, not_true_eq_false, not_false_eq_true, Int32.reduceToInt, Int32.reduceAdd, Int32.reduceSub, Int32.reduceMul] at * <;> omega)) | (exfalso; simp_all; done)
        · intro zc109
          have ze109 := zc109
          refine hB bX8_readUnit_112 _ _ _ _ _ _ _ kX8_readUnit_112 ?_
          dsimp only [bX8_readUnit_112, kx_wp, kx_step, kx_lI, kx_lL, kx_lA, kx_gl, kx_pI, kx_pL, kx_pR, kx_pA, kx_pV, kx_s1, kx_s2, kx_sl, kx_pre, kx_c2, kx_pl, kx_cmp, kx_oF, kx_eqN, kx_nil, kx_c1, kx_ft, kx_aI, kx_aL, kx_aR, kx_ln, Nat.reduceAdd, Option.toList, List.cons_append, List.nil_append, cf8_4, cf8_9, cf9_16, cf8_6]
          repeat (simp only [cx_8w0 hw, cx_8o, cx_83 hw, cx_84 hw, hQ, hs, pk_us, pk_un, ne_eq, Nat.reduceEqDiff, not_false_eq_true, ks_eq, ks_ss]; try dsimp only [kx_wp, kx_step, kx_lI, kx_lL, kx_lA, kx_gl, kx_pI, kx_pL, kx_pR, kx_pA, kx_pV, kx_s1, kx_s2, kx_sl, kx_pre, kx_c2, kx_pl, kx_cmp, kx_oF, kx_eqN, kx_nil, kx_c1, kx_ft, kx_aI, kx_aL, kx_aR, kx_ln, Nat.reduceAdd, Option.toList, List.cons_append, List.nil_append, cf8_4, cf8_9, cf9_16, cf8_6])
          repeat' apply And.intro
          all_goals try (first | with_reducible assumption | (with_reducible refine ck_nzI ?_; simp; done) | (with_reducible refine ck_nzL ?_; simp; done) | (with_reducible refine vp_in_nI ?_ ?_ <;> first | omega | decide) | (with_reducible refine Nat.le_of_ble_eq_true ?_; rfl) | omega | exact Or.inl trivial | exact Or.inr trivial | exact Or.inl rfl | exact Or.inr rfl)
          refine hC.1 209 _ _ _ _ _ _ _ 2 _ _ _ _ _ _ _ _ _ _ _ _ lX8_209 (ct_X2_add l G (P := Q) hw he2.2.2.2.2.2.1 hc4) ⟨by decide, rfl⟩ (cx_83 hw) rfl rfl (Nat.le_of_ble_eq_true rfl) (by first | decide | omega) (by decide) (by omega) (by omega) dX8_readUnit_121 ?_
          refine hB bX8_readUnit_124 _ _ _ _ _ _ _ kX8_readUnit_124 ?_
          dsimp only [bX8_readUnit_124, kx_wp, kx_step, kx_lI, kx_lL, kx_lA, kx_gl, kx_pI, kx_pL, kx_pR, kx_pA, kx_pV, kx_s1, kx_s2, kx_sl, kx_pre, kx_c2, kx_pl, kx_cmp, kx_oF, kx_eqN, kx_nil, kx_c1, kx_ft, kx_aI, kx_aL, kx_aR, kx_ln, Nat.reduceAdd, Option.toList, List.cons_append, List.nil_append, cf8_4, cf8_9, cf9_16, cf8_6]
          repeat (simp only [cx_8w0 hw, cx_8o, cx_83 hw, cx_84 hw, hQ, hs, pk_us, pk_un, ne_eq, Nat.reduceEqDiff, not_false_eq_true, ks_eq, ks_ss]; try dsimp only [kx_wp, kx_step, kx_lI, kx_lL, kx_lA, kx_gl, kx_pI, kx_pL, kx_pR, kx_pA, kx_pV, kx_s1, kx_s2, kx_sl, kx_pre, kx_c2, kx_pl, kx_cmp, kx_oF, kx_eqN, kx_nil, kx_c1, kx_ft, kx_aI, kx_aL, kx_aR, kx_ln, Nat.reduceAdd, Option.toList, List.cons_append, List.nil_append, cf8_4, cf8_9, cf9_16, cf8_6])
          all_goals (repeat' apply And.intro)
          all_goals ((try clear hB hC); first | exact True.intro | rfl | exact cx_PE.t hs (he2.em (Or.inr ⟨2, by decide, by decide, rfl, rfl⟩)))
      · intro zc88
        first | exact absurd rfl zc88 | exact absurd zc88 (by decide) | exact absurd (by decide) zc88 | (exfalso; ((try clear hB hC); simp only [ck_lt, ck_le, ck_eq, not_true_eq_false, not_false_eq_true, Int32.reduceToInt, Int32.reduceAdd, Int32.reduceSub, Int32.reduceMul] at * <;> omega)) | (exfalso; simp_all; done)
    · intro zc48
      first | exact absurd rfl zc48 | exact absurd zc48 (by decide) | exact absurd (by decide) zc48 | (exfalso; ((try clear hB hC); simp only [ck_lt, ck_le, ck_eq, not_true_eq_false, not_false_eq_true, Int32.reduceToInt, Int32.reduceAdd, Int32.reduceSub, Int32.reduceMul] at * <;> omega)) | (exfalso; simp_all; done)
  · intro zc4
    first | exact absurd rfl zc4 | exact absurd zc4 (by decide) | exact absurd (by decide) zc4 | (exfalso; ((try clear hB hC); simp only [ck_lt, ck_le, ck_eq, not_true_eq_false, not_false_eq_true, Int32.reduceToInt, Int32.reduceAdd, Int32.reduceSub, Int32.reduceMul] at * <;> omega)) | (exfalso; simp_all; done)

set_option maxRecDepth 100000 in
set_option maxHeartbeats 4000000 in
theorem cu_w2 (l : Launch) (G : kx_G) {P : kx_P} {sz : Nat} {Q : kx_P} {w : Nat} (hw : 144 ≤ w) {T F Fo st V : Nat → Int32} (hT : Q 67 = kI 0 400 T) (hQ : Q w = kO 9 (kf (cr9 w) V)) {n : Nat} (hn : n ≤ 400) {S : ck_R} (hs : S.2.1 = -1) (ha : S.1 ≤ n) (he : cx_E T n S F Fo st) {d : Nat} (hdd : 7 ≤ d) (hd : ¬ (48 ≤ ck_hcx T n S.1 ∧ ck_hcx T n S.1 ≤ 57)) (hp : ¬ ck_hcx T n S.1 = 40) (hc4 : S.2.2.2.2.1 < 400) (w0 : ¬ ck_wo_ T n (ck_sk T n S.1) = kz_co 13) (w1 : ¬ ck_wo_ T n (ck_sk T n S.1) = kz_co 14) (w2 : ck_wo_ T n (ck_sk T n S.1) = kz_co 15)  : kx_Mn l G sX8_readUnit d 0 0 [.ref 68] (cx_8 (cx_fW Q w Fo st) (.ref w) F) sz (cx_PE Q w T n (ck_emR 3 0 (ck_ps T n (ck_sk T n S.1), S.2)) sz) := by
  have hT2 : cx_fW Q w Fo st 67 = kI 0 400 T := (cx_f67 hw).trans hT
  have hle := ck_sk_le T ha
  have he2 : cx_E T n (ck_ps T n (ck_sk T n S.1), S.2) (cx_tw T n (ck_sk T n S.1) F) Fo st := ⟨he.1, rfl, he.2.2.1, he.2.2.2.1, he.2.2.2.2.1, he.2.2.2.2.2.1, he.2.2.2.2.2.2⟩
  refine kz_m2 kx_tab kxLok_X8 (ini := false) [some (.ref 68), none] ⟨by decide +kernel, rfl, by decide, by omega⟩ (fun _ _ _ h => Or.inl h.rok) rfl rfl (fun g hB hC hN hK => ?_)
  refine hB bX8_readUnit_0 _ _ _ _ _ _ _ kX8_readUnit_0 ?_
  dsimp only [bX8_readUnit_0, kx_wp, kx_step, kx_lI, kx_lL, kx_lA, kx_gl, kx_pI, kx_pL, kx_pR, kx_pA, kx_pV, kx_s1, kx_s2, kx_sl, kx_pre, kx_c2, kx_pl, kx_cmp, kx_oF, kx_eqN, kx_nil, kx_c1, kx_ft, kx_aI, kx_aL, kx_aR, kx_ln, Nat.reduceAdd, Option.toList, List.cons_append, List.nil_append, cf8_4, cf8_9, cf9_16, cf8_6]
  repeat (simp only [cx_8w0 hw, cx_8o, cx_83 hw, cx_84 hw, hQ, hs, pk_us, pk_un, ne_eq, Nat.reduceEqDiff, not_false_eq_true, ks_eq, ks_ss]; try dsimp only [kx_wp, kx_step, kx_lI, kx_lL, kx_lA, kx_gl, kx_pI, kx_pL, kx_pR, kx_pA, kx_pV, kx_s1, kx_s2, kx_sl, kx_pre, kx_c2, kx_pl, kx_cmp, kx_oF, kx_eqN, kx_nil, kx_c1, kx_ft, kx_aI, kx_aL, kx_aR, kx_ln, Nat.reduceAdd, Option.toList, List.cons_append, List.nil_append, cf8_4, cf8_9, cf9_16, cf8_6])
  repeat' apply And.intro
  all_goals try (first | with_reducible assumption | (with_reducible refine ck_nzI ?_; simp; done) | (with_reducible refine ck_nzL ?_; simp; done) | (with_reducible refine vp_in_nI ?_ ?_ <;> first | omega | decide) | (with_reducible refine Nat.le_of_ble_eq_true ?_; rfl) | omega | exact Or.inl trivial | exact Or.inr trivial | exact Or.inl rfl | exact Or.inr rfl)
  refine hC.1 80 _ _ _ _ _ _ _ 8 _ _ _ _ _ _ _ _ _ _ _ _ lX8_80 (ct_X8_nextIsDigit_f (x := .ref w) hT2 he.1 hn he.2.1 hle.2 hd) ⟨by decide, rfl⟩ (cx_8o) rfl rfl (Nat.le_of_ble_eq_true rfl) (by first | decide | omega) (by decide) (by omega) (by omega) dX8_readUnit_1 ?_
  refine hB bX8_readUnit_4 _ _ _ _ _ _ _ kX8_readUnit_4 ?_
  dsimp only [bX8_readUnit_4, kx_wp, kx_step, kx_lI, kx_lL, kx_lA, kx_gl, kx_pI, kx_pL, kx_pR, kx_pA, kx_pV, kx_s1, kx_s2, kx_sl, kx_pre, kx_c2, kx_pl, kx_cmp, kx_oF, kx_eqN, kx_nil, kx_c1, kx_ft, kx_aI, kx_aL, kx_aR, kx_ln, Nat.reduceAdd, Option.toList, List.cons_append, List.nil_append, cf8_4, cf8_9, cf9_16, cf8_6]
  repeat (simp only [cx_8w0 hw, cx_8o, cx_83 hw, cx_84 hw, hQ, hs, pk_us, pk_un, ne_eq, Nat.reduceEqDiff, not_false_eq_true, ks_eq, ks_ss]; try dsimp only [kx_wp, kx_step, kx_lI, kx_lL, kx_lA, kx_gl, kx_pI, kx_pL, kx_pR, kx_pA, kx_pV, kx_s1, kx_s2, kx_sl, kx_pre, kx_c2, kx_pl, kx_cmp, kx_oF, kx_eqN, kx_nil, kx_c1, kx_ft, kx_aI, kx_aL, kx_aR, kx_ln, Nat.reduceAdd, Option.toList, List.cons_append, List.nil_append, cf8_4, cf8_9, cf9_16, cf8_6])
  repeat' apply And.intro
  all_goals try (first | with_reducible assumption | (with_reducible refine ck_nzI ?_; simp; done) | (with_reducible refine ck_nzL ?_; simp; done) | (with_reducible refine vp_in_nI ?_ ?_ <;> first | omega | decide) | (with_reducible refine Nat.le_of_ble_eq_true ?_; rfl) | omega | exact Or.inl trivial | exact Or.inr trivial | exact Or.inl rfl | exact Or.inr rfl)
  · intro zc4
    have ze4 := zc4
    refine hB bX8_readUnit_42 _ _ _ _ _ _ _ kX8_readUnit_42 ?_
    dsimp only [bX8_readUnit_42, kx_wp, kx_step, kx_lI, kx_lL, kx_lA, kx_gl, kx_pI, kx_pL, kx_pR, kx_pA, kx_pV, kx_s1, kx_s2, kx_sl, kx_pre, kx_c2, kx_pl, kx_cmp, kx_oF, kx_eqN, kx_nil, kx_c1, kx_ft, kx_aI, kx_aL, kx_aR, kx_ln, Nat.reduceAdd, Option.toList, List.cons_append, List.nil_append, cf8_4, cf8_9, cf9_16, cf8_6]
    repeat (simp only [cx_8w0 hw, cx_8o, cx_83 hw, cx_84 hw, hQ, hs, pk_us, pk_un, ne_eq, Nat.reduceEqDiff, not_false_eq_true, ks_eq, ks_ss]; try dsimp only [kx_wp, kx_step, kx_lI, kx_lL, kx_lA, kx_gl, kx_pI, kx_pL, kx_pR, kx_pA, kx_pV, kx_s1, kx_s2, kx_sl, kx_pre, kx_c2, kx_pl, kx_cmp, kx_oF, kx_eqN, kx_nil, kx_c1, kx_ft, kx_aI, kx_aL, kx_aR, kx_ln, Nat.reduceAdd, Option.toList, List.cons_append, List.nil_append, cf8_4, cf8_9, cf9_16, cf8_6])
    repeat' apply And.intro
    all_goals try (first | with_reducible assumption | (with_reducible refine ck_nzI ?_; simp; done) | (with_reducible refine ck_nzL ?_; simp; done) | (with_reducible refine vp_in_nI ?_ ?_ <;> first | omega | decide) | (with_reducible refine Nat.le_of_ble_eq_true ?_; rfl) | omega | exact Or.inl trivial | exact Or.inr trivial | exact Or.inl rfl | exact Or.inr rfl)
    refine hC.1 54 _ _ _ _ _ _ _ 8 _ _ _ _ _ _ _ _ _ _ _ _ lX8_54 (ct_X8_nextIs_f (x := .ref w) hT2 he.1 hn he.2.1 hle.2 (by decide) hp) ⟨by decide, rfl⟩ (cx_8o) rfl rfl (Nat.le_of_ble_eq_true rfl) (by first | decide | omega) (by decide) (by omega) (by omega) dX8_readUnit_45 ?_
    refine hB bX8_readUnit_48 _ _ _ _ _ _ _ kX8_readUnit_48 ?_
    dsimp only [bX8_readUnit_48, kx_wp, kx_step, kx_lI, kx_lL, kx_lA, kx_gl, kx_pI, kx_pL, kx_pR, kx_pA, kx_pV, kx_s1, kx_s2, kx_sl, kx_pre, kx_c2, kx_pl, kx_cmp, kx_oF, kx_eqN, kx_nil, kx_c1, kx_ft, kx_aI, kx_aL, kx_aR, kx_ln, Nat.reduceAdd, Option.toList, List.cons_append, List.nil_append, cf8_4, cf8_9, cf9_16, cf8_6]
    repeat (simp only [cx_8w0 hw, cx_8o, cx_83 hw, cx_84 hw, hQ, hs, pk_us, pk_un, ne_eq, Nat.reduceEqDiff, not_false_eq_true, ks_eq, ks_ss]; try dsimp only [kx_wp, kx_step, kx_lI, kx_lL, kx_lA, kx_gl, kx_pI, kx_pL, kx_pR, kx_pA, kx_pV, kx_s1, kx_s2, kx_sl, kx_pre, kx_c2, kx_pl, kx_cmp, kx_oF, kx_eqN, kx_nil, kx_c1, kx_ft, kx_aI, kx_aL, kx_aR, kx_ln, Nat.reduceAdd, Option.toList, List.cons_append, List.nil_append, cf8_4, cf8_9, cf9_16, cf8_6])
    repeat' apply And.intro
    all_goals try (first | with_reducible assumption | (with_reducible refine ck_nzI ?_; simp; done) | (with_reducible refine ck_nzL ?_; simp; done) | (with_reducible refine vp_in_nI ?_ ?_ <;> first | omega | decide) | (with_reducible refine Nat.le_of_ble_eq_true ?_; rfl) | omega | exact Or.inl trivial | exact Or.inr trivial | exact Or.inl rfl | exact Or.inr rfl)
    · intro zc48
      have ze48 := zc48
      refine hB bX8_readUnit_78 _ _ _ _ _ _ _ kX8_readUnit_78 ?_
      dsimp only [bX8_readUnit_78, kx_wp, kx_step, kx_lI, kx_lL, kx_lA, kx_gl, kx_pI, kx_pL, kx_pR, kx_pA, kx_pV, kx_s1, kx_s2, kx_sl, kx_pre, kx_c2, kx_pl, kx_cmp, kx_oF, kx_eqN, kx_nil, kx_c1, kx_ft, kx_aI, kx_aL, kx_aR, kx_ln, Nat.reduceAdd, Option.toList, List.cons_append, List.nil_append, cf8_4, cf8_9, cf9_16, cf8_6]
      repeat (simp only [cx_8w0 hw, cx_8o, cx_83 hw, cx_84 hw, hQ, hs, pk_us, pk_un, ne_eq, Nat.reduceEqDiff, not_false_eq_true, ks_eq, ks_ss]; try dsimp only [kx_wp, kx_step, kx_lI, kx_lL, kx_lA, kx_gl, kx_pI, kx_pL, kx_pR, kx_pA, kx_pV, kx_s1, kx_s2, kx_sl, kx_pre, kx_c2, kx_pl, kx_cmp, kx_oF, kx_eqN, kx_nil, kx_c1, kx_ft, kx_aI, kx_aL, kx_aR, kx_ln, Nat.reduceAdd, Option.toList, List.cons_append, List.nil_append, cf8_4, cf8_9, cf9_16, cf8_6])
      repeat' apply And.intro
      all_goals try (first | with_reducible assumption | (with_reducible refine ck_nzI ?_; simp; done) | (with_reducible refine ck_nzL ?_; simp; done) | (with_reducible refine vp_in_nI ?_ ?_ <;> first | omega | decide) | (with_reducible refine Nat.le_of_ble_eq_true ?_; rfl) | omega | exact Or.inl trivial | exact Or.inr trivial | exact Or.inl rfl | exact Or.inr rfl)
      refine hC.1 88 _ _ _ _ _ _ _ 8 _ _ _ _ _ _ _ _ _ _ _ _ lX8_88 (ct_X8_takeWord l G (x := .ref w) hT2 he.1 hn he.2.1 hle.2) ⟨by decide, rfl⟩ (cx_8o) rfl rfl (Nat.le_of_ble_eq_true rfl) (by first | decide | omega) (by decide) (by omega) (by omega) dX8_readUnit_79 ?_
      refine hB bX8_readUnit_82 _ _ _ _ _ _ _ kX8_readUnit_82 ?_
      dsimp only [bX8_readUnit_82, kx_wp, kx_step, kx_lI, kx_lL, kx_lA, kx_gl, kx_pI, kx_pL, kx_pR, kx_pA, kx_pV, kx_s1, kx_s2, kx_sl, kx_pre, kx_c2, kx_pl, kx_cmp, kx_oF, kx_eqN, kx_nil, kx_c1, kx_ft, kx_aI, kx_aL, kx_aR, kx_ln, Nat.reduceAdd, Option.toList, List.cons_append, List.nil_append, cf8_4, cf8_9, cf9_16, cf8_6]
      repeat (simp only [cx_8w0 hw, cx_8o, cx_83 hw, cx_84 hw, hQ, hs, pk_us, pk_un, ne_eq, Nat.reduceEqDiff, not_false_eq_true, ks_eq, ks_ss]; try dsimp only [kx_wp, kx_step, kx_lI, kx_lL, kx_lA, kx_gl, kx_pI, kx_pL, kx_pR, kx_pA, kx_pV, kx_s1, kx_s2, kx_sl, kx_pre, kx_c2, kx_pl, kx_cmp, kx_oF, kx_eqN, kx_nil, kx_c1, kx_ft, kx_aI, kx_aL, kx_aR, kx_ln, Nat.reduceAdd, Option.toList, List.cons_append, List.nil_append, cf8_4, cf8_9, cf9_16, cf8_6])
      repeat' apply And.intro
      all_goals try (first | with_reducible assumption | (with_reducible refine ck_nzI ?_; simp; done) | (with_reducible refine ck_nzL ?_; simp; done) | (with_reducible refine vp_in_nI ?_ ?_ <;> first | omega | decide) | (with_reducible refine Nat.le_of_ble_eq_true ?_; rfl) | omega | exact Or.inl trivial | exact Or.inr trivial | exact Or.inl rfl | exact Or.inr rfl)
      refine kz_lds hK rfl 13 dX8_readUnit_83 (by decide) rfl ?_
      refine hC.1 96 _ _ _ _ _ _ _ 8 _ _ _ _ _ _ _ _ _ _ _ _ lX8_96 (cx_wi_f (x := .ref w) (F := cx_tw T n (ck_sk T n S.1) F) hT2 (b := ck_sk T n S.1) rfl rfl hle.2 hn 13 (by decide) w0) ⟨by decide, rfl⟩ (cx_8o) rfl rfl (Nat.le_of_ble_eq_true rfl) (by first | decide | omega) (by decide) (by omega) (by omega) dX8_readUnit_85 ?_
      refine hB bX8_readUnit_88 _ _ _ _ _ _ _ kX8_readUnit_88 ?_
      dsimp only [bX8_readUnit_88, kx_wp, kx_step, kx_lI, kx_lL, kx_lA, kx_gl, kx_pI, kx_pL, kx_pR, kx_pA, kx_pV, kx_s1, kx_s2, kx_sl, kx_pre, kx_c2, kx_pl, kx_cmp, kx_oF, kx_eqN, kx_nil, kx_c1, kx_ft, kx_aI, kx_aL, kx_aR, kx_ln, Nat.reduceAdd, Option.toList, List.cons_append, List.nil_append, cf8_4, cf8_9, cf9_16, cf8_6]
      repeat (simp only [cx_8w0 hw, cx_8o, cx_83 hw, cx_84 hw, hQ, hs, pk_us, pk_un, ne_eq, Nat.reduceEqDiff, not_false_eq_true, ks_eq, ks_ss]; try dsimp only [kx_wp, kx_step, kx_lI, kx_lL, kx_lA, kx_gl, kx_pI, kx_pL, kx_pR, kx_pA, kx_pV, kx_s1, kx_s2, kx_sl, kx_pre, kx_c2, kx_pl, kx_cmp, kx_oF, kx_eqN, kx_nil, kx_c1, kx_ft, kx_aI, kx_aL, kx_aR, kx_ln, Nat.reduceAdd, Option.toList, List.cons_append, List.nil_append, cf8_4, cf8_9, cf9_16, cf8_6])
      repeat' apply And.intro
      all_goals try (first | with_reducible assumption | (with_reducible refine ck_nzI ?_; simp; done) | (with_reducible refine ck_nzL ?_; simp; done) | (with_reducible refine vp_in_nI ?_ ?_ <;> first | omega | decide) | (with_reducible refine Nat.le_of_ble_eq_true ?_; rfl) | omega | exact Or.inl trivial | exact Or.inr trivial | exact Or.inl rfl | exact Or.inr rfl)
      · intro zc88
        have ze88 := zc88
        refine hB bX8_readUnit_103 _ _ _ _ _ _ _ kX8_readUnit_103 ?_
        dsimp only [bX8_readUnit_103, kx_wp, kx_step, kx_lI, kx_lL, kx_lA, kx_gl, kx_pI, kx_pL, kx_pR, kx_pA, kx_pV, kx_s1, kx_s2, kx_sl, kx_pre, kx_c2, kx_pl, kx_cmp, kx_oF, kx_eqN, kx_nil, kx_c1, kx_ft, kx_aI, kx_aL, kx_aR, kx_ln, Nat.reduceAdd, Option.toList, List.cons_append, List.nil_append, cf8_4, cf8_9, cf9_16, cf8_6]
        repeat (simp only [cx_8w0 hw, cx_8o, cx_83 hw, cx_84 hw, hQ, hs, pk_us, pk_un, ne_eq, Nat.reduceEqDiff, not_false_eq_true, ks_eq, ks_ss]; try dsimp only [kx_wp, kx_step, kx_lI, kx_lL, kx_lA, kx_gl, kx_pI, kx_pL, kx_pR, kx_pA, kx_pV, kx_s1, kx_s2, kx_sl, kx_pre, kx_c2, kx_pl, kx_cmp, kx_oF, kx_eqN, kx_nil, kx_c1, kx_ft, kx_aI, kx_aL, kx_aR, kx_ln, Nat.reduceAdd, Option.toList, List.cons_append, List.nil_append, cf8_4, cf8_9, cf9_16, cf8_6])
        repeat' apply And.intro
        all_goals try (first | with_reducible assumption | (with_reducible refine ck_nzI ?_; simp; done) | (with_reducible refine ck_nzL ?_; simp; done) | (with_reducible refine vp_in_nI ?_ ?_ <;> first | omega | decide) | (with_reducible refine Nat.le_of_ble_eq_true ?_; rfl) | omega | exact Or.inl trivial | exact Or.inr trivial | exact Or.inl rfl | exact Or.inr rfl)
        refine kz_lds hK rfl 14 dX8_readUnit_104 (by decide) rfl ?_
        refine hC.1 96 _ _ _ _ _ _ _ 8 _ _ _ _ _ _ _ _ _ _ _ _ lX8_96 (cx_wi_f (x := .ref w) (F := cx_tw T n (ck_sk T n S.1) F) hT2 (b := ck_sk T n S.1) rfl rfl hle.2 hn 14 (by decide) w1) ⟨by decide, rfl⟩ (cx_8o) rfl rfl (Nat.le_of_ble_eq_true rfl) (by first | decide | omega) (by decide) (by omega) (by omega) dX8_readUnit_106 ?_
        refine hB bX8_readUnit_109 _ _ _ _ _ _ _ kX8_readUnit_109 ?_
        dsimp only [bX8_readUnit_109, kx_wp, kx_step, kx_lI, kx_lL, kx_lA, kx_gl, kx_pI, kx_pL, kx_pR, kx_pA, kx_pV, kx_s1, kx_s2, kx_sl, kx_pre, kx_c2, kx_pl, kx_cmp, kx_oF, kx_eqN, kx_nil, kx_c1, kx_ft, kx_aI, kx_aL, kx_aR, kx_ln, Nat.reduceAdd, Option.toList, List.cons_append, List.nil_append, cf8_4, cf8_9, cf9_16, cf8_6]
        repeat (simp only [cx_8w0 hw, cx_8o, cx_83 hw, cx_84 hw, hQ, hs, pk_us, pk_un, ne_eq, Nat.reduceEqDiff, not_false_eq_true, ks_eq, ks_ss]; try dsimp only [kx_wp, kx_step, kx_lI, kx_lL, kx_lA, kx_gl, kx_pI, kx_pL, kx_pR, kx_pA, kx_pV, kx_s1, kx_s2, kx_sl, kx_pre, kx_c2, kx_pl, kx_cmp, kx_oF, kx_eqN, kx_nil, kx_c1, kx_ft, kx_aI, kx_aL, kx_aR, kx_ln, Nat.reduceAdd, Option.toList, List.cons_append, List.nil_append, cf8_4, cf8_9, cf9_16, cf8_6])
        repeat' apply And.intro
        all_goals try (first | with_reducible assumption | (with_reducible refine ck_nzI ?_; simp; done) | (with_reducible refine ck_nzL ?_; simp; done) | (with_reducible refine vp_in_nI ?_ ?_ <;> first | omega | decide) | (with_reducible refine Nat.le_of_ble_eq_true ?_; rfl) | omega | exact Or.inl trivial | exact Or.inr trivial | exact Or.inl rfl | exact Or.inr rfl)
        · intro zc109
          have ze109 := zc109
          refine hB bX8_readUnit_125 _ _ _ _ _ _ _ kX8_readUnit_125 ?_
          dsimp only [bX8_readUnit_125, kx_wp, kx_step, kx_lI, kx_lL, kx_lA, kx_gl, kx_pI, kx_pL, kx_pR, kx_pA, kx_pV, kx_s1, kx_s2, kx_sl, kx_pre, kx_c2, kx_pl, kx_cmp, kx_oF, kx_eqN, kx_nil, kx_c1, kx_ft, kx_aI, kx_aL, kx_aR, kx_ln, Nat.reduceAdd, Option.toList, List.cons_append, List.nil_append, cf8_4, cf8_9, cf9_16, cf8_6]
          repeat (simp only [cx_8w0 hw, cx_8o, cx_83 hw, cx_84 hw, hQ, hs, pk_us, pk_un, ne_eq, Nat.reduceEqDiff, not_false_eq_true, ks_eq, ks_ss]; try dsimp only [kx_wp, kx_step, kx_lI, kx_lL, kx_lA, kx_gl, kx_pI, kx_pL, kx_pR, kx_pA, kx_pV, kx_s1, kx_s2, kx_sl, kx_pre, kx_c2, kx_pl, kx_cmp, kx_oF, kx_eqN, kx_nil, kx_c1, kx_ft, kx_aI, kx_aL, kx_aR, kx_ln, Nat.reduceAdd, Option.toList, List.cons_append, List.nil_append, cf8_4, cf8_9, cf9_16, cf8_6])
          repeat' apply And.intro
          all_goals try (first | with_reducible assumption | (with_reducible refine ck_nzI ?_; simp; done) | (with_reducible refine ck_nzL ?_; simp; done) | (with_reducible refine vp_in_nI ?_ ?_ <;> first | omega | decide) | (with_reducible refine Nat.le_of_ble_eq_true ?_; rfl) | omega | exact Or.inl trivial | exact Or.inr trivial | exact Or.inl rfl | exact Or.inr rfl)
          refine kz_lds hK rfl 15 dX8_readUnit_126 (by decide) rfl ?_
          refine hC.1 96 _ _ _ _ _ _ _ 8 _ _ _ _ _ _ _ _ _ _ _ _ lX8_96 (cx_wi_t (x := .ref w) (F := cx_tw T n (ck_sk T n S.1) F) hT2 (b := ck_sk T n S.1) rfl rfl hle.2 hn 15 (by decide) w2) ⟨by decide, rfl⟩ (cx_8o) rfl rfl (Nat.le_of_ble_eq_true rfl) (by first | decide | omega) (by decide) (by omega) (by omega) dX8_readUnit_128 ?_
          refine hB bX8_readUnit_131 _ _ _ _ _ _ _ kX8_readUnit_131 ?_
          dsimp only [bX8_readUnit_131, kx_wp, kx_step, kx_lI, kx_lL, kx_lA, kx_gl, kx_pI, kx_pL, kx_pR, kx_pA, kx_pV, kx_s1, kx_s2, kx_sl, kx_pre, kx_c2, kx_pl, kx_cmp, kx_oF, kx_eqN, kx_nil, kx_c1, kx_ft, kx_aI, kx_aL, kx_aR, kx_ln, Nat.reduceAdd, Option.toList, List.cons_append, List.nil_append, cf8_4, cf8_9, cf9_16, cf8_6]
          repeat (simp only [cx_8w0 hw, cx_8o, cx_83 hw, cx_84 hw, hQ, hs, pk_us, pk_un, ne_eq, Nat.reduceEqDiff, not_false_eq_true, ks_eq, ks_ss]; try dsimp only [kx_wp, kx_step, kx_lI, kx_lL, kx_lA, kx_gl, kx_pI, kx_pL, kx_pR, kx_pA, kx_pV, kx_s1, kx_s2, kx_sl, kx_pre, kx_c2, kx_pl, kx_cmp, kx_oF, kx_eqN, kx_nil, kx_c1, kx_ft, kx_aI, kx_aL, kx_aR, kx_ln, Nat.reduceAdd, Option.toList, List.cons_append, List.nil_append, cf8_4, cf8_9, cf9_16, cf8_6])
          repeat' apply And.intro
          all_goals try (first | with_reducible assumption | (with_reducible refine ck_nzI ?_; simp; done) | (with_reducible refine ck_nzL ?_; simp; done) | (with_reducible refine vp_in_nI ?_ ?_ <;> first | omega | decide) | (with_reducible refine Nat.le_of_ble_eq_true ?_; rfl) | omega | exact Or.inl trivial | exact Or.inr trivial | exact Or.inl rfl | exact Or.inr rfl)
          · intro zc131
            first | exact absurd rfl zc131 | exact absurd zc131 (by decide) | exact absurd (by decide) zc131 | (exfalso; ((try clear hB hC); simp only [ck_lt, ck_le, ck_eq, not_true_eq_false, not_false_eq_true, Int32.reduceToInt, Int32.reduceAdd, Int32.reduceSub, Int32.reduceMul] at * <;> omega)) | (exfalso; simp_all; done)
          · intro zc131
            have ze131 := zc131
            refine hB bX8_readUnit_134 _ _ _ _ _ _ _ kX8_readUnit_134 ?_
            dsimp only [bX8_readUnit_134, kx_wp, kx_step, kx_lI, kx_lL, kx_lA, kx_gl, kx_pI, kx_pL, kx_pR, kx_pA, kx_pV, kx_s1, kx_s2, kx_sl, kx_pre, kx_c2, kx_pl, kx_cmp, kx_oF, kx_eqN, kx_nil, kx_c1, kx_ft, kx_aI, kx_aL, kx_aR, kx_ln, Nat.reduceAdd, Option.toList, List.cons_append, List.nil_append, cf8_4, cf8_9, cf9_16, cf8_6]
            repeat (simp only [cx_8w0 hw, cx_8o, cx_83 hw, cx_84 hw, hQ, hs, pk_us, pk_un, ne_eq, Nat.reduceEqDiff, not_false_eq_true, ks_eq, ks_ss]; try dsimp only [kx_wp, kx_step, kx_lI, kx_lL, kx_lA, kx_gl, kx_pI, kx_pL, kx_pR, kx_pA, kx_pV, kx_s1, kx_s2, kx_sl, kx_pre, kx_c2, kx_pl, kx_cmp, kx_oF, kx_eqN, kx_nil, kx_c1, kx_ft, kx_aI, kx_aL, kx_aR, kx_ln, Nat.reduceAdd, Option.toList, List.cons_append, List.nil_append, cf8_4, cf8_9, cf9_16, cf8_6])
            repeat' apply And.intro
            all_goals try (first | with_reducible assumption | (with_reducible refine ck_nzI ?_; simp; done) | (with_reducible refine ck_nzL ?_; simp; done) | (with_reducible refine vp_in_nI ?_ ?_ <;> first | omega | decide) | (with_reducible refine Nat.le_of_ble_eq_true ?_; rfl) | omega | exact Or.inl trivial | exact Or.inr trivial | exact Or.inl rfl | exact Or.inr rfl)
            refine hC.1 209 _ _ _ _ _ _ _ 2 _ _ _ _ _ _ _ _ _ _ _ _ lX8_209 (ct_X2_add l G (P := Q) hw he2.2.2.2.2.2.1 hc4) ⟨by decide, rfl⟩ (cx_83 hw) rfl rfl (Nat.le_of_ble_eq_true rfl) (by first | decide | omega) (by decide) (by omega) (by omega) dX8_readUnit_143 ?_
            refine hB bX8_readUnit_146 _ _ _ _ _ _ _ kX8_readUnit_146 ?_
            dsimp only [bX8_readUnit_146, kx_wp, kx_step, kx_lI, kx_lL, kx_lA, kx_gl, kx_pI, kx_pL, kx_pR, kx_pA, kx_pV, kx_s1, kx_s2, kx_sl, kx_pre, kx_c2, kx_pl, kx_cmp, kx_oF, kx_eqN, kx_nil, kx_c1, kx_ft, kx_aI, kx_aL, kx_aR, kx_ln, Nat.reduceAdd, Option.toList, List.cons_append, List.nil_append, cf8_4, cf8_9, cf9_16, cf8_6]
            repeat (simp only [cx_8w0 hw, cx_8o, cx_83 hw, cx_84 hw, hQ, hs, pk_us, pk_un, ne_eq, Nat.reduceEqDiff, not_false_eq_true, ks_eq, ks_ss]; try dsimp only [kx_wp, kx_step, kx_lI, kx_lL, kx_lA, kx_gl, kx_pI, kx_pL, kx_pR, kx_pA, kx_pV, kx_s1, kx_s2, kx_sl, kx_pre, kx_c2, kx_pl, kx_cmp, kx_oF, kx_eqN, kx_nil, kx_c1, kx_ft, kx_aI, kx_aL, kx_aR, kx_ln, Nat.reduceAdd, Option.toList, List.cons_append, List.nil_append, cf8_4, cf8_9, cf9_16, cf8_6])
            all_goals (repeat' apply And.intro)
            all_goals ((try clear hB hC); first | exact True.intro | rfl | exact cx_PE.t hs (he2.em (Or.inr ⟨3, by decide, by decide, rfl, rfl⟩)))
        · intro zc109
          first | exact absurd rfl zc109 | exact absurd zc109 (by decide) | exact absurd (by decide) zc109 | (exfalso; ((try clear hB hC); simp only [ck_lt, ck_le, ck_eq, not_true_eq_false, not_false_eq_true, Int32.reduceToInt, Int32.reduceAdd, Int32.reduceSub, Int32.reduceMul] at * <;> omega)) | (exfalso; simp_all; done)
      · intro zc88
        first | exact absurd rfl zc88 | exact absurd zc88 (by decide) | exact absurd (by decide) zc88 | (exfalso; ((try clear hB hC); simp only [ck_lt, ck_le, ck_eq, not_true_eq_false, not_false_eq_true, Int32.reduceToInt, Int32.reduceAdd, Int32.reduceSub, Int32.reduceMul] at * <;> omega)) | (exfalso; simp_all; done)
    · intro zc48
      first | exact absurd rfl zc48 | exact absurd zc48 (by decide) | exact absurd (by decide) zc48 | (exfalso; ((try clear hB hC); simp only [ck_lt, ck_le, ck_eq, not_true_eq_false, not_false_eq_true, Int32.reduceToInt, Int32.reduceAdd, Int32.reduceSub, Int32.reduceMul] at * <;> omega)) | (exfalso; simp_all; done)
  · intro zc4
    first | exact absurd rfl zc4 | exact absurd zc4 (by decide) | exact absurd (by decide) zc4 | (exfalso; ((try clear hB hC); simp only [ck_lt, ck_le, ck_eq, not_true_eq_false, not_false_eq_true, Int32.reduceToInt, Int32.reduceAdd, Int32.reduceSub, Int32.reduceMul] at * <;> omega)) | (exfalso; simp_all; done)

set_option maxRecDepth 100000 in
set_option maxHeartbeats 4000000 in
theorem cu_w3 (l : Launch) (G : kx_G) {P : kx_P} {sz : Nat} {Q : kx_P} {w : Nat} (hw : 144 ≤ w) {T F Fo st V : Nat → Int32} (hT : Q 67 = kI 0 400 T) (hQ : Q w = kO 9 (kf (cr9 w) V)) {n : Nat} (hn : n ≤ 400) {S : ck_R} (hs : S.2.1 = -1) (ha : S.1 ≤ n) (he : cx_E T n S F Fo st) {d : Nat} (hdd : 7 ≤ d) (hd : ¬ (48 ≤ ck_hcx T n S.1 ∧ ck_hcx T n S.1 ≤ 57)) (hp : ¬ ck_hcx T n S.1 = 40) (w0 : ¬ ck_wo_ T n (ck_sk T n S.1) = kz_co 13) (w1 : ¬ ck_wo_ T n (ck_sk T n S.1) = kz_co 14) (w2 : ¬ ck_wo_ T n (ck_sk T n S.1) = kz_co 15) (w3 : ck_wo_ T n (ck_sk T n S.1) = kz_co 16) {S2 : ck_R} {d2 : Nat} (hd2 : d2 < d) (h2 : cx_W l G sX8_readChoice d2 Q w T n [] (ck_ps T n (ck_sk T n S.1), S.2) S2 sz)  : kx_Mn l G sX8_readUnit d 0 0 [.ref 68] (cx_8 (cx_fW Q w Fo st) (.ref w) F) sz (cx_PE Q w T n (S2) sz) := by
  have hT2 : cx_fW Q w Fo st 67 = kI 0 400 T := (cx_f67 hw).trans hT
  have hle := ck_sk_le T ha
  have he2 : cx_E T n (ck_ps T n (ck_sk T n S.1), S.2) (cx_tw T n (ck_sk T n S.1) F) Fo st := ⟨he.1, rfl, he.2.2.1, he.2.2.2.1, he.2.2.2.2.1, he.2.2.2.2.2.1, he.2.2.2.2.2.2⟩
  refine kz_m2 kx_tab kxLok_X8 (ini := false) [some (.ref 68), none] ⟨by decide +kernel, rfl, by decide, by omega⟩ (fun _ _ _ h => Or.inl h.rok) rfl rfl (fun g hB hC hN hK => ?_)
  refine hB bX8_readUnit_0 _ _ _ _ _ _ _ kX8_readUnit_0 ?_
  dsimp only [bX8_readUnit_0, kx_wp, kx_step, kx_lI, kx_lL, kx_lA, kx_gl, kx_pI, kx_pL, kx_pR, kx_pA, kx_pV, kx_s1, kx_s2, kx_sl, kx_pre, kx_c2, kx_pl, kx_cmp, kx_oF, kx_eqN, kx_nil, kx_c1, kx_ft, kx_aI, kx_aL, kx_aR, kx_ln, Nat.reduceAdd, Option.toList, List.cons_append, List.nil_append, cf8_4, cf8_9, cf9_16, cf8_6]
  repeat (simp only [cx_8w0 hw, cx_8o, cx_83 hw, cx_84 hw, hQ, hs, pk_us, pk_un, ne_eq, Nat.reduceEqDiff, not_false_eq_true, ks_eq, ks_ss]; try dsimp only [kx_wp, kx_step, kx_lI, kx_lL, kx_lA, kx_gl, kx_pI, kx_pL, kx_pR, kx_pA, kx_pV, kx_s1, kx_s2, kx_sl, kx_pre, kx_c2, kx_pl, kx_cmp, kx_oF, kx_eqN, kx_nil, kx_c1, kx_ft, kx_aI, kx_aL, kx_aR, kx_ln, Nat.reduceAdd, Option.toList, List.cons_append, List.nil_append, cf8_4, cf8_9, cf9_16, cf8_6])
  repeat' apply And.intro
  all_goals try (first | with_reducible assumption | (with_reducible refine ck_nzI ?_; simp; done) | (with_reducible refine ck_nzL ?_; simp; done) | (with_reducible refine vp_in_nI ?_ ?_ <;> first | omega | decide) | (with_reducible refine Nat.le_of_ble_eq_true ?_; rfl) | omega | exact Or.inl trivial | exact Or.inr trivial | exact Or.inl rfl | exact Or.inr rfl)
  refine hC.1 80 _ _ _ _ _ _ _ 8 _ _ _ _ _ _ _ _ _ _ _ _ lX8_80 (ct_X8_nextIsDigit_f (x := .ref w) hT2 he.1 hn he.2.1 hle.2 hd) ⟨by decide, rfl⟩ (cx_8o) rfl rfl (Nat.le_of_ble_eq_true rfl) (by first | decide | omega) (by decide) (by omega) (by omega) dX8_readUnit_1 ?_
  refine hB bX8_readUnit_4 _ _ _ _ _ _ _ kX8_readUnit_4 ?_
  dsimp only [bX8_readUnit_4, kx_wp, kx_step, kx_lI, kx_lL, kx_lA, kx_gl, kx_pI, kx_pL, kx_pR, kx_pA, kx_pV, kx_s1, kx_s2, kx_sl, kx_pre, kx_c2, kx_pl, kx_cmp, kx_oF, kx_eqN, kx_nil, kx_c1, kx_ft, kx_aI, kx_aL, kx_aR, kx_ln, Nat.reduceAdd, Option.toList, List.cons_append, List.nil_append, cf8_4, cf8_9, cf9_16, cf8_6]
  repeat (simp only [cx_8w0 hw, cx_8o, cx_83 hw, cx_84 hw, hQ, hs, pk_us, pk_un, ne_eq, Nat.reduceEqDiff, not_false_eq_true, ks_eq, ks_ss]; try dsimp only [kx_wp, kx_step, kx_lI, kx_lL, kx_lA, kx_gl, kx_pI, kx_pL, kx_pR, kx_pA, kx_pV, kx_s1, kx_s2, kx_sl, kx_pre, kx_c2, kx_pl, kx_cmp, kx_oF, kx_eqN, kx_nil, kx_c1, kx_ft, kx_aI, kx_aL, kx_aR, kx_ln, Nat.reduceAdd, Option.toList, List.cons_append, List.nil_append, cf8_4, cf8_9, cf9_16, cf8_6])
  repeat' apply And.intro
  all_goals try (first | with_reducible assumption | (with_reducible refine ck_nzI ?_; simp; done) | (with_reducible refine ck_nzL ?_; simp; done) | (with_reducible refine vp_in_nI ?_ ?_ <;> first | omega | decide) | (with_reducible refine Nat.le_of_ble_eq_true ?_; rfl) | omega | exact Or.inl trivial | exact Or.inr trivial | exact Or.inl rfl | exact Or.inr rfl)
  · intro zc4
    have ze4 := zc4
    refine hB bX8_readUnit_42 _ _ _ _ _ _ _ kX8_readUnit_42 ?_
    dsimp only [bX8_readUnit_42, kx_wp, kx_step, kx_lI, kx_lL, kx_lA, kx_gl, kx_pI, kx_pL, kx_pR, kx_pA, kx_pV, kx_s1, kx_s2, kx_sl, kx_pre, kx_c2, kx_pl, kx_cmp, kx_oF, kx_eqN, kx_nil, kx_c1, kx_ft, kx_aI, kx_aL, kx_aR, kx_ln, Nat.reduceAdd, Option.toList, List.cons_append, List.nil_append, cf8_4, cf8_9, cf9_16, cf8_6]
    repeat (simp only [cx_8w0 hw, cx_8o, cx_83 hw, cx_84 hw, hQ, hs, pk_us, pk_un, ne_eq, Nat.reduceEqDiff, not_false_eq_true, ks_eq, ks_ss]; try dsimp only [kx_wp, kx_step, kx_lI, kx_lL, kx_lA, kx_gl, kx_pI, kx_pL, kx_pR, kx_pA, kx_pV, kx_s1, kx_s2, kx_sl, kx_pre, kx_c2, kx_pl, kx_cmp, kx_oF, kx_eqN, kx_nil, kx_c1, kx_ft, kx_aI, kx_aL, kx_aR, kx_ln, Nat.reduceAdd, Option.toList, List.cons_append, List.nil_append, cf8_4, cf8_9, cf9_16, cf8_6])
    repeat' apply And.intro
    all_goals try (first | with_reducible assumption | (with_reducible refine ck_nzI ?_; simp; done) | (with_reducible refine ck_nzL ?_; simp; done) | (with_reducible refine vp_in_nI ?_ ?_ <;> first | omega | decide) | (with_reducible refine Nat.le_of_ble_eq_true ?_; rfl) | omega | exact Or.inl trivial | exact Or.inr trivial | exact Or.inl rfl | exact Or.inr rfl)
    refine hC.1 54 _ _ _ _ _ _ _ 8 _ _ _ _ _ _ _ _ _ _ _ _ lX8_54 (ct_X8_nextIs_f (x := .ref w) hT2 he.1 hn he.2.1 hle.2 (by decide) hp) ⟨by decide, rfl⟩ (cx_8o) rfl rfl (Nat.le_of_ble_eq_true rfl) (by first | decide | omega) (by decide) (by omega) (by omega) dX8_readUnit_45 ?_
    refine hB bX8_readUnit_48 _ _ _ _ _ _ _ kX8_readUnit_48 ?_
    dsimp only [bX8_readUnit_48, kx_wp, kx_step, kx_lI, kx_lL, kx_lA, kx_gl, kx_pI, kx_pL, kx_pR, kx_pA, kx_pV, kx_s1, kx_s2, kx_sl, kx_pre, kx_c2, kx_pl, kx_cmp, kx_oF, kx_eqN, kx_nil, kx_c1, kx_ft, kx_aI, kx_aL, kx_aR, kx_ln, Nat.reduceAdd, Option.toList, List.cons_append, List.nil_append, cf8_4, cf8_9, cf9_16, cf8_6]
    repeat (simp only [cx_8w0 hw, cx_8o, cx_83 hw, cx_84 hw, hQ, hs, pk_us, pk_un, ne_eq, Nat.reduceEqDiff, not_false_eq_true, ks_eq, ks_ss]; try dsimp only [kx_wp, kx_step, kx_lI, kx_lL, kx_lA, kx_gl, kx_pI, kx_pL, kx_pR, kx_pA, kx_pV, kx_s1, kx_s2, kx_sl, kx_pre, kx_c2, kx_pl, kx_cmp, kx_oF, kx_eqN, kx_nil, kx_c1, kx_ft, kx_aI, kx_aL, kx_aR, kx_ln, Nat.reduceAdd, Option.toList, List.cons_append, List.nil_append, cf8_4, cf8_9, cf9_16, cf8_6])
    repeat' apply And.intro
    all_goals try (first | with_reducible assumption | (with_reducible refine ck_nzI ?_; simp; done) | (with_reducible refine ck_nzL ?_; simp; done) | (with_reducible refine vp_in_nI ?_ ?_ <;> first | omega | decide) | (with_reducible refine Nat.le_of_ble_eq_true ?_; rfl) | omega | exact Or.inl trivial | exact Or.inr trivial | exact Or.inl rfl | exact Or.inr rfl)
    · intro zc48
      have ze48 := zc48
      refine hB bX8_readUnit_78 _ _ _ _ _ _ _ kX8_readUnit_78 ?_
      dsimp only [bX8_readUnit_78, kx_wp, kx_step, kx_lI, kx_lL, kx_lA, kx_gl, kx_pI, kx_pL, kx_pR, kx_pA, kx_pV, kx_s1, kx_s2, kx_sl, kx_pre, kx_c2, kx_pl, kx_cmp, kx_oF, kx_eqN, kx_nil, kx_c1, kx_ft, kx_aI, kx_aL, kx_aR, kx_ln, Nat.reduceAdd, Option.toList, List.cons_append, List.nil_append, cf8_4, cf8_9, cf9_16, cf8_6]
      repeat (simp only [cx_8w0 hw, cx_8o, cx_83 hw, cx_84 hw, hQ, hs, pk_us, pk_un, ne_eq, Nat.reduceEqDiff, not_false_eq_true, ks_eq, ks_ss]; try dsimp only [kx_wp, kx_step, kx_lI, kx_lL, kx_lA, kx_gl, kx_pI, kx_pL, kx_pR, kx_pA, kx_pV, kx_s1, kx_s2, kx_sl, kx_pre, kx_c2, kx_pl, kx_cmp, kx_oF, kx_eqN, kx_nil, kx_c1, kx_ft, kx_aI, kx_aL, kx_aR, kx_ln, Nat.reduceAdd, Option.toList, List.cons_append, List.nil_append, cf8_4, cf8_9, cf9_16, cf8_6])
      repeat' apply And.intro
      all_goals try (first | with_reducible assumption | (with_reducible refine ck_nzI ?_; simp; done) | (with_reducible refine ck_nzL ?_; simp; done) | (with_reducible refine vp_in_nI ?_ ?_ <;> first | omega | decide) | (with_reducible refine Nat.le_of_ble_eq_true ?_; rfl) | omega | exact Or.inl trivial | exact Or.inr trivial | exact Or.inl rfl | exact Or.inr rfl)
      refine hC.1 88 _ _ _ _ _ _ _ 8 _ _ _ _ _ _ _ _ _ _ _ _ lX8_88 (ct_X8_takeWord l G (x := .ref w) hT2 he.1 hn he.2.1 hle.2) ⟨by decide, rfl⟩ (cx_8o) rfl rfl (Nat.le_of_ble_eq_true rfl) (by first | decide | omega) (by decide) (by omega) (by omega) dX8_readUnit_79 ?_
      refine hB bX8_readUnit_82 _ _ _ _ _ _ _ kX8_readUnit_82 ?_
      dsimp only [bX8_readUnit_82, kx_wp, kx_step, kx_lI, kx_lL, kx_lA, kx_gl, kx_pI, kx_pL, kx_pR, kx_pA, kx_pV, kx_s1, kx_s2, kx_sl, kx_pre, kx_c2, kx_pl, kx_cmp, kx_oF, kx_eqN, kx_nil, kx_c1, kx_ft, kx_aI, kx_aL, kx_aR, kx_ln, Nat.reduceAdd, Option.toList, List.cons_append, List.nil_append, cf8_4, cf8_9, cf9_16, cf8_6]
      repeat (simp only [cx_8w0 hw, cx_8o, cx_83 hw, cx_84 hw, hQ, hs, pk_us, pk_un, ne_eq, Nat.reduceEqDiff, not_false_eq_true, ks_eq, ks_ss]; try dsimp only [kx_wp, kx_step, kx_lI, kx_lL, kx_lA, kx_gl, kx_pI, kx_pL, kx_pR, kx_pA, kx_pV, kx_s1, kx_s2, kx_sl, kx_pre, kx_c2, kx_pl, kx_cmp, kx_oF, kx_eqN, kx_nil, kx_c1, kx_ft, kx_aI, kx_aL, kx_aR, kx_ln, Nat.reduceAdd, Option.toList, List.cons_append, List.nil_append, cf8_4, cf8_9, cf9_16, cf8_6])
      repeat' apply And.intro
      all_goals try (first | with_reducible assumption | (with_reducible refine ck_nzI ?_; simp; done) | (with_reducible refine ck_nzL ?_; simp; done) | (with_reducible refine vp_in_nI ?_ ?_ <;> first | omega | decide) | (with_reducible refine Nat.le_of_ble_eq_true ?_; rfl) | omega | exact Or.inl trivial | exact Or.inr trivial | exact Or.inl rfl | exact Or.inr rfl)
      refine kz_lds hK rfl 13 dX8_readUnit_83 (by decide) rfl ?_
      refine hC.1 96 _ _ _ _ _ _ _ 8 _ _ _ _ _ _ _ _ _ _ _ _ lX8_96 (cx_wi_f (x := .ref w) (F := cx_tw T n (ck_sk T n S.1) F) hT2 (b := ck_sk T n S.1) rfl rfl hle.2 hn 13 (by decide) w0) ⟨by decide, rfl⟩ (cx_8o) rfl rfl (Nat.le_of_ble_eq_true rfl) (by first | decide | omega) (by decide) (by omega) (by omega) dX8_readUnit_85 ?_
      refine hB bX8_readUnit_88 _ _ _ _ _ _ _ kX8_readUnit_88 ?_
      dsimp only [bX8_readUnit_88, kx_wp, kx_step, kx_lI, kx_lL, kx_lA, kx_gl, kx_pI, kx_pL, kx_pR, kx_pA, kx_pV, kx_s1, kx_s2, kx_sl, kx_pre, kx_c2, kx_pl, kx_cmp, kx_oF, kx_eqN, kx_nil, kx_c1, kx_ft, kx_aI, kx_aL, kx_aR, kx_ln, Nat.reduceAdd, Option.toList, List.cons_append, List.nil_append, cf8_4, cf8_9, cf9_16, cf8_6]
      repeat (simp only [cx_8w0 hw, cx_8o, cx_83 hw, cx_84 hw, hQ, hs, pk_us, pk_un, ne_eq, Nat.reduceEqDiff, not_false_eq_true, ks_eq, ks_ss]; try dsimp only [kx_wp, kx_step, kx_lI, kx_lL, kx_lA, kx_gl, kx_pI, kx_pL, kx_pR, kx_pA, kx_pV, kx_s1, kx_s2, kx_sl, kx_pre, kx_c2, kx_pl, kx_cmp, kx_oF, kx_eqN, kx_nil, kx_c1, kx_ft, kx_aI, kx_aL, kx_aR, kx_ln, Nat.reduceAdd, Option.toList, List.cons_append, List.nil_append, cf8_4, cf8_9, cf9_16, cf8_6])
      repeat' apply And.intro
      all_goals try (first | with_reducible assumption | (with_reducible refine ck_nzI ?_; simp; done) | (with_reducible refine ck_nzL ?_; simp; done) | (with_reducible refine vp_in_nI ?_ ?_ <;> first | omega | decide) | (with_reducible refine Nat.le_of_ble_eq_true ?_; rfl) | omega | exact Or.inl trivial | exact Or.inr trivial | exact Or.inl rfl | exact Or.inr rfl)
      · intro zc88
        have ze88 := zc88
        refine hB bX8_readUnit_103 _ _ _ _ _ _ _ kX8_readUnit_103 ?_
        dsimp only [bX8_readUnit_103, kx_wp, kx_step, kx_lI, kx_lL, kx_lA, kx_gl, kx_pI, kx_pL, kx_pR, kx_pA, kx_pV, kx_s1, kx_s2, kx_sl, kx_pre, kx_c2, kx_pl, kx_cmp, kx_oF, kx_eqN, kx_nil, kx_c1, kx_ft, kx_aI, kx_aL, kx_aR, kx_ln, Nat.reduceAdd, Option.toList, List.cons_append, List.nil_append, cf8_4, cf8_9, cf9_16, cf8_6]
        repeat (simp only [cx_8w0 hw, cx_8o, cx_83 hw, cx_84 hw, hQ, hs, pk_us, pk_un, ne_eq, Nat.reduceEqDiff, not_false_eq_true, ks_eq, ks_ss]; try dsimp only [kx_wp, kx_step, kx_lI, kx_lL, kx_lA, kx_gl, kx_pI, kx_pL, kx_pR, kx_pA, kx_pV, kx_s1, kx_s2, kx_sl, kx_pre, kx_c2, kx_pl, kx_cmp, kx_oF, kx_eqN, kx_nil, kx_c1, kx_ft, kx_aI, kx_aL, kx_aR, kx_ln, Nat.reduceAdd, Option.toList, List.cons_append, List.nil_append, cf8_4, cf8_9, cf9_16, cf8_6])
        repeat' apply And.intro
        all_goals try (first | with_reducible assumption | (with_reducible refine ck_nzI ?_; simp; done) | (with_reducible refine ck_nzL ?_; simp; done) | (with_reducible refine vp_in_nI ?_ ?_ <;> first | omega | decide) | (with_reducible refine Nat.le_of_ble_eq_true ?_; rfl) | omega | exact Or.inl trivial | exact Or.inr trivial | exact Or.inl rfl | exact Or.inr rfl)
        refine kz_lds hK rfl 14 dX8_readUnit_104 (by decide) rfl ?_
        refine hC.1 96 _ _ _ _ _ _ _ 8 _ _ _ _ _ _ _ _ _ _ _ _ lX8_96 (cx_wi_f (x := .ref w) (F := cx_tw T n (ck_sk T n S.1) F) hT2 (b := ck_sk T n S.1) rfl rfl hle.2 hn 14 (by decide) w1) ⟨by decide, rfl⟩ (cx_8o) rfl rfl (Nat.le_of_ble_eq_true rfl) (by first | decide | omega) (by decide) (by omega) (by omega) dX8_readUnit_106 ?_
        refine hB bX8_readUnit_109 _ _ _ _ _ _ _ kX8_readUnit_109 ?_
        dsimp only [bX8_readUnit_109, kx_wp, kx_step, kx_lI, kx_lL, kx_lA, kx_gl, kx_pI, kx_pL, kx_pR, kx_pA, kx_pV, kx_s1, kx_s2, kx_sl, kx_pre, kx_c2, kx_pl, kx_cmp, kx_oF, kx_eqN, kx_nil, kx_c1, kx_ft, kx_aI, kx_aL, kx_aR, kx_ln, Nat.reduceAdd, Option.toList, List.cons_append, List.nil_append, cf8_4, cf8_9, cf9_16, cf8_6]
        repeat (simp only [cx_8w0 hw, cx_8o, cx_83 hw, cx_84 hw, hQ, hs, pk_us, pk_un, ne_eq, Nat.reduceEqDiff, not_false_eq_true, ks_eq, ks_ss]; try dsimp only [kx_wp, kx_step, kx_lI, kx_lL, kx_lA, kx_gl, kx_pI, kx_pL, kx_pR, kx_pA, kx_pV, kx_s1, kx_s2, kx_sl, kx_pre, kx_c2, kx_pl, kx_cmp, kx_oF, kx_eqN, kx_nil, kx_c1, kx_ft, kx_aI, kx_aL, kx_aR, kx_ln, Nat.reduceAdd, Option.toList, List.cons_append, List.nil_append, cf8_4, cf8_9, cf9_16, cf8_6])
        repeat' apply And.intro
        all_goals try (first | with_reducible assumption | (with_reducible refine ck_nzI ?_; simp; done) | (with_reducible refine ck_nzL ?_; simp; done) | (with_reducible refine vp_in_nI ?_ ?_ <;> first | omega | decide) | (with_reducible refine Nat.le_of_ble_eq_true ?_; rfl) | omega | exact Or.inl trivial | exact Or.inr trivial | exact Or.inl rfl | exact Or.inr rfl)
        · intro zc109
          have ze109 := zc109
          refine hB bX8_readUnit_125 _ _ _ _ _ _ _ kX8_readUnit_125 ?_
          dsimp only [bX8_readUnit_125, kx_wp, kx_step, kx_lI, kx_lL, kx_lA, kx_gl, kx_pI, kx_pL, kx_pR, kx_pA, kx_pV, kx_s1, kx_s2, kx_sl, kx_pre, kx_c2, kx_pl, kx_cmp, kx_oF, kx_eqN, kx_nil, kx_c1, kx_ft, kx_aI, kx_aL, kx_aR, kx_ln, Nat.reduceAdd, Option.toList, List.cons_append, List.nil_append, cf8_4, cf8_9, cf9_16, cf8_6]
          repeat (simp only [cx_8w0 hw, cx_8o, cx_83 hw, cx_84 hw, hQ, hs, pk_us, pk_un, ne_eq, Nat.reduceEqDiff, not_false_eq_true, ks_eq, ks_ss]; try dsimp only [kx_wp, kx_step, kx_lI, kx_lL, kx_lA, kx_gl, kx_pI, kx_pL, kx_pR, kx_pA, kx_pV, kx_s1, kx_s2, kx_sl, kx_pre, kx_c2, kx_pl, kx_cmp, kx_oF, kx_eqN, kx_nil, kx_c1, kx_ft, kx_aI, kx_aL, kx_aR, kx_ln, Nat.reduceAdd, Option.toList, List.cons_append, List.nil_append, cf8_4, cf8_9, cf9_16, cf8_6])
          repeat' apply And.intro
          all_goals try (first | with_reducible assumption | (with_reducible refine ck_nzI ?_; simp; done) | (with_reducible refine ck_nzL ?_; simp; done) | (with_reducible refine vp_in_nI ?_ ?_ <;> first | omega | decide) | (with_reducible refine Nat.le_of_ble_eq_true ?_; rfl) | omega | exact Or.inl trivial | exact Or.inr trivial | exact Or.inl rfl | exact Or.inr rfl)
          refine kz_lds hK rfl 15 dX8_readUnit_126 (by decide) rfl ?_
          refine hC.1 96 _ _ _ _ _ _ _ 8 _ _ _ _ _ _ _ _ _ _ _ _ lX8_96 (cx_wi_f (x := .ref w) (F := cx_tw T n (ck_sk T n S.1) F) hT2 (b := ck_sk T n S.1) rfl rfl hle.2 hn 15 (by decide) w2) ⟨by decide, rfl⟩ (cx_8o) rfl rfl (Nat.le_of_ble_eq_true rfl) (by first | decide | omega) (by decide) (by omega) (by omega) dX8_readUnit_128 ?_
          refine hB bX8_readUnit_131 _ _ _ _ _ _ _ kX8_readUnit_131 ?_
          dsimp only [bX8_readUnit_131, kx_wp, kx_step, kx_lI, kx_lL, kx_lA, kx_gl, kx_pI, kx_pL, kx_pR, kx_pA, kx_pV, kx_s1, kx_s2, kx_sl, kx_pre, kx_c2, kx_pl, kx_cmp, kx_oF, kx_eqN, kx_nil, kx_c1, kx_ft, kx_aI, kx_aL, kx_aR, kx_ln, Nat.reduceAdd, Option.toList, List.cons_append, List.nil_append, cf8_4, cf8_9, cf9_16, cf8_6]
          repeat (simp only [cx_8w0 hw, cx_8o, cx_83 hw, cx_84 hw, hQ, hs, pk_us, pk_un, ne_eq, Nat.reduceEqDiff, not_false_eq_true, ks_eq, ks_ss]; try dsimp only [kx_wp, kx_step, kx_lI, kx_lL, kx_lA, kx_gl, kx_pI, kx_pL, kx_pR, kx_pA, kx_pV, kx_s1, kx_s2, kx_sl, kx_pre, kx_c2, kx_pl, kx_cmp, kx_oF, kx_eqN, kx_nil, kx_c1, kx_ft, kx_aI, kx_aL, kx_aR, kx_ln, Nat.reduceAdd, Option.toList, List.cons_append, List.nil_append, cf8_4, cf8_9, cf9_16, cf8_6])
          repeat' apply And.intro
          all_goals try (first | with_reducible assumption | (with_reducible refine ck_nzI ?_; simp; done) | (with_reducible refine ck_nzL ?_; simp; done) | (with_reducible refine vp_in_nI ?_ ?_ <;> first | omega | decide) | (with_reducible refine Nat.le_of_ble_eq_true ?_; rfl) | omega | exact Or.inl trivial | exact Or.inr trivial | exact Or.inl rfl | exact Or.inr rfl)
          · intro zc131
            have ze131 := zc131
            refine hB bX8_readUnit_147 _ _ _ _ _ _ _ kX8_readUnit_147 ?_
            dsimp only [bX8_readUnit_147, kx_wp, kx_step, kx_lI, kx_lL, kx_lA, kx_gl, kx_pI, kx_pL, kx_pR, kx_pA, kx_pV, kx_s1, kx_s2, kx_sl, kx_pre, kx_c2, kx_pl, kx_cmp, kx_oF, kx_eqN, kx_nil, kx_c1, kx_ft, kx_aI, kx_aL, kx_aR, kx_ln, Nat.reduceAdd, Option.toList, List.cons_append, List.nil_append, cf8_4, cf8_9, cf9_16, cf8_6]
            repeat (simp only [cx_8w0 hw, cx_8o, cx_83 hw, cx_84 hw, hQ, hs, pk_us, pk_un, ne_eq, Nat.reduceEqDiff, not_false_eq_true, ks_eq, ks_ss]; try dsimp only [kx_wp, kx_step, kx_lI, kx_lL, kx_lA, kx_gl, kx_pI, kx_pL, kx_pR, kx_pA, kx_pV, kx_s1, kx_s2, kx_sl, kx_pre, kx_c2, kx_pl, kx_cmp, kx_oF, kx_eqN, kx_nil, kx_c1, kx_ft, kx_aI, kx_aL, kx_aR, kx_ln, Nat.reduceAdd, Option.toList, List.cons_append, List.nil_append, cf8_4, cf8_9, cf9_16, cf8_6])
            repeat' apply And.intro
            all_goals try (first | with_reducible assumption | (with_reducible refine ck_nzI ?_; simp; done) | (with_reducible refine ck_nzL ?_; simp; done) | (with_reducible refine vp_in_nI ?_ ?_ <;> first | omega | decide) | (with_reducible refine Nat.le_of_ble_eq_true ?_; rfl) | omega | exact Or.inl trivial | exact Or.inr trivial | exact Or.inl rfl | exact Or.inr rfl)
            refine kz_lds hK rfl 16 dX8_readUnit_148 (by decide) rfl ?_
            refine hC.1 96 _ _ _ _ _ _ _ 8 _ _ _ _ _ _ _ _ _ _ _ _ lX8_96 (cx_wi_t (x := .ref w) (F := cx_tw T n (ck_sk T n S.1) F) hT2 (b := ck_sk T n S.1) rfl rfl hle.2 hn 16 (by decide) w3) ⟨by decide, rfl⟩ (cx_8o) rfl rfl (Nat.le_of_ble_eq_true rfl) (by first | decide | omega) (by decide) (by omega) (by omega) dX8_readUnit_150 ?_
            refine hB bX8_readUnit_153 _ _ _ _ _ _ _ kX8_readUnit_153 ?_
            dsimp only [bX8_readUnit_153, kx_wp, kx_step, kx_lI, kx_lL, kx_lA, kx_gl, kx_pI, kx_pL, kx_pR, kx_pA, kx_pV, kx_s1, kx_s2, kx_sl, kx_pre, kx_c2, kx_pl, kx_cmp, kx_oF, kx_eqN, kx_nil, kx_c1, kx_ft, kx_aI, kx_aL, kx_aR, kx_ln, Nat.reduceAdd, Option.toList, List.cons_append, List.nil_append, cf8_4, cf8_9, cf9_16, cf8_6]
            repeat (simp only [cx_8w0 hw, cx_8o, cx_83 hw, cx_84 hw, hQ, hs, pk_us, pk_un, ne_eq, Nat.reduceEqDiff, not_false_eq_true, ks_eq, ks_ss]; try dsimp only [kx_wp, kx_step, kx_lI, kx_lL, kx_lA, kx_gl, kx_pI, kx_pL, kx_pR, kx_pA, kx_pV, kx_s1, kx_s2, kx_sl, kx_pre, kx_c2, kx_pl, kx_cmp, kx_oF, kx_eqN, kx_nil, kx_c1, kx_ft, kx_aI, kx_aL, kx_aR, kx_ln, Nat.reduceAdd, Option.toList, List.cons_append, List.nil_append, cf8_4, cf8_9, cf9_16, cf8_6])
            repeat' apply And.intro
            all_goals try (first | with_reducible assumption | (with_reducible refine ck_nzI ?_; simp; done) | (with_reducible refine ck_nzL ?_; simp; done) | (with_reducible refine vp_in_nI ?_ ?_ <;> first | omega | decide) | (with_reducible refine Nat.le_of_ble_eq_true ?_; rfl) | omega | exact Or.inl trivial | exact Or.inr trivial | exact Or.inl rfl | exact Or.inr rfl)
            · intro zc153
              first | exact absurd rfl zc153 | exact absurd zc153 (by decide) | exact absurd (by decide) zc153 | (exfalso; ((try clear hB hC); simp only [ck_lt, ck_le, ck_eq, not_true_eq_false, not_false_eq_true, Int32.reduceToInt, Int32.reduceAdd, Int32.reduceSub, Int32.reduceMul] at * <;> omega)) | (exfalso; simp_all; done)
            · intro zc153
              have ze153 := zc153
              refine hB bX8_readUnit_156 _ _ _ _ _ _ _ kX8_readUnit_156 ?_
              dsimp only [bX8_readUnit_156, kx_wp, kx_step, kx_lI, kx_lL, kx_lA, kx_gl, kx_pI, kx_pL, kx_pR, kx_pA, kx_pV, kx_s1, kx_s2, kx_sl, kx_pre, kx_c2, kx_pl, kx_cmp, kx_oF, kx_eqN, kx_nil, kx_c1, kx_ft, kx_aI, kx_aL, kx_aR, kx_ln, Nat.reduceAdd, Option.toList, List.cons_append, List.nil_append, cf8_4, cf8_9, cf9_16, cf8_6]
              repeat (simp only [cx_8w0 hw, cx_8o, cx_83 hw, cx_84 hw, hQ, hs, pk_us, pk_un, ne_eq, Nat.reduceEqDiff, not_false_eq_true, ks_eq, ks_ss]; try dsimp only [kx_wp, kx_step, kx_lI, kx_lL, kx_lA, kx_gl, kx_pI, kx_pL, kx_pR, kx_pA, kx_pV, kx_s1, kx_s2, kx_sl, kx_pre, kx_c2, kx_pl, kx_cmp, kx_oF, kx_eqN, kx_nil, kx_c1, kx_ft, kx_aI, kx_aL, kx_aR, kx_ln, Nat.reduceAdd, Option.toList, List.cons_append, List.nil_append, cf8_4, cf8_9, cf9_16, cf8_6])
              repeat' apply And.intro
              all_goals try (first | with_reducible assumption | (with_reducible refine ck_nzI ?_; simp; done) | (with_reducible refine ck_nzL ?_; simp; done) | (with_reducible refine vp_in_nI ?_ ?_ <;> first | omega | decide) | (with_reducible refine Nat.le_of_ble_eq_true ?_; rfl) | omega | exact Or.inl trivial | exact Or.inr trivial | exact Or.inl rfl | exact Or.inr rfl)
              refine hN.1 229 _ _ _ _ _ _ _ 8 _ _ _ _ _ _ _ _ _ _ lX8_229 (h2 _ _ _ he2) ⟨by decide, rfl⟩ (cx_8o) rfl rfl (Nat.le_of_ble_eq_true rfl) (by omega) (by decide) (by omega) (by omega) dX8_readUnit_157 ?_
              rintro r2 P2 s2 ⟨F2, Fo2, st2, rfl, rfl, rfl, hE2, hX2⟩
              dsimp only [Option.toList, List.cons_append, List.nil_append]
              refine hB bX8_readUnit_160 _ _ _ _ _ _ _ kX8_readUnit_160 ?_
              dsimp only [bX8_readUnit_160, kx_wp, kx_step, kx_lI, kx_lL, kx_lA, kx_gl, kx_pI, kx_pL, kx_pR, kx_pA, kx_pV, kx_s1, kx_s2, kx_sl, kx_pre, kx_c2, kx_pl, kx_cmp, kx_oF, kx_eqN, kx_nil, kx_c1, kx_ft, kx_aI, kx_aL, kx_aR, kx_ln, Nat.reduceAdd, Option.toList, List.cons_append, List.nil_append, cf8_4, cf8_9, cf9_16, cf8_6]
              repeat (simp only [cx_8w0 hw, cx_8o, cx_83 hw, cx_84 hw, hQ, hs, pk_us, pk_un, ne_eq, Nat.reduceEqDiff, not_false_eq_true, ks_eq, ks_ss]; try dsimp only [kx_wp, kx_step, kx_lI, kx_lL, kx_lA, kx_gl, kx_pI, kx_pL, kx_pR, kx_pA, kx_pV, kx_s1, kx_s2, kx_sl, kx_pre, kx_c2, kx_pl, kx_cmp, kx_oF, kx_eqN, kx_nil, kx_c1, kx_ft, kx_aI, kx_aL, kx_aR, kx_ln, Nat.reduceAdd, Option.toList, List.cons_append, List.nil_append, cf8_4, cf8_9, cf9_16, cf8_6])
              repeat' apply And.intro
              all_goals try (first | with_reducible assumption | (with_reducible refine ck_nzI ?_; simp; done) | (with_reducible refine ck_nzL ?_; simp; done) | (with_reducible refine vp_in_nI ?_ ?_ <;> first | omega | decide) | (with_reducible refine Nat.le_of_ble_eq_true ?_; rfl) | omega | exact Or.inl trivial | exact Or.inr trivial | exact Or.inl rfl | exact Or.inr rfl)
              refine hB bX8_readUnit_172 _ _ _ _ _ _ _ kX8_readUnit_172 ?_
              dsimp only [bX8_readUnit_172, kx_wp, kx_step, kx_lI, kx_lL, kx_lA, kx_gl, kx_pI, kx_pL, kx_pR, kx_pA, kx_pV, kx_s1, kx_s2, kx_sl, kx_pre, kx_c2, kx_pl, kx_cmp, kx_oF, kx_eqN, kx_nil, kx_c1, kx_ft, kx_aI, kx_aL, kx_aR, kx_ln, Nat.reduceAdd, Option.toList, List.cons_append, List.nil_append, cf8_4, cf8_9, cf9_16, cf8_6]
              repeat (simp only [cx_8w0 hw, cx_8o, cx_83 hw, cx_84 hw, hQ, hs, pk_us, pk_un, ne_eq, Nat.reduceEqDiff, not_false_eq_true, ks_eq, ks_ss]; try dsimp only [kx_wp, kx_step, kx_lI, kx_lL, kx_lA, kx_gl, kx_pI, kx_pL, kx_pR, kx_pA, kx_pV, kx_s1, kx_s2, kx_sl, kx_pre, kx_c2, kx_pl, kx_cmp, kx_oF, kx_eqN, kx_nil, kx_c1, kx_ft, kx_aI, kx_aL, kx_aR, kx_ln, Nat.reduceAdd, Option.toList, List.cons_append, List.nil_append, cf8_4, cf8_9, cf9_16, cf8_6])
              all_goals (repeat' apply And.intro)
              all_goals ((try clear hB hC); first | exact True.intro | rfl | exact ⟨F2, Fo2, st2, rfl, rfl, rfl, hE2, hX2⟩)
          · intro zc131
            first | exact absurd rfl zc131 | exact absurd zc131 (by decide) | exact absurd (by decide) zc131 | (exfalso; ((try clear hB hC); simp only [ck_lt, ck_le, ck_eq, not_true_eq_false, not_false_eq_true, Int32.reduceToInt, Int32.reduceAdd, Int32.reduceSub, Int32.reduceMul] at * <;> omega)) | (exfalso; simp_all; done)
        · intro zc109
          first | exact absurd rfl zc109 | exact absurd zc109 (by decide) | exact absurd (by decide) zc109 | (exfalso; ((try clear hB hC); simp only [ck_lt, ck_le, ck_eq, not_true_eq_false, not_false_eq_true, Int32.reduceToInt, Int32.reduceAdd, Int32.reduceSub, Int32.reduceMul] at * <;> omega)) | (exfalso; simp_all; done)
      · intro zc88
        first | exact absurd rfl zc88 | exact absurd zc88 (by decide) | exact absurd (by decide) zc88 | (exfalso; ((try clear hB hC); simp only [ck_lt, ck_le, ck_eq, not_true_eq_false, not_false_eq_true, Int32.reduceToInt, Int32.reduceAdd, Int32.reduceSub, Int32.reduceMul] at * <;> omega)) | (exfalso; simp_all; done)
    · intro zc48
      first | exact absurd rfl zc48 | exact absurd zc48 (by decide) | exact absurd (by decide) zc48 | (exfalso; ((try clear hB hC); simp only [ck_lt, ck_le, ck_eq, not_true_eq_false, not_false_eq_true, Int32.reduceToInt, Int32.reduceAdd, Int32.reduceSub, Int32.reduceMul] at * <;> omega)) | (exfalso; simp_all; done)
  · intro zc4
    first | exact absurd rfl zc4 | exact absurd zc4 (by decide) | exact absurd (by decide) zc4 | (exfalso; ((try clear hB hC); simp only [ck_lt, ck_le, ck_eq, not_true_eq_false, not_false_eq_true, Int32.reduceToInt, Int32.reduceAdd, Int32.reduceSub, Int32.reduceMul] at * <;> omega)) | (exfalso; simp_all; done)

set_option maxRecDepth 100000 in
set_option maxHeartbeats 4000000 in
theorem cu_w4 (l : Launch) (G : kx_G) {P : kx_P} {sz : Nat} {Q : kx_P} {w : Nat} (hw : 144 ≤ w) {T F Fo st V : Nat → Int32} (hT : Q 67 = kI 0 400 T) (hQ : Q w = kO 9 (kf (cr9 w) V)) {n : Nat} (hn : n ≤ 400) {S : ck_R} (hs : S.2.1 = -1) (ha : S.1 ≤ n) (he : cx_E T n S F Fo st) {d : Nat} (hdd : 7 ≤ d) (hd : ¬ (48 ≤ ck_hcx T n S.1 ∧ ck_hcx T n S.1 ≤ 57)) (hp : ¬ ck_hcx T n S.1 = 40) (w0 : ¬ ck_wo_ T n (ck_sk T n S.1) = kz_co 13) (w1 : ¬ ck_wo_ T n (ck_sk T n S.1) = kz_co 14) (w2 : ¬ ck_wo_ T n (ck_sk T n S.1) = kz_co 15) (w3 : ¬ ck_wo_ T n (ck_sk T n S.1) = kz_co 16)  : kx_Mn l G sX8_readUnit d 0 0 [.ref 68] (cx_8 (cx_fW Q w Fo st) (.ref w) F) sz (cx_PE Q w T n ((ck_sk T n S.1, nI (ck_sk T n S.1), 1, S.2.2.2)) sz) := by
  have hT2 : cx_fW Q w Fo st 67 = kI 0 400 T := (cx_f67 hw).trans hT
  have hle := ck_sk_le T ha
  have he2 : cx_E T n (ck_ps T n (ck_sk T n S.1), S.2) (cx_tw T n (ck_sk T n S.1) F) Fo st := ⟨he.1, rfl, he.2.2.1, he.2.2.2.1, he.2.2.2.2.1, he.2.2.2.2.2.1, he.2.2.2.2.2.2⟩
  refine kz_m2 kx_tab kxLok_X8 (ini := false) [some (.ref 68), none] ⟨by decide +kernel, rfl, by decide, by omega⟩ (fun _ _ _ h => Or.inl h.rok) rfl rfl (fun g hB hC hN hK => ?_)
  refine hB bX8_readUnit_0 _ _ _ _ _ _ _ kX8_readUnit_0 ?_
  dsimp only [bX8_readUnit_0, kx_wp, kx_step, kx_lI, kx_lL, kx_lA, kx_gl, kx_pI, kx_pL, kx_pR, kx_pA, kx_pV, kx_s1, kx_s2, kx_sl, kx_pre, kx_c2, kx_pl, kx_cmp, kx_oF, kx_eqN, kx_nil, kx_c1, kx_ft, kx_aI, kx_aL, kx_aR, kx_ln, Nat.reduceAdd, Option.toList, List.cons_append, List.nil_append, cf8_4, cf8_9, cf9_16, cf8_6]
  repeat (simp only [cx_8w0 hw, cx_8o, cx_83 hw, cx_84 hw, hQ, hs, pk_us, pk_un, ne_eq, Nat.reduceEqDiff, not_false_eq_true, ks_eq, ks_ss]; try dsimp only [kx_wp, kx_step, kx_lI, kx_lL, kx_lA, kx_gl, kx_pI, kx_pL, kx_pR, kx_pA, kx_pV, kx_s1, kx_s2, kx_sl, kx_pre, kx_c2, kx_pl, kx_cmp, kx_oF, kx_eqN, kx_nil, kx_c1, kx_ft, kx_aI, kx_aL, kx_aR, kx_ln, Nat.reduceAdd, Option.toList, List.cons_append, List.nil_append, cf8_4, cf8_9, cf9_16, cf8_6])
  repeat' apply And.intro
  all_goals try (first | with_reducible assumption | (with_reducible refine ck_nzI ?_; simp; done) | (with_reducible refine ck_nzL ?_; simp; done) | (with_reducible refine vp_in_nI ?_ ?_ <;> first | omega | decide) | (with_reducible refine Nat.le_of_ble_eq_true ?_; rfl) | omega | exact Or.inl trivial | exact Or.inr trivial | exact Or.inl rfl | exact Or.inr rfl)
  refine hC.1 80 _ _ _ _ _ _ _ 8 _ _ _ _ _ _ _ _ _ _ _ _ lX8_80 (ct_X8_nextIsDigit_f (x := .ref w) hT2 he.1 hn he.2.1 hle.2 hd) ⟨by decide, rfl⟩ (cx_8o) rfl rfl (Nat.le_of_ble_eq_true rfl) (by first | decide | omega) (by decide) (by omega) (by omega) dX8_readUnit_1 ?_
  refine hB bX8_readUnit_4 _ _ _ _ _ _ _ kX8_readUnit_4 ?_
  dsimp only [bX8_readUnit_4, kx_wp, kx_step, kx_lI, kx_lL, kx_lA, kx_gl, kx_pI, kx_pL, kx_pR, kx_pA, kx_pV, kx_s1, kx_s2, kx_sl, kx_pre, kx_c2, kx_pl, kx_cmp, kx_oF, kx_eqN, kx_nil, kx_c1, kx_ft, kx_aI, kx_aL, kx_aR, kx_ln, Nat.reduceAdd, Option.toList, List.cons_append, List.nil_append, cf8_4, cf8_9, cf9_16, cf8_6]
  repeat (simp only [cx_8w0 hw, cx_8o, cx_83 hw, cx_84 hw, hQ, hs, pk_us, pk_un, ne_eq, Nat.reduceEqDiff, not_false_eq_true, ks_eq, ks_ss]; try dsimp only [kx_wp, kx_step, kx_lI, kx_lL, kx_lA, kx_gl, kx_pI, kx_pL, kx_pR, kx_pA, kx_pV, kx_s1, kx_s2, kx_sl, kx_pre, kx_c2, kx_pl, kx_cmp, kx_oF, kx_eqN, kx_nil, kx_c1, kx_ft, kx_aI, kx_aL, kx_aR, kx_ln, Nat.reduceAdd, Option.toList, List.cons_append, List.nil_append, cf8_4, cf8_9, cf9_16, cf8_6])
  repeat' apply And.intro
  all_goals try (first | with_reducible assumption | (with_reducible refine ck_nzI ?_; simp; done) | (with_reducible refine ck_nzL ?_; simp; done) | (with_reducible refine vp_in_nI ?_ ?_ <;> first | omega | decide) | (with_reducible refine Nat.le_of_ble_eq_true ?_; rfl) | omega | exact Or.inl trivial | exact Or.inr trivial | exact Or.inl rfl | exact Or.inr rfl)
  · intro zc4
    have ze4 := zc4
    refine hB bX8_readUnit_42 _ _ _ _ _ _ _ kX8_readUnit_42 ?_
    dsimp only [bX8_readUnit_42, kx_wp, kx_step, kx_lI, kx_lL, kx_lA, kx_gl, kx_pI, kx_pL, kx_pR, kx_pA, kx_pV, kx_s1, kx_s2, kx_sl, kx_pre, kx_c2, kx_pl, kx_cmp, kx_oF, kx_eqN, kx_nil, kx_c1, kx_ft, kx_aI, kx_aL, kx_aR, kx_ln, Nat.reduceAdd, Option.toList, List.cons_append, List.nil_append, cf8_4, cf8_9, cf9_16, cf8_6]
    repeat (simp only [cx_8w0 hw, cx_8o, cx_83 hw, cx_84 hw, hQ, hs, pk_us, pk_un, ne_eq, Nat.reduceEqDiff, not_false_eq_true, ks_eq, ks_ss]; try dsimp only [kx_wp, kx_step, kx_lI, kx_lL, kx_lA, kx_gl, kx_pI, kx_pL, kx_pR, kx_pA, kx_pV, kx_s1, kx_s2, kx_sl, kx_pre, kx_c2, kx_pl, kx_cmp, kx_oF, kx_eqN, kx_nil, kx_c1, kx_ft, kx_aI, kx_aL, kx_aR, kx_ln, Nat.reduceAdd, Option.toList, List.cons_append, List.nil_append, cf8_4, cf8_9, cf9_16, cf8_6])
    repeat' apply And.intro
    all_goals try (first | with_reducible assumption | (with_reducible refine ck_nzI ?_; simp; done) | (with_reducible refine ck_nzL ?_; simp; done) | (with_reducible refine vp_in_nI ?_ ?_ <;> first | omega | decide) | (with_reducible refine Nat.le_of_ble_eq_true ?_; rfl) | omega | exact Or.inl trivial | exact Or.inr trivial | exact Or.inl rfl | exact Or.inr rfl)
    refine hC.1 54 _ _ _ _ _ _ _ 8 _ _ _ _ _ _ _ _ _ _ _ _ lX8_54 (ct_X8_nextIs_f (x := .ref w) hT2 he.1 hn he.2.1 hle.2 (by decide) hp) ⟨by decide, rfl⟩ (cx_8o) rfl rfl (Nat.le_of_ble_eq_true rfl) (by first | decide | omega) (by decide) (by omega) (by omega) dX8_readUnit_45 ?_
    refine hB bX8_readUnit_48 _ _ _ _ _ _ _ kX8_readUnit_48 ?_
    dsimp only [bX8_readUnit_48, kx_wp, kx_step, kx_lI, kx_lL, kx_lA, kx_gl, kx_pI, kx_pL, kx_pR, kx_pA, kx_pV, kx_s1, kx_s2, kx_sl, kx_pre, kx_c2, kx_pl, kx_cmp, kx_oF, kx_eqN, kx_nil, kx_c1, kx_ft, kx_aI, kx_aL, kx_aR, kx_ln, Nat.reduceAdd, Option.toList, List.cons_append, List.nil_append, cf8_4, cf8_9, cf9_16, cf8_6]
    repeat (simp only [cx_8w0 hw, cx_8o, cx_83 hw, cx_84 hw, hQ, hs, pk_us, pk_un, ne_eq, Nat.reduceEqDiff, not_false_eq_true, ks_eq, ks_ss]; try dsimp only [kx_wp, kx_step, kx_lI, kx_lL, kx_lA, kx_gl, kx_pI, kx_pL, kx_pR, kx_pA, kx_pV, kx_s1, kx_s2, kx_sl, kx_pre, kx_c2, kx_pl, kx_cmp, kx_oF, kx_eqN, kx_nil, kx_c1, kx_ft, kx_aI, kx_aL, kx_aR, kx_ln, Nat.reduceAdd, Option.toList, List.cons_append, List.nil_append, cf8_4, cf8_9, cf9_16, cf8_6])
    repeat' apply And.intro
    all_goals try (first | with_reducible assumption | (with_reducible refine ck_nzI ?_; simp; done) | (with_reducible refine ck_nzL ?_; simp; done) | (with_reducible refine vp_in_nI ?_ ?_ <;> first | omega | decide) | (with_reducible refine Nat.le_of_ble_eq_true ?_; rfl) | omega | exact Or.inl trivial | exact Or.inr trivial | exact Or.inl rfl | exact Or.inr rfl)
    · intro zc48
      have ze48 := zc48
      refine hB bX8_readUnit_78 _ _ _ _ _ _ _ kX8_readUnit_78 ?_
      dsimp only [bX8_readUnit_78, kx_wp, kx_step, kx_lI, kx_lL, kx_lA, kx_gl, kx_pI, kx_pL, kx_pR, kx_pA, kx_pV, kx_s1, kx_s2, kx_sl, kx_pre, kx_c2, kx_pl, kx_cmp, kx_oF, kx_eqN, kx_nil, kx_c1, kx_ft, kx_aI, kx_aL, kx_aR, kx_ln, Nat.reduceAdd, Option.toList, List.cons_append, List.nil_append, cf8_4, cf8_9, cf9_16, cf8_6]
      repeat (simp only [cx_8w0 hw, cx_8o, cx_83 hw, cx_84 hw, hQ, hs, pk_us, pk_un, ne_eq, Nat.reduceEqDiff, not_false_eq_true, ks_eq, ks_ss]; try dsimp only [kx_wp, kx_step, kx_lI, kx_lL, kx_lA, kx_gl, kx_pI, kx_pL, kx_pR, kx_pA, kx_pV, kx_s1, kx_s2, kx_sl, kx_pre, kx_c2, kx_pl, kx_cmp, kx_oF, kx_eqN, kx_nil, kx_c1, kx_ft, kx_aI, kx_aL, kx_aR, kx_ln, Nat.reduceAdd, Option.toList, List.cons_append, List.nil_append, cf8_4, cf8_9, cf9_16, cf8_6])
      repeat' apply And.intro
      all_goals try (first | with_reducible assumption | (with_reducible refine ck_nzI ?_; simp; done) | (with_reducible refine ck_nzL ?_; simp; done) | (with_reducible refine vp_in_nI ?_ ?_ <;> first | omega | decide) | (with_reducible refine Nat.le_of_ble_eq_true ?_; rfl) | omega | exact Or.inl trivial | exact Or.inr trivial | exact Or.inl rfl | exact Or.inr rfl)
      refine hC.1 88 _ _ _ _ _ _ _ 8 _ _ _ _ _ _ _ _ _ _ _ _ lX8_88 (ct_X8_takeWord l G (x := .ref w) hT2 he.1 hn he.2.1 hle.2) ⟨by decide, rfl⟩ (cx_8o) rfl rfl (Nat.le_of_ble_eq_true rfl) (by first | decide | omega) (by decide) (by omega) (by omega) dX8_readUnit_79 ?_
      refine hB bX8_readUnit_82 _ _ _ _ _ _ _ kX8_readUnit_82 ?_
      dsimp only [bX8_readUnit_82, kx_wp, kx_step, kx_lI, kx_lL, kx_lA, kx_gl, kx_pI, kx_pL, kx_pR, kx_pA, kx_pV, kx_s1, kx_s2, kx_sl, kx_pre, kx_c2, kx_pl, kx_cmp, kx_oF, kx_eqN, kx_nil, kx_c1, kx_ft, kx_aI, kx_aL, kx_aR, kx_ln, Nat.reduceAdd, Option.toList, List.cons_append, List.nil_append, cf8_4, cf8_9, cf9_16, cf8_6]
      repeat (simp only [cx_8w0 hw, cx_8o, cx_83 hw, cx_84 hw, hQ, hs, pk_us, pk_un, ne_eq, Nat.reduceEqDiff, not_false_eq_true, ks_eq, ks_ss]; try dsimp only [kx_wp, kx_step, kx_lI, kx_lL, kx_lA, kx_gl, kx_pI, kx_pL, kx_pR, kx_pA, kx_pV, kx_s1, kx_s2, kx_sl, kx_pre, kx_c2, kx_pl, kx_cmp, kx_oF, kx_eqN, kx_nil, kx_c1, kx_ft, kx_aI, kx_aL, kx_aR, kx_ln, Nat.reduceAdd, Option.toList, List.cons_append, List.nil_append, cf8_4, cf8_9, cf9_16, cf8_6])
      repeat' apply And.intro
      all_goals try (first | with_reducible assumption | (with_reducible refine ck_nzI ?_; simp; done) | (with_reducible refine ck_nzL ?_; simp; done) | (with_reducible refine vp_in_nI ?_ ?_ <;> first | omega | decide) | (with_reducible refine Nat.le_of_ble_eq_true ?_; rfl) | omega | exact Or.inl trivial | exact Or.inr trivial | exact Or.inl rfl | exact Or.inr rfl)
      refine kz_lds hK rfl 13 dX8_readUnit_83 (by decide) rfl ?_
      refine hC.1 96 _ _ _ _ _ _ _ 8 _ _ _ _ _ _ _ _ _ _ _ _ lX8_96 (cx_wi_f (x := .ref w) (F := cx_tw T n (ck_sk T n S.1) F) hT2 (b := ck_sk T n S.1) rfl rfl hle.2 hn 13 (by decide) w0) ⟨by decide, rfl⟩ (cx_8o) rfl rfl (Nat.le_of_ble_eq_true rfl) (by first | decide | omega) (by decide) (by omega) (by omega) dX8_readUnit_85 ?_
      refine hB bX8_readUnit_88 _ _ _ _ _ _ _ kX8_readUnit_88 ?_
      dsimp only [bX8_readUnit_88, kx_wp, kx_step, kx_lI, kx_lL, kx_lA, kx_gl, kx_pI, kx_pL, kx_pR, kx_pA, kx_pV, kx_s1, kx_s2, kx_sl, kx_pre, kx_c2, kx_pl, kx_cmp, kx_oF, kx_eqN, kx_nil, kx_c1, kx_ft, kx_aI, kx_aL, kx_aR, kx_ln, Nat.reduceAdd, Option.toList, List.cons_append, List.nil_append, cf8_4, cf8_9, cf9_16, cf8_6]
      repeat (simp only [cx_8w0 hw, cx_8o, cx_83 hw, cx_84 hw, hQ, hs, pk_us, pk_un, ne_eq, Nat.reduceEqDiff, not_false_eq_true, ks_eq, ks_ss]; try dsimp only [kx_wp, kx_step, kx_lI, kx_lL, kx_lA, kx_gl, kx_pI, kx_pL, kx_pR, kx_pA, kx_pV, kx_s1, kx_s2, kx_sl, kx_pre, kx_c2, kx_pl, kx_cmp, kx_oF, kx_eqN, kx_nil, kx_c1, kx_ft, kx_aI, kx_aL, kx_aR, kx_ln, Nat.reduceAdd, Option.toList, List.cons_append, List.nil_append, cf8_4, cf8_9, cf9_16, cf8_6])
      repeat' apply And.intro
      all_goals try (first | with_reducible assumption | (with_reducible refine ck_nzI ?_; simp; done) | (with_reducible refine ck_nzL ?_; simp; done) | (with_reducible refine vp_in_nI ?_ ?_ <;> first | omega | decide) | (with_reducible refine Nat.le_of_ble_eq_true ?_; rfl) | omega | exact Or.inl trivial | exact Or.inr trivial | exact Or.inl rfl | exact Or.inr rfl)
      · intro zc88
        have ze88 := zc88
        refine hB bX8_readUnit_103 _ _ _ _ _ _ _ kX8_readUnit_103 ?_
        dsimp only [bX8_readUnit_103, kx_wp, kx_step, kx_lI, kx_lL, kx_lA, kx_gl, kx_pI, kx_pL, kx_pR, kx_pA, kx_pV, kx_s1, kx_s2, kx_sl, kx_pre, kx_c2, kx_pl, kx_cmp, kx_oF, kx_eqN, kx_nil, kx_c1, kx_ft, kx_aI, kx_aL, kx_aR, kx_ln, Nat.reduceAdd, Option.toList, List.cons_append, List.nil_append, cf8_4, cf8_9, cf9_16, cf8_6]
        repeat (simp only [cx_8w0 hw, cx_8o, cx_83 hw, cx_84 hw, hQ, hs, pk_us, pk_un, ne_eq, Nat.reduceEqDiff, not_false_eq_true, ks_eq, ks_ss]; try dsimp only [kx_wp, kx_step, kx_lI, kx_lL, kx_lA, kx_gl, kx_pI, kx_pL, kx_pR, kx_pA, kx_pV, kx_s1, kx_s2, kx_sl, kx_pre, kx_c2, kx_pl, kx_cmp, kx_oF, kx_eqN, kx_nil, kx_c1, kx_ft, kx_aI, kx_aL, kx_aR, kx_ln, Nat.reduceAdd, Option.toList, List.cons_append, List.nil_append, cf8_4, cf8_9, cf9_16, cf8_6])
        repeat' apply And.intro
        all_goals try (first | with_reducible assumption | (with_reducible refine ck_nzI ?_; simp; done) | (with_reducible refine ck_nzL ?_; simp; done) | (with_reducible refine vp_in_nI ?_ ?_ <;> first | omega | decide) | (with_reducible refine Nat.le_of_ble_eq_true ?_; rfl) | omega | exact Or.inl trivial | exact Or.inr trivial | exact Or.inl rfl | exact Or.inr rfl)
        refine kz_lds hK rfl 14 dX8_readUnit_104 (by decide) rfl ?_
        refine hC.1 96 _ _ _ _ _ _ _ 8 _ _ _ _ _ _ _ _ _ _ _ _ lX8_96 (cx_wi_f (x := .ref w) (F := cx_tw T n (ck_sk T n S.1) F) hT2 (b := ck_sk T n S.1) rfl rfl hle.2 hn 14 (by decide) w1) ⟨by decide, rfl⟩ (cx_8o) rfl rfl (Nat.le_of_ble_eq_true rfl) (by first | decide | omega) (by decide) (by omega) (by omega) dX8_readUnit_106 ?_
        refine hB bX8_readUnit_109 _ _ _ _ _ _ _ kX8_readUnit_109 ?_
        dsimp only [bX8_readUnit_109, kx_wp, kx_step, kx_lI, kx_lL, kx_lA, kx_gl, kx_pI, kx_pL, kx_pR, kx_pA, kx_pV, kx_s1, kx_s2, kx_sl, kx_pre, kx_c2, kx_pl, kx_cmp, kx_oF, kx_eqN, kx_nil, kx_c1, kx_ft, kx_aI, kx_aL, kx_aR, kx_ln, Nat.reduceAdd, Option.toList, List.cons_append, List.nil_append, cf8_4, cf8_9, cf9_16, cf8_6]
        repeat (simp only [cx_8w0 hw, cx_8o, cx_83 hw, cx_84 hw, hQ, hs, pk_us, pk_un, ne_eq, Nat.reduceEqDiff, not_false_eq_true, ks_eq, ks_ss]; try dsimp only [kx_wp, kx_step, kx_lI, kx_lL, kx_lA, kx_gl, kx_pI, kx_pL, kx_pR, kx_pA, kx_pV, kx_s1, kx_s2, kx_sl, kx_pre, kx_c2, kx_pl, kx_cmp, kx_oF, kx_eqN, kx_nil, kx_c1, kx_ft, kx_aI, kx_aL, kx_aR, kx_ln, Nat.reduceAdd, Option.toList, List.cons_append, List.nil_append, cf8_4, cf8_9, cf9_16, cf8_6])
        repeat' apply And.intro
        all_goals try (first | with_reducible assumption | (with_reducible refine ck_nzI ?_; simp; done) | (with_reducible refine ck_nzL ?_; simp; done) | (with_reducible refine vp_in_nI ?_ ?_ <;> first | omega | decide) | (with_reducible refine Nat.le_of_ble_eq_true ?_; rfl) | omega | exact Or.inl trivial | exact Or.inr trivial | exact Or.inl rfl | exact Or.inr rfl)
        · intro zc109
          have ze109 := zc109
          refine hB bX8_readUnit_125 _ _ _ _ _ _ _ kX8_readUnit_125 ?_
          dsimp only [bX8_readUnit_125, kx_wp, kx_step, kx_lI, kx_lL, kx_lA, kx_gl, kx_pI, kx_pL, kx_pR, kx_pA, kx_pV, kx_s1, kx_s2, kx_sl, kx_pre, kx_c2, kx_pl, kx_cmp, kx_oF, kx_eqN, kx_nil, kx_c1, kx_ft, kx_aI, kx_aL, kx_aR, kx_ln, Nat.reduceAdd, Option.toList, List.cons_append, List.nil_append, cf8_4, cf8_9, cf9_16, cf8_6]
          repeat (simp only [cx_8w0 hw, cx_8o, cx_83 hw, cx_84 hw, hQ, hs, pk_us, pk_un, ne_eq, Nat.reduceEqDiff, not_false_eq_true, ks_eq, ks_ss]; try dsimp only [kx_wp, kx_step, kx_lI, kx_lL, kx_lA, kx_gl, kx_pI, kx_pL, kx_pR, kx_pA, kx_pV, kx_s1, kx_s2, kx_sl, kx_pre, kx_c2, kx_pl, kx_cmp, kx_oF, kx_eqN, kx_nil, kx_c1, kx_ft, kx_aI, kx_aL, kx_aR, kx_ln, Nat.reduceAdd, Option.toList, List.cons_append, List.nil_append, cf8_4, cf8_9, cf9_16, cf8_6])
          repeat' apply And.intro
          all_goals try (first | with_reducible assumption | (with_reducible refine ck_nzI ?_; simp; done) | (with_reducible refine ck_nzL ?_; simp; done) | (with_reducible refine vp_in_nI ?_ ?_ <;> first | omega | decide) | (with_reducible refine Nat.le_of_ble_eq_true ?_; rfl) | omega | exact Or.inl trivial | exact Or.inr trivial | exact Or.inl rfl | exact Or.inr rfl)
          refine kz_lds hK rfl 15 dX8_readUnit_126 (by decide) rfl ?_
          refine hC.1 96 _ _ _ _ _ _ _ 8 _ _ _ _ _ _ _ _ _ _ _ _ lX8_96 (cx_wi_f (x := .ref w) (F := cx_tw T n (ck_sk T n S.1) F) hT2 (b := ck_sk T n S.1) rfl rfl hle.2 hn 15 (by decide) w2) ⟨by decide, rfl⟩ (cx_8o) rfl rfl (Nat.le_of_ble_eq_true rfl) (by first | decide | omega) (by decide) (by omega) (by omega) dX8_readUnit_128 ?_
          refine hB bX8_readUnit_131 _ _ _ _ _ _ _ kX8_readUnit_131 ?_
          dsimp only [bX8_readUnit_131, kx_wp, kx_step, kx_lI, kx_lL, kx_lA, kx_gl, kx_pI, kx_pL, kx_pR, kx_pA, kx_pV, kx_s1, kx_s2, kx_sl, kx_pre, kx_c2, kx_pl, kx_cmp, kx_oF, kx_eqN, kx_nil, kx_c1, kx_ft, kx_aI, kx_aL, kx_aR, kx_ln, Nat.reduceAdd, Option.toList, List.cons_append, List.nil_append, cf8_4, cf8_9, cf9_16, cf8_6]
          repeat (simp only [cx_8w0 hw, cx_8o, cx_83 hw, cx_84 hw, hQ, hs, pk_us, pk_un, ne_eq, Nat.reduceEqDiff, not_false_eq_true, ks_eq, ks_ss]; try dsimp only [kx_wp, kx_step, kx_lI, kx_lL, kx_lA, kx_gl, kx_pI, kx_pL, kx_pR, kx_pA, kx_pV, kx_s1, kx_s2, kx_sl, kx_pre, kx_c2, kx_pl, kx_cmp, kx_oF, kx_eqN, kx_nil, kx_c1, kx_ft, kx_aI, kx_aL, kx_aR, kx_ln, Nat.reduceAdd, Option.toList, List.cons_append, List.nil_append, cf8_4, cf8_9, cf9_16, cf8_6])
          repeat' apply And.intro
          all_goals try (first | with_reducible assumption | (with_reducible refine ck_nzI ?_; simp; done) | (with_reducible refine ck_nzL ?_; simp; done) | (with_reducible refine vp_in_nI ?_ ?_ <;> first | omega | decide) | (with_reducible refine Nat.le_of_ble_eq_true ?_; rfl) | omega | exact Or.inl trivial | exact Or.inr trivial | exact Or.inl rfl | exact Or.inr rfl)
          · intro zc131
            have ze131 := zc131
            refine hB bX8_readUnit_147 _ _ _ _ _ _ _ kX8_readUnit_147 ?_
            dsimp only [bX8_readUnit_147, kx_wp, kx_step, kx_lI, kx_lL, kx_lA, kx_gl, kx_pI, kx_pL, kx_pR, kx_pA, kx_pV, kx_s1, kx_s2, kx_sl, kx_pre, kx_c2, kx_pl, kx_cmp, kx_oF, kx_eqN, kx_nil, kx_c1, kx_ft, kx_aI, kx_aL, kx_aR, kx_ln, Nat.reduceAdd, Option.toList, List.cons_append, List.nil_append, cf8_4, cf8_9, cf9_16, cf8_6]
            repeat (simp only [cx_8w0 hw, cx_8o, cx_83 hw, cx_84 hw, hQ, hs, pk_us, pk_un, ne_eq, Nat.reduceEqDiff, not_false_eq_true, ks_eq, ks_ss]; try dsimp only [kx_wp, kx_step, kx_lI, kx_lL, kx_lA, kx_gl, kx_pI, kx_pL, kx_pR, kx_pA, kx_pV, kx_s1, kx_s2, kx_sl, kx_pre, kx_c2, kx_pl, kx_cmp, kx_oF, kx_eqN, kx_nil, kx_c1, kx_ft, kx_aI, kx_aL, kx_aR, kx_ln, Nat.reduceAdd, Option.toList, List.cons_append, List.nil_append, cf8_4, cf8_9, cf9_16, cf8_6])
            repeat' apply And.intro
            all_goals try (first | with_reducible assumption | (with_reducible refine ck_nzI ?_; simp; done) | (with_reducible refine ck_nzL ?_; simp; done) | (with_reducible refine vp_in_nI ?_ ?_ <;> first | omega | decide) | (with_reducible refine Nat.le_of_ble_eq_true ?_; rfl) | omega | exact Or.inl trivial | exact Or.inr trivial | exact Or.inl rfl | exact Or.inr rfl)
            refine kz_lds hK rfl 16 dX8_readUnit_148 (by decide) rfl ?_
            refine hC.1 96 _ _ _ _ _ _ _ 8 _ _ _ _ _ _ _ _ _ _ _ _ lX8_96 (cx_wi_f (x := .ref w) (F := cx_tw T n (ck_sk T n S.1) F) hT2 (b := ck_sk T n S.1) rfl rfl hle.2 hn 16 (by decide) w3) ⟨by decide, rfl⟩ (cx_8o) rfl rfl (Nat.le_of_ble_eq_true rfl) (by first | decide | omega) (by decide) (by omega) (by omega) dX8_readUnit_150 ?_
            refine hB bX8_readUnit_153 _ _ _ _ _ _ _ kX8_readUnit_153 ?_
            dsimp only [bX8_readUnit_153, kx_wp, kx_step, kx_lI, kx_lL, kx_lA, kx_gl, kx_pI, kx_pL, kx_pR, kx_pA, kx_pV, kx_s1, kx_s2, kx_sl, kx_pre, kx_c2, kx_pl, kx_cmp, kx_oF, kx_eqN, kx_nil, kx_c1, kx_ft, kx_aI, kx_aL, kx_aR, kx_ln, Nat.reduceAdd, Option.toList, List.cons_append, List.nil_append, cf8_4, cf8_9, cf9_16, cf8_6]
            repeat (simp only [cx_8w0 hw, cx_8o, cx_83 hw, cx_84 hw, hQ, hs, pk_us, pk_un, ne_eq, Nat.reduceEqDiff, not_false_eq_true, ks_eq, ks_ss]; try dsimp only [kx_wp, kx_step, kx_lI, kx_lL, kx_lA, kx_gl, kx_pI, kx_pL, kx_pR, kx_pA, kx_pV, kx_s1, kx_s2, kx_sl, kx_pre, kx_c2, kx_pl, kx_cmp, kx_oF, kx_eqN, kx_nil, kx_c1, kx_ft, kx_aI, kx_aL, kx_aR, kx_ln, Nat.reduceAdd, Option.toList, List.cons_append, List.nil_append, cf8_4, cf8_9, cf9_16, cf8_6])
            repeat' apply And.intro
            all_goals try (first | with_reducible assumption | (with_reducible refine ck_nzI ?_; simp; done) | (with_reducible refine ck_nzL ?_; simp; done) | (with_reducible refine vp_in_nI ?_ ?_ <;> first | omega | decide) | (with_reducible refine Nat.le_of_ble_eq_true ?_; rfl) | omega | exact Or.inl trivial | exact Or.inr trivial | exact Or.inl rfl | exact Or.inr rfl)
            · intro zc153
              have ze153 := zc153
              refine hB bX8_readUnit_163 _ _ _ _ _ _ _ kX8_readUnit_163 ?_
              dsimp only [bX8_readUnit_163, kx_wp, kx_step, kx_lI, kx_lL, kx_lA, kx_gl, kx_pI, kx_pL, kx_pR, kx_pA, kx_pV, kx_s1, kx_s2, kx_sl, kx_pre, kx_c2, kx_pl, kx_cmp, kx_oF, kx_eqN, kx_nil, kx_c1, kx_ft, kx_aI, kx_aL, kx_aR, kx_ln, Nat.reduceAdd, Option.toList, List.cons_append, List.nil_append, cf8_4, cf8_9, cf9_16, cf8_6]
              repeat (simp only [cx_8w0 hw, cx_8o, cx_83 hw, cx_84 hw, hQ, hs, pk_us, pk_un, ne_eq, Nat.reduceEqDiff, not_false_eq_true, ks_eq, ks_ss]; try dsimp only [kx_wp, kx_step, kx_lI, kx_lL, kx_lA, kx_gl, kx_pI, kx_pL, kx_pR, kx_pA, kx_pV, kx_s1, kx_s2, kx_sl, kx_pre, kx_c2, kx_pl, kx_cmp, kx_oF, kx_eqN, kx_nil, kx_c1, kx_ft, kx_aI, kx_aL, kx_aR, kx_ln, Nat.reduceAdd, Option.toList, List.cons_append, List.nil_append, cf8_4, cf8_9, cf9_16, cf8_6])
              repeat' apply And.intro
              all_goals try (first | with_reducible assumption | (with_reducible refine ck_nzI ?_; simp; done) | (with_reducible refine ck_nzL ?_; simp; done) | (with_reducible refine vp_in_nI ?_ ?_ <;> first | omega | decide) | (with_reducible refine Nat.le_of_ble_eq_true ?_; rfl) | omega | exact Or.inl trivial | exact Or.inr trivial | exact Or.inl rfl | exact Or.inr rfl)
              refine hC.1 58 _ _ _ _ _ _ _ 8 _ _ _ _ _ _ _ _ _ _ _ _ lX8_58 (ct_X8_refuse l G) ⟨by decide, rfl⟩ (cx_8o) rfl rfl (Nat.le_of_ble_eq_true rfl) (by first | decide | omega) (by decide) (by omega) (by omega) dX8_readUnit_169 ?_
              refine hB bX8_readUnit_172 _ _ _ _ _ _ _ kX8_readUnit_172 ?_
              dsimp only [bX8_readUnit_172, kx_wp, kx_step, kx_lI, kx_lL, kx_lA, kx_gl, kx_pI, kx_pL, kx_pR, kx_pA, kx_pV, kx_s1, kx_s2, kx_sl, kx_pre, kx_c2, kx_pl, kx_cmp, kx_oF, kx_eqN, kx_nil, kx_c1, kx_ft, kx_aI, kx_aL, kx_aR, kx_ln, Nat.reduceAdd, Option.toList, List.cons_append, List.nil_append, cf8_4, cf8_9, cf9_16, cf8_6]
              repeat (simp only [cx_8w0 hw, cx_8o, cx_83 hw, cx_84 hw, hQ, hs, pk_us, pk_un, ne_eq, Nat.reduceEqDiff, not_false_eq_true, ks_eq, ks_ss]; try dsimp only [kx_wp, kx_step, kx_lI, kx_lL, kx_lA, kx_gl, kx_pI, kx_pL, kx_pR, kx_pA, kx_pV, kx_s1, kx_s2, kx_sl, kx_pre, kx_c2, kx_pl, kx_cmp, kx_oF, kx_eqN, kx_nil, kx_c1, kx_ft, kx_aI, kx_aL, kx_aR, kx_ln, Nat.reduceAdd, Option.toList, List.cons_append, List.nil_append, cf8_4, cf8_9, cf9_16, cf8_6])
              all_goals (repeat' apply And.intro)
              all_goals ((try clear hB hC); first | exact True.intro | rfl | exact cx_PE.f (ck_m1 _ (by omega)) (cx_rf_X he2.2.2.2.1 (by decide) _ _))
            · intro zc153
              first | exact absurd rfl zc153 | exact absurd zc153 (by decide) | exact absurd (by decide) zc153 | (exfalso; ((try clear hB hC); simp only [ck_lt, ck_le, ck_eq, not_true_eq_false, not_false_eq_true, Int32.reduceToInt, Int32.reduceAdd, Int32.reduceSub, Int32.reduceMul] at * <;> omega)) | (exfalso; simp_all; done)
          · intro zc131
            first | exact absurd rfl zc131 | exact absurd zc131 (by decide) | exact absurd (by decide) zc131 | (exfalso; ((try clear hB hC); simp only [ck_lt, ck_le, ck_eq, not_true_eq_false, not_false_eq_true, Int32.reduceToInt, Int32.reduceAdd, Int32.reduceSub, Int32.reduceMul] at * <;> omega)) | (exfalso; simp_all; done)
        · intro zc109
          first | exact absurd rfl zc109 | exact absurd zc109 (by decide) | exact absurd (by decide) zc109 | (exfalso; ((try clear hB hC); simp only [ck_lt, ck_le, ck_eq, not_true_eq_false, not_false_eq_true, Int32.reduceToInt, Int32.reduceAdd, Int32.reduceSub, Int32.reduceMul] at * <;> omega)) | (exfalso; simp_all; done)
      · intro zc88
        first | exact absurd rfl zc88 | exact absurd zc88 (by decide) | exact absurd (by decide) zc88 | (exfalso; ((try clear hB hC); simp only [ck_lt, ck_le, ck_eq, not_true_eq_false, not_false_eq_true, Int32.reduceToInt, Int32.reduceAdd, Int32.reduceSub, Int32.reduceMul] at * <;> omega)) | (exfalso; simp_all; done)
    · intro zc48
      first | exact absurd rfl zc48 | exact absurd zc48 (by decide) | exact absurd (by decide) zc48 | (exfalso; ((try clear hB hC); simp only [ck_lt, ck_le, ck_eq, not_true_eq_false, not_false_eq_true, Int32.reduceToInt, Int32.reduceAdd, Int32.reduceSub, Int32.reduceMul] at * <;> omega)) | (exfalso; simp_all; done)
  · intro zc4
    first | exact absurd rfl zc4 | exact absurd zc4 (by decide) | exact absurd (by decide) zc4 | (exfalso; ((try clear hB hC); simp only [ck_lt, ck_le, ck_eq, not_true_eq_false, not_false_eq_true, Int32.reduceToInt, Int32.reduceAdd, Int32.reduceSub, Int32.reduceMul] at * <;> omega)) | (exfalso; simp_all; done)


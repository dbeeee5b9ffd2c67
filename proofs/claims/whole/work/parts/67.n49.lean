/-- a row put into another from b on -/
def ck_put (f g : Nat → Int32) (b n : Nat) : Nat → Int32 := fun j => if b ≤ j ∧ j < b + n then g (j - b) else f j
theorem ck_put_0 (f g : Nat → Int32) (b : Nat) : ck_put f g b 0 = f := by funext j; unfold ck_put; rw [if_neg (by omega)]
theorem ck_put_s (f g : Nat → Int32) (b n : Nat) : upd (ck_put f g b n) (b + n) (g n) = ck_put f g b (n + 1) := by
  funext j
  unfold upd ck_put
  by_cases h : j = b + n
  · rw [if_pos h, if_pos (by omega), show j - b = n by omega]
  · rw [if_neg h]
    by_cases h2 : b ≤ j ∧ j < b + n
    · rw [if_pos h2, if_pos (by omega)]
    · rw [if_neg h2, if_neg (by omega)]
def ck_tk (A : Nat → Nat → Int32) (c w cd : Nat) (h : Int32) : Nat → Nat → Int32 :=
  va_up (va_up (va_up (va_up (va_up (va_up (va_up A 102 (ck_put (A 102) (A 96) (16 * c) 16)) 117 (upd (A 117) c h)) 103 (upd (A 103) c (nI w))) 104 (ck_put (A 104) (A 99) (24 * c) w)) 105 (upd (A 105) c (nI cd))) 106 (ck_put (A 106) (A 97) (400 * c) cd)) 107 (ck_put (A 107) (A 98) (400 * c) cd)
def bX11_takes_0 : List kx_O := [(.iconst 0, 0, 0, 0, .int 0), (.istore_n 2, 2, 0, 0, .null)]
theorem kX11_takes_0 : kx_oks kxL_X11 false cX11_takes 0 bX11_takes_0 = true := by decide +kernel
def bX11_takes_2 : List kx_O := [(.iload_n 2, 2, 0, 0, .null), (.bipush 16, 0, 0, 0, .int 16), (.if_icmp .ge 26, 31, 0, 0, .null)]
theorem kX11_takes_2 : kx_oks kxL_X11 false cX11_takes 2 bX11_takes_2 = true := by decide +kernel
def bX11_takes_8 : List kx_O := [(.aload_n 0, 0, 0, 0, .null), (.getfield 41, 11, 25, 0, .null), (.bipush 16, 0, 0, 0, .int 16), (.iload_n 1, 1, 0, 0, .null), (.imul, 0, 0, 0, .null), (.iload_n 2, 2, 0, 0, .null), (.iadd, 0, 0, 0, .null), (.aload_n 0, 0, 0, 0, .null), (.getfield 23, 11, 17, 0, .null), (.iload_n 2, 2, 0, 0, .null), (.iaload, 0, 0, 0, .null), (.iastore, 0, 0, 0, .null), (.iinc 2 1, 2, 0, 0, .int 1), (.goto (-26), 2, 0, 0, .null)]
theorem kX11_takes_8 : kx_oks kxL_X11 false cX11_takes 8 bX11_takes_8 = true := by decide +kernel
def bX11_takes_31 : List kx_O := [(.aload_n 0, 0, 0, 0, .null), (.getfield 87, 11, 40, 0, .null), (.iload_n 1, 1, 0, 0, .null), (.aload_n 0, 0, 0, 0, .null), (.getfield 278, 11, 15, 0, .null), (.bastore, 0, 0, 0, .null), (.aload_n 0, 0, 0, 0, .null), (.getfield 44, 11, 26, 0, .null), (.iload_n 1, 1, 0, 0, .null), (.aload_n 0, 0, 0, 0, .null), (.getfield 281, 11, 13, 0, .null), (.iastore, 0, 0, 0, .null), (.iconst 0, 0, 0, 0, .int 0), (.istore_n 2, 2, 0, 0, .null)]
theorem kX11_takes_31 : kx_oks kxL_X11 false cX11_takes 31 bX11_takes_31 = true := by decide +kernel
def bX11_takes_53 : List kx_O := [(.iload_n 2, 2, 0, 0, .null), (.aload_n 0, 0, 0, 0, .null), (.getfield 281, 11, 13, 0, .null), (.if_icmp .ge 26, 84, 0, 0, .null)]
theorem kX11_takes_53 : kx_oks kxL_X11 false cX11_takes 53 bX11_takes_53 = true := by decide +kernel
def bX11_takes_61 : List kx_O := [(.aload_n 0, 0, 0, 0, .null), (.getfield 47, 11, 27, 0, .null), (.bipush 24, 0, 0, 0, .int 24), (.iload_n 1, 1, 0, 0, .null), (.imul, 0, 0, 0, .null), (.iload_n 2, 2, 0, 0, .null), (.iadd, 0, 0, 0, .null), (.aload_n 0, 0, 0, 0, .null), (.getfield 32, 11, 20, 0, .null), (.iload_n 2, 2, 0, 0, .null), (.iaload, 0, 0, 0, .null), (.iastore, 0, 0, 0, .null), (.iinc 2 1, 2, 0, 0, .int 1), (.goto (-28), 53, 0, 0, .null)]
theorem kX11_takes_61 : kx_oks kxL_X11 false cX11_takes 61 bX11_takes_61 = true := by decide +kernel
def bX11_takes_84 : List kx_O := [(.aload_n 0, 0, 0, 0, .null), (.getfield 50, 11, 28, 0, .null), (.iload_n 1, 1, 0, 0, .null), (.aload_n 0, 0, 0, 0, .null), (.getfield 228, 11, 12, 0, .null), (.iastore, 0, 0, 0, .null), (.iconst 0, 0, 0, 0, .int 0), (.istore_n 2, 2, 0, 0, .null)]
theorem kX11_takes_84 : kx_oks kxL_X11 false cX11_takes 84 bX11_takes_84 = true := by decide +kernel
def bX11_takes_96 : List kx_O := [(.iload_n 2, 2, 0, 0, .null), (.aload_n 0, 0, 0, 0, .null), (.getfield 228, 11, 12, 0, .null), (.if_icmp .ge 45, 146, 0, 0, .null)]
theorem kX11_takes_96 : kx_oks kxL_X11 false cX11_takes 96 bX11_takes_96 = true := by decide +kernel
def bX11_takes_104 : List kx_O := [(.aload_n 0, 0, 0, 0, .null), (.getfield 53, 11, 29, 0, .null), (.sipush 400, 0, 0, 0, .int 400), (.iload_n 1, 1, 0, 0, .null), (.imul, 0, 0, 0, .null), (.iload_n 2, 2, 0, 0, .null), (.iadd, 0, 0, 0, .null), (.aload_n 0, 0, 0, 0, .null), (.getfield 26, 11, 18, 0, .null), (.iload_n 2, 2, 0, 0, .null), (.iaload, 0, 0, 0, .null), (.iastore, 0, 0, 0, .null), (.aload_n 0, 0, 0, 0, .null), (.getfield 56, 11, 30, 0, .null), (.sipush 400, 0, 0, 0, .int 400), (.iload_n 1, 1, 0, 0, .null), (.imul, 0, 0, 0, .null), (.iload_n 2, 2, 0, 0, .null), (.iadd, 0, 0, 0, .null), (.aload_n 0, 0, 0, 0, .null), (.getfield 29, 11, 19, 0, .null), (.iload_n 2, 2, 0, 0, .null), (.iaload, 0, 0, 0, .null), (.iastore, 0, 0, 0, .null), (.iinc 2 1, 2, 0, 0, .int 1), (.goto (-47), 96, 0, 0, .null)]
theorem kX11_takes_104 : kx_oks kxL_X11 false cX11_takes 104 bX11_takes_104 = true := by decide +kernel
def bX11_takes_146 : List kx_O := [(.return_, 0, 0, 0, .null)]
theorem kX11_takes_146 : kx_oks kxL_X11 false cX11_takes 146 bX11_takes_146 = true := by decide +kernel
set_option maxRecDepth 100000 in
set_option maxHeartbeats 4000000 in
theorem ct_X11_takes (l : Launch) (G : kx_G) {M : Nat → Int32} {A : Nat → Nat → Int32} {L : Nat → Nat → Int64} {R : kx_P} {sz : Nat} {c w cd : Nat} {h : Int32} (hc : c < 8) (h13 : M 13 = nI w) (hw : w ≤ 24) (h12 : M 12 = nI cd) (hcd : cd ≤ 400) (h15 : M 15 = h) (hh : h = 0 ∨ h = 1)  : kx_M l G sX11_takes 1 0 0 [.ref 93, .int (nI c)] (mW M A L R) sz none (mW M (ck_tk A c w cd h) L R) sz := by
  have zh : vp_nar .boolean h = h := by rcases hh with rfl | rfl <;> first | rfl | decide
  refine kx_mk kx_tab kxLok_X11 (ini := false) [some (.ref 93), some (.int (nI c)), none] ⟨by decide, rfl, by decide, by decide⟩ (rfl) rfl rfl (fun g hB hC => ?_)
  have j146 : ∀ x2, g 146 [some (.ref 93), some (.int (nI c)), x2] [] (mW M (ck_tk A c w cd h) L R) sz 0 0 := by
    intro x2
    refine hB bX11_takes_146 _ _ _ _ _ _ _ kX11_takes_146 ?_
    dsimp only [bX11_takes_146, kx_wp, kx_step, kx_lI, kx_lL, kx_lA, kx_gl, kx_pI, kx_pL, kx_pR, kx_pA, kx_pV, kx_s1, kx_s2, kx_sl, kx_pre, kx_c2, kx_pl, kx_cmp, kx_oF, kx_eqN, kx_nil, kx_c1, kx_ft, kx_aI, kx_aL, kx_aR, kx_ln, Nat.reduceAdd, Option.toList, List.cons_append, List.nil_append, mW_o, mf_25, m_102, mf_17, m_96, mf_40, m_117, mf_15, mf_26, m_103, mf_13, mf_27, m_104, mf_20, m_99, mf_28, m_105, mf_12, mf_29, m_106, mf_18, m_97, mf_30, m_107, mf_19, m_98]
    repeat (simp only [ms_102, ms_96, ms_117, ms_103, ms_104, ms_99, ms_105, ms_106, ms_97, ms_107, ms_98, zh, h12, h13, h15, nI_1, ck_its, ck_i24, ck_i2, ck_i400, nI_add, va_us, va_upn, ne_eq, Nat.reduceEqDiff, not_false_eq_true, va_upup, va_up3, ck_put_s, nI_clamp (show c < 2 ^ 31 by omega)]; try dsimp only [kx_wp, kx_step, kx_lI, kx_lL, kx_lA, kx_gl, kx_pI, kx_pL, kx_pR, kx_pA, kx_pV, kx_s1, kx_s2, kx_sl, kx_pre, kx_c2, kx_pl, kx_cmp, kx_oF, kx_eqN, kx_nil, kx_c1, kx_ft, kx_aI, kx_aL, kx_aR, kx_ln, Nat.reduceAdd, Option.toList, List.cons_append, List.nil_append, mW_o, mf_25, m_102, mf_17, m_96, mf_40, m_117, mf_15, mf_26, m_103, mf_13, mf_27, m_104, mf_20, m_99, mf_28, m_105, mf_12, mf_29, m_106, mf_18, m_97, mf_30, m_107, mf_19, m_98])
    all_goals (repeat' apply And.intro)
    all_goals ((try clear hB hC); first | exact True.intro | with_reducible rfl | exact Nat.le_of_ble_eq_true rfl | rfl)
  have loop96 : ∀ (n9 i : Nat), i + n9 = cd → g 96 [some (.ref 93), some (.int (nI c)), some (.int (nI i))] [] (mW M (va_up (va_up (va_up (va_up (va_up (va_up (va_up A 102 (ck_put (A 102) (A 96) (16 * c) 16)) 117 (upd (A 117) c h)) 103 (upd (A 103) c (nI w))) 104 (ck_put (A 104) (A 99) (24 * c) w)) 105 (upd (A 105) c (nI cd))) 106 (ck_put (A 106) (A 97) (400 * c) i)) 107 (ck_put (A 107) (A 98) (400 * c) i)) L R) sz 0 0 := by
    intro n9
    induction n9 with
    | zero =>
      intro i hi
      obtain rfl : cd = i := by omega
      refine hB bX11_takes_96 _ _ _ _ _ _ _ kX11_takes_96 ?_
      dsimp only [bX11_takes_96, kx_wp, kx_step, kx_lI, kx_lL, kx_lA, kx_gl, kx_pI, kx_pL, kx_pR, kx_pA, kx_pV, kx_s1, kx_s2, kx_sl, kx_pre, kx_c2, kx_pl, kx_cmp, kx_oF, kx_eqN, kx_nil, kx_c1, kx_ft, kx_aI, kx_aL, kx_aR, kx_ln, Nat.reduceAdd, Option.toList, List.cons_append, List.nil_append, mW_o, mf_25, m_102, mf_17, m_96, mf_40, m_117, mf_15, mf_26, m_103, mf_13, mf_27, m_104, mf_20, m_99, mf_28, m_105, mf_12, mf_29, m_106, mf_18, m_97, mf_30, m_107, mf_19, m_98]
      repeat (simp only [ms_102, ms_96, ms_117, ms_103, ms_104, ms_99, ms_105, ms_106, ms_97, ms_107, ms_98, zh, h12, h13, h15, nI_1, ck_its, ck_i24, ck_i2, ck_i400, nI_add, va_us, va_upn, ne_eq, Nat.reduceEqDiff, not_false_eq_true, va_upup, va_up3, ck_put_s, nI_clamp (show c < 2 ^ 31 by omega)]; try dsimp only [kx_wp, kx_step, kx_lI, kx_lL, kx_lA, kx_gl, kx_pI, kx_pL, kx_pR, kx_pA, kx_pV, kx_s1, kx_s2, kx_sl, kx_pre, kx_c2, kx_pl, kx_cmp, kx_oF, kx_eqN, kx_nil, kx_c1, kx_ft, kx_aI, kx_aL, kx_aR, kx_ln, Nat.reduceAdd, Option.toList, List.cons_append, List.nil_append, mW_o, mf_25, m_102, mf_17, m_96, mf_40, m_117, mf_15, mf_26, m_103, mf_13, mf_27, m_104, mf_20, m_99, mf_28, m_105, mf_12, mf_29, m_106, mf_18, m_97, mf_30, m_107, mf_19, m_98])
      repeat' apply And.intro
      all_goals try (first | with_reducible assumption | (with_reducible refine ck_nzI ?_; simp; done) | (with_reducible refine ck_nzL ?_; simp; done) | (with_reducible refine vp_in_nI ?_ ?_ <;> first | omega | decide) | (with_reducible refine Nat.le_of_ble_eq_true ?_; rfl) | omega | exact hh)
      · intro zc101
        with_reducible first | have ze101 := Int32.not_lt.mpr zc101 | have ze101 := zc101
        all_goals exact j146 _
      · intro zc101
        first | exact absurd rfl zc101 | exact absurd zc101 (by decide) | exact absurd (by decide) zc101 | (exfalso; first | exact absurd ((nI_leI (a := cd) (by omega) (by omega)).mp zc101) (by omega) | exact zc101 (Int32.le_refl _) | exact zc101 (by decide)) | (exfalso; simp_all; done)
    | succ n9 ih =>
      intro i hi
      refine hB bX11_takes_96 _ _ _ _ _ _ _ kX11_takes_96 ?_
      dsimp only [bX11_takes_96, kx_wp, kx_step, kx_lI, kx_lL, kx_lA, kx_gl, kx_pI, kx_pL, kx_pR, kx_pA, kx_pV, kx_s1, kx_s2, kx_sl, kx_pre, kx_c2, kx_pl, kx_cmp, kx_oF, kx_eqN, kx_nil, kx_c1, kx_ft, kx_aI, kx_aL, kx_aR, kx_ln, Nat.reduceAdd, Option.toList, List.cons_append, List.nil_append, mW_o, mf_25, m_102, mf_17, m_96, mf_40, m_117, mf_15, mf_26, m_103, mf_13, mf_27, m_104, mf_20, m_99, mf_28, m_105, mf_12, mf_29, m_106, mf_18, m_97, mf_30, m_107, mf_19, m_98]
      repeat (simp only [ms_102, ms_96, ms_117, ms_103, ms_104, ms_99, ms_105, ms_106, ms_97, ms_107, ms_98, zh, h12, h13, h15, nI_1, ck_its, ck_i24, ck_i2, ck_i400, nI_add, va_us, va_upn, ne_eq, Nat.reduceEqDiff, not_false_eq_true, va_upup, va_up3, ck_put_s, nI_clamp (show c < 2 ^ 31 by omega), nI_clamp (show i < 2 ^ 31 by omega), nI_clamp (show 400 * c + i < 2 ^ 31 by omega)]; try dsimp only [kx_wp, kx_step, kx_lI, kx_lL, kx_lA, kx_gl, kx_pI, kx_pL, kx_pR, kx_pA, kx_pV, kx_s1, kx_s2, kx_sl, kx_pre, kx_c2, kx_pl, kx_cmp, kx_oF, kx_eqN, kx_nil, kx_c1, kx_ft, kx_aI, kx_aL, kx_aR, kx_ln, Nat.reduceAdd, Option.toList, List.cons_append, List.nil_append, mW_o, mf_25, m_102, mf_17, m_96, mf_40, m_117, mf_15, mf_26, m_103, mf_13, mf_27, m_104, mf_20, m_99, mf_28, m_105, mf_12, mf_29, m_106, mf_18, m_97, mf_30, m_107, mf_19, m_98])
      repeat' apply And.intro
      all_goals try (first | with_reducible assumption | (with_reducible refine ck_nzI ?_; simp; done) | (with_reducible refine ck_nzL ?_; simp; done) | (with_reducible refine vp_in_nI ?_ ?_ <;> first | omega | decide) | (with_reducible refine Nat.le_of_ble_eq_true ?_; rfl) | omega | exact hh)
      · intro zc101
        first | exact absurd rfl zc101 | exact absurd zc101 (by decide) | exact absurd (by decide) zc101 | (exfalso; first | exact absurd ((nI_leI (a := cd) (by omega) (by omega)).mp zc101) (by omega) | exact zc101 (Int32.le_refl _) | exact zc101 (by decide)) | (exfalso; simp_all; done)
      · intro zc101
        with_reducible first | have ze101 := Int32.not_le.mp zc101 | have ze101 := zc101
        refine hB bX11_takes_104 _ _ _ _ _ _ _ kX11_takes_104 ?_
        dsimp only [bX11_takes_104, kx_wp, kx_step, kx_lI, kx_lL, kx_lA, kx_gl, kx_pI, kx_pL, kx_pR, kx_pA, kx_pV, kx_s1, kx_s2, kx_sl, kx_pre, kx_c2, kx_pl, kx_cmp, kx_oF, kx_eqN, kx_nil, kx_c1, kx_ft, kx_aI, kx_aL, kx_aR, kx_ln, Nat.reduceAdd, Option.toList, List.cons_append, List.nil_append, mW_o, mf_25, m_102, mf_17, m_96, mf_40, m_117, mf_15, mf_26, m_103, mf_13, mf_27, m_104, mf_20, m_99, mf_28, m_105, mf_12, mf_29, m_106, mf_18, m_97, mf_30, m_107, mf_19, m_98]
        repeat (simp only [ms_102, ms_96, ms_117, ms_103, ms_104, ms_99, ms_105, ms_106, ms_97, ms_107, ms_98, zh, h12, h13, h15, nI_1, ck_its, ck_i24, ck_i2, ck_i400, nI_add, va_us, va_upn, ne_eq, Nat.reduceEqDiff, not_false_eq_true, va_upup, va_up3, ck_put_s, nI_clamp (show c < 2 ^ 31 by omega), nI_clamp (show i < 2 ^ 31 by omega), nI_clamp (show 400 * c + i < 2 ^ 31 by omega)]; try dsimp only [kx_wp, kx_step, kx_lI, kx_lL, kx_lA, kx_gl, kx_pI, kx_pL, kx_pR, kx_pA, kx_pV, kx_s1, kx_s2, kx_sl, kx_pre, kx_c2, kx_pl, kx_cmp, kx_oF, kx_eqN, kx_nil, kx_c1, kx_ft, kx_aI, kx_aL, kx_aR, kx_ln, Nat.reduceAdd, Option.toList, List.cons_append, List.nil_append, mW_o, mf_25, m_102, mf_17, m_96, mf_40, m_117, mf_15, mf_26, m_103, mf_13, mf_27, m_104, mf_20, m_99, mf_28, m_105, mf_12, mf_29, m_106, mf_18, m_97, mf_30, m_107, mf_19, m_98])
        repeat' apply And.intro
        all_goals try (first | with_reducible assumption | (with_reducible refine ck_nzI ?_; simp; done) | (with_reducible refine ck_nzL ?_; simp; done) | (with_reducible refine vp_in_nI ?_ ?_ <;> first | omega | decide) | (with_reducible refine Nat.le_of_ble_eq_true ?_; rfl) | omega | exact hh)
        all_goals exact ih (i + 1) (by omega)
  have j84 : ∀ x2, g 84 [some (.ref 93), some (.int (nI c)), x2] [] (mW M (va_up (va_up (va_up (va_up A 102 (ck_put (A 102) (A 96) (16 * c) 16)) 117 (upd (A 117) c h)) 103 (upd (A 103) c (nI w))) 104 (ck_put (A 104) (A 99) (24 * c) w)) L R) sz 0 0 := by
    intro x2
    refine hB bX11_takes_84 _ _ _ _ _ _ _ kX11_takes_84 ?_
    dsimp only [bX11_takes_84, kx_wp, kx_step, kx_lI, kx_lL, kx_lA, kx_gl, kx_pI, kx_pL, kx_pR, kx_pA, kx_pV, kx_s1, kx_s2, kx_sl, kx_pre, kx_c2, kx_pl, kx_cmp, kx_oF, kx_eqN, kx_nil, kx_c1, kx_ft, kx_aI, kx_aL, kx_aR, kx_ln, Nat.reduceAdd, Option.toList, List.cons_append, List.nil_append, mW_o, mf_25, m_102, mf_17, m_96, mf_40, m_117, mf_15, mf_26, m_103, mf_13, mf_27, m_104, mf_20, m_99, mf_28, m_105, mf_12, mf_29, m_106, mf_18, m_97, mf_30, m_107, mf_19, m_98]
    repeat (simp only [ms_102, ms_96, ms_117, ms_103, ms_104, ms_99, ms_105, ms_106, ms_97, ms_107, ms_98, zh, h12, h13, h15, nI_1, ck_its, ck_i24, ck_i2, ck_i400, nI_add, va_us, va_upn, ne_eq, Nat.reduceEqDiff, not_false_eq_true, va_upup, va_up3, ck_put_s, nI_clamp (show c < 2 ^ 31 by omega)]; try dsimp only [kx_wp, kx_step, kx_lI, kx_lL, kx_lA, kx_gl, kx_pI, kx_pL, kx_pR, kx_pA, kx_pV, kx_s1, kx_s2, kx_sl, kx_pre, kx_c2, kx_pl, kx_cmp, kx_oF, kx_eqN, kx_nil, kx_c1, kx_ft, kx_aI, kx_aL, kx_aR, kx_ln, Nat.reduceAdd, Option.toList, List.cons_append, List.nil_append, mW_o, mf_25, m_102, mf_17, m_96, mf_40, m_117, mf_15, mf_26, m_103, mf_13, mf_27, m_104, mf_20, m_99, mf_28, m_105, mf_12, mf_29, m_106, mf_18, m_97, mf_30, m_107, mf_19, m_98])
    repeat' apply And.intro
    all_goals try (first | with_reducible assumption | (with_reducible refine ck_nzI ?_; simp; done) | (with_reducible refine ck_nzL ?_; simp; done) | (with_reducible refine vp_in_nI ?_ ?_ <;> first | omega | decide) | (with_reducible refine Nat.le_of_ble_eq_true ?_; rfl) | omega | exact hh)
    have ze := loop96 cd 0 (by omega)
    rw [ck_put_0, ck_put_0, show va_up (va_up (va_up (va_up (va_up (va_up (va_up A 102 (ck_put (A 102) (A 96) (16 * c) 16)) 117 (upd (A 117) c h)) 103 (upd (A 103) c (nI w))) 104 (ck_put (A 104) (A 99) (24 * c) w)) 105 (upd (A 105) c (nI cd))) 106 (A 106)) 107 (A 107) = (va_up (va_up (va_up (va_up (va_up A 102 (ck_put (A 102) (A 96) (16 * c) 16)) 117 (upd (A 117) c h)) 103 (upd (A 103) c (nI w))) 104 (ck_put (A 104) (A 99) (24 * c) w)) 105 (upd (A 105) c (nI cd))) from (congrArg (fun z => va_up z 107 (A 107)) (va_upself (f := (va_up (va_up (va_up (va_up (va_up A 102 (ck_put (A 102) (A 96) (16 * c) 16)) 117 (upd (A 117) c h)) 103 (upd (A 103) c (nI w))) 104 (ck_put (A 104) (A 99) (24 * c) w)) 105 (upd (A 105) c (nI cd)))) (k := 106))).trans (va_upself (f := (va_up (va_up (va_up (va_up (va_up A 102 (ck_put (A 102) (A 96) (16 * c) 16)) 117 (upd (A 117) c h)) 103 (upd (A 103) c (nI w))) 104 (ck_put (A 104) (A 99) (24 * c) w)) 105 (upd (A 105) c (nI cd)))) (k := 107))] at ze
    exact ze
  have loop53 : ∀ (n9 i : Nat), i + n9 = w → g 53 [some (.ref 93), some (.int (nI c)), some (.int (nI i))] [] (mW M (va_up (va_up (va_up (va_up A 102 (ck_put (A 102) (A 96) (16 * c) 16)) 117 (upd (A 117) c h)) 103 (upd (A 103) c (nI w))) 104 (ck_put (A 104) (A 99) (24 * c) i)) L R) sz 0 0 := by
    intro n9
    induction n9 with
    | zero =>
      intro i hi
      obtain rfl : w = i := by omega
      refine hB bX11_takes_53 _ _ _ _ _ _ _ kX11_takes_53 ?_
      dsimp only [bX11_takes_53, kx_wp, kx_step, kx_lI, kx_lL, kx_lA, kx_gl, kx_pI, kx_pL, kx_pR, kx_pA, kx_pV, kx_s1, kx_s2, kx_sl, kx_pre, kx_c2, kx_pl, kx_cmp, kx_oF, kx_eqN, kx_nil, kx_c1, kx_ft, kx_aI, kx_aL, kx_aR, kx_ln, Nat.reduceAdd, Option.toList, List.cons_append, List.nil_append, mW_o, mf_25, m_102, mf_17, m_96, mf_40, m_117, mf_15, mf_26, m_103, mf_13, mf_27, m_104, mf_20, m_99, mf_28, m_105, mf_12, mf_29, m_106, mf_18, m_97, mf_30, m_107, mf_19, m_98]
      repeat (simp only [ms_102, ms_96, ms_117, ms_103, ms_104, ms_99, ms_105, ms_106, ms_97, ms_107, ms_98, zh, h12, h13, h15, nI_1, ck_its, ck_i24, ck_i2, ck_i400, nI_add, va_us, va_upn, ne_eq, Nat.reduceEqDiff, not_false_eq_true, va_upup, va_up3, ck_put_s, nI_clamp (show c < 2 ^ 31 by omega)]; try dsimp only [kx_wp, kx_step, kx_lI, kx_lL, kx_lA, kx_gl, kx_pI, kx_pL, kx_pR, kx_pA, kx_pV, kx_s1, kx_s2, kx_sl, kx_pre, kx_c2, kx_pl, kx_cmp, kx_oF, kx_eqN, kx_nil, kx_c1, kx_ft, kx_aI, kx_aL, kx_aR, kx_ln, Nat.reduceAdd, Option.toList, List.cons_append, List.nil_append, mW_o, mf_25, m_102, mf_17, m_96, mf_40, m_117, mf_15, mf_26, m_103, mf_13, mf_27, m_104, mf_20, m_99, mf_28, m_105, mf_12, mf_29, m_106, mf_18, m_97, mf_30, m_107, mf_19, m_98])
      repeat' apply And.intro
      all_goals try (first | with_reducible assumption | (with_reducible refine ck_nzI ?_; simp; done) | (with_reducible refine ck_nzL ?_; simp; done) | (with_reducible refine vp_in_nI ?_ ?_ <;> first | omega | decide) | (with_reducible refine Nat.le_of_ble_eq_true ?_; rfl) | omega | exact hh)
      · intro zc58
        with_reducible first | have ze58 := Int32.not_lt.mpr zc58 | have ze58 := zc58
        all_goals exact j84 _
      · intro zc58
        first | exact absurd rfl zc58 | exact absurd zc58 (by decide) | exact absurd (by decide) zc58 | (exfalso; first | exact absurd ((nI_leI (a := w) (by omega) (by omega)).mp zc58) (by omega) | exact zc58 (Int32.le_refl _) | exact zc58 (by decide)) | (exfalso; simp_all; done)
    | succ n9 ih =>
      intro i hi
      refine hB bX11_takes_53 _ _ _ _ _ _ _ kX11_takes_53 ?_
      dsimp only [bX11_takes_53, kx_wp, kx_step, kx_lI, kx_lL, kx_lA, kx_gl, kx_pI, kx_pL, kx_pR, kx_pA, kx_pV, kx_s1, kx_s2, kx_sl, kx_pre, kx_c2, kx_pl, kx_cmp, kx_oF, kx_eqN, kx_nil, kx_c1, kx_ft, kx_aI, kx_aL, kx_aR, kx_ln, Nat.reduceAdd, Option.toList, List.cons_append, List.nil_append, mW_o, mf_25, m_102, mf_17, m_96, mf_40, m_117, mf_15, mf_26, m_103, mf_13, mf_27, m_104, mf_20, m_99, mf_28, m_105, mf_12, mf_29, m_106, mf_18, m_97, mf_30, m_107, mf_19, m_98]
      repeat (simp only [ms_102, ms_96, ms_117, ms_103, ms_104, ms_99, ms_105, ms_106, ms_97, ms_107, ms_98, zh, h12, h13, h15, nI_1, ck_its, ck_i24, ck_i2, ck_i400, nI_add, va_us, va_upn, ne_eq, Nat.reduceEqDiff, not_false_eq_true, va_upup, va_up3, ck_put_s, nI_clamp (show c < 2 ^ 31 by omega), nI_clamp (show i < 2 ^ 31 by omega), nI_clamp (show 24 * c + i < 2 ^ 31 by omega)]; try dsimp only [kx_wp, kx_step, kx_lI, kx_lL, kx_lA, kx_gl, kx_pI, kx_pL, kx_pR, kx_pA, kx_pV, kx_s1, kx_s2, kx_sl, kx_pre, kx_c2, kx_pl, kx_cmp, kx_oF, kx_eqN, kx_nil, kx_c1, kx_ft, kx_aI, kx_aL, kx_aR, kx_ln, Nat.reduceAdd, Option.toList, List.cons_append, List.nil_append, mW_o, mf_25, m_102, mf_17, m_96, mf_40, m_117, mf_15, mf_26, m_103, mf_13, mf_27, m_104, mf_20, m_99, mf_28, m_105, mf_12, mf_29, m_106, mf_18, m_97, mf_30, m_107, mf_19, m_98])
      repeat' apply And.intro
      all_goals try (first | with_reducible assumption | (with_reducible refine ck_nzI ?_; simp; done) | (with_reducible refine ck_nzL ?_; simp; done) | (with_reducible refine vp_in_nI ?_ ?_ <;> first | omega | decide) | (with_reducible refine Nat.le_of_ble_eq_true ?_; rfl) | omega | exact hh)
      · intro zc58
        first | exact absurd rfl zc58 | exact absurd zc58 (by decide) | exact absurd (by decide) zc58 | (exfalso; first | exact absurd ((nI_leI (a := w) (by omega) (by omega)).mp zc58) (by omega) | exact zc58 (Int32.le_refl _) | exact zc58 (by decide)) | (exfalso; simp_all; done)
      · intro zc58
        with_reducible first | have ze58 := Int32.not_le.mp zc58 | have ze58 := zc58
        refine hB bX11_takes_61 _ _ _ _ _ _ _ kX11_takes_61 ?_
        dsimp only [bX11_takes_61, kx_wp, kx_step, kx_lI, kx_lL, kx_lA, kx_gl, kx_pI, kx_pL, kx_pR, kx_pA, kx_pV, kx_s1, kx_s2, kx_sl, kx_pre, kx_c2, kx_pl, kx_cmp, kx_oF, kx_eqN, kx_nil, kx_c1, kx_ft, kx_aI, kx_aL, kx_aR, kx_ln, Nat.reduceAdd, Option.toList, List.cons_append, List.nil_append, mW_o, mf_25, m_102, mf_17, m_96, mf_40, m_117, mf_15, mf_26, m_103, mf_13, mf_27, m_104, mf_20, m_99, mf_28, m_105, mf_12, mf_29, m_106, mf_18, m_97, mf_30, m_107, mf_19, m_98]
        repeat (simp only [ms_102, ms_96, ms_117, ms_103, ms_104, ms_99, ms_105, ms_106, ms_97, ms_107, ms_98, zh, h12, h13, h15, nI_1, ck_its, ck_i24, ck_i2, ck_i400, nI_add, va_us, va_upn, ne_eq, Nat.reduceEqDiff, not_false_eq_true, va_upup, va_up3, ck_put_s, nI_clamp (show c < 2 ^ 31 by omega), nI_clamp (show i < 2 ^ 31 by omega), nI_clamp (show 24 * c + i < 2 ^ 31 by omega)]; try dsimp only [kx_wp, kx_step, kx_lI, kx_lL, kx_lA, kx_gl, kx_pI, kx_pL, kx_pR, kx_pA, kx_pV, kx_s1, kx_s2, kx_sl, kx_pre, kx_c2, kx_pl, kx_cmp, kx_oF, kx_eqN, kx_nil, kx_c1, kx_ft, kx_aI, kx_aL, kx_aR, kx_ln, Nat.reduceAdd, Option.toList, List.cons_append, List.nil_append, mW_o, mf_25, m_102, mf_17, m_96, mf_40, m_117, mf_15, mf_26, m_103, mf_13, mf_27, m_104, mf_20, m_99, mf_28, m_105, mf_12, mf_29, m_106, mf_18, m_97, mf_30, m_107, mf_19, m_98])
        repeat' apply And.intro
        all_goals try (first | with_reducible assumption | (with_reducible refine ck_nzI ?_; simp; done) | (with_reducible refine ck_nzL ?_; simp; done) | (with_reducible refine vp_in_nI ?_ ?_ <;> first | omega | decide) | (with_reducible refine Nat.le_of_ble_eq_true ?_; rfl) | omega | exact hh)
        all_goals exact ih (i + 1) (by omega)
  have j31 : ∀ x2, g 31 [some (.ref 93), some (.int (nI c)), x2] [] (mW M (va_up A 102 (ck_put (A 102) (A 96) (16 * c) 16)) L R) sz 0 0 := by
    intro x2
    refine hB bX11_takes_31 _ _ _ _ _ _ _ kX11_takes_31 ?_
    dsimp only [bX11_takes_31, kx_wp, kx_step, kx_lI, kx_lL, kx_lA, kx_gl, kx_pI, kx_pL, kx_pR, kx_pA, kx_pV, kx_s1, kx_s2, kx_sl, kx_pre, kx_c2, kx_pl, kx_cmp, kx_oF, kx_eqN, kx_nil, kx_c1, kx_ft, kx_aI, kx_aL, kx_aR, kx_ln, Nat.reduceAdd, Option.toList, List.cons_append, List.nil_append, mW_o, mf_25, m_102, mf_17, m_96, mf_40, m_117, mf_15, mf_26, m_103, mf_13, mf_27, m_104, mf_20, m_99, mf_28, m_105, mf_12, mf_29, m_106, mf_18, m_97, mf_30, m_107, mf_19, m_98]
    repeat (simp only [ms_102, ms_96, ms_117, ms_103, ms_104, ms_99, ms_105, ms_106, ms_97, ms_107, ms_98, zh, h12, h13, h15, nI_1, ck_its, ck_i24, ck_i2, ck_i400, nI_add, va_us, va_upn, ne_eq, Nat.reduceEqDiff, not_false_eq_true, va_upup, va_up3, ck_put_s, nI_clamp (show c < 2 ^ 31 by omega)]; try dsimp only [kx_wp, kx_step, kx_lI, kx_lL, kx_lA, kx_gl, kx_pI, kx_pL, kx_pR, kx_pA, kx_pV, kx_s1, kx_s2, kx_sl, kx_pre, kx_c2, kx_pl, kx_cmp, kx_oF, kx_eqN, kx_nil, kx_c1, kx_ft, kx_aI, kx_aL, kx_aR, kx_ln, Nat.reduceAdd, Option.toList, List.cons_append, List.nil_append, mW_o, mf_25, m_102, mf_17, m_96, mf_40, m_117, mf_15, mf_26, m_103, mf_13, mf_27, m_104, mf_20, m_99, mf_28, m_105, mf_12, mf_29, m_106, mf_18, m_97, mf_30, m_107, mf_19, m_98])
    repeat' apply And.intro
    all_goals try (first | with_reducible assumption | (with_reducible refine ck_nzI ?_; simp; done) | (with_reducible refine ck_nzL ?_; simp; done) | (with_reducible refine vp_in_nI ?_ ?_ <;> first | omega | decide) | (with_reducible refine Nat.le_of_ble_eq_true ?_; rfl) | omega | exact hh)
    have ze := loop53 w 0 (by omega)
    rw [ck_put_0, show va_up (va_up (va_up (va_up A 102 (ck_put (A 102) (A 96) (16 * c) 16)) 117 (upd (A 117) c h)) 103 (upd (A 103) c (nI w))) 104 (A 104) = (va_up (va_up (va_up A 102 (ck_put (A 102) (A 96) (16 * c) 16)) 117 (upd (A 117) c h)) 103 (upd (A 103) c (nI w))) from va_upself (f := (va_up (va_up (va_up A 102 (ck_put (A 102) (A 96) (16 * c) 16)) 117 (upd (A 117) c h)) 103 (upd (A 103) c (nI w)))) (k := 104)] at ze
    exact ze
  have loop2 : ∀ (n9 i : Nat), i + n9 = 16 → g 2 [some (.ref 93), some (.int (nI c)), some (.int (nI i))] [] (mW M (va_up A 102 (ck_put (A 102) (A 96) (16 * c) i)) L R) sz 0 0 := by
    intro n9
    induction n9 with
    | zero =>
      intro i hi
      obtain rfl : 16 = i := by omega
      refine hB bX11_takes_2 _ _ _ _ _ _ _ kX11_takes_2 ?_
      dsimp only [bX11_takes_2, kx_wp, kx_step, kx_lI, kx_lL, kx_lA, kx_gl, kx_pI, kx_pL, kx_pR, kx_pA, kx_pV, kx_s1, kx_s2, kx_sl, kx_pre, kx_c2, kx_pl, kx_cmp, kx_oF, kx_eqN, kx_nil, kx_c1, kx_ft, kx_aI, kx_aL, kx_aR, kx_ln, Nat.reduceAdd, Option.toList, List.cons_append, List.nil_append, mW_o, mf_25, m_102, mf_17, m_96, mf_40, m_117, mf_15, mf_26, m_103, mf_13, mf_27, m_104, mf_20, m_99, mf_28, m_105, mf_12, mf_29, m_106, mf_18, m_97, mf_30, m_107, mf_19, m_98]
      repeat (simp only [ms_102, ms_96, ms_117, ms_103, ms_104, ms_99, ms_105, ms_106, ms_97, ms_107, ms_98, zh, h12, h13, h15, nI_1, ck_its, ck_i24, ck_i2, ck_i400, nI_add, va_us, va_upn, ne_eq, Nat.reduceEqDiff, not_false_eq_true, va_upup, va_up3, ck_put_s, nI_clamp (show c < 2 ^ 31 by omega)]; try dsimp only [kx_wp, kx_step, kx_lI, kx_lL, kx_lA, kx_gl, kx_pI, kx_pL, kx_pR, kx_pA, kx_pV, kx_s1, kx_s2, kx_sl, kx_pre, kx_c2, kx_pl, kx_cmp, kx_oF, kx_eqN, kx_nil, kx_c1, kx_ft, kx_aI, kx_aL, kx_aR, kx_ln, Nat.reduceAdd, Option.toList, List.cons_append, List.nil_append, mW_o, mf_25, m_102, mf_17, m_96, mf_40, m_117, mf_15, mf_26, m_103, mf_13, mf_27, m_104, mf_20, m_99, mf_28, m_105, mf_12, mf_29, m_106, mf_18, m_97, mf_30, m_107, mf_19, m_98])
      repeat' apply And.intro
      all_goals try (first | with_reducible assumption | (with_reducible refine ck_nzI ?_; simp; done) | (with_reducible refine ck_nzL ?_; simp; done) | (with_reducible refine vp_in_nI ?_ ?_ <;> first | omega | decide) | (with_reducible refine Nat.le_of_ble_eq_true ?_; rfl) | omega | exact hh)
      · intro zc5
        with_reducible first | have ze5 := Int32.not_lt.mpr zc5 | have ze5 := zc5
        all_goals exact j31 _
      · intro zc5
        first | exact absurd rfl zc5 | exact absurd zc5 (by decide) | exact absurd (by decide) zc5 | (exfalso; first | exact absurd ((nI_leI (a := 16) (by omega) (by omega)).mp zc5) (by omega) | exact zc5 (Int32.le_refl _) | exact zc5 (by decide)) | (exfalso; simp_all; done)
    | succ n9 ih =>
      intro i hi
      refine hB bX11_takes_2 _ _ _ _ _ _ _ kX11_takes_2 ?_
      dsimp only [bX11_takes_2, kx_wp, kx_step, kx_lI, kx_lL, kx_lA, kx_gl, kx_pI, kx_pL, kx_pR, kx_pA, kx_pV, kx_s1, kx_s2, kx_sl, kx_pre, kx_c2, kx_pl, kx_cmp, kx_oF, kx_eqN, kx_nil, kx_c1, kx_ft, kx_aI, kx_aL, kx_aR, kx_ln, Nat.reduceAdd, Option.toList, List.cons_append, List.nil_append, mW_o, mf_25, m_102, mf_17, m_96, mf_40, m_117, mf_15, mf_26, m_103, mf_13, mf_27, m_104, mf_20, m_99, mf_28, m_105, mf_12, mf_29, m_106, mf_18, m_97, mf_30, m_107, mf_19, m_98]
      repeat (simp only [ms_102, ms_96, ms_117, ms_103, ms_104, ms_99, ms_105, ms_106, ms_97, ms_107, ms_98, zh, h12, h13, h15, nI_1, ck_its, ck_i24, ck_i2, ck_i400, nI_add, va_us, va_upn, ne_eq, Nat.reduceEqDiff, not_false_eq_true, va_upup, va_up3, ck_put_s, nI_clamp (show c < 2 ^ 31 by omega), nI_clamp (show i < 2 ^ 31 by omega), nI_clamp (show 16 * c + i < 2 ^ 31 by omega)]; try dsimp only [kx_wp, kx_step, kx_lI, kx_lL, kx_lA, kx_gl, kx_pI, kx_pL, kx_pR, kx_pA, kx_pV, kx_s1, kx_s2, kx_sl, kx_pre, kx_c2, kx_pl, kx_cmp, kx_oF, kx_eqN, kx_nil, kx_c1, kx_ft, kx_aI, kx_aL, kx_aR, kx_ln, Nat.reduceAdd, Option.toList, List.cons_append, List.nil_append, mW_o, mf_25, m_102, mf_17, m_96, mf_40, m_117, mf_15, mf_26, m_103, mf_13, mf_27, m_104, mf_20, m_99, mf_28, m_105, mf_12, mf_29, m_106, mf_18, m_97, mf_30, m_107, mf_19, m_98])
      repeat' apply And.intro
      all_goals try (first | with_reducible assumption | (with_reducible refine ck_nzI ?_; simp; done) | (with_reducible refine ck_nzL ?_; simp; done) | (with_reducible refine vp_in_nI ?_ ?_ <;> first | omega | decide) | (with_reducible refine Nat.le_of_ble_eq_true ?_; rfl) | omega | exact hh)
      · intro zc5
        first | exact absurd rfl zc5 | exact absurd zc5 (by decide) | exact absurd (by decide) zc5 | (exfalso; first | exact absurd ((nI_leI (a := 16) (by omega) (by omega)).mp zc5) (by omega) | exact zc5 (Int32.le_refl _) | exact zc5 (by decide)) | (exfalso; simp_all; done)
      · intro zc5
        with_reducible first | have ze5 := Int32.not_le.mp zc5 | have ze5 := zc5
        refine hB bX11_takes_8 _ _ _ _ _ _ _ kX11_takes_8 ?_
        dsimp only [bX11_takes_8, kx_wp, kx_step, kx_lI, kx_lL, kx_lA, kx_gl, kx_pI, kx_pL, kx_pR, kx_pA, kx_pV, kx_s1, kx_s2, kx_sl, kx_pre, kx_c2, kx_pl, kx_cmp, kx_oF, kx_eqN, kx_nil, kx_c1, kx_ft, kx_aI, kx_aL, kx_aR, kx_ln, Nat.reduceAdd, Option.toList, List.cons_append, List.nil_append, mW_o, mf_25, m_102, mf_17, m_96, mf_40, m_117, mf_15, mf_26, m_103, mf_13, mf_27, m_104, mf_20, m_99, mf_28, m_105, mf_12, mf_29, m_106, mf_18, m_97, mf_30, m_107, mf_19, m_98]
        repeat (simp only [ms_102, ms_96, ms_117, ms_103, ms_104, ms_99, ms_105, ms_106, ms_97, ms_107, ms_98, zh, h12, h13, h15, nI_1, ck_its, ck_i24, ck_i2, ck_i400, nI_add, va_us, va_upn, ne_eq, Nat.reduceEqDiff, not_false_eq_true, va_upup, va_up3, ck_put_s, nI_clamp (show c < 2 ^ 31 by omega), nI_clamp (show i < 2 ^ 31 by omega), nI_clamp (show 16 * c + i < 2 ^ 31 by omega)]; try dsimp only [kx_wp, kx_step, kx_lI, kx_lL, kx_lA, kx_gl, kx_pI, kx_pL, kx_pR, kx_pA, kx_pV, kx_s1, kx_s2, kx_sl, kx_pre, kx_c2, kx_pl, kx_cmp, kx_oF, kx_eqN, kx_nil, kx_c1, kx_ft, kx_aI, kx_aL, kx_aR, kx_ln, Nat.reduceAdd, Option.toList, List.cons_append, List.nil_append, mW_o, mf_25, m_102, mf_17, m_96, mf_40, m_117, mf_15, mf_26, m_103, mf_13, mf_27, m_104, mf_20, m_99, mf_28, m_105, mf_12, mf_29, m_106, mf_18, m_97, mf_30, m_107, mf_19, m_98])
        repeat' apply And.intro
        all_goals try (first | with_reducible assumption | (with_reducible refine ck_nzI ?_; simp; done) | (with_reducible refine ck_nzL ?_; simp; done) | (with_reducible refine vp_in_nI ?_ ?_ <;> first | omega | decide) | (with_reducible refine Nat.le_of_ble_eq_true ?_; rfl) | omega | exact hh)
        all_goals exact ih (i + 1) (by omega)
  refine hB bX11_takes_0 _ _ _ _ _ _ _ kX11_takes_0 ?_
  dsimp only [bX11_takes_0, kx_wp, kx_step, kx_lI, kx_lL, kx_lA, kx_gl, kx_pI, kx_pL, kx_pR, kx_pA, kx_pV, kx_s1, kx_s2, kx_sl, kx_pre, kx_c2, kx_pl, kx_cmp, kx_oF, kx_eqN, kx_nil, kx_c1, kx_ft, kx_aI, kx_aL, kx_aR, kx_ln, Nat.reduceAdd, Option.toList, List.cons_append, List.nil_append, mW_o, mf_25, m_102, mf_17, m_96, mf_40, m_117, mf_15, mf_26, m_103, mf_13, mf_27, m_104, mf_20, m_99, mf_28, m_105, mf_12, mf_29, m_106, mf_18, m_97, mf_30, m_107, mf_19, m_98]
  repeat (simp only [ms_102, ms_96, ms_117, ms_103, ms_104, ms_99, ms_105, ms_106, ms_97, ms_107, ms_98, zh, h12, h13, h15, nI_1, ck_its, ck_i24, ck_i2, ck_i400, nI_add, va_us, va_upn, ne_eq, Nat.reduceEqDiff, not_false_eq_true, va_upup, va_up3, ck_put_s, nI_clamp (show c < 2 ^ 31 by omega)]; try dsimp only [kx_wp, kx_step, kx_lI, kx_lL, kx_lA, kx_gl, kx_pI, kx_pL, kx_pR, kx_pA, kx_pV, kx_s1, kx_s2, kx_sl, kx_pre, kx_c2, kx_pl, kx_cmp, kx_oF, kx_eqN, kx_nil, kx_c1, kx_ft, kx_aI, kx_aL, kx_aR, kx_ln, Nat.reduceAdd, Option.toList, List.cons_append, List.nil_append, mW_o, mf_25, m_102, mf_17, m_96, mf_40, m_117, mf_15, mf_26, m_103, mf_13, mf_27, m_104, mf_20, m_99, mf_28, m_105, mf_12, mf_29, m_106, mf_18, m_97, mf_30, m_107, mf_19, m_98])
  repeat' apply And.intro
  all_goals try (first | with_reducible assumption | (with_reducible refine ck_nzI ?_; simp; done) | (with_reducible refine ck_nzL ?_; simp; done) | (with_reducible refine vp_in_nI ?_ ?_ <;> first | omega | decide) | (with_reducible refine Nat.le_of_ble_eq_true ?_; rfl) | omega | exact hh)
  have ze := loop2 16 0 (by omega)
  rw [ck_put_0, va_upself] at ze
  exact ze


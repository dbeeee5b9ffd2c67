def ck_cp {α : Type} (f g : Nat → α) (n : Nat) : Nat → α := fun j => if j < n then g j else f j
theorem ck_cp_0 {α : Type} (f g : Nat → α) : ck_cp f g 0 = f := by funext j; unfold ck_cp; rw [if_neg (by omega)]
theorem ck_cp_s (f g : Nat → Int32) (c : Nat) : upd (ck_cp f g c) c (g c) = ck_cp f g (c + 1) := by
  funext j
  unfold upd ck_cp
  by_cases h : j = c
  · subst h; rw [if_pos rfl, if_pos (by omega)]
  · rw [if_neg h]
    by_cases h2 : j < c
    · rw [if_pos h2, if_pos (by omega)]
    · rw [if_neg h2, if_neg (by omega)]
theorem ck_cp_l (f g : Nat → Int64) (c : Nat) : vp_updL (ck_cp f g c) c (g c) = ck_cp f g (c + 1) := by
  funext j
  unfold vp_updL ck_cp
  by_cases h : j = c
  · subst h; rw [if_pos rfl, if_pos (by omega)]
  · rw [if_neg h]
    by_cases h2 : j < c
    · rw [if_pos h2, if_pos (by omega)]
    · rw [if_neg h2, if_neg (by omega)]
def ck_svA (A : Nat → Nat → Int32) (c : Nat) : Nat → Nat → Int32 := fun k => if k = 137 then ck_cp (A 137) (A 108) c else if k = 138 then ck_cp (A 138) (A 109) c else if k = 139 then ck_cp (A 139) (A 110) c else if k = 140 then ck_cp (A 140) (A 111) c else if k = 141 then ck_cp (A 141) (A 112) c else A k
theorem ck_svA_n {A : Nat → Nat → Int32} {c k : Nat} (h : k ≠ 137 ∧ k ≠ 138 ∧ k ≠ 139 ∧ k ≠ 140 ∧ k ≠ 141) : ck_svA A c k = A k := by
  unfold ck_svA
  rw [if_neg h.1, if_neg h.2.1, if_neg h.2.2.1, if_neg h.2.2.2.1, if_neg h.2.2.2.2]
theorem ck_svA_0 (A : Nat → Nat → Int32) : ck_svA A 0 = A := by
  funext k
  unfold ck_svA
  repeat (split; (rename_i h; subst h; exact ck_cp_0 _ _))
  rfl
theorem ck_svA_137 (A : Nat → Nat → Int32) (c : Nat) : ck_svA A c 137 = ck_cp (A 137) (A 108) c := rfl
theorem ck_svA_108 (A : Nat → Nat → Int32) (c : Nat) : ck_svA A c 108 = A 108 := rfl
theorem ck_svA_138 (A : Nat → Nat → Int32) (c : Nat) : ck_svA A c 138 = ck_cp (A 138) (A 109) c := rfl
theorem ck_svA_109 (A : Nat → Nat → Int32) (c : Nat) : ck_svA A c 109 = A 109 := rfl
theorem ck_svA_139 (A : Nat → Nat → Int32) (c : Nat) : ck_svA A c 139 = ck_cp (A 139) (A 110) c := rfl
theorem ck_svA_110 (A : Nat → Nat → Int32) (c : Nat) : ck_svA A c 110 = A 110 := rfl
theorem ck_svA_140 (A : Nat → Nat → Int32) (c : Nat) : ck_svA A c 140 = ck_cp (A 140) (A 111) c := rfl
theorem ck_svA_111 (A : Nat → Nat → Int32) (c : Nat) : ck_svA A c 111 = A 111 := rfl
theorem ck_svA_141 (A : Nat → Nat → Int32) (c : Nat) : ck_svA A c 141 = ck_cp (A 141) (A 112) c := rfl
theorem ck_svA_112 (A : Nat → Nat → Int32) (c : Nat) : ck_svA A c 112 = A 112 := rfl
theorem ck_svA_s (A : Nat → Nat → Int32) (c : Nat) : (va_up (va_up (va_up (va_up (va_up (ck_svA A c) 137 (ck_cp (A 137) (A 108) (c + 1))) 138 (ck_cp (A 138) (A 109) (c + 1))) 139 (ck_cp (A 139) (A 110) (c + 1))) 140 (ck_cp (A 140) (A 111) (c + 1))) 141 (ck_cp (A 141) (A 112) (c + 1))) = ck_svA A (c + 1) := by
  funext k
  unfold va_up ck_svA
  by_cases h141 : k = 141
  · subst h141; rfl
  rw [if_neg h141]
  by_cases h140 : k = 140
  · subst h140; rfl
  rw [if_neg h140]
  by_cases h139 : k = 139
  · subst h139; rfl
  rw [if_neg h139]
  by_cases h138 : k = 138
  · subst h138; rfl
  rw [if_neg h138]
  by_cases h137 : k = 137
  · subst h137; rfl
  rw [if_neg h137]
  rw [if_neg h137, if_neg h138, if_neg h139, if_neg h140, if_neg h141, if_neg h137, if_neg h138, if_neg h139, if_neg h140, if_neg h141]
def ck_rsA (A : Nat → Nat → Int32) (c : Nat) : Nat → Nat → Int32 := fun k => if k = 108 then ck_cp (A 108) (A 137) c else if k = 109 then ck_cp (A 109) (A 138) c else if k = 110 then ck_cp (A 110) (A 139) c else if k = 111 then ck_cp (A 111) (A 140) c else if k = 112 then ck_cp (A 112) (A 141) c else A k
theorem ck_rsA_n {A : Nat → Nat → Int32} {c k : Nat} (h : k ≠ 108 ∧ k ≠ 109 ∧ k ≠ 110 ∧ k ≠ 111 ∧ k ≠ 112) : ck_rsA A c k = A k := by
  unfold ck_rsA
  rw [if_neg h.1, if_neg h.2.1, if_neg h.2.2.1, if_neg h.2.2.2.1, if_neg h.2.2.2.2]
theorem ck_rsA_0 (A : Nat → Nat → Int32) : ck_rsA A 0 = A := by
  funext k
  unfold ck_rsA
  repeat (split; (rename_i h; subst h; exact ck_cp_0 _ _))
  rfl
theorem ck_rsA_108 (A : Nat → Nat → Int32) (c : Nat) : ck_rsA A c 108 = ck_cp (A 108) (A 137) c := rfl
theorem ck_rsA_137 (A : Nat → Nat → Int32) (c : Nat) : ck_rsA A c 137 = A 137 := rfl
theorem ck_rsA_109 (A : Nat → Nat → Int32) (c : Nat) : ck_rsA A c 109 = ck_cp (A 109) (A 138) c := rfl
theorem ck_rsA_138 (A : Nat → Nat → Int32) (c : Nat) : ck_rsA A c 138 = A 138 := rfl
theorem ck_rsA_110 (A : Nat → Nat → Int32) (c : Nat) : ck_rsA A c 110 = ck_cp (A 110) (A 139) c := rfl
theorem ck_rsA_139 (A : Nat → Nat → Int32) (c : Nat) : ck_rsA A c 139 = A 139 := rfl
theorem ck_rsA_111 (A : Nat → Nat → Int32) (c : Nat) : ck_rsA A c 111 = ck_cp (A 111) (A 140) c := rfl
theorem ck_rsA_140 (A : Nat → Nat → Int32) (c : Nat) : ck_rsA A c 140 = A 140 := rfl
theorem ck_rsA_112 (A : Nat → Nat → Int32) (c : Nat) : ck_rsA A c 112 = ck_cp (A 112) (A 141) c := rfl
theorem ck_rsA_141 (A : Nat → Nat → Int32) (c : Nat) : ck_rsA A c 141 = A 141 := rfl
theorem ck_rsA_s (A : Nat → Nat → Int32) (c : Nat) : (va_up (va_up (va_up (va_up (va_up (ck_rsA A c) 108 (ck_cp (A 108) (A 137) (c + 1))) 109 (ck_cp (A 109) (A 138) (c + 1))) 110 (ck_cp (A 110) (A 139) (c + 1))) 111 (ck_cp (A 111) (A 140) (c + 1))) 112 (ck_cp (A 112) (A 141) (c + 1))) = ck_rsA A (c + 1) := by
  funext k
  unfold va_up ck_rsA
  by_cases h112 : k = 112
  · subst h112; rfl
  rw [if_neg h112]
  by_cases h111 : k = 111
  · subst h111; rfl
  rw [if_neg h111]
  by_cases h110 : k = 110
  · subst h110; rfl
  rw [if_neg h110]
  by_cases h109 : k = 109
  · subst h109; rfl
  rw [if_neg h109]
  by_cases h108 : k = 108
  · subst h108; rfl
  rw [if_neg h108]
  rw [if_neg h108, if_neg h109, if_neg h110, if_neg h111, if_neg h112, if_neg h108, if_neg h109, if_neg h110, if_neg h111, if_neg h112]
def bX11_puts_0 : List kx_O := [(.iconst 0, 0, 0, 0, .int 0), (.istore_n 2, 2, 0, 0, .null)]
theorem kX11_puts_0 : kx_oks kxL_X11 false cX11_puts 0 bX11_puts_0 = true := by decide +kernel
def bX11_puts_2 : List kx_O := [(.iload_n 2, 2, 0, 0, .null), (.aload_n 0, 0, 0, 0, .null), (.getfield 337, 11, 21, 0, .null), (.if_icmp .ge 160, 167, 0, 0, .null)]
theorem kX11_puts_2 : kx_oks kxL_X11 false cX11_puts 2 bX11_puts_2 = true := by decide +kernel
def bX11_puts_10 : List kx_O := [(.iload_n 1, 1, 0, 0, .null), (.ifCond .eq 78, 89, 0, 0, .null)]
theorem kX11_puts_10 : kx_oks kxL_X11 false cX11_puts 10 bX11_puts_10 = true := by decide +kernel
def bX11_puts_14 : List kx_O := [(.aload_n 0, 0, 0, 0, .null), (.getfield 59, 11, 31, 0, .null), (.iload_n 2, 2, 0, 0, .null), (.aload_n 0, 0, 0, 0, .null), (.getfield 149, 11, 85, 0, .null), (.iload_n 2, 2, 0, 0, .null), (.iaload, 0, 0, 0, .null), (.iastore, 0, 0, 0, .null), (.aload_n 0, 0, 0, 0, .null), (.getfield 62, 11, 32, 0, .null), (.iload_n 2, 2, 0, 0, .null), (.aload_n 0, 0, 0, 0, .null), (.getfield 152, 11, 86, 0, .null), (.iload_n 2, 2, 0, 0, .null), (.iaload, 0, 0, 0, .null), (.iastore, 0, 0, 0, .null), (.aload_n 0, 0, 0, 0, .null), (.getfield 65, 11, 33, 0, .null), (.iload_n 2, 2, 0, 0, .null), (.aload_n 0, 0, 0, 0, .null), (.getfield 155, 11, 87, 0, .null), (.iload_n 2, 2, 0, 0, .null), (.iaload, 0, 0, 0, .null), (.iastore, 0, 0, 0, .null), (.aload_n 0, 0, 0, 0, .null), (.getfield 68, 11, 34, 0, .null), (.iload_n 2, 2, 0, 0, .null), (.aload_n 0, 0, 0, 0, .null), (.getfield 158, 11, 88, 0, .null), (.iload_n 2, 2, 0, 0, .null), (.iaload, 0, 0, 0, .null), (.iastore, 0, 0, 0, .null), (.aload_n 0, 0, 0, 0, .null), (.getfield 71, 11, 35, 0, .null), (.iload_n 2, 2, 0, 0, .null), (.aload_n 0, 0, 0, 0, .null), (.getfield 161, 11, 89, 0, .null), (.iload_n 2, 2, 0, 0, .null), (.iaload, 0, 0, 0, .null), (.iastore, 0, 0, 0, .null), (.aload_n 0, 0, 0, 0, .null), (.getfield 83, 11, 39, 0, .null), (.iload_n 2, 2, 0, 0, .null), (.aload_n 0, 0, 0, 0, .null), (.getfield 164, 11, 90, 0, .null), (.iload_n 2, 2, 0, 0, .null), (.laload, 0, 0, 0, .null), (.lastore, 0, 0, 0, .null), (.goto 75, 161, 0, 0, .null)]
theorem kX11_puts_14 : kx_oks kxL_X11 false cX11_puts 14 bX11_puts_14 = true := by decide +kernel
def bX11_puts_89 : List kx_O := [(.aload_n 0, 0, 0, 0, .null), (.getfield 149, 11, 85, 0, .null), (.iload_n 2, 2, 0, 0, .null), (.aload_n 0, 0, 0, 0, .null), (.getfield 59, 11, 31, 0, .null), (.iload_n 2, 2, 0, 0, .null), (.iaload, 0, 0, 0, .null), (.iastore, 0, 0, 0, .null), (.aload_n 0, 0, 0, 0, .null), (.getfield 152, 11, 86, 0, .null), (.iload_n 2, 2, 0, 0, .null), (.aload_n 0, 0, 0, 0, .null), (.getfield 62, 11, 32, 0, .null), (.iload_n 2, 2, 0, 0, .null), (.iaload, 0, 0, 0, .null), (.iastore, 0, 0, 0, .null), (.aload_n 0, 0, 0, 0, .null), (.getfield 155, 11, 87, 0, .null), (.iload_n 2, 2, 0, 0, .null), (.aload_n 0, 0, 0, 0, .null), (.getfield 65, 11, 33, 0, .null), (.iload_n 2, 2, 0, 0, .null), (.iaload, 0, 0, 0, .null), (.iastore, 0, 0, 0, .null), (.aload_n 0, 0, 0, 0, .null), (.getfield 158, 11, 88, 0, .null), (.iload_n 2, 2, 0, 0, .null), (.aload_n 0, 0, 0, 0, .null), (.getfield 68, 11, 34, 0, .null), (.iload_n 2, 2, 0, 0, .null), (.iaload, 0, 0, 0, .null), (.iastore, 0, 0, 0, .null), (.aload_n 0, 0, 0, 0, .null), (.getfield 161, 11, 89, 0, .null), (.iload_n 2, 2, 0, 0, .null), (.aload_n 0, 0, 0, 0, .null), (.getfield 71, 11, 35, 0, .null), (.iload_n 2, 2, 0, 0, .null), (.iaload, 0, 0, 0, .null), (.iastore, 0, 0, 0, .null), (.aload_n 0, 0, 0, 0, .null), (.getfield 164, 11, 90, 0, .null), (.iload_n 2, 2, 0, 0, .null), (.aload_n 0, 0, 0, 0, .null), (.getfield 83, 11, 39, 0, .null), (.iload_n 2, 2, 0, 0, .null), (.laload, 0, 0, 0, .null), (.lastore, 0, 0, 0, .null)]
theorem kX11_puts_89 : kx_oks kxL_X11 false cX11_puts 89 bX11_puts_89 = true := by decide +kernel
def bX11_puts_161 : List kx_O := [(.iinc 2 1, 2, 0, 0, .int 1), (.goto (-162), 2, 0, 0, .null)]
theorem kX11_puts_161 : kx_oks kxL_X11 false cX11_puts 161 bX11_puts_161 = true := by decide +kernel
def bX11_puts_167 : List kx_O := [(.return_, 0, 0, 0, .null)]
theorem kX11_puts_167 : kx_oks kxL_X11 false cX11_puts 167 bX11_puts_167 = true := by decide +kernel
set_option maxRecDepth 100000 in
set_option maxHeartbeats 4000000 in
theorem ct_X11_puts_s (l : Launch) (G : kx_G) {M : Nat → Int32} {A : Nat → Nat → Int32} {L : Nat → Nat → Int64} {R : kx_P} {sz : Nat} {cl : Nat} (h21 : M 21 = nI cl) (hcl : cl ≤ 8)  : kx_M l G sX11_puts 1 0 0 [.ref 93, .int (0)] (mW M A L R) sz none (mW M (ck_svA A cl) (va_up L 142 (ck_cp (L 142) (L 116) cl)) R) sz := by
  refine kx_mk kx_tab kxLok_X11 (ini := false) [some (.ref 93), some (.int (0)), none] ⟨by decide, rfl, by decide, by decide⟩ (rfl) rfl rfl (fun g hB hC => ?_)
  have loop2 : ∀ (n9 : Nat) (c : Nat), c + n9 = cl → g 2 [some (.ref 93), some (.int 0), some (.int (nI c))] [] (mW M (ck_svA A c) (va_up L 142 (ck_cp (L 142) (L 116) c)) R) sz 0 0 := by
    intro n9
    induction n9 with
    | zero =>
      intro c hc
      obtain rfl : c = cl := by omega
      refine hB bX11_puts_2 _ _ _ _ _ _ _ kX11_puts_2 ?_
      dsimp only [bX11_puts_2, kx_wp, kx_step, kx_lI, kx_lL, kx_lA, kx_gl, kx_pI, kx_pL, kx_pR, kx_pA, kx_pV, kx_s1, kx_s2, kx_sl, kx_pre, kx_c2, kx_pl, kx_cmp, kx_oF, kx_eqN, kx_nil, kx_c1, kx_ft, kx_aI, kx_aL, kx_aR, kx_ln, Nat.reduceAdd, Option.toList, List.cons_append, List.nil_append, mW_o, mf_21, mf_31, m_108, mf_85, m_137, mf_32, m_109, mf_86, m_138, mf_33, m_110, mf_87, m_139, mf_34, m_111, mf_88, m_140, mf_35, m_112, mf_89, m_141, mf_39, m_116, mf_90, m_142]
      repeat (simp only [ms_108, ms_137, ms_109, ms_138, ms_110, ms_139, ms_111, ms_140, ms_112, ms_141, ms_116, ms_142, h21, nI_1, va_upup, ck_cp_s, ck_cp_l, ck_svA_137, ck_svA_108, ck_svA_138, ck_svA_109, ck_svA_139, ck_svA_110, ck_svA_140, ck_svA_111, ck_svA_141, ck_svA_112, ck_svA_s, va_us, va_upn, ne_eq, Nat.reduceEqDiff, not_false_eq_true, nI_clamp (show c < 2 ^ 31 by omega)]; try dsimp only [kx_wp, kx_step, kx_lI, kx_lL, kx_lA, kx_gl, kx_pI, kx_pL, kx_pR, kx_pA, kx_pV, kx_s1, kx_s2, kx_sl, kx_pre, kx_c2, kx_pl, kx_cmp, kx_oF, kx_eqN, kx_nil, kx_c1, kx_ft, kx_aI, kx_aL, kx_aR, kx_ln, Nat.reduceAdd, Option.toList, List.cons_append, List.nil_append, mW_o, mf_21, mf_31, m_108, mf_85, m_137, mf_32, m_109, mf_86, m_138, mf_33, m_110, mf_87, m_139, mf_34, m_111, mf_88, m_140, mf_35, m_112, mf_89, m_141, mf_39, m_116, mf_90, m_142])
      repeat' apply And.intro
      all_goals try (first | with_reducible assumption | (with_reducible refine ck_nzI ?_; simp; done) | (with_reducible refine ck_nzL ?_; simp; done) | (with_reducible refine vp_in_nI ?_ ?_ <;> first | omega | decide) | (with_reducible refine Nat.le_of_ble_eq_true ?_; rfl) | omega)
      · intro zc7
        with_reducible first | have ze7 := Int32.not_lt.mpr zc7 | have ze7 := zc7
        refine hB bX11_puts_167 _ _ _ _ _ _ _ kX11_puts_167 ?_
        dsimp only [bX11_puts_167, kx_wp, kx_step, kx_lI, kx_lL, kx_lA, kx_gl, kx_pI, kx_pL, kx_pR, kx_pA, kx_pV, kx_s1, kx_s2, kx_sl, kx_pre, kx_c2, kx_pl, kx_cmp, kx_oF, kx_eqN, kx_nil, kx_c1, kx_ft, kx_aI, kx_aL, kx_aR, kx_ln, Nat.reduceAdd, Option.toList, List.cons_append, List.nil_append, mW_o, mf_21, mf_31, m_108, mf_85, m_137, mf_32, m_109, mf_86, m_138, mf_33, m_110, mf_87, m_139, mf_34, m_111, mf_88, m_140, mf_35, m_112, mf_89, m_141, mf_39, m_116, mf_90, m_142]
        repeat (simp only [ms_108, ms_137, ms_109, ms_138, ms_110, ms_139, ms_111, ms_140, ms_112, ms_141, ms_116, ms_142, h21, nI_1, va_upup, ck_cp_s, ck_cp_l, ck_svA_137, ck_svA_108, ck_svA_138, ck_svA_109, ck_svA_139, ck_svA_110, ck_svA_140, ck_svA_111, ck_svA_141, ck_svA_112, ck_svA_s, va_us, va_upn, ne_eq, Nat.reduceEqDiff, not_false_eq_true, nI_clamp (show c < 2 ^ 31 by omega)]; try dsimp only [kx_wp, kx_step, kx_lI, kx_lL, kx_lA, kx_gl, kx_pI, kx_pL, kx_pR, kx_pA, kx_pV, kx_s1, kx_s2, kx_sl, kx_pre, kx_c2, kx_pl, kx_cmp, kx_oF, kx_eqN, kx_nil, kx_c1, kx_ft, kx_aI, kx_aL, kx_aR, kx_ln, Nat.reduceAdd, Option.toList, List.cons_append, List.nil_append, mW_o, mf_21, mf_31, m_108, mf_85, m_137, mf_32, m_109, mf_86, m_138, mf_33, m_110, mf_87, m_139, mf_34, m_111, mf_88, m_140, mf_35, m_112, mf_89, m_141, mf_39, m_116, mf_90, m_142])
        all_goals (repeat' apply And.intro)
        all_goals ((try clear hB hC); first | exact True.intro | with_reducible rfl | with_reducible assumption | (with_reducible refine vp_in_nI ?_ ?_ <;> first | omega | decide) | exact Nat.le_of_ble_eq_true rfl | (with_reducible refine ck_nzI ?_; simp; done) | (with_reducible refine ck_nzL ?_; simp; done) | (simp only [pk_us, pk_uLs, zc7, ze7, ↓reduceIte, not_true_eq_false, not_false_eq_true]; done) | (simp only [zc7, ze7, ↓reduceIte, not_true_eq_false, not_false_eq_true]; with_reducible rfl) | skip)
      · intro zc7
        first | exact absurd rfl zc7 | exact absurd zc7 (by decide) | exact absurd (by decide) zc7 | (exfalso; first | exact absurd zc7 (by first | (simp only [nI_leI (show cl < 2 ^ 31 by omega) (show c < 2 ^ 31 by omega)]; omega) | (simp only [nI_leI (show cl < 2 ^ 31 by omega) (show c < 2 ^ 31 by omega), Decidable.not_not]; omega)) | exact absurd zc11 (by decide)) | (exfalso; simp_all; done)
    | succ n9 ih =>
      intro c hc
      refine hB bX11_puts_2 _ _ _ _ _ _ _ kX11_puts_2 ?_
      dsimp only [bX11_puts_2, kx_wp, kx_step, kx_lI, kx_lL, kx_lA, kx_gl, kx_pI, kx_pL, kx_pR, kx_pA, kx_pV, kx_s1, kx_s2, kx_sl, kx_pre, kx_c2, kx_pl, kx_cmp, kx_oF, kx_eqN, kx_nil, kx_c1, kx_ft, kx_aI, kx_aL, kx_aR, kx_ln, Nat.reduceAdd, Option.toList, List.cons_append, List.nil_append, mW_o, mf_21, mf_31, m_108, mf_85, m_137, mf_32, m_109, mf_86, m_138, mf_33, m_110, mf_87, m_139, mf_34, m_111, mf_88, m_140, mf_35, m_112, mf_89, m_141, mf_39, m_116, mf_90, m_142]
      repeat (simp only [ms_108, ms_137, ms_109, ms_138, ms_110, ms_139, ms_111, ms_140, ms_112, ms_141, ms_116, ms_142, h21, nI_1, va_upup, ck_cp_s, ck_cp_l, ck_svA_137, ck_svA_108, ck_svA_138, ck_svA_109, ck_svA_139, ck_svA_110, ck_svA_140, ck_svA_111, ck_svA_141, ck_svA_112, ck_svA_s, va_us, va_upn, ne_eq, Nat.reduceEqDiff, not_false_eq_true, nI_clamp (show c < 2 ^ 31 by omega)]; try dsimp only [kx_wp, kx_step, kx_lI, kx_lL, kx_lA, kx_gl, kx_pI, kx_pL, kx_pR, kx_pA, kx_pV, kx_s1, kx_s2, kx_sl, kx_pre, kx_c2, kx_pl, kx_cmp, kx_oF, kx_eqN, kx_nil, kx_c1, kx_ft, kx_aI, kx_aL, kx_aR, kx_ln, Nat.reduceAdd, Option.toList, List.cons_append, List.nil_append, mW_o, mf_21, mf_31, m_108, mf_85, m_137, mf_32, m_109, mf_86, m_138, mf_33, m_110, mf_87, m_139, mf_34, m_111, mf_88, m_140, mf_35, m_112, mf_89, m_141, mf_39, m_116, mf_90, m_142])
      repeat' apply And.intro
      all_goals try (first | with_reducible assumption | (with_reducible refine ck_nzI ?_; simp; done) | (with_reducible refine ck_nzL ?_; simp; done) | (with_reducible refine vp_in_nI ?_ ?_ <;> first | omega | decide) | (with_reducible refine Nat.le_of_ble_eq_true ?_; rfl) | omega)
      · intro zc7
        first | exact absurd rfl zc7 | exact absurd zc7 (by decide) | exact absurd (by decide) zc7 | (exfalso; first | exact absurd zc7 (by first | (simp only [nI_leI (show cl < 2 ^ 31 by omega) (show c < 2 ^ 31 by omega)]; omega) | (simp only [nI_leI (show cl < 2 ^ 31 by omega) (show c < 2 ^ 31 by omega), Decidable.not_not]; omega)) | exact absurd zc11 (by decide)) | (exfalso; simp_all; done)
      · intro zc7
        with_reducible first | have ze7 := Int32.not_le.mp zc7 | have ze7 := zc7
        refine hB bX11_puts_10 _ _ _ _ _ _ _ kX11_puts_10 ?_
        dsimp only [bX11_puts_10, kx_wp, kx_step, kx_lI, kx_lL, kx_lA, kx_gl, kx_pI, kx_pL, kx_pR, kx_pA, kx_pV, kx_s1, kx_s2, kx_sl, kx_pre, kx_c2, kx_pl, kx_cmp, kx_oF, kx_eqN, kx_nil, kx_c1, kx_ft, kx_aI, kx_aL, kx_aR, kx_ln, Nat.reduceAdd, Option.toList, List.cons_append, List.nil_append, mW_o, mf_21, mf_31, m_108, mf_85, m_137, mf_32, m_109, mf_86, m_138, mf_33, m_110, mf_87, m_139, mf_34, m_111, mf_88, m_140, mf_35, m_112, mf_89, m_141, mf_39, m_116, mf_90, m_142]
        repeat (simp only [ms_108, ms_137, ms_109, ms_138, ms_110, ms_139, ms_111, ms_140, ms_112, ms_141, ms_116, ms_142, h21, nI_1, va_upup, ck_cp_s, ck_cp_l, ck_svA_137, ck_svA_108, ck_svA_138, ck_svA_109, ck_svA_139, ck_svA_110, ck_svA_140, ck_svA_111, ck_svA_141, ck_svA_112, ck_svA_s, va_us, va_upn, ne_eq, Nat.reduceEqDiff, not_false_eq_true, nI_clamp (show c < 2 ^ 31 by omega)]; try dsimp only [kx_wp, kx_step, kx_lI, kx_lL, kx_lA, kx_gl, kx_pI, kx_pL, kx_pR, kx_pA, kx_pV, kx_s1, kx_s2, kx_sl, kx_pre, kx_c2, kx_pl, kx_cmp, kx_oF, kx_eqN, kx_nil, kx_c1, kx_ft, kx_aI, kx_aL, kx_aR, kx_ln, Nat.reduceAdd, Option.toList, List.cons_append, List.nil_append, mW_o, mf_21, mf_31, m_108, mf_85, m_137, mf_32, m_109, mf_86, m_138, mf_33, m_110, mf_87, m_139, mf_34, m_111, mf_88, m_140, mf_35, m_112, mf_89, m_141, mf_39, m_116, mf_90, m_142])
        repeat' apply And.intro
        all_goals try (first | with_reducible assumption | (with_reducible refine ck_nzI ?_; simp; done) | (with_reducible refine ck_nzL ?_; simp; done) | (with_reducible refine vp_in_nI ?_ ?_ <;> first | omega | decide) | (with_reducible refine Nat.le_of_ble_eq_true ?_; rfl) | omega)
        · intro zc11
          have ze11 := zc11
          refine hB bX11_puts_89 _ _ _ _ _ _ _ kX11_puts_89 ?_
          dsimp only [bX11_puts_89, kx_wp, kx_step, kx_lI, kx_lL, kx_lA, kx_gl, kx_pI, kx_pL, kx_pR, kx_pA, kx_pV, kx_s1, kx_s2, kx_sl, kx_pre, kx_c2, kx_pl, kx_cmp, kx_oF, kx_eqN, kx_nil, kx_c1, kx_ft, kx_aI, kx_aL, kx_aR, kx_ln, Nat.reduceAdd, Option.toList, List.cons_append, List.nil_append, mW_o, mf_21, mf_31, m_108, mf_85, m_137, mf_32, m_109, mf_86, m_138, mf_33, m_110, mf_87, m_139, mf_34, m_111, mf_88, m_140, mf_35, m_112, mf_89, m_141, mf_39, m_116, mf_90, m_142]
          repeat (simp only [ms_108, ms_137, ms_109, ms_138, ms_110, ms_139, ms_111, ms_140, ms_112, ms_141, ms_116, ms_142, h21, nI_1, va_upup, ck_cp_s, ck_cp_l, ck_svA_137, ck_svA_108, ck_svA_138, ck_svA_109, ck_svA_139, ck_svA_110, ck_svA_140, ck_svA_111, ck_svA_141, ck_svA_112, ck_svA_s, va_us, va_upn, ne_eq, Nat.reduceEqDiff, not_false_eq_true, nI_clamp (show c < 2 ^ 31 by omega)]; try dsimp only [kx_wp, kx_step, kx_lI, kx_lL, kx_lA, kx_gl, kx_pI, kx_pL, kx_pR, kx_pA, kx_pV, kx_s1, kx_s2, kx_sl, kx_pre, kx_c2, kx_pl, kx_cmp, kx_oF, kx_eqN, kx_nil, kx_c1, kx_ft, kx_aI, kx_aL, kx_aR, kx_ln, Nat.reduceAdd, Option.toList, List.cons_append, List.nil_append, mW_o, mf_21, mf_31, m_108, mf_85, m_137, mf_32, m_109, mf_86, m_138, mf_33, m_110, mf_87, m_139, mf_34, m_111, mf_88, m_140, mf_35, m_112, mf_89, m_141, mf_39, m_116, mf_90, m_142])
          repeat' apply And.intro
          all_goals try (first | with_reducible assumption | (with_reducible refine ck_nzI ?_; simp; done) | (with_reducible refine ck_nzL ?_; simp; done) | (with_reducible refine vp_in_nI ?_ ?_ <;> first | omega | decide) | (with_reducible refine Nat.le_of_ble_eq_true ?_; rfl) | omega)
          refine hB bX11_puts_161 _ _ _ _ _ _ _ kX11_puts_161 ?_
          dsimp only [bX11_puts_161, kx_wp, kx_step, kx_lI, kx_lL, kx_lA, kx_gl, kx_pI, kx_pL, kx_pR, kx_pA, kx_pV, kx_s1, kx_s2, kx_sl, kx_pre, kx_c2, kx_pl, kx_cmp, kx_oF, kx_eqN, kx_nil, kx_c1, kx_ft, kx_aI, kx_aL, kx_aR, kx_ln, Nat.reduceAdd, Option.toList, List.cons_append, List.nil_append, mW_o, mf_21, mf_31, m_108, mf_85, m_137, mf_32, m_109, mf_86, m_138, mf_33, m_110, mf_87, m_139, mf_34, m_111, mf_88, m_140, mf_35, m_112, mf_89, m_141, mf_39, m_116, mf_90, m_142]
          repeat (simp only [ms_108, ms_137, ms_109, ms_138, ms_110, ms_139, ms_111, ms_140, ms_112, ms_141, ms_116, ms_142, h21, nI_1, va_upup, ck_cp_s, ck_cp_l, ck_svA_137, ck_svA_108, ck_svA_138, ck_svA_109, ck_svA_139, ck_svA_110, ck_svA_140, ck_svA_111, ck_svA_141, ck_svA_112, ck_svA_s, va_us, va_upn, ne_eq, Nat.reduceEqDiff, not_false_eq_true, nI_clamp (show c < 2 ^ 31 by omega)]; try dsimp only [kx_wp, kx_step, kx_lI, kx_lL, kx_lA, kx_gl, kx_pI, kx_pL, kx_pR, kx_pA, kx_pV, kx_s1, kx_s2, kx_sl, kx_pre, kx_c2, kx_pl, kx_cmp, kx_oF, kx_eqN, kx_nil, kx_c1, kx_ft, kx_aI, kx_aL, kx_aR, kx_ln, Nat.reduceAdd, Option.toList, List.cons_append, List.nil_append, mW_o, mf_21, mf_31, m_108, mf_85, m_137, mf_32, m_109, mf_86, m_138, mf_33, m_110, mf_87, m_139, mf_34, m_111, mf_88, m_140, mf_35, m_112, mf_89, m_141, mf_39, m_116, mf_90, m_142])
          repeat' apply And.intro
          all_goals try (first | with_reducible assumption | (with_reducible refine ck_nzI ?_; simp; done) | (with_reducible refine ck_nzL ?_; simp; done) | (with_reducible refine vp_in_nI ?_ ?_ <;> first | omega | decide) | (with_reducible refine Nat.le_of_ble_eq_true ?_; rfl) | omega)
          exact ih (c + 1) (by omega)
        · intro zc11
          first | exact absurd rfl zc11 | exact absurd zc11 (by decide) | exact absurd (by decide) zc11 | (exfalso; first | exact absurd zc7 (by first | (simp only [nI_leI (show cl < 2 ^ 31 by omega) (show c < 2 ^ 31 by omega)]; omega) | (simp only [nI_leI (show cl < 2 ^ 31 by omega) (show c < 2 ^ 31 by omega), Decidable.not_not]; omega)) | exact absurd zc11 (by decide)) | (exfalso; simp_all; done)
  refine hB bX11_puts_0 _ _ _ _ _ _ _ kX11_puts_0 ?_
  dsimp only [bX11_puts_0, kx_wp, kx_step, kx_lI, kx_lL, kx_lA, kx_gl, kx_pI, kx_pL, kx_pR, kx_pA, kx_pV, kx_s1, kx_s2, kx_sl, kx_pre, kx_c2, kx_pl, kx_cmp, kx_oF, kx_eqN, kx_nil, kx_c1, kx_ft, kx_aI, kx_aL, kx_aR, kx_ln, Nat.reduceAdd, Option.toList, List.cons_append, List.nil_append, mW_o, mf_21, mf_31, m_108, mf_85, m_137, mf_32, m_109, mf_86, m_138, mf_33, m_110, mf_87, m_139, mf_34, m_111, mf_88, m_140, mf_35, m_112, mf_89, m_141, mf_39, m_116, mf_90, m_142]
  repeat (simp only [ms_108, ms_137, ms_109, ms_138, ms_110, ms_139, ms_111, ms_140, ms_112, ms_141, ms_116, ms_142, h21, nI_1, va_upup, ck_cp_s, ck_cp_l, ck_svA_137, ck_svA_108, ck_svA_138, ck_svA_109, ck_svA_139, ck_svA_110, ck_svA_140, ck_svA_111, ck_svA_141, ck_svA_112, ck_svA_s, va_us, va_upn, ne_eq, Nat.reduceEqDiff, not_false_eq_true]; try dsimp only [kx_wp, kx_step, kx_lI, kx_lL, kx_lA, kx_gl, kx_pI, kx_pL, kx_pR, kx_pA, kx_pV, kx_s1, kx_s2, kx_sl, kx_pre, kx_c2, kx_pl, kx_cmp, kx_oF, kx_eqN, kx_nil, kx_c1, kx_ft, kx_aI, kx_aL, kx_aR, kx_ln, Nat.reduceAdd, Option.toList, List.cons_append, List.nil_append, mW_o, mf_21, mf_31, m_108, mf_85, m_137, mf_32, m_109, mf_86, m_138, mf_33, m_110, mf_87, m_139, mf_34, m_111, mf_88, m_140, mf_35, m_112, mf_89, m_141, mf_39, m_116, mf_90, m_142])
  repeat' apply And.intro
  all_goals try (first | with_reducible assumption | (with_reducible refine ck_nzI ?_; simp; done) | (with_reducible refine ck_nzL ?_; simp; done) | (with_reducible refine vp_in_nI ?_ ?_ <;> first | omega | decide) | (with_reducible refine Nat.le_of_ble_eq_true ?_; rfl) | omega)
  have ze := loop2 cl 0 (by omega)
  rw [ck_svA_0, ck_cp_0, va_upself] at ze
  exact ze

set_option maxRecDepth 100000 in
set_option maxHeartbeats 4000000 in
theorem ct_X11_puts_r (l : Launch) (G : kx_G) {M : Nat → Int32} {A : Nat → Nat → Int32} {L : Nat → Nat → Int64} {R : kx_P} {sz : Nat} {cl : Nat} (h21 : M 21 = nI cl) (hcl : cl ≤ 8)  : kx_M l G sX11_puts 1 0 0 [.ref 93, .int (1)] (mW M A L R) sz none (mW M (ck_rsA A cl) (va_up L 116 (ck_cp (L 116) (L 142) cl)) R) sz := by
  refine kx_mk kx_tab kxLok_X11 (ini := false) [some (.ref 93), some (.int (1)), none] ⟨by decide, rfl, by decide, by decide⟩ (rfl) rfl rfl (fun g hB hC => ?_)
  have loop2 : ∀ (n9 : Nat) (c : Nat), c + n9 = cl → g 2 [some (.ref 93), some (.int 1), some (.int (nI c))] [] (mW M (ck_rsA A c) (va_up L 116 (ck_cp (L 116) (L 142) c)) R) sz 0 0 := by
    intro n9
    induction n9 with
    | zero =>
      intro c hc
      obtain rfl : c = cl := by omega
      refine hB bX11_puts_2 _ _ _ _ _ _ _ kX11_puts_2 ?_
      dsimp only [bX11_puts_2, kx_wp, kx_step, kx_lI, kx_lL, kx_lA, kx_gl, kx_pI, kx_pL, kx_pR, kx_pA, kx_pV, kx_s1, kx_s2, kx_sl, kx_pre, kx_c2, kx_pl, kx_cmp, kx_oF, kx_eqN, kx_nil, kx_c1, kx_ft, kx_aI, kx_aL, kx_aR, kx_ln, Nat.reduceAdd, Option.toList, List.cons_append, List.nil_append, mW_o, mf_21, mf_31, m_108, mf_85, m_137, mf_32, m_109, mf_86, m_138, mf_33, m_110, mf_87, m_139, mf_34, m_111, mf_88, m_140, mf_35, m_112, mf_89, m_141, mf_39, m_116, mf_90, m_142]
      repeat (simp only [ms_108, ms_137, ms_109, ms_138, ms_110, ms_139, ms_111, ms_140, ms_112, ms_141, ms_116, ms_142, h21, nI_1, va_upup, ck_cp_s, ck_cp_l, ck_rsA_108, ck_rsA_137, ck_rsA_109, ck_rsA_138, ck_rsA_110, ck_rsA_139, ck_rsA_111, ck_rsA_140, ck_rsA_112, ck_rsA_141, ck_rsA_s, va_us, va_upn, ne_eq, Nat.reduceEqDiff, not_false_eq_true, nI_clamp (show c < 2 ^ 31 by omega)]; try dsimp only [kx_wp, kx_step, kx_lI, kx_lL, kx_lA, kx_gl, kx_pI, kx_pL, kx_pR, kx_pA, kx_pV, kx_s1, kx_s2, kx_sl, kx_pre, kx_c2, kx_pl, kx_cmp, kx_oF, kx_eqN, kx_nil, kx_c1, kx_ft, kx_aI, kx_aL, kx_aR, kx_ln, Nat.reduceAdd, Option.toList, List.cons_append, List.nil_append, mW_o, mf_21, mf_31, m_108, mf_85, m_137, mf_32, m_109, mf_86, m_138, mf_33, m_110, mf_87, m_139, mf_34, m_111, mf_88, m_140, mf_35, m_112, mf_89, m_141, mf_39, m_116, mf_90, m_142])
      repeat' apply And.intro
      all_goals try (first | with_reducible assumption | (with_reducible refine ck_nzI ?_; simp; done) | (with_reducible refine ck_nzL ?_; simp; done) | (with_reducible refine vp_in_nI ?_ ?_ <;> first | omega | decide) | (with_reducible refine Nat.le_of_ble_eq_true ?_; rfl) | omega)
      · intro zc7
        with_reducible first | have ze7 := Int32.not_lt.mpr zc7 | have ze7 := zc7
        refine hB bX11_puts_167 _ _ _ _ _ _ _ kX11_puts_167 ?_
        dsimp only [bX11_puts_167, kx_wp, kx_step, kx_lI, kx_lL, kx_lA, kx_gl, kx_pI, kx_pL, kx_pR, kx_pA, kx_pV, kx_s1, kx_s2, kx_sl, kx_pre, kx_c2, kx_pl, kx_cmp, kx_oF, kx_eqN, kx_nil, kx_c1, kx_ft, kx_aI, kx_aL, kx_aR, kx_ln, Nat.reduceAdd, Option.toList, List.cons_append, List.nil_append, mW_o, mf_21, mf_31, m_108, mf_85, m_137, mf_32, m_109, mf_86, m_138, mf_33, m_110, mf_87, m_139, mf_34, m_111, mf_88, m_140, mf_35, m_112, mf_89, m_141, mf_39, m_116, mf_90, m_142]
        repeat (simp only [ms_108, ms_137, ms_109, ms_138, ms_110, ms_139, ms_111, ms_140, ms_112, ms_141, ms_116, ms_142, h21, nI_1, va_upup, ck_cp_s, ck_cp_l, ck_rsA_108, ck_rsA_137, ck_rsA_109, ck_rsA_138, ck_rsA_110, ck_rsA_139, ck_rsA_111, ck_rsA_140, ck_rsA_112, ck_rsA_141, ck_rsA_s, va_us, va_upn, ne_eq, Nat.reduceEqDiff, not_false_eq_true, nI_clamp (show c < 2 ^ 31 by omega)]; try dsimp only [kx_wp, kx_step, kx_lI, kx_lL, kx_lA, kx_gl, kx_pI, kx_pL, kx_pR, kx_pA, kx_pV, kx_s1, kx_s2, kx_sl, kx_pre, kx_c2, kx_pl, kx_cmp, kx_oF, kx_eqN, kx_nil, kx_c1, kx_ft, kx_aI, kx_aL, kx_aR, kx_ln, Nat.reduceAdd, Option.toList, List.cons_append, List.nil_append, mW_o, mf_21, mf_31, m_108, mf_85, m_137, mf_32, m_109, mf_86, m_138, mf_33, m_110, mf_87, m_139, mf_34, m_111, mf_88, m_140, mf_35, m_112, mf_89, m_141, mf_39, m_116, mf_90, m_142])
        all_goals (repeat' apply And.intro)
        all_goals ((try clear hB hC); first | exact True.intro | with_reducible rfl | with_reducible assumption | (with_reducible refine vp_in_nI ?_ ?_ <;> first | omega | decide) | exact Nat.le_of_ble_eq_true rfl | (with_reducible refine ck_nzI ?_; simp; done) | (with_reducible refine ck_nzL ?_; simp; done) | (simp only [pk_us, pk_uLs, zc7, ze7, ↓reduceIte, not_true_eq_false, not_false_eq_true]; done) | (simp only [zc7, ze7, ↓reduceIte, not_true_eq_false, not_false_eq_true]; with_reducible rfl) | skip)
      · intro zc7
        first | exact absurd rfl zc7 | exact absurd zc7 (by decide) | exact absurd (by decide) zc7 | (exfalso; first | exact absurd zc7 (by first | (simp only [nI_leI (show cl < 2 ^ 31 by omega) (show c < 2 ^ 31 by omega)]; omega) | (simp only [nI_leI (show cl < 2 ^ 31 by omega) (show c < 2 ^ 31 by omega), Decidable.not_not]; omega)) | exact absurd zc11 (by decide)) | (exfalso; simp_all; done)
    | succ n9 ih =>
      intro c hc
      refine hB bX11_puts_2 _ _ _ _ _ _ _ kX11_puts_2 ?_
      dsimp only [bX11_puts_2, kx_wp, kx_step, kx_lI, kx_lL, kx_lA, kx_gl, kx_pI, kx_pL, kx_pR, kx_pA, kx_pV, kx_s1, kx_s2, kx_sl, kx_pre, kx_c2, kx_pl, kx_cmp, kx_oF, kx_eqN, kx_nil, kx_c1, kx_ft, kx_aI, kx_aL, kx_aR, kx_ln, Nat.reduceAdd, Option.toList, List.cons_append, List.nil_append, mW_o, mf_21, mf_31, m_108, mf_85, m_137, mf_32, m_109, mf_86, m_138, mf_33, m_110, mf_87, m_139, mf_34, m_111, mf_88, m_140, mf_35, m_112, mf_89, m_141, mf_39, m_116, mf_90, m_142]
      repeat (simp only [ms_108, ms_137, ms_109, ms_138, ms_110, ms_139, ms_111, ms_140, ms_112, ms_141, ms_116, ms_142, h21, nI_1, va_upup, ck_cp_s, ck_cp_l, ck_rsA_108, ck_rsA_137, ck_rsA_109, ck_rsA_138, ck_rsA_110, ck_rsA_139, ck_rsA_111, ck_rsA_140, ck_rsA_112, ck_rsA_141, ck_rsA_s, va_us, va_upn, ne_eq, Nat.reduceEqDiff, not_false_eq_true, nI_clamp (show c < 2 ^ 31 by omega)]; try dsimp only [kx_wp, kx_step, kx_lI, kx_lL, kx_lA, kx_gl, kx_pI, kx_pL, kx_pR, kx_pA, kx_pV, kx_s1, kx_s2, kx_sl, kx_pre, kx_c2, kx_pl, kx_cmp, kx_oF, kx_eqN, kx_nil, kx_c1, kx_ft, kx_aI, kx_aL, kx_aR, kx_ln, Nat.reduceAdd, Option.toList, List.cons_append, List.nil_append, mW_o, mf_21, mf_31, m_108, mf_85, m_137, mf_32, m_109, mf_86, m_138, mf_33, m_110, mf_87, m_139, mf_34, m_111, mf_88, m_140, mf_35, m_112, mf_89, m_141, mf_39, m_116, mf_90, m_142])
      repeat' apply And.intro
      all_goals try (first | with_reducible assumption | (with_reducible refine ck_nzI ?_; simp; done) | (with_reducible refine ck_nzL ?_; simp; done) | (with_reducible refine vp_in_nI ?_ ?_ <;> first | omega | decide) | (with_reducible refine Nat.le_of_ble_eq_true ?_; rfl) | omega)
      · intro zc7
        first | exact absurd rfl zc7 | exact absurd zc7 (by decide) | exact absurd (by decide) zc7 | (exfalso; first | exact absurd zc7 (by first | (simp only [nI_leI (show cl < 2 ^ 31 by omega) (show c < 2 ^ 31 by omega)]; omega) | (simp only [nI_leI (show cl < 2 ^ 31 by omega) (show c < 2 ^ 31 by omega), Decidable.not_not]; omega)) | exact absurd zc11 (by decide)) | (exfalso; simp_all; done)
      · intro zc7
        with_reducible first | have ze7 := Int32.not_le.mp zc7 | have ze7 := zc7
        refine hB bX11_puts_10 _ _ _ _ _ _ _ kX11_puts_10 ?_
        dsimp only [bX11_puts_10, kx_wp, kx_step, kx_lI, kx_lL, kx_lA, kx_gl, kx_pI, kx_pL, kx_pR, kx_pA, kx_pV, kx_s1, kx_s2, kx_sl, kx_pre, kx_c2, kx_pl, kx_cmp, kx_oF, kx_eqN, kx_nil, kx_c1, kx_ft, kx_aI, kx_aL, kx_aR, kx_ln, Nat.reduceAdd, Option.toList, List.cons_append, List.nil_append, mW_o, mf_21, mf_31, m_108, mf_85, m_137, mf_32, m_109, mf_86, m_138, mf_33, m_110, mf_87, m_139, mf_34, m_111, mf_88, m_140, mf_35, m_112, mf_89, m_141, mf_39, m_116, mf_90, m_142]
        repeat (simp only [ms_108, ms_137, ms_109, ms_138, ms_110, ms_139, ms_111, ms_140, ms_112, ms_141, ms_116, ms_142, h21, nI_1, va_upup, ck_cp_s, ck_cp_l, ck_rsA_108, ck_rsA_137, ck_rsA_109, ck_rsA_138, ck_rsA_110, ck_rsA_139, ck_rsA_111, ck_rsA_140, ck_rsA_112, ck_rsA_141, ck_rsA_s, va_us, va_upn, ne_eq, Nat.reduceEqDiff, not_false_eq_true, nI_clamp (show c < 2 ^ 31 by omega)]; try dsimp only [kx_wp, kx_step, kx_lI, kx_lL, kx_lA, kx_gl, kx_pI, kx_pL, kx_pR, kx_pA, kx_pV, kx_s1, kx_s2, kx_sl, kx_pre, kx_c2, kx_pl, kx_cmp, kx_oF, kx_eqN, kx_nil, kx_c1, kx_ft, kx_aI, kx_aL, kx_aR, kx_ln, Nat.reduceAdd, Option.toList, List.cons_append, List.nil_append, mW_o, mf_21, mf_31, m_108, mf_85, m_137, mf_32, m_109, mf_86, m_138, mf_33, m_110, mf_87, m_139, mf_34, m_111, mf_88, m_140, mf_35, m_112, mf_89, m_141, mf_39, m_116, mf_90, m_142])
        repeat' apply And.intro
        all_goals try (first | with_reducible assumption | (with_reducible refine ck_nzI ?_; simp; done) | (with_reducible refine ck_nzL ?_; simp; done) | (with_reducible refine vp_in_nI ?_ ?_ <;> first | omega | decide) | (with_reducible refine Nat.le_of_ble_eq_true ?_; rfl) | omega)
        · intro zc11
          first | exact absurd rfl zc11 | exact absurd zc11 (by decide) | exact absurd (by decide) zc11 | (exfalso; first | exact absurd zc7 (by first | (simp only [nI_leI (show cl < 2 ^ 31 by omega) (show c < 2 ^ 31 by omega)]; omega) | (simp only [nI_leI (show cl < 2 ^ 31 by omega) (show c < 2 ^ 31 by omega), Decidable.not_not]; omega)) | exact absurd zc11 (by decide)) | (exfalso; simp_all; done)
        · intro zc11
          have ze11 := zc11
          refine hB bX11_puts_14 _ _ _ _ _ _ _ kX11_puts_14 ?_
          dsimp only [bX11_puts_14, kx_wp, kx_step, kx_lI, kx_lL, kx_lA, kx_gl, kx_pI, kx_pL, kx_pR, kx_pA, kx_pV, kx_s1, kx_s2, kx_sl, kx_pre, kx_c2, kx_pl, kx_cmp, kx_oF, kx_eqN, kx_nil, kx_c1, kx_ft, kx_aI, kx_aL, kx_aR, kx_ln, Nat.reduceAdd, Option.toList, List.cons_append, List.nil_append, mW_o, mf_21, mf_31, m_108, mf_85, m_137, mf_32, m_109, mf_86, m_138, mf_33, m_110, mf_87, m_139, mf_34, m_111, mf_88, m_140, mf_35, m_112, mf_89, m_141, mf_39, m_116, mf_90, m_142]
          repeat (simp only [ms_108, ms_137, ms_109, ms_138, ms_110, ms_139, ms_111, ms_140, ms_112, ms_141, ms_116, ms_142, h21, nI_1, va_upup, ck_cp_s, ck_cp_l, ck_rsA_108, ck_rsA_137, ck_rsA_109, ck_rsA_138, ck_rsA_110, ck_rsA_139, ck_rsA_111, ck_rsA_140, ck_rsA_112, ck_rsA_141, ck_rsA_s, va_us, va_upn, ne_eq, Nat.reduceEqDiff, not_false_eq_true, nI_clamp (show c < 2 ^ 31 by omega)]; try dsimp only [kx_wp, kx_step, kx_lI, kx_lL, kx_lA, kx_gl, kx_pI, kx_pL, kx_pR, kx_pA, kx_pV, kx_s1, kx_s2, kx_sl, kx_pre, kx_c2, kx_pl, kx_cmp, kx_oF, kx_eqN, kx_nil, kx_c1, kx_ft, kx_aI, kx_aL, kx_aR, kx_ln, Nat.reduceAdd, Option.toList, List.cons_append, List.nil_append, mW_o, mf_21, mf_31, m_108, mf_85, m_137, mf_32, m_109, mf_86, m_138, mf_33, m_110, mf_87, m_139, mf_34, m_111, mf_88, m_140, mf_35, m_112, mf_89, m_141, mf_39, m_116, mf_90, m_142])
          repeat' apply And.intro
          all_goals try (first | with_reducible assumption | (with_reducible refine ck_nzI ?_; simp; done) | (with_reducible refine ck_nzL ?_; simp; done) | (with_reducible refine vp_in_nI ?_ ?_ <;> first | omega | decide) | (with_reducible refine Nat.le_of_ble_eq_true ?_; rfl) | omega)
          refine hB bX11_puts_161 _ _ _ _ _ _ _ kX11_puts_161 ?_
          dsimp only [bX11_puts_161, kx_wp, kx_step, kx_lI, kx_lL, kx_lA, kx_gl, kx_pI, kx_pL, kx_pR, kx_pA, kx_pV, kx_s1, kx_s2, kx_sl, kx_pre, kx_c2, kx_pl, kx_cmp, kx_oF, kx_eqN, kx_nil, kx_c1, kx_ft, kx_aI, kx_aL, kx_aR, kx_ln, Nat.reduceAdd, Option.toList, List.cons_append, List.nil_append, mW_o, mf_21, mf_31, m_108, mf_85, m_137, mf_32, m_109, mf_86, m_138, mf_33, m_110, mf_87, m_139, mf_34, m_111, mf_88, m_140, mf_35, m_112, mf_89, m_141, mf_39, m_116, mf_90, m_142]
          repeat (simp only [ms_108, ms_137, ms_109, ms_138, ms_110, ms_139, ms_111, ms_140, ms_112, ms_141, ms_116, ms_142, h21, nI_1, va_upup, ck_cp_s, ck_cp_l, ck_rsA_108, ck_rsA_137, ck_rsA_109, ck_rsA_138, ck_rsA_110, ck_rsA_139, ck_rsA_111, ck_rsA_140, ck_rsA_112, ck_rsA_141, ck_rsA_s, va_us, va_upn, ne_eq, Nat.reduceEqDiff, not_false_eq_true, nI_clamp (show c < 2 ^ 31 by omega)]; try dsimp only [kx_wp, kx_step, kx_lI, kx_lL, kx_lA, kx_gl, kx_pI, kx_pL, kx_pR, kx_pA, kx_pV, kx_s1, kx_s2, kx_sl, kx_pre, kx_c2, kx_pl, kx_cmp, kx_oF, kx_eqN, kx_nil, kx_c1, kx_ft, kx_aI, kx_aL, kx_aR, kx_ln, Nat.reduceAdd, Option.toList, List.cons_append, List.nil_append, mW_o, mf_21, mf_31, m_108, mf_85, m_137, mf_32, m_109, mf_86, m_138, mf_33, m_110, mf_87, m_139, mf_34, m_111, mf_88, m_140, mf_35, m_112, mf_89, m_141, mf_39, m_116, mf_90, m_142])
          repeat' apply And.intro
          all_goals try (first | with_reducible assumption | (with_reducible refine ck_nzI ?_; simp; done) | (with_reducible refine ck_nzL ?_; simp; done) | (with_reducible refine vp_in_nI ?_ ?_ <;> first | omega | decide) | (with_reducible refine Nat.le_of_ble_eq_true ?_; rfl) | omega)
          exact ih (c + 1) (by omega)
  refine hB bX11_puts_0 _ _ _ _ _ _ _ kX11_puts_0 ?_
  dsimp only [bX11_puts_0, kx_wp, kx_step, kx_lI, kx_lL, kx_lA, kx_gl, kx_pI, kx_pL, kx_pR, kx_pA, kx_pV, kx_s1, kx_s2, kx_sl, kx_pre, kx_c2, kx_pl, kx_cmp, kx_oF, kx_eqN, kx_nil, kx_c1, kx_ft, kx_aI, kx_aL, kx_aR, kx_ln, Nat.reduceAdd, Option.toList, List.cons_append, List.nil_append, mW_o, mf_21, mf_31, m_108, mf_85, m_137, mf_32, m_109, mf_86, m_138, mf_33, m_110, mf_87, m_139, mf_34, m_111, mf_88, m_140, mf_35, m_112, mf_89, m_141, mf_39, m_116, mf_90, m_142]
  repeat (simp only [ms_108, ms_137, ms_109, ms_138, ms_110, ms_139, ms_111, ms_140, ms_112, ms_141, ms_116, ms_142, h21, nI_1, va_upup, ck_cp_s, ck_cp_l, ck_rsA_108, ck_rsA_137, ck_rsA_109, ck_rsA_138, ck_rsA_110, ck_rsA_139, ck_rsA_111, ck_rsA_140, ck_rsA_112, ck_rsA_141, ck_rsA_s, va_us, va_upn, ne_eq, Nat.reduceEqDiff, not_false_eq_true]; try dsimp only [kx_wp, kx_step, kx_lI, kx_lL, kx_lA, kx_gl, kx_pI, kx_pL, kx_pR, kx_pA, kx_pV, kx_s1, kx_s2, kx_sl, kx_pre, kx_c2, kx_pl, kx_cmp, kx_oF, kx_eqN, kx_nil, kx_c1, kx_ft, kx_aI, kx_aL, kx_aR, kx_ln, Nat.reduceAdd, Option.toList, List.cons_append, List.nil_append, mW_o, mf_21, mf_31, m_108, mf_85, m_137, mf_32, m_109, mf_86, m_138, mf_33, m_110, mf_87, m_139, mf_34, m_111, mf_88, m_140, mf_35, m_112, mf_89, m_141, mf_39, m_116, mf_90, m_142])
  repeat' apply And.intro
  all_goals try (first | with_reducible assumption | (with_reducible refine ck_nzI ?_; simp; done) | (with_reducible refine ck_nzL ?_; simp; done) | (with_reducible refine vp_in_nI ?_ ?_ <;> first | omega | decide) | (with_reducible refine Nat.le_of_ble_eq_true ?_; rfl) | omega)
  have ze := loop2 cl 0 (by omega)
  rw [ck_rsA_0, ck_cp_0, va_upself] at ze
  exact ze

